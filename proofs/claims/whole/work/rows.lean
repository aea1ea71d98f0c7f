section
-- ===== PART A: goes FIRST, ahead of the names: the tables' words, and 'selects' of the private methods out of them =====
/-- a private method of a class that the tables say can be made, by its rows of tables_1 -/
def lw_okq (q : MethodName × Nat) : Prop := (q.1.cls ≠ "java/lang/invoke/MethodHandle" ∧ q.1.cls ≠ "java/lang/invoke/VarHandle") ∧ Cond.instantiable q.1.cls q.2 ∈ tables_1 ∧ Cond.privateMethod q.1 ∈ tables_1 ∧ Cond.instanceMethod q.1 ∈ tables_1
theorem lw_p0 : lw_okq (⟨"LandTaken", "wasOrderMade", "()Z"⟩, 11) := ⟨⟨by decide +kernel, by decide +kernel⟩, List.mem_of_getElem? (i := 11) (by decide +kernel), List.mem_of_getElem? (i := 175) (by decide +kernel), List.mem_of_getElem? (i := 176) (by decide +kernel)⟩
theorem lw_p1 : lw_okq (⟨"LandTaken", "isField", "(I)Z"⟩, 11) := ⟨⟨by decide +kernel, by decide +kernel⟩, List.mem_of_getElem? (i := 11) (by decide +kernel), List.mem_of_getElem? (i := 195) (by decide +kernel), List.mem_of_getElem? (i := 196) (by decide +kernel)⟩
theorem lw_p2 : lw_okq (⟨"LandTaken", "pullDownHouse", "(I)V"⟩, 11) := ⟨⟨by decide +kernel, by decide +kernel⟩, List.mem_of_getElem? (i := 11) (by decide +kernel), List.mem_of_getElem? (i := 202) (by decide +kernel), List.mem_of_getElem? (i := 203) (by decide +kernel)⟩
theorem lw_p3 : lw_okq (⟨"LandTaken", "openOrder", "()LLandTaken$Order;"⟩, 11) := ⟨⟨by decide +kernel, by decide +kernel⟩, List.mem_of_getElem? (i := 11) (by decide +kernel), List.mem_of_getElem? (i := 260) (by decide +kernel), List.mem_of_getElem? (i := 261) (by decide +kernel)⟩
theorem lw_p4 : lw_okq (⟨"LandTaken", "latestOrder", "()LLandTaken$Order;"⟩, 11) := ⟨⟨by decide +kernel, by decide +kernel⟩, List.mem_of_getElem? (i := 11) (by decide +kernel), List.mem_of_getElem? (i := 264) (by decide +kernel), List.mem_of_getElem? (i := 265) (by decide +kernel)⟩
theorem lw_p5 : lw_okq (⟨"LandTaken", "orderAt", "(I)LLandTaken$Order;"⟩, 11) := ⟨⟨by decide +kernel, by decide +kernel⟩, List.mem_of_getElem? (i := 11) (by decide +kernel), List.mem_of_getElem? (i := 268) (by decide +kernel), List.mem_of_getElem? (i := 269) (by decide +kernel)⟩
theorem lw_p6 : lw_okq (⟨"LandTaken", "touchesField", "()Z"⟩, 11) := ⟨⟨by decide +kernel, by decide +kernel⟩, List.mem_of_getElem? (i := 11) (by decide +kernel), List.mem_of_getElem? (i := 288) (by decide +kernel), List.mem_of_getElem? (i := 289) (by decide +kernel)⟩
theorem lw_p7 : lw_okq (⟨"LandTaken", "emptyLineIfDone", "(LLandTaken$Order;)V"⟩, 11) := ⟨⟨by decide +kernel, by decide +kernel⟩, List.mem_of_getElem? (i := 11) (by decide +kernel), List.mem_of_getElem? (i := 415) (by decide +kernel), List.mem_of_getElem? (i := 416) (by decide +kernel)⟩
theorem lw_p8 : lw_okq (⟨"LandTaken", "takeReadyCells", "(LLandTaken$Order;)V"⟩, 11) := ⟨⟨by decide +kernel, by decide +kernel⟩, List.mem_of_getElem? (i := 11) (by decide +kernel), List.mem_of_getElem? (i := 435) (by decide +kernel), List.mem_of_getElem? (i := 436) (by decide +kernel)⟩
theorem lw_p9 : lw_okq (⟨"LandTaken", "settleReadyCases", "(LLandTaken$Order;)I"⟩, 11) := ⟨⟨by decide +kernel, by decide +kernel⟩, List.mem_of_getElem? (i := 11) (by decide +kernel), List.mem_of_getElem? (i := 444) (by decide +kernel), List.mem_of_getElem? (i := 445) (by decide +kernel)⟩
theorem lw_p10 : lw_okq (⟨"LandTaken", "assess", "(LLandTaken$Case;LLandTaken$Field;)V"⟩, 11) := ⟨⟨by decide +kernel, by decide +kernel⟩, List.mem_of_getElem? (i := 11) (by decide +kernel), List.mem_of_getElem? (i := 448) (by decide +kernel), List.mem_of_getElem? (i := 449) (by decide +kernel)⟩
theorem lw_p11 : lw_okq (⟨"LandTaken", "lossOfPieces", "()J"⟩, 11) := ⟨⟨by decide +kernel, by decide +kernel⟩, List.mem_of_getElem? (i := 11) (by decide +kernel), List.mem_of_getElem? (i := 489) (by decide +kernel), List.mem_of_getElem? (i := 490) (by decide +kernel)⟩
theorem lw_p12 : lw_okq (⟨"LandTaken", "lossBefore", "(I)J"⟩, 11) := ⟨⟨by decide +kernel, by decide +kernel⟩, List.mem_of_getElem? (i := 11) (by decide +kernel), List.mem_of_getElem? (i := 503) (by decide +kernel), List.mem_of_getElem? (i := 504) (by decide +kernel)⟩
theorem lw_p13 : lw_okq (⟨"LandTaken", "share", "(LLandTaken$Case;LLandTaken$Field;)V"⟩, 11) := ⟨⟨by decide +kernel, by decide +kernel⟩, List.mem_of_getElem? (i := 11) (by decide +kernel), List.mem_of_getElem? (i := 527) (by decide +kernel), List.mem_of_getElem? (i := 528) (by decide +kernel)⟩
theorem lw_p14 : lw_okq (⟨"LandTaken", "oweDebtsAgain", "(LLandTaken$Case;)V"⟩, 11) := ⟨⟨by decide +kernel, by decide +kernel⟩, List.mem_of_getElem? (i := 11) (by decide +kernel), List.mem_of_getElem? (i := 540) (by decide +kernel), List.mem_of_getElem? (i := 541) (by decide +kernel)⟩
theorem lw_p15 : lw_okq (⟨"LandTaken", "caseOf", "(II)LLandTaken$Case;"⟩, 11) := ⟨⟨by decide +kernel, by decide +kernel⟩, List.mem_of_getElem? (i := 11) (by decide +kernel), List.mem_of_getElem? (i := 552) (by decide +kernel), List.mem_of_getElem? (i := 553) (by decide +kernel)⟩
def lw_privs_1 : List (MethodName × Nat) := [(⟨"LandTaken", "wasOrderMade", "()Z"⟩, 11), (⟨"LandTaken", "isField", "(I)Z"⟩, 11), (⟨"LandTaken", "pullDownHouse", "(I)V"⟩, 11), (⟨"LandTaken", "openOrder", "()LLandTaken$Order;"⟩, 11), (⟨"LandTaken", "latestOrder", "()LLandTaken$Order;"⟩, 11), (⟨"LandTaken", "orderAt", "(I)LLandTaken$Order;"⟩, 11), (⟨"LandTaken", "touchesField", "()Z"⟩, 11), (⟨"LandTaken", "emptyLineIfDone", "(LLandTaken$Order;)V"⟩, 11), (⟨"LandTaken", "takeReadyCells", "(LLandTaken$Order;)V"⟩, 11), (⟨"LandTaken", "settleReadyCases", "(LLandTaken$Order;)I"⟩, 11), (⟨"LandTaken", "assess", "(LLandTaken$Case;LLandTaken$Field;)V"⟩, 11), (⟨"LandTaken", "lossOfPieces", "()J"⟩, 11), (⟨"LandTaken", "lossBefore", "(I)J"⟩, 11), (⟨"LandTaken", "share", "(LLandTaken$Case;LLandTaken$Field;)V"⟩, 11), (⟨"LandTaken", "oweDebtsAgain", "(LLandTaken$Case;)V"⟩, 11), (⟨"LandTaken", "caseOf", "(II)LLandTaken$Case;"⟩, 11)]
theorem lw_r1 : ∀ q ∈ lw_privs_1, lw_okq q := List.forall_mem_cons.mpr ⟨lw_p0, List.forall_mem_cons.mpr ⟨lw_p1, List.forall_mem_cons.mpr ⟨lw_p2, List.forall_mem_cons.mpr ⟨lw_p3, List.forall_mem_cons.mpr ⟨lw_p4, List.forall_mem_cons.mpr ⟨lw_p5, List.forall_mem_cons.mpr ⟨lw_p6, List.forall_mem_cons.mpr ⟨lw_p7, List.forall_mem_cons.mpr ⟨lw_p8, List.forall_mem_cons.mpr ⟨lw_p9, List.forall_mem_cons.mpr ⟨lw_p10, List.forall_mem_cons.mpr ⟨lw_p11, List.forall_mem_cons.mpr ⟨lw_p12, List.forall_mem_cons.mpr ⟨lw_p13, List.forall_mem_cons.mpr ⟨lw_p14, List.forall_mem_cons.mpr ⟨lw_p15, fun _ h => absurd h List.not_mem_nil⟩⟩⟩⟩⟩⟩⟩⟩⟩⟩⟩⟩⟩⟩⟩⟩
theorem lw_p16 : lw_okq (⟨"LandTaken", "casesOfLatest", "()I"⟩, 11) := ⟨⟨by decide +kernel, by decide +kernel⟩, List.mem_of_getElem? (i := 11) (by decide +kernel), List.mem_of_getElem? (i := 614) (by decide +kernel), List.mem_of_getElem? (i := 615) (by decide +kernel)⟩
theorem lw_p17 : lw_okq (⟨"LandTaken", "mixedCells", "(J)J"⟩, 11) := ⟨⟨by decide +kernel, by decide +kernel⟩, List.mem_of_getElem? (i := 11) (by decide +kernel), List.mem_of_getElem? (i := 627) (by decide +kernel), List.mem_of_getElem? (i := 628) (by decide +kernel)⟩
theorem lw_p18 : lw_okq (⟨"LandTaken", "mixedFields", "(J)J"⟩, 11) := ⟨⟨by decide +kernel, by decide +kernel⟩, List.mem_of_getElem? (i := 11) (by decide +kernel), List.mem_of_getElem? (i := 632) (by decide +kernel), List.mem_of_getElem? (i := 633) (by decide +kernel)⟩
theorem lw_p19 : lw_okq (⟨"LandTaken", "mixedOrders", "(J)J"⟩, 11) := ⟨⟨by decide +kernel, by decide +kernel⟩, List.mem_of_getElem? (i := 11) (by decide +kernel), List.mem_of_getElem? (i := 636) (by decide +kernel), List.mem_of_getElem? (i := 637) (by decide +kernel)⟩
theorem lw_p20 : lw_okq (⟨"LandTakenModel", "fresh", "()V"⟩, 46) := ⟨⟨by decide +kernel, by decide +kernel⟩, List.mem_of_getElem? (i := 642) (by decide +kernel), List.mem_of_getElem? (i := 648) (by decide +kernel), List.mem_of_getElem? (i := 649) (by decide +kernel)⟩
theorem lw_p21 : lw_okq (⟨"LandTakenModel", "isCell", "(II)Z"⟩, 46) := ⟨⟨by decide +kernel, by decide +kernel⟩, List.mem_of_getElem? (i := 642) (by decide +kernel), List.mem_of_getElem? (i := 807) (by decide +kernel), List.mem_of_getElem? (i := 808) (by decide +kernel)⟩
theorem lw_p22 : lw_okq (⟨"LandTakenModel", "isField", "(I)Z"⟩, 46) := ⟨⟨by decide +kernel, by decide +kernel⟩, List.mem_of_getElem? (i := 642) (by decide +kernel), List.mem_of_getElem? (i := 811) (by decide +kernel), List.mem_of_getElem? (i := 812) (by decide +kernel)⟩
theorem lw_p23 : lw_okq (⟨"LandTakenModel", "clearHouse", "(I)V"⟩, 46) := ⟨⟨by decide +kernel, by decide +kernel⟩, List.mem_of_getElem? (i := 642) (by decide +kernel), List.mem_of_getElem? (i := 816) (by decide +kernel), List.mem_of_getElem? (i := 817) (by decide +kernel)⟩
theorem lw_p24 : lw_okq (⟨"LandTakenModel", "costOf", "(II)I"⟩, 46) := ⟨⟨by decide +kernel, by decide +kernel⟩, List.mem_of_getElem? (i := 642) (by decide +kernel), List.mem_of_getElem? (i := 845) (by decide +kernel), List.mem_of_getElem? (i := 846) (by decide +kernel)⟩
theorem lw_p25 : lw_okq (⟨"LandTakenModel", "wanted", "(I)I"⟩, 46) := ⟨⟨by decide +kernel, by decide +kernel⟩, List.mem_of_getElem? (i := 642) (by decide +kernel), List.mem_of_getElem? (i := 867) (by decide +kernel), List.mem_of_getElem? (i := 868) (by decide +kernel)⟩
theorem lw_p26 : lw_okq (⟨"LandTakenModel", "isLeft", "(II)Z"⟩, 46) := ⟨⟨by decide +kernel, by decide +kernel⟩, List.mem_of_getElem? (i := 642) (by decide +kernel), List.mem_of_getElem? (i := 871) (by decide +kernel), List.mem_of_getElem? (i := 872) (by decide +kernel)⟩
theorem lw_p27 : lw_okq (⟨"LandTakenModel", "close", "()V"⟩, 46) := ⟨⟨by decide +kernel, by decide +kernel⟩, List.mem_of_getElem? (i := 642) (by decide +kernel), List.mem_of_getElem? (i := 883) (by decide +kernel), List.mem_of_getElem? (i := 884) (by decide +kernel)⟩
theorem lw_p28 : lw_okq (⟨"LandTakenModel", "mayEnter", "(II)Z"⟩, 46) := ⟨⟨by decide +kernel, by decide +kernel⟩, List.mem_of_getElem? (i := 642) (by decide +kernel), List.mem_of_getElem? (i := 891) (by decide +kernel), List.mem_of_getElem? (i := 892) (by decide +kernel)⟩
theorem lw_p29 : lw_okq (⟨"LandTakenModel", "work", "(I)V"⟩, 46) := ⟨⟨by decide +kernel, by decide +kernel⟩, List.mem_of_getElem? (i := 642) (by decide +kernel), List.mem_of_getElem? (i := 895) (by decide +kernel), List.mem_of_getElem? (i := 896) (by decide +kernel)⟩
theorem lw_p30 : lw_okq (⟨"LandTakenModel", "beside", "(II)I"⟩, 46) := ⟨⟨by decide +kernel, by decide +kernel⟩, List.mem_of_getElem? (i := 642) (by decide +kernel), List.mem_of_getElem? (i := 899) (by decide +kernel), List.mem_of_getElem? (i := 900) (by decide +kernel)⟩
theorem lw_p31 : lw_okq (⟨"LandTakenModel", "divide", "(I)V"⟩, 46) := ⟨⟨by decide +kernel, by decide +kernel⟩, List.mem_of_getElem? (i := 642) (by decide +kernel), List.mem_of_getElem? (i := 909) (by decide +kernel), List.mem_of_getElem? (i := 910) (by decide +kernel)⟩
def lw_privs_2 : List (MethodName × Nat) := [(⟨"LandTaken", "casesOfLatest", "()I"⟩, 11), (⟨"LandTaken", "mixedCells", "(J)J"⟩, 11), (⟨"LandTaken", "mixedFields", "(J)J"⟩, 11), (⟨"LandTaken", "mixedOrders", "(J)J"⟩, 11), (⟨"LandTakenModel", "fresh", "()V"⟩, 46), (⟨"LandTakenModel", "isCell", "(II)Z"⟩, 46), (⟨"LandTakenModel", "isField", "(I)Z"⟩, 46), (⟨"LandTakenModel", "clearHouse", "(I)V"⟩, 46), (⟨"LandTakenModel", "costOf", "(II)I"⟩, 46), (⟨"LandTakenModel", "wanted", "(I)I"⟩, 46), (⟨"LandTakenModel", "isLeft", "(II)Z"⟩, 46), (⟨"LandTakenModel", "close", "()V"⟩, 46), (⟨"LandTakenModel", "mayEnter", "(II)Z"⟩, 46), (⟨"LandTakenModel", "work", "(I)V"⟩, 46), (⟨"LandTakenModel", "beside", "(II)I"⟩, 46), (⟨"LandTakenModel", "divide", "(I)V"⟩, 46)]
theorem lw_r2 : ∀ q ∈ lw_privs_2, lw_okq q := List.forall_mem_cons.mpr ⟨lw_p16, List.forall_mem_cons.mpr ⟨lw_p17, List.forall_mem_cons.mpr ⟨lw_p18, List.forall_mem_cons.mpr ⟨lw_p19, List.forall_mem_cons.mpr ⟨lw_p20, List.forall_mem_cons.mpr ⟨lw_p21, List.forall_mem_cons.mpr ⟨lw_p22, List.forall_mem_cons.mpr ⟨lw_p23, List.forall_mem_cons.mpr ⟨lw_p24, List.forall_mem_cons.mpr ⟨lw_p25, List.forall_mem_cons.mpr ⟨lw_p26, List.forall_mem_cons.mpr ⟨lw_p27, List.forall_mem_cons.mpr ⟨lw_p28, List.forall_mem_cons.mpr ⟨lw_p29, List.forall_mem_cons.mpr ⟨lw_p30, List.forall_mem_cons.mpr ⟨lw_p31, fun _ h => absurd h List.not_mem_nil⟩⟩⟩⟩⟩⟩⟩⟩⟩⟩⟩⟩⟩⟩⟩⟩
theorem lw_p32 : lw_okq (⟨"LandTakenModel", "spread", "(II)V"⟩, 46) := ⟨⟨by decide +kernel, by decide +kernel⟩, List.mem_of_getElem? (i := 642) (by decide +kernel), List.mem_of_getElem? (i := 913) (by decide +kernel), List.mem_of_getElem? (i := 914) (by decide +kernel)⟩
theorem lw_p33 : lw_okq (⟨"LandTakenModel", "mainOf", "(I)I"⟩, 46) := ⟨⟨by decide +kernel, by decide +kernel⟩, List.mem_of_getElem? (i := 642) (by decide +kernel), List.mem_of_getElem? (i := 917) (by decide +kernel), List.mem_of_getElem? (i := 918) (by decide +kernel)⟩
theorem lw_p34 : lw_okq (⟨"LandTakenModel", "pricesOf", "(I)J"⟩, 46) := ⟨⟨by decide +kernel, by decide +kernel⟩, List.mem_of_getElem? (i := 642) (by decide +kernel), List.mem_of_getElem? (i := 921) (by decide +kernel), List.mem_of_getElem? (i := 922) (by decide +kernel)⟩
theorem lw_p35 : lw_okq (⟨"LandTakenModel", "hasWay", "(I)Z"⟩, 46) := ⟨⟨by decide +kernel, by decide +kernel⟩, List.mem_of_getElem? (i := 642) (by decide +kernel), List.mem_of_getElem? (i := 925) (by decide +kernel), List.mem_of_getElem? (i := 926) (by decide +kernel)⟩
theorem lw_p36 : lw_okq (⟨"LandTakenModel", "lossBefore", "(I)J"⟩, 46) := ⟨⟨by decide +kernel, by decide +kernel⟩, List.mem_of_getElem? (i := 642) (by decide +kernel), List.mem_of_getElem? (i := 929) (by decide +kernel), List.mem_of_getElem? (i := 930) (by decide +kernel)⟩
theorem lw_p37 : lw_okq (⟨"LandTakenModel", "share", "(I)V"⟩, 46) := ⟨⟨by decide +kernel, by decide +kernel⟩, List.mem_of_getElem? (i := 642) (by decide +kernel), List.mem_of_getElem? (i := 933) (by decide +kernel), List.mem_of_getElem? (i := 934) (by decide +kernel)⟩
theorem lw_p38 : lw_okq (⟨"LandTakenModel", "dueOf", "(I)J"⟩, 46) := ⟨⟨by decide +kernel, by decide +kernel⟩, List.mem_of_getElem? (i := 642) (by decide +kernel), List.mem_of_getElem? (i := 937) (by decide +kernel), List.mem_of_getElem? (i := 938) (by decide +kernel)⟩
theorem lw_p39 : lw_okq (⟨"LandTakenModel", "debtLeft", "(II)J"⟩, 46) := ⟨⟨by decide +kernel, by decide +kernel⟩, List.mem_of_getElem? (i := 642) (by decide +kernel), List.mem_of_getElem? (i := 941) (by decide +kernel), List.mem_of_getElem? (i := 942) (by decide +kernel)⟩
theorem lw_p40 : lw_okq (⟨"LandTakenModel", "isCase", "(II)Z"⟩, 46) := ⟨⟨by decide +kernel, by decide +kernel⟩, List.mem_of_getElem? (i := 642) (by decide +kernel), List.mem_of_getElem? (i := 954) (by decide +kernel), List.mem_of_getElem? (i := 955) (by decide +kernel)⟩
theorem lw_p41 : lw_okq (⟨"LandTakenModel", "interestOf", "(I)J"⟩, 46) := ⟨⟨by decide +kernel, by decide +kernel⟩, List.mem_of_getElem? (i := 642) (by decide +kernel), List.mem_of_getElem? (i := 961) (by decide +kernel), List.mem_of_getElem? (i := 962) (by decide +kernel)⟩
theorem lw_p42 : lw_okq (⟨"LandTakenModel", "owed", "(I)J"⟩, 46) := ⟨⟨by decide +kernel, by decide +kernel⟩, List.mem_of_getElem? (i := 642) (by decide +kernel), List.mem_of_getElem? (i := 965) (by decide +kernel), List.mem_of_getElem? (i := 966) (by decide +kernel)⟩
theorem lw_p43 : lw_okq (⟨"LandTakenModel", "toldOf", "(II)J"⟩, 46) := ⟨⟨by decide +kernel, by decide +kernel⟩, List.mem_of_getElem? (i := 642) (by decide +kernel), List.mem_of_getElem? (i := 974) (by decide +kernel), List.mem_of_getElem? (i := 975) (by decide +kernel)⟩
theorem lw_p44 : lw_okq (⟨"LandTakenModel", "lookOf", "(II)I"⟩, 46) := ⟨⟨by decide +kernel, by decide +kernel⟩, List.mem_of_getElem? (i := 642) (by decide +kernel), List.mem_of_getElem? (i := 986) (by decide +kernel), List.mem_of_getElem? (i := 987) (by decide +kernel)⟩
theorem lw_p45 : lw_okq (⟨"LandTakenModel", "mix", "(J)V"⟩, 46) := ⟨⟨by decide +kernel, by decide +kernel⟩, List.mem_of_getElem? (i := 642) (by decide +kernel), List.mem_of_getElem? (i := 1007) (by decide +kernel), List.mem_of_getElem? (i := 1008) (by decide +kernel)⟩
def lw_privs_3 : List (MethodName × Nat) := [(⟨"LandTakenModel", "spread", "(II)V"⟩, 46), (⟨"LandTakenModel", "mainOf", "(I)I"⟩, 46), (⟨"LandTakenModel", "pricesOf", "(I)J"⟩, 46), (⟨"LandTakenModel", "hasWay", "(I)Z"⟩, 46), (⟨"LandTakenModel", "lossBefore", "(I)J"⟩, 46), (⟨"LandTakenModel", "share", "(I)V"⟩, 46), (⟨"LandTakenModel", "dueOf", "(I)J"⟩, 46), (⟨"LandTakenModel", "debtLeft", "(II)J"⟩, 46), (⟨"LandTakenModel", "isCase", "(II)Z"⟩, 46), (⟨"LandTakenModel", "interestOf", "(I)J"⟩, 46), (⟨"LandTakenModel", "owed", "(I)J"⟩, 46), (⟨"LandTakenModel", "toldOf", "(II)J"⟩, 46), (⟨"LandTakenModel", "lookOf", "(II)I"⟩, 46), (⟨"LandTakenModel", "mix", "(J)V"⟩, 46)]
theorem lw_r3 : ∀ q ∈ lw_privs_3, lw_okq q := List.forall_mem_cons.mpr ⟨lw_p32, List.forall_mem_cons.mpr ⟨lw_p33, List.forall_mem_cons.mpr ⟨lw_p34, List.forall_mem_cons.mpr ⟨lw_p35, List.forall_mem_cons.mpr ⟨lw_p36, List.forall_mem_cons.mpr ⟨lw_p37, List.forall_mem_cons.mpr ⟨lw_p38, List.forall_mem_cons.mpr ⟨lw_p39, List.forall_mem_cons.mpr ⟨lw_p40, List.forall_mem_cons.mpr ⟨lw_p41, List.forall_mem_cons.mpr ⟨lw_p42, List.forall_mem_cons.mpr ⟨lw_p43, List.forall_mem_cons.mpr ⟨lw_p44, List.forall_mem_cons.mpr ⟨lw_p45, fun _ h => absurd h List.not_mem_nil⟩⟩⟩⟩⟩⟩⟩⟩⟩⟩⟩⟩⟩⟩
def lw_privs : List (MethodName × Nat) := lw_privs_1 ++ (lw_privs_2 ++ (lw_privs_3))
def lw_tbl : List Cond := k2_sels lw_privs ++ tables_1
theorem lw_privs_ok : ∀ q ∈ lw_privs, lw_okq q := by
  show ∀ q ∈ lw_privs_1 ++ (lw_privs_2 ++ (lw_privs_3)), lw_okq q
  exact List.forall_mem_append.mpr ⟨lw_r1, List.forall_mem_append.mpr ⟨lw_r2, lw_r3⟩⟩
def RX0 : String := "LandTaken$Case"
def TX0 : u_T := fun k => match k with
  | 0 => ("LandTaken$Case", "fieldNumber", "I", false)
  | 1 => ("LandTaken$Case", "cells", "I", false)
  | 2 => ("LandTaken$Case", "state", "I", false)
  | 3 => ("LandTaken$Case", "enteredOn", "I", false)
  | 4 => ("LandTaken$Case", "interestRate", "I", false)
  | 5 => ("LandTaken$Case", "countedTo", "I", false)
  | 6 => ("LandTaken$Case", "landWorth", "J", false)
  | 7 => ("LandTaken$Case", "loss", "J", false)
  | 8 => ("LandTaken$Case", "fence", "J", false)
  | 9 => ("LandTaken$Case", "better", "J", false)
  | 10 => ("LandTaken$Case", "due", "J", false)
  | 11 => ("LandTaken$Case", "paid", "J", false)
  | 12 => ("LandTaken$Case", "interestKept", "J", false)
  | 13 => ("LandTaken$Case", "interestPaid", "J", false)
  | 14 => ("LandTaken$Case", "ownerGets", "J", false)
  | _ => ("LandTaken$Case", "rightGets", "[J", true)
def tyX0 : Nat → FieldType := fun k => match k with
  | 0 => .int
  | 1 => .int
  | 2 => .int
  | 3 => .int
  | 4 => .int
  | 5 => .int
  | 6 => .long
  | 7 => .long
  | 8 => .long
  | 9 => .long
  | 10 => .long
  | 11 => .long
  | 12 => .long
  | 13 => .long
  | 14 => .long
  | _ => .array .long
abbrev wsX00 : List Cond := u_ws RX0 TX0 16
theorem nmX0 : ∀ a, a < 16 → ∀ b, b < 16 → a ≠ b → (TX0 a).2.1 ≠ (TX0 b).2.1 := by decide +kernel
theorem tyX0_ok : ∀ k, k < 16 → parseFieldDescriptor (TX0 k).2.2.1 = some (tyX0 k) := by decide +kernel
abbrev cX0_init : ByteArray := prog_2_method_1_code
def yX0_init : MethodName := ⟨RX0, "<init>", "()V"⟩
abbrev cX0_begin : ByteArray := prog_2_method_2_code
def yX0_begin : MethodName := ⟨RX0, "begin", "(II)V"⟩
abbrev cX0_isReady : ByteArray := prog_2_method_3_code
def yX0_isReady : MethodName := ⟨RX0, "isReady", "()Z"⟩
abbrev cX0_enterOn : ByteArray := prog_2_method_4_code
def yX0_enterOn : MethodName := ⟨RX0, "enterOn", "(II)V"⟩
abbrev cX0_owed : ByteArray := prog_2_method_5_code
def yX0_owed : MethodName := ⟨RX0, "owed", "()J"⟩
abbrev cX0_interestOn : ByteArray := prog_2_method_6_code
def yX0_interestOn : MethodName := ⟨RX0, "interestOn", "(I)J"⟩
abbrev cX0_receive : ByteArray := prog_2_method_7_code
def yX0_receive : MethodName := ⟨RX0, "receive", "(JI)J"⟩
abbrev cX0_tell : ByteArray := prog_2_method_8_code
def yX0_tell : MethodName := ⟨RX0, "tell", "(II)J"⟩
def RX1 : String := "LandTaken$Field"
def TX1 : u_T := fun k => match k with
  | 0 => ("LandTaken$Field", "housePlace", "I", false)
  | 1 => ("LandTaken$Field", "rightCount", "I", false)
  | 2 => ("LandTaken$Field", "kind", "[I", true)
  | 3 => ("LandTaken$Field", "amount", "[I", true)
  | _ => ("LandTaken$Field", "debtLeft", "[J", true)
def tyX1 : Nat → FieldType := fun k => match k with
  | 0 => .int
  | 1 => .int
  | 2 => .array .int
  | 3 => .array .int
  | _ => .array .long
abbrev wsX10 : List Cond := u_ws RX1 TX1 5
theorem nmX1 : ∀ a, a < 5 → ∀ b, b < 5 → a ≠ b → (TX1 a).2.1 ≠ (TX1 b).2.1 := by decide +kernel
theorem tyX1_ok : ∀ k, k < 5 → parseFieldDescriptor (TX1 k).2.2.1 = some (tyX1 k) := by decide +kernel
abbrev cX1_init : ByteArray := prog_3_method_1_code
def yX1_init : MethodName := ⟨RX1, "<init>", "()V"⟩
abbrev cX1_clear : ByteArray := prog_3_method_2_code
def yX1_clear : MethodName := ⟨RX1, "clear", "()V"⟩
abbrev cX1_addRight : ByteArray := prog_3_method_3_code
def yX1_addRight : MethodName := ⟨RX1, "addRight", "(II)I"⟩
def RX2 : String := "LandTaken$Land"
def TX2 : u_T := fun k => match k with
  | 0 => ("LandTaken$Land", "wide", "I", false)
  | 1 => ("LandTaken$Land", "high", "I", false)
  | 2 => ("LandTaken$Land", "owner", "[I", true)
  | 3 => ("LandTaken$Land", "soil", "[I", true)
  | 4 => ("LandTaken$Land", "isLane", "[Z", true)
  | 5 => ("LandTaken$Land", "inLine", "[Z", true)
  | _ => ("LandTaken$Land", "takenBy", "[I", true)
def tyX2 : Nat → FieldType := fun k => match k with
  | 0 => .int
  | 1 => .int
  | 2 => .array .int
  | 3 => .array .int
  | 4 => .array .boolean
  | 5 => .array .boolean
  | _ => .array .int
abbrev wsX20 : List Cond := u_ws RX2 TX2 7
theorem nmX2 : ∀ a, a < 7 → ∀ b, b < 7 → a ≠ b → (TX2 a).2.1 ≠ (TX2 b).2.1 := by decide +kernel
theorem tyX2_ok : ∀ k, k < 7 → parseFieldDescriptor (TX2 k).2.2.1 = some (tyX2 k) := by decide +kernel
abbrev cX2_init : ByteArray := prog_4_method_1_code
def yX2_init : MethodName := ⟨RX2, "<init>", "()V"⟩
abbrev cX2_renew : ByteArray := prog_4_method_2_code
def yX2_renew : MethodName := ⟨RX2, "renew", "(II)V"⟩
abbrev cX2_at : ByteArray := prog_4_method_3_code
def yX2_at : MethodName := ⟨RX2, "at", "(II)I"⟩
abbrev cX2_beside : ByteArray := prog_4_method_4_code
def yX2_beside : MethodName := ⟨RX2, "beside", "(II)I"⟩
abbrev cX2_isTaken : ByteArray := prog_4_method_5_code
def yX2_isTaken : MethodName := ⟨RX2, "isTaken", "(I)Z"⟩
abbrev cX2_isKept : ByteArray := prog_4_method_6_code
def yX2_isKept : MethodName := ⟨RX2, "isKept", "(II)Z"⟩
abbrev cX2_isInLineOf : ByteArray := prog_4_method_7_code
def yX2_isInLineOf : MethodName := ⟨RX2, "isInLineOf", "(II)Z"⟩
abbrev cX2_isOpenLane : ByteArray := prog_4_method_8_code
def yX2_isOpenLane : MethodName := ⟨RX2, "isOpenLane", "(I)Z"⟩
abbrev cX2_cellsInLine : ByteArray := prog_4_method_9_code
def yX2_cellsInLine : MethodName := ⟨RX2, "cellsInLine", "(I)I"⟩
abbrev cX2_cellsChosen : ByteArray := prog_4_method_10_code
def yX2_cellsChosen : MethodName := ⟨RX2, "cellsChosen", "()I"⟩
abbrev cX2_cellsTaken : ByteArray := prog_4_method_11_code
def yX2_cellsTaken : MethodName := ⟨RX2, "cellsTaken", "()I"⟩
abbrev cX2_takeLine : ByteArray := prog_4_method_12_code
def yX2_takeLine : MethodName := ⟨RX2, "takeLine", "(II)V"⟩
abbrev cX2_giveBack : ByteArray := prog_4_method_13_code
def yX2_giveBack : MethodName := ⟨RX2, "giveBack", "(I)V"⟩
abbrev cX2_emptyLine : ByteArray := prog_4_method_14_code
def yX2_emptyLine : MethodName := ⟨RX2, "emptyLine", "()V"⟩
abbrev cX2_worthInLine : ByteArray := prog_4_method_15_code
def yX2_worthInLine : MethodName := ⟨RX2, "worthInLine", "(I[I)J"⟩
abbrev cX2_priceAt : ByteArray := prog_4_method_16_code
def yX2_priceAt : MethodName := ⟨RX2, "priceAt", "(I[I)I"⟩
abbrev cX2_fenceSides : ByteArray := prog_4_method_17_code
def yX2_fenceSides : MethodName := ⟨RX2, "fenceSides", "(I)I"⟩
abbrev cX2_keptSides : ByteArray := prog_4_method_18_code
def yX2_keptSides : MethodName := ⟨RX2, "keptSides", "(II)I"⟩
def RX3 : String := "LandTaken$Order"
def TX3 : u_T := fun k => match k with
  | 0 => ("LandTaken$Order", "madeOn", "I", false)
  | 1 => ("LandTaken$Order", "noticeDays", "I", false)
  | 2 => ("LandTaken$Order", "caseCount", "I", false)
  | _ => ("LandTaken$Order", "cases", "[LLandTaken$Case;", true)
def tyX3 : Nat → FieldType := fun k => match k with
  | 0 => .int
  | 1 => .int
  | 2 => .int
  | _ => .array (.object "LandTaken$Case")
abbrev wsX30 : List Cond := u_ws RX3 TX3 4
theorem nmX3 : ∀ a, a < 4 → ∀ b, b < 4 → a ≠ b → (TX3 a).2.1 ≠ (TX3 b).2.1 := by decide +kernel
theorem tyX3_ok : ∀ k, k < 4 → parseFieldDescriptor (TX3 k).2.2.1 = some (tyX3 k) := by decide +kernel
abbrev cX3_init : ByteArray := prog_5_method_1_code
def yX3_init : MethodName := ⟨RX3, "<init>", "()V"⟩
abbrev cX3_begin : ByteArray := prog_5_method_2_code
def yX3_begin : MethodName := ⟨RX3, "begin", "(II)V"⟩
abbrev cX3_addCase : ByteArray := prog_5_method_3_code
def yX3_addCase : MethodName := ⟨RX3, "addCase", "(II)V"⟩
abbrev cX3_caseAt : ByteArray := prog_5_method_4_code
def yX3_caseAt : MethodName := ⟨RX3, "caseAt", "(I)LLandTaken$Case;"⟩
abbrev cX3_noticeEnd : ByteArray := prog_5_method_5_code
def yX3_noticeEnd : MethodName := ⟨RX3, "noticeEnd", "()I"⟩
abbrev cX3_hasReady : ByteArray := prog_5_method_6_code
def yX3_hasReady : MethodName := ⟨RX3, "hasReady", "()Z"⟩
abbrev cX3_isDone : ByteArray := prog_5_method_7_code
def yX3_isDone : MethodName := ⟨RX3, "isDone", "()Z"⟩
abbrev cX3_lossOf : ByteArray := prog_5_method_8_code
def yX3_lossOf : MethodName := ⟨RX3, "lossOf", "(I)J"⟩
def RX4 : String := "LandTaken$Prices"
def TX4 : u_T := fun k => match k with
  | 0 => ("LandTaken$Prices", "dayCount", "I", false)
  | 1 => ("LandTaken$Prices", "from", "[I", true)
  | _ => ("LandTaken$Prices", "value", "[I", true)
def tyX4 : Nat → FieldType := fun k => match k with
  | 0 => .int
  | 1 => .array .int
  | _ => .array .int
abbrev wsX40 : List Cond := u_ws RX4 TX4 3
theorem nmX4 : ∀ a, a < 3 → ∀ b, b < 3 → a ≠ b → (TX4 a).2.1 ≠ (TX4 b).2.1 := by decide +kernel
theorem tyX4_ok : ∀ k, k < 3 → parseFieldDescriptor (TX4 k).2.2.1 = some (tyX4 k) := by decide +kernel
abbrev cX4_init : ByteArray := prog_6_method_1_code
def yX4_init : MethodName := ⟨RX4, "<init>", "()V"⟩
abbrev cX4_put : ByteArray := prog_6_method_2_code
def yX4_put : MethodName := ⟨RX4, "put", "(II)I"⟩
abbrev cX4_on : ByteArray := prog_6_method_3_code
def yX4_on : MethodName := ⟨RX4, "on", "(I)I"⟩
def RX5 : String := "LandTaken$Split"
def TX5 : u_T := fun k => match k with
  | 0 => ("LandTaken$Split", "number", "I", false)
  | 1 => ("LandTaken$Split", "main", "I", false)
  | 2 => ("LandTaken$Split", "pieceAt", "[I", true)
  | 3 => ("LandTaken$Split", "size", "[I", true)
  | 4 => ("LandTaken$Split", "first", "[I", true)
  | 5 => ("LandTaken$Split", "way", "[Z", true)
  | _ => ("LandTaken$Split", "queue", "[I", true)
def tyX5 : Nat → FieldType := fun k => match k with
  | 0 => .int
  | 1 => .int
  | 2 => .array .int
  | 3 => .array .int
  | 4 => .array .int
  | 5 => .array .boolean
  | _ => .array .int
abbrev wsX50 : List Cond := u_ws RX5 TX5 7
theorem nmX5 : ∀ a, a < 7 → ∀ b, b < 7 → a ≠ b → (TX5 a).2.1 ≠ (TX5 b).2.1 := by decide +kernel
theorem tyX5_ok : ∀ k, k < 7 → parseFieldDescriptor (TX5 k).2.2.1 = some (tyX5 k) := by decide +kernel
abbrev cX5_init : ByteArray := prog_7_method_1_code
def yX5_init : MethodName := ⟨RX5, "<init>", "()V"⟩
abbrev cX5_find : ByteArray := prog_7_method_2_code
def yX5_find : MethodName := ⟨RX5, "find", "(LLandTaken$Land;II)V"⟩
abbrev cX5_spread : ByteArray := prog_7_method_3_code
def yX5_spread : MethodName := ⟨RX5, "spread", "(LLandTaken$Land;II)V"⟩
abbrev cX5_chosenMain : ByteArray := prog_7_method_4_code
def yX5_chosenMain : MethodName := ⟨RX5, "chosenMain", "(I)I"⟩
abbrev cX5_hasWay : ByteArray := prog_7_method_5_code
def yX5_hasWay : MethodName := ⟨RX5, "hasWay", "(I)Z"⟩
abbrev cX5_worth : ByteArray := prog_7_method_6_code
def yX5_worth : MethodName := ⟨RX5, "worth", "(ILLandTaken$Land;[I)J"⟩
abbrev cX5_tell : ByteArray := prog_7_method_7_code
def yX5_tell : MethodName := ⟨RX5, "tell", "(II)I"⟩
def RX6 : String := "LandTaken"
def TX6 : u_T := fun k => match k with
  | 0 => ("LandTaken", "land", "LLandTaken$Land;", true)
  | 1 => ("LandTaken", "split", "LLandTaken$Split;", true)
  | 2 => ("LandTaken", "fields", "[LLandTaken$Field;", true)
  | 3 => ("LandTaken", "fieldCount", "I", false)
  | 4 => ("LandTaken", "prices", "[LLandTaken$Prices;", true)
  | 5 => ("LandTaken", "pricesToday", "[I", true)
  | 6 => ("LandTaken", "rates", "[I", true)
  | 7 => ("LandTaken", "today", "I", false)
  | 8 => ("LandTaken", "orders", "[LLandTaken$Order;", true)
  | 9 => ("LandTaken", "orderCount", "I", false)
  | _ => ("LandTaken", "undoneCount", "I", false)
def tyX6 : Nat → FieldType := fun k => match k with
  | 0 => .object "LandTaken$Land"
  | 1 => .object "LandTaken$Split"
  | 2 => .array (.object "LandTaken$Field")
  | 3 => .int
  | 4 => .array (.object "LandTaken$Prices")
  | 5 => .array .int
  | 6 => .array .int
  | 7 => .int
  | 8 => .array (.object "LandTaken$Order")
  | 9 => .int
  | _ => .int
abbrev wsX60 : List Cond := u_ws RX6 TX6 11
theorem nmX6 : ∀ a, a < 11 → ∀ b, b < 11 → a ≠ b → (TX6 a).2.1 ≠ (TX6 b).2.1 := by decide +kernel
theorem tyX6_ok : ∀ k, k < 11 → parseFieldDescriptor (TX6 k).2.2.1 = some (tyX6 k) := by decide +kernel
abbrev cX6_init : ByteArray := prog_1_method_1_code
def yX6_init : MethodName := ⟨RX6, "<init>", "()V"⟩
abbrev cX6_map : ByteArray := prog_1_method_2_code
def yX6_map : MethodName := ⟨RX6, "map", "(II)I"⟩
abbrev cX6_field : ByteArray := prog_1_method_3_code
def yX6_field : MethodName := ⟨RX6, "field", "()I"⟩
abbrev cX6_cell : ByteArray := prog_1_method_4_code
def yX6_cell : MethodName := ⟨RX6, "cell", "(IIII)I"⟩
abbrev cX6_lane : ByteArray := prog_1_method_5_code
def yX6_lane : MethodName := ⟨RX6, "lane", "(II)I"⟩
abbrev cX6_house : ByteArray := prog_1_method_6_code
def yX6_house : MethodName := ⟨RX6, "house", "(III)I"⟩
abbrev cX6_right : ByteArray := prog_1_method_7_code
def yX6_right : MethodName := ⟨RX6, "right", "(III)I"⟩
abbrev cX6_wasOrderMade : ByteArray := prog_1_method_8_code
def yX6_wasOrderMade : MethodName := ⟨RX6, "wasOrderMade", "()Z"⟩
abbrev cX6_isField : ByteArray := prog_1_method_9_code
def yX6_isField : MethodName := ⟨RX6, "isField", "(I)Z"⟩
abbrev cX6_isSoil : ByteArray := prog_1_method_10_code
def yX6_isSoil : MethodName := ⟨RX6, "isSoil", "(I)Z"⟩
abbrev cX6_isAmount : ByteArray := prog_1_method_11_code
def yX6_isAmount : MethodName := ⟨RX6, "isAmount", "(II)Z"⟩
abbrev cX6_pullDownHouse : ByteArray := prog_1_method_12_code
def yX6_pullDownHouse : MethodName := ⟨RX6, "pullDownHouse", "(I)V"⟩
abbrev cX6_price : ByteArray := prog_1_method_13_code
def yX6_price : MethodName := ⟨RX6, "price", "(III)I"⟩
abbrev cX6_costs : ByteArray := prog_1_method_14_code
def yX6_costs : MethodName := ⟨RX6, "costs", "(II)I"⟩
abbrev cX6_rate : ByteArray := prog_1_method_15_code
def yX6_rate : MethodName := ⟨RX6, "rate", "(II)I"⟩
abbrev cX6_days : ByteArray := prog_1_method_16_code
def yX6_days : MethodName := ⟨RX6, "days", "(I)I"⟩
abbrev cX6_isDay : ByteArray := prog_1_method_17_code
def yX6_isDay : MethodName := ⟨RX6, "isDay", "(I)Z"⟩
abbrev cX6_line : ByteArray := prog_1_method_18_code
def yX6_line : MethodName := ⟨RX6, "line", "(IIZ)I"⟩
abbrev cX6_make : ByteArray := prog_1_method_19_code
def yX6_make : MethodName := ⟨RX6, "make", "()I"⟩
abbrev cX6_object : ByteArray := prog_1_method_20_code
def yX6_object : MethodName := ⟨RX6, "object", "(I)I"⟩
abbrev cX6_hear : ByteArray := prog_1_method_21_code
def yX6_hear : MethodName := ⟨RX6, "hear", "(IZ)I"⟩
abbrev cX6_enter : ByteArray := prog_1_method_22_code
def yX6_enter : MethodName := ⟨RX6, "enter", "()I"⟩
abbrev cX6_undo : ByteArray := prog_1_method_23_code
def yX6_undo : MethodName := ⟨RX6, "undo", "()J"⟩
abbrev cX6_orderAt : ByteArray := prog_1_method_24_code
def yX6_orderAt : MethodName := ⟨RX6, "orderAt", "(I)LLandTaken$Order;"⟩
abbrev cX6_latestOrder : ByteArray := prog_1_method_25_code
def yX6_latestOrder : MethodName := ⟨RX6, "latestOrder", "()LLandTaken$Order;"⟩
abbrev cX6_openOrder : ByteArray := prog_1_method_26_code
def yX6_openOrder : MethodName := ⟨RX6, "openOrder", "()LLandTaken$Order;"⟩
abbrev cX6_caseOf : ByteArray := prog_1_method_27_code
def yX6_caseOf : MethodName := ⟨RX6, "caseOf", "(II)LLandTaken$Case;"⟩
abbrev cX6_touchesField : ByteArray := prog_1_method_28_code
def yX6_touchesField : MethodName := ⟨RX6, "touchesField", "()Z"⟩
abbrev cX6_emptyLineIfDone : ByteArray := prog_1_method_29_code
def yX6_emptyLineIfDone : MethodName := ⟨RX6, "emptyLineIfDone", "(LLandTaken$Order;)V"⟩
abbrev cX6_takeReadyCells : ByteArray := prog_1_method_30_code
def yX6_takeReadyCells : MethodName := ⟨RX6, "takeReadyCells", "(LLandTaken$Order;)V"⟩
abbrev cX6_settleReadyCases : ByteArray := prog_1_method_31_code
def yX6_settleReadyCases : MethodName := ⟨RX6, "settleReadyCases", "(LLandTaken$Order;)I"⟩
abbrev cX6_assess : ByteArray := prog_1_method_32_code
def yX6_assess : MethodName := ⟨RX6, "assess", "(LLandTaken$Case;LLandTaken$Field;)V"⟩
abbrev cX6_lossOfPieces : ByteArray := prog_1_method_33_code
def yX6_lossOfPieces : MethodName := ⟨RX6, "lossOfPieces", "()J"⟩
abbrev cX6_lossBefore : ByteArray := prog_1_method_34_code
def yX6_lossBefore : MethodName := ⟨RX6, "lossBefore", "(I)J"⟩
abbrev cX6_share : ByteArray := prog_1_method_35_code
def yX6_share : MethodName := ⟨RX6, "share", "(LLandTaken$Case;LLandTaken$Field;)V"⟩
abbrev cX6_oweDebtsAgain : ByteArray := prog_1_method_36_code
def yX6_oweDebtsAgain : MethodName := ⟨RX6, "oweDebtsAgain", "(LLandTaken$Case;)V"⟩
abbrev cX6_pay : ByteArray := prog_1_method_37_code
def yX6_pay : MethodName := ⟨RX6, "pay", "(IIJ)J"⟩
abbrev cX6_told : ByteArray := prog_1_method_38_code
def yX6_told : MethodName := ⟨RX6, "told", "(III)J"⟩
abbrev cX6_gets : ByteArray := prog_1_method_39_code
def yX6_gets : MethodName := ⟨RX6, "gets", "(III)J"⟩
abbrev cX6_look : ByteArray := prog_1_method_40_code
def yX6_look : MethodName := ⟨RX6, "look", "(III)I"⟩
abbrev cX6_pieces : ByteArray := prog_1_method_41_code
def yX6_pieces : MethodName := ⟨RX6, "pieces", "(I)I"⟩
abbrev cX6_piece : ByteArray := prog_1_method_42_code
def yX6_piece : MethodName := ⟨RX6, "piece", "(III)I"⟩
abbrev cX6_count : ByteArray := prog_1_method_43_code
def yX6_count : MethodName := ⟨RX6, "count", "(I)I"⟩
abbrev cX6_digest : ByteArray := prog_1_method_44_code
def yX6_digest : MethodName := ⟨RX6, "digest", "()J"⟩
abbrev cX6_casesOfLatest : ByteArray := prog_1_method_45_code
def yX6_casesOfLatest : MethodName := ⟨RX6, "casesOfLatest", "()I"⟩
abbrev cX6_mixed : ByteArray := prog_1_method_46_code
def yX6_mixed : MethodName := ⟨RX6, "mixed", "(JJ)J"⟩
abbrev cX6_mixedCells : ByteArray := prog_1_method_47_code
def yX6_mixedCells : MethodName := ⟨RX6, "mixedCells", "(J)J"⟩
abbrev cX6_mixedFields : ByteArray := prog_1_method_48_code
def yX6_mixedFields : MethodName := ⟨RX6, "mixedFields", "(J)J"⟩
abbrev cX6_mixedOrders : ByteArray := prog_1_method_49_code
def yX6_mixedOrders : MethodName := ⟨RX6, "mixedOrders", "(J)J"⟩
def RX7 : String := "LandTakenModel"
def TX7 : u_T := fun k => match k with
  | 0 => ("LandTakenModel", "width", "I", false)
  | 1 => ("LandTakenModel", "height", "I", false)
  | 2 => ("LandTakenModel", "fieldOf", "[I", true)
  | 3 => ("LandTakenModel", "soilOf", "[I", true)
  | 4 => ("LandTakenModel", "isLane", "[Z", true)
  | 5 => ("LandTakenModel", "inLine", "[Z", true)
  | 6 => ("LandTakenModel", "takenBy", "[I", true)
  | 7 => ("LandTakenModel", "fields", "I", false)
  | 8 => ("LandTakenModel", "houses", "[I", true)
  | 9 => ("LandTakenModel", "rightMany", "[I", true)
  | 10 => ("LandTakenModel", "rightKind", "[I", true)
  | 11 => ("LandTakenModel", "rightAmount", "[I", true)
  | 12 => ("LandTakenModel", "toldMany", "[I", true)
  | 13 => ("LandTakenModel", "toldDay", "[I", true)
  | 14 => ("LandTakenModel", "toldPrice", "[I", true)
  | 15 => ("LandTakenModel", "rates", "[I", true)
  | 16 => ("LandTakenModel", "today", "I", false)
  | 17 => ("LandTakenModel", "wasMade", "Z", false)
  | 18 => ("LandTakenModel", "undone", "I", false)
  | 19 => ("LandTakenModel", "orders", "I", false)
  | 20 => ("LandTakenModel", "isOpen", "Z", false)
  | 21 => ("LandTakenModel", "madeOn", "[I", true)
  | 22 => ("LandTakenModel", "noticeOf", "[I", true)
  | 23 => ("LandTakenModel", "cases", "[I", true)
  | 24 => ("LandTakenModel", "hasEntry", "[Z", true)
  | 25 => ("LandTakenModel", "caseField", "[I", true)
  | 26 => ("LandTakenModel", "caseState", "[I", true)
  | 27 => ("LandTakenModel", "caseCells", "[I", true)
  | 28 => ("LandTakenModel", "caseDay", "[I", true)
  | 29 => ("LandTakenModel", "caseRate", "[I", true)
  | 30 => ("LandTakenModel", "land", "[J", true)
  | 31 => ("LandTakenModel", "loss", "[J", true)
  | 32 => ("LandTakenModel", "fence", "[J", true)
  | 33 => ("LandTakenModel", "better", "[J", true)
  | 34 => ("LandTakenModel", "paidDue", "[J", true)
  | 35 => ("LandTakenModel", "paidInterest", "[J", true)
  | 36 => ("LandTakenModel", "interest", "[J", true)
  | 37 => ("LandTakenModel", "since", "[I", true)
  | 38 => ("LandTakenModel", "got", "[J", true)
  | 39 => ("LandTakenModel", "pieceOf", "[I", true)
  | 40 => ("LandTakenModel", "queue", "[I", true)
  | 41 => ("LandTakenModel", "pieceMany", "I", false)
  | 42 => ("LandTakenModel", "pieceFirst", "[I", true)
  | 43 => ("LandTakenModel", "pieceSize", "[I", true)
  | 44 => ("LandTakenModel", "taken", "[Z", true)
  | _ => ("LandTakenModel", "h", "J", false)
def tyX7 : Nat → FieldType := fun k => match k with
  | 0 => .int
  | 1 => .int
  | 2 => .array .int
  | 3 => .array .int
  | 4 => .array .boolean
  | 5 => .array .boolean
  | 6 => .array .int
  | 7 => .int
  | 8 => .array .int
  | 9 => .array .int
  | 10 => .array .int
  | 11 => .array .int
  | 12 => .array .int
  | 13 => .array .int
  | 14 => .array .int
  | 15 => .array .int
  | 16 => .int
  | 17 => .boolean
  | 18 => .int
  | 19 => .int
  | 20 => .boolean
  | 21 => .array .int
  | 22 => .array .int
  | 23 => .array .int
  | 24 => .array .boolean
  | 25 => .array .int
  | 26 => .array .int
  | 27 => .array .int
  | 28 => .array .int
  | 29 => .array .int
  | 30 => .array .long
  | 31 => .array .long
  | 32 => .array .long
  | 33 => .array .long
  | 34 => .array .long
  | 35 => .array .long
  | 36 => .array .long
  | 37 => .array .int
  | 38 => .array .long
  | 39 => .array .int
  | 40 => .array .int
  | 41 => .int
  | 42 => .array .int
  | 43 => .array .int
  | 44 => .array .boolean
  | _ => .long
abbrev wsX70 : List Cond := u_ws RX7 TX7 46
theorem nmX7 : ∀ a, a < 46 → ∀ b, b < 46 → a ≠ b → (TX7 a).2.1 ≠ (TX7 b).2.1 := by decide +kernel
theorem tyX7_ok : ∀ k, k < 46 → parseFieldDescriptor (TX7 k).2.2.1 = some (tyX7 k) := by decide +kernel
abbrev cX7_init : ByteArray := prog_9_method_1_code
def yX7_init : MethodName := ⟨RX7, "<init>", "()V"⟩
abbrev cX7_in : ByteArray := prog_9_method_3_code
def yX7_in : MethodName := ⟨RX7, "in", "(JJJ)Z"⟩
abbrev cX7_fresh : ByteArray := prog_9_method_4_code
def yX7_fresh : MethodName := ⟨RX7, "fresh", "()V"⟩
abbrev cX7_isCell : ByteArray := prog_9_method_5_code
def yX7_isCell : MethodName := ⟨RX7, "isCell", "(II)Z"⟩
abbrev cX7_isField : ByteArray := prog_9_method_6_code
def yX7_isField : MethodName := ⟨RX7, "isField", "(I)Z"⟩
abbrev cX7_map : ByteArray := prog_9_method_7_code
def yX7_map : MethodName := ⟨RX7, "map", "(II)I"⟩
abbrev cX7_field : ByteArray := prog_9_method_8_code
def yX7_field : MethodName := ⟨RX7, "field", "()I"⟩
abbrev cX7_clearHouse : ByteArray := prog_9_method_9_code
def yX7_clearHouse : MethodName := ⟨RX7, "clearHouse", "(I)V"⟩
abbrev cX7_cell : ByteArray := prog_9_method_10_code
def yX7_cell : MethodName := ⟨RX7, "cell", "(IIII)I"⟩
abbrev cX7_lane : ByteArray := prog_9_method_11_code
def yX7_lane : MethodName := ⟨RX7, "lane", "(II)I"⟩
abbrev cX7_house : ByteArray := prog_9_method_12_code
def yX7_house : MethodName := ⟨RX7, "house", "(III)I"⟩
abbrev cX7_right : ByteArray := prog_9_method_13_code
def yX7_right : MethodName := ⟨RX7, "right", "(III)I"⟩
abbrev cX7_price : ByteArray := prog_9_method_14_code
def yX7_price : MethodName := ⟨RX7, "price", "(III)I"⟩
abbrev cX7_costOf : ByteArray := prog_9_method_15_code
def yX7_costOf : MethodName := ⟨RX7, "costOf", "(II)I"⟩
abbrev cX7_costs : ByteArray := prog_9_method_16_code
def yX7_costs : MethodName := ⟨RX7, "costs", "(II)I"⟩
abbrev cX7_rate : ByteArray := prog_9_method_17_code
def yX7_rate : MethodName := ⟨RX7, "rate", "(II)I"⟩
abbrev cX7_days : ByteArray := prog_9_method_18_code
def yX7_days : MethodName := ⟨RX7, "days", "(I)I"⟩
abbrev cX7_overX : ByteArray := prog_9_method_19_code
def yX7_overX : MethodName := ⟨RX7, "overX", "(I)I"⟩
abbrev cX7_overY : ByteArray := prog_9_method_20_code
def yX7_overY : MethodName := ⟨RX7, "overY", "(I)I"⟩
abbrev cX7_beside : ByteArray := prog_9_method_21_code
def yX7_beside : MethodName := ⟨RX7, "beside", "(II)I"⟩
abbrev cX7_isLeft : ByteArray := prog_9_method_22_code
def yX7_isLeft : MethodName := ⟨RX7, "isLeft", "(II)Z"⟩
abbrev cX7_spread : ByteArray := prog_9_method_23_code
def yX7_spread : MethodName := ⟨RX7, "spread", "(II)V"⟩
abbrev cX7_divide : ByteArray := prog_9_method_24_code
def yX7_divide : MethodName := ⟨RX7, "divide", "(I)V"⟩
abbrev cX7_mainOf : ByteArray := prog_9_method_25_code
def yX7_mainOf : MethodName := ⟨RX7, "mainOf", "(I)I"⟩
abbrev cX7_hasWay : ByteArray := prog_9_method_26_code
def yX7_hasWay : MethodName := ⟨RX7, "hasWay", "(I)Z"⟩
abbrev cX7_pricesOf : ByteArray := prog_9_method_27_code
def yX7_pricesOf : MethodName := ⟨RX7, "pricesOf", "(I)J"⟩
abbrev cX7_isCase : ByteArray := prog_9_method_28_code
def yX7_isCase : MethodName := ⟨RX7, "isCase", "(II)Z"⟩
abbrev cX7_line : ByteArray := prog_9_method_29_code
def yX7_line : MethodName := ⟨RX7, "line", "(IIZ)I"⟩
abbrev cX7_wanted : ByteArray := prog_9_method_30_code
def yX7_wanted : MethodName := ⟨RX7, "wanted", "(I)I"⟩
abbrev cX7_make : ByteArray := prog_9_method_31_code
def yX7_make : MethodName := ⟨RX7, "make", "()I"⟩
abbrev cX7_object : ByteArray := prog_9_method_32_code
def yX7_object : MethodName := ⟨RX7, "object", "(I)I"⟩
abbrev cX7_close : ByteArray := prog_9_method_33_code
def yX7_close : MethodName := ⟨RX7, "close", "()V"⟩
abbrev cX7_hear : ByteArray := prog_9_method_34_code
def yX7_hear : MethodName := ⟨RX7, "hear", "(IZ)I"⟩
abbrev cX7_mayEnter : ByteArray := prog_9_method_35_code
def yX7_mayEnter : MethodName := ⟨RX7, "mayEnter", "(II)Z"⟩
abbrev cX7_enter : ByteArray := prog_9_method_36_code
def yX7_enter : MethodName := ⟨RX7, "enter", "()I"⟩
abbrev cX7_work : ByteArray := prog_9_method_37_code
def yX7_work : MethodName := ⟨RX7, "work", "(I)V"⟩
abbrev cX7_lossBefore : ByteArray := prog_9_method_38_code
def yX7_lossBefore : MethodName := ⟨RX7, "lossBefore", "(I)J"⟩
abbrev cX7_debtLeft : ByteArray := prog_9_method_39_code
def yX7_debtLeft : MethodName := ⟨RX7, "debtLeft", "(II)J"⟩
abbrev cX7_dueOf : ByteArray := prog_9_method_40_code
def yX7_dueOf : MethodName := ⟨RX7, "dueOf", "(I)J"⟩
abbrev cX7_share : ByteArray := prog_9_method_41_code
def yX7_share : MethodName := ⟨RX7, "share", "(I)V"⟩
abbrev cX7_undo : ByteArray := prog_9_method_42_code
def yX7_undo : MethodName := ⟨RX7, "undo", "()J"⟩
abbrev cX7_owed : ByteArray := prog_9_method_43_code
def yX7_owed : MethodName := ⟨RX7, "owed", "(I)J"⟩
abbrev cX7_interestOf : ByteArray := prog_9_method_44_code
def yX7_interestOf : MethodName := ⟨RX7, "interestOf", "(I)J"⟩
abbrev cX7_pay : ByteArray := prog_9_method_45_code
def yX7_pay : MethodName := ⟨RX7, "pay", "(IIJ)J"⟩
abbrev cX7_toldOf : ByteArray := prog_9_method_46_code
def yX7_toldOf : MethodName := ⟨RX7, "toldOf", "(II)J"⟩
abbrev cX7_told : ByteArray := prog_9_method_47_code
def yX7_told : MethodName := ⟨RX7, "told", "(III)J"⟩
abbrev cX7_gets : ByteArray := prog_9_method_48_code
def yX7_gets : MethodName := ⟨RX7, "gets", "(III)J"⟩
abbrev cX7_lookOf : ByteArray := prog_9_method_49_code
def yX7_lookOf : MethodName := ⟨RX7, "lookOf", "(II)I"⟩
abbrev cX7_look : ByteArray := prog_9_method_50_code
def yX7_look : MethodName := ⟨RX7, "look", "(III)I"⟩
abbrev cX7_pieces : ByteArray := prog_9_method_51_code
def yX7_pieces : MethodName := ⟨RX7, "pieces", "(I)I"⟩
abbrev cX7_piece : ByteArray := prog_9_method_52_code
def yX7_piece : MethodName := ⟨RX7, "piece", "(III)I"⟩
abbrev cX7_count : ByteArray := prog_9_method_53_code
def yX7_count : MethodName := ⟨RX7, "count", "(I)I"⟩
abbrev cX7_mix : ByteArray := prog_9_method_54_code
def yX7_mix : MethodName := ⟨RX7, "mix", "(J)V"⟩
abbrev cX7_digest : ByteArray := prog_9_method_55_code
def yX7_digest : MethodName := ⟨RX7, "digest", "()J"⟩
def RJ9 : String := "java/lang/Math"
def TJ9 : u_T := fun k => match k with
  | _ => ("", "", "", false)
def tyJ9 : Nat → FieldType := fun k => match k with
  | _ => .int
abbrev wsJ90 : List Cond := u_ws RJ9 TJ9 0
theorem nmJ9 : ∀ a, a < 0 → ∀ b, b < 0 → a ≠ b → (TJ9 a).2.1 ≠ (TJ9 b).2.1 := by decide +kernel
theorem tyJ9_ok : ∀ k, k < 0 → parseFieldDescriptor (TJ9 k).2.2.1 = some (tyJ9 k) := by decide +kernel
abbrev cJ9_max_f86c9 : ByteArray := prog_10_method_66_code
def yJ9_max_f86c9 : MethodName := ⟨RJ9, "max", "(JJ)J"⟩
abbrev cJ9_min_f86c9 : ByteArray := prog_10_method_70_code
def yJ9_min_f86c9 : MethodName := ⟨RJ9, "min", "(JJ)J"⟩
def RL : String := "LandTakenLaw"
abbrev cL_law : ByteArray := code
def yL_law : MethodName := ⟨RL, "law", "([I)Z"⟩
abbrev vwCl : List vw_C := [(RX0, TX0, 16), (RX1, TX1, 5), (RX2, TX2, 7), (RX3, TX3, 4), (RX4, TX4, 3), (RX5, TX5, 7), (RX6, TX6, 11), (RX7, TX7, 46)]
end
section
theorem dX0_init_0 : decode cX0_init 0 = .ok (.aload_n 0, 1) := by decide +kernel
theorem dX0_init_1 : decode cX0_init 1 = .ok (.invokespecial 3, 3) := by decide +kernel
theorem dX0_init_4 : decode cX0_init 4 = .ok (.aload_n 0, 1) := by decide +kernel
theorem dX0_init_5 : decode cX0_init 5 = .ok (.iconst 4, 1) := by decide +kernel
theorem dX0_init_6 : decode cX0_init 6 = .ok (.newarray .long, 2) := by decide +kernel
theorem dX0_init_8 : decode cX0_init 8 = .ok (.putfield 9, 3) := by decide +kernel
theorem dX0_init_11 : decode cX0_init 11 = .ok (.return_, 1) := by decide +kernel
theorem dX0_begin_0 : decode cX0_begin 0 = .ok (.aload_n 0, 1) := by decide +kernel
theorem dX0_begin_1 : decode cX0_begin 1 = .ok (.iload_n 1, 1) := by decide +kernel
theorem dX0_begin_2 : decode cX0_begin 2 = .ok (.putfield 15, 3) := by decide +kernel
theorem dX0_begin_5 : decode cX0_begin 5 = .ok (.aload_n 0, 1) := by decide +kernel
theorem dX0_begin_6 : decode cX0_begin 6 = .ok (.iload_n 2, 1) := by decide +kernel
theorem dX0_begin_7 : decode cX0_begin 7 = .ok (.putfield 19, 3) := by decide +kernel
theorem dX0_begin_10 : decode cX0_begin 10 = .ok (.aload_n 0, 1) := by decide +kernel
theorem dX0_begin_11 : decode cX0_begin 11 = .ok (.iconst 0, 1) := by decide +kernel
theorem dX0_begin_12 : decode cX0_begin 12 = .ok (.putfield 22, 3) := by decide +kernel
theorem dX0_begin_15 : decode cX0_begin 15 = .ok (.aload_n 0, 1) := by decide +kernel
theorem dX0_begin_16 : decode cX0_begin 16 = .ok (.iconst 0, 1) := by decide +kernel
theorem dX0_begin_17 : decode cX0_begin 17 = .ok (.putfield 25, 3) := by decide +kernel
theorem dX0_begin_20 : decode cX0_begin 20 = .ok (.aload_n 0, 1) := by decide +kernel
theorem dX0_begin_21 : decode cX0_begin 21 = .ok (.iconst 0, 1) := by decide +kernel
theorem dX0_begin_22 : decode cX0_begin 22 = .ok (.putfield 28, 3) := by decide +kernel
theorem dX0_begin_25 : decode cX0_begin 25 = .ok (.aload_n 0, 1) := by decide +kernel
theorem dX0_begin_26 : decode cX0_begin 26 = .ok (.iconst 0, 1) := by decide +kernel
theorem dX0_begin_27 : decode cX0_begin 27 = .ok (.putfield 31, 3) := by decide +kernel
theorem dX0_begin_30 : decode cX0_begin 30 = .ok (.aload_n 0, 1) := by decide +kernel
theorem dX0_begin_31 : decode cX0_begin 31 = .ok (.lconst 0, 1) := by decide +kernel
theorem dX0_begin_32 : decode cX0_begin 32 = .ok (.putfield 34, 3) := by decide +kernel
theorem dX0_begin_35 : decode cX0_begin 35 = .ok (.aload_n 0, 1) := by decide +kernel
theorem dX0_begin_36 : decode cX0_begin 36 = .ok (.lconst 0, 1) := by decide +kernel
theorem dX0_begin_37 : decode cX0_begin 37 = .ok (.putfield 38, 3) := by decide +kernel
theorem dX0_begin_40 : decode cX0_begin 40 = .ok (.aload_n 0, 1) := by decide +kernel
theorem dX0_begin_41 : decode cX0_begin 41 = .ok (.lconst 0, 1) := by decide +kernel
theorem dX0_begin_42 : decode cX0_begin 42 = .ok (.putfield 41, 3) := by decide +kernel
theorem dX0_begin_45 : decode cX0_begin 45 = .ok (.aload_n 0, 1) := by decide +kernel
theorem dX0_begin_46 : decode cX0_begin 46 = .ok (.lconst 0, 1) := by decide +kernel
theorem dX0_begin_47 : decode cX0_begin 47 = .ok (.putfield 44, 3) := by decide +kernel
theorem dX0_begin_50 : decode cX0_begin 50 = .ok (.aload_n 0, 1) := by decide +kernel
theorem dX0_begin_51 : decode cX0_begin 51 = .ok (.lconst 0, 1) := by decide +kernel
theorem dX0_begin_52 : decode cX0_begin 52 = .ok (.putfield 47, 3) := by decide +kernel
theorem dX0_begin_55 : decode cX0_begin 55 = .ok (.aload_n 0, 1) := by decide +kernel
theorem dX0_begin_56 : decode cX0_begin 56 = .ok (.lconst 0, 1) := by decide +kernel
theorem dX0_begin_57 : decode cX0_begin 57 = .ok (.putfield 50, 3) := by decide +kernel
theorem dX0_begin_60 : decode cX0_begin 60 = .ok (.aload_n 0, 1) := by decide +kernel
theorem dX0_begin_61 : decode cX0_begin 61 = .ok (.lconst 0, 1) := by decide +kernel
theorem dX0_begin_62 : decode cX0_begin 62 = .ok (.putfield 53, 3) := by decide +kernel
theorem dX0_begin_65 : decode cX0_begin 65 = .ok (.aload_n 0, 1) := by decide +kernel
theorem dX0_begin_66 : decode cX0_begin 66 = .ok (.lconst 0, 1) := by decide +kernel
theorem dX0_begin_67 : decode cX0_begin 67 = .ok (.putfield 56, 3) := by decide +kernel
theorem dX0_begin_70 : decode cX0_begin 70 = .ok (.aload_n 0, 1) := by decide +kernel
theorem dX0_begin_71 : decode cX0_begin 71 = .ok (.lconst 0, 1) := by decide +kernel
theorem dX0_begin_72 : decode cX0_begin 72 = .ok (.putfield 59, 3) := by decide +kernel
theorem dX0_begin_75 : decode cX0_begin 75 = .ok (.iconst 0, 1) := by decide +kernel
theorem dX0_begin_76 : decode cX0_begin 76 = .ok (.istore_n 3, 1) := by decide +kernel
theorem dX0_begin_77 : decode cX0_begin 77 = .ok (.iload_n 3, 1) := by decide +kernel
theorem dX0_begin_78 : decode cX0_begin 78 = .ok (.iconst 4, 1) := by decide +kernel
theorem dX0_begin_79 : decode cX0_begin 79 = .ok (.if_icmp .ge 16, 3) := by decide +kernel
theorem dX0_begin_82 : decode cX0_begin 82 = .ok (.aload_n 0, 1) := by decide +kernel
theorem dX0_begin_83 : decode cX0_begin 83 = .ok (.getfield 9, 3) := by decide +kernel
theorem dX0_begin_86 : decode cX0_begin 86 = .ok (.iload_n 3, 1) := by decide +kernel
theorem dX0_begin_87 : decode cX0_begin 87 = .ok (.lconst 0, 1) := by decide +kernel
theorem dX0_begin_88 : decode cX0_begin 88 = .ok (.lastore, 1) := by decide +kernel
theorem dX0_begin_89 : decode cX0_begin 89 = .ok (.iinc 3 1, 3) := by decide +kernel
theorem dX0_begin_92 : decode cX0_begin 92 = .ok (.goto (-15), 3) := by decide +kernel
theorem dX0_begin_95 : decode cX0_begin 95 = .ok (.return_, 1) := by decide +kernel
theorem dX0_isReady_0 : decode cX0_isReady 0 = .ok (.aload_n 0, 1) := by decide +kernel
theorem dX0_isReady_1 : decode cX0_isReady 1 = .ok (.getfield 22, 3) := by decide +kernel
theorem dX0_isReady_4 : decode cX0_isReady 4 = .ok (.ifCond .eq 11, 3) := by decide +kernel
theorem dX0_isReady_7 : decode cX0_isReady 7 = .ok (.aload_n 0, 1) := by decide +kernel
theorem dX0_isReady_8 : decode cX0_isReady 8 = .ok (.getfield 22, 3) := by decide +kernel
theorem dX0_isReady_11 : decode cX0_isReady 11 = .ok (.iconst 2, 1) := by decide +kernel
theorem dX0_isReady_12 : decode cX0_isReady 12 = .ok (.if_icmp .ne 7, 3) := by decide +kernel
theorem dX0_isReady_15 : decode cX0_isReady 15 = .ok (.iconst 1, 1) := by decide +kernel
theorem dX0_isReady_16 : decode cX0_isReady 16 = .ok (.goto 4, 3) := by decide +kernel
theorem dX0_isReady_19 : decode cX0_isReady 19 = .ok (.iconst 0, 1) := by decide +kernel
theorem dX0_isReady_20 : decode cX0_isReady 20 = .ok (.ireturn, 1) := by decide +kernel
theorem dX0_enterOn_0 : decode cX0_enterOn 0 = .ok (.aload_n 0, 1) := by decide +kernel
theorem dX0_enterOn_1 : decode cX0_enterOn 1 = .ok (.iconst 4, 1) := by decide +kernel
theorem dX0_enterOn_2 : decode cX0_enterOn 2 = .ok (.putfield 22, 3) := by decide +kernel
theorem dX0_enterOn_5 : decode cX0_enterOn 5 = .ok (.aload_n 0, 1) := by decide +kernel
theorem dX0_enterOn_6 : decode cX0_enterOn 6 = .ok (.iload_n 1, 1) := by decide +kernel
theorem dX0_enterOn_7 : decode cX0_enterOn 7 = .ok (.putfield 25, 3) := by decide +kernel
theorem dX0_enterOn_10 : decode cX0_enterOn 10 = .ok (.aload_n 0, 1) := by decide +kernel
theorem dX0_enterOn_11 : decode cX0_enterOn 11 = .ok (.iload_n 1, 1) := by decide +kernel
theorem dX0_enterOn_12 : decode cX0_enterOn 12 = .ok (.putfield 31, 3) := by decide +kernel
theorem dX0_enterOn_15 : decode cX0_enterOn 15 = .ok (.aload_n 0, 1) := by decide +kernel
theorem dX0_enterOn_16 : decode cX0_enterOn 16 = .ok (.iload_n 2, 1) := by decide +kernel
theorem dX0_enterOn_17 : decode cX0_enterOn 17 = .ok (.putfield 28, 3) := by decide +kernel
theorem dX0_enterOn_20 : decode cX0_enterOn 20 = .ok (.return_, 1) := by decide +kernel
theorem dX0_owed_0 : decode cX0_owed 0 = .ok (.aload_n 0, 1) := by decide +kernel
theorem dX0_owed_1 : decode cX0_owed 1 = .ok (.getfield 47, 3) := by decide +kernel
theorem dX0_owed_4 : decode cX0_owed 4 = .ok (.aload_n 0, 1) := by decide +kernel
theorem dX0_owed_5 : decode cX0_owed 5 = .ok (.getfield 50, 3) := by decide +kernel
theorem dX0_owed_8 : decode cX0_owed 8 = .ok (.lsub, 1) := by decide +kernel
theorem dX0_owed_9 : decode cX0_owed 9 = .ok (.lreturn, 1) := by decide +kernel
theorem dX0_interestOn_0 : decode cX0_interestOn 0 = .ok (.aload_n 0, 1) := by decide +kernel
theorem dX0_interestOn_1 : decode cX0_interestOn 1 = .ok (.getfield 53, 3) := by decide +kernel
theorem dX0_interestOn_4 : decode cX0_interestOn 4 = .ok (.aload_n 0, 1) := by decide +kernel
theorem dX0_interestOn_5 : decode cX0_interestOn 5 = .ok (.invokevirtual 62, 3) := by decide +kernel
theorem dX0_interestOn_8 : decode cX0_interestOn 8 = .ok (.aload_n 0, 1) := by decide +kernel
theorem dX0_interestOn_9 : decode cX0_interestOn 9 = .ok (.getfield 28, 3) := by decide +kernel
theorem dX0_interestOn_12 : decode cX0_interestOn 12 = .ok (.i2l, 1) := by decide +kernel
theorem dX0_interestOn_13 : decode cX0_interestOn 13 = .ok (.lmul, 1) := by decide +kernel
theorem dX0_interestOn_14 : decode cX0_interestOn 14 = .ok (.iload_n 1, 1) := by decide +kernel
theorem dX0_interestOn_15 : decode cX0_interestOn 15 = .ok (.aload_n 0, 1) := by decide +kernel
theorem dX0_interestOn_16 : decode cX0_interestOn 16 = .ok (.getfield 31, 3) := by decide +kernel
theorem dX0_interestOn_19 : decode cX0_interestOn 19 = .ok (.isub, 1) := by decide +kernel
theorem dX0_interestOn_20 : decode cX0_interestOn 20 = .ok (.i2l, 1) := by decide +kernel
theorem dX0_interestOn_21 : decode cX0_interestOn 21 = .ok (.lmul, 1) := by decide +kernel
theorem dX0_interestOn_22 : decode cX0_interestOn 22 = .ok (.ldc2_w 66, 3) := by decide +kernel
theorem dX0_interestOn_25 : decode cX0_interestOn 25 = .ok (.ldiv, 1) := by decide +kernel
theorem dX0_interestOn_26 : decode cX0_interestOn 26 = .ok (.ladd, 1) := by decide +kernel
theorem dX0_interestOn_27 : decode cX0_interestOn 27 = .ok (.lreturn, 1) := by decide +kernel
theorem dX0_receive_0 : decode cX0_receive 0 = .ok (.aload_n 0, 1) := by decide +kernel
theorem dX0_receive_1 : decode cX0_receive 1 = .ok (.iload_n 3, 1) := by decide +kernel
theorem dX0_receive_2 : decode cX0_receive 2 = .ok (.invokevirtual 68, 3) := by decide +kernel
theorem dX0_receive_5 : decode cX0_receive 5 = .ok (.lstore 4, 2) := by decide +kernel
theorem dX0_receive_7 : decode cX0_receive 7 = .ok (.lload_n 1, 1) := by decide +kernel
theorem dX0_receive_8 : decode cX0_receive 8 = .ok (.lload 4, 2) := by decide +kernel
theorem dX0_receive_10 : decode cX0_receive 10 = .ok (.invokestatic 72, 3) := by decide +kernel
theorem dX0_receive_13 : decode cX0_receive 13 = .ok (.lstore 6, 2) := by decide +kernel
theorem dX0_receive_15 : decode cX0_receive 15 = .ok (.lload_n 1, 1) := by decide +kernel
theorem dX0_receive_16 : decode cX0_receive 16 = .ok (.lload 6, 2) := by decide +kernel
theorem dX0_receive_18 : decode cX0_receive 18 = .ok (.lsub, 1) := by decide +kernel
theorem dX0_receive_19 : decode cX0_receive 19 = .ok (.aload_n 0, 1) := by decide +kernel
theorem dX0_receive_20 : decode cX0_receive 20 = .ok (.invokevirtual 62, 3) := by decide +kernel
theorem dX0_receive_23 : decode cX0_receive 23 = .ok (.invokestatic 72, 3) := by decide +kernel
theorem dX0_receive_26 : decode cX0_receive 26 = .ok (.lstore 8, 2) := by decide +kernel
theorem dX0_receive_28 : decode cX0_receive 28 = .ok (.aload_n 0, 1) := by decide +kernel
theorem dX0_receive_29 : decode cX0_receive 29 = .ok (.lload 4, 2) := by decide +kernel
theorem dX0_receive_31 : decode cX0_receive 31 = .ok (.lload 6, 2) := by decide +kernel
theorem dX0_receive_33 : decode cX0_receive 33 = .ok (.lsub, 1) := by decide +kernel
theorem dX0_receive_34 : decode cX0_receive 34 = .ok (.putfield 53, 3) := by decide +kernel
theorem dX0_receive_37 : decode cX0_receive 37 = .ok (.aload_n 0, 1) := by decide +kernel
theorem dX0_receive_38 : decode cX0_receive 38 = .ok (.iload_n 3, 1) := by decide +kernel
theorem dX0_receive_39 : decode cX0_receive 39 = .ok (.putfield 31, 3) := by decide +kernel
theorem dX0_receive_42 : decode cX0_receive 42 = .ok (.aload_n 0, 1) := by decide +kernel
theorem dX0_receive_43 : decode cX0_receive 43 = .ok (.dup, 1) := by decide +kernel
theorem dX0_receive_44 : decode cX0_receive 44 = .ok (.getfield 56, 3) := by decide +kernel
theorem dX0_receive_47 : decode cX0_receive 47 = .ok (.lload 6, 2) := by decide +kernel
theorem dX0_receive_49 : decode cX0_receive 49 = .ok (.ladd, 1) := by decide +kernel
theorem dX0_receive_50 : decode cX0_receive 50 = .ok (.putfield 56, 3) := by decide +kernel
theorem dX0_receive_53 : decode cX0_receive 53 = .ok (.aload_n 0, 1) := by decide +kernel
theorem dX0_receive_54 : decode cX0_receive 54 = .ok (.dup, 1) := by decide +kernel
theorem dX0_receive_55 : decode cX0_receive 55 = .ok (.getfield 50, 3) := by decide +kernel
theorem dX0_receive_58 : decode cX0_receive 58 = .ok (.lload 8, 2) := by decide +kernel
theorem dX0_receive_60 : decode cX0_receive 60 = .ok (.ladd, 1) := by decide +kernel
theorem dX0_receive_61 : decode cX0_receive 61 = .ok (.putfield 50, 3) := by decide +kernel
theorem dX0_receive_64 : decode cX0_receive 64 = .ok (.lload 6, 2) := by decide +kernel
theorem dX0_receive_66 : decode cX0_receive 66 = .ok (.lload 8, 2) := by decide +kernel
theorem dX0_receive_68 : decode cX0_receive 68 = .ok (.ladd, 1) := by decide +kernel
theorem dX0_receive_69 : decode cX0_receive 69 = .ok (.lreturn, 1) := by decide +kernel
theorem dX0_tell_0 : decode cX0_tell 0 = .ok (.iload_n 1, 1) := by decide +kernel
theorem dX0_tell_1 : decode cX0_tell 1 = .ok (.tableswitch 137 0 12 #[67, 73, 79, 85, 90, 95, 100, 105, 110, 115, 120, 126, 131], 67) := by decide +kernel
theorem dX0_tell_68 : decode cX0_tell 68 = .ok (.aload_n 0, 1) := by decide +kernel
theorem dX0_tell_69 : decode cX0_tell 69 = .ok (.getfield 15, 3) := by decide +kernel
theorem dX0_tell_72 : decode cX0_tell 72 = .ok (.i2l, 1) := by decide +kernel
theorem dX0_tell_73 : decode cX0_tell 73 = .ok (.lreturn, 1) := by decide +kernel
theorem dX0_tell_74 : decode cX0_tell 74 = .ok (.aload_n 0, 1) := by decide +kernel
theorem dX0_tell_75 : decode cX0_tell 75 = .ok (.getfield 22, 3) := by decide +kernel
theorem dX0_tell_78 : decode cX0_tell 78 = .ok (.i2l, 1) := by decide +kernel
theorem dX0_tell_79 : decode cX0_tell 79 = .ok (.lreturn, 1) := by decide +kernel
theorem dX0_tell_80 : decode cX0_tell 80 = .ok (.aload_n 0, 1) := by decide +kernel
theorem dX0_tell_81 : decode cX0_tell 81 = .ok (.getfield 25, 3) := by decide +kernel
theorem dX0_tell_84 : decode cX0_tell 84 = .ok (.i2l, 1) := by decide +kernel
theorem dX0_tell_85 : decode cX0_tell 85 = .ok (.lreturn, 1) := by decide +kernel
theorem dX0_tell_86 : decode cX0_tell 86 = .ok (.aload_n 0, 1) := by decide +kernel
theorem dX0_tell_87 : decode cX0_tell 87 = .ok (.getfield 34, 3) := by decide +kernel
theorem dX0_tell_90 : decode cX0_tell 90 = .ok (.lreturn, 1) := by decide +kernel
theorem dX0_tell_91 : decode cX0_tell 91 = .ok (.aload_n 0, 1) := by decide +kernel
theorem dX0_tell_92 : decode cX0_tell 92 = .ok (.getfield 38, 3) := by decide +kernel
theorem dX0_tell_95 : decode cX0_tell 95 = .ok (.lreturn, 1) := by decide +kernel
theorem dX0_tell_96 : decode cX0_tell 96 = .ok (.aload_n 0, 1) := by decide +kernel
theorem dX0_tell_97 : decode cX0_tell 97 = .ok (.getfield 41, 3) := by decide +kernel
theorem dX0_tell_100 : decode cX0_tell 100 = .ok (.lreturn, 1) := by decide +kernel
theorem dX0_tell_101 : decode cX0_tell 101 = .ok (.aload_n 0, 1) := by decide +kernel
theorem dX0_tell_102 : decode cX0_tell 102 = .ok (.getfield 44, 3) := by decide +kernel
theorem dX0_tell_105 : decode cX0_tell 105 = .ok (.lreturn, 1) := by decide +kernel
theorem dX0_tell_106 : decode cX0_tell 106 = .ok (.aload_n 0, 1) := by decide +kernel
theorem dX0_tell_107 : decode cX0_tell 107 = .ok (.getfield 47, 3) := by decide +kernel
theorem dX0_tell_110 : decode cX0_tell 110 = .ok (.lreturn, 1) := by decide +kernel
theorem dX0_tell_111 : decode cX0_tell 111 = .ok (.aload_n 0, 1) := by decide +kernel
theorem dX0_tell_112 : decode cX0_tell 112 = .ok (.getfield 50, 3) := by decide +kernel
theorem dX0_tell_115 : decode cX0_tell 115 = .ok (.lreturn, 1) := by decide +kernel
theorem dX0_tell_116 : decode cX0_tell 116 = .ok (.aload_n 0, 1) := by decide +kernel
theorem dX0_tell_117 : decode cX0_tell 117 = .ok (.invokevirtual 62, 3) := by decide +kernel
theorem dX0_tell_120 : decode cX0_tell 120 = .ok (.lreturn, 1) := by decide +kernel
theorem dX0_tell_121 : decode cX0_tell 121 = .ok (.aload_n 0, 1) := by decide +kernel
theorem dX0_tell_122 : decode cX0_tell 122 = .ok (.iload_n 2, 1) := by decide +kernel
theorem dX0_tell_123 : decode cX0_tell 123 = .ok (.invokevirtual 68, 3) := by decide +kernel
theorem dX0_tell_126 : decode cX0_tell 126 = .ok (.lreturn, 1) := by decide +kernel
theorem dX0_tell_127 : decode cX0_tell 127 = .ok (.aload_n 0, 1) := by decide +kernel
theorem dX0_tell_128 : decode cX0_tell 128 = .ok (.getfield 56, 3) := by decide +kernel
theorem dX0_tell_131 : decode cX0_tell 131 = .ok (.lreturn, 1) := by decide +kernel
theorem dX0_tell_132 : decode cX0_tell 132 = .ok (.aload_n 0, 1) := by decide +kernel
theorem dX0_tell_133 : decode cX0_tell 133 = .ok (.getfield 19, 3) := by decide +kernel
theorem dX0_tell_136 : decode cX0_tell 136 = .ok (.i2l, 1) := by decide +kernel
theorem dX0_tell_137 : decode cX0_tell 137 = .ok (.lreturn, 1) := by decide +kernel
theorem dX0_tell_138 : decode cX0_tell 138 = .ok (.aload_n 0, 1) := by decide +kernel
theorem dX0_tell_139 : decode cX0_tell 139 = .ok (.getfield 59, 3) := by decide +kernel
theorem dX0_tell_142 : decode cX0_tell 142 = .ok (.lreturn, 1) := by decide +kernel
theorem dX1_init_0 : decode cX1_init 0 = .ok (.aload_n 0, 1) := by decide +kernel
theorem dX1_init_1 : decode cX1_init 1 = .ok (.invokespecial 3, 3) := by decide +kernel
theorem dX1_init_4 : decode cX1_init 4 = .ok (.aload_n 0, 1) := by decide +kernel
theorem dX1_init_5 : decode cX1_init 5 = .ok (.iconst 4, 1) := by decide +kernel
theorem dX1_init_6 : decode cX1_init 6 = .ok (.newarray .int, 2) := by decide +kernel
theorem dX1_init_8 : decode cX1_init 8 = .ok (.putfield 9, 3) := by decide +kernel
theorem dX1_init_11 : decode cX1_init 11 = .ok (.aload_n 0, 1) := by decide +kernel
theorem dX1_init_12 : decode cX1_init 12 = .ok (.iconst 4, 1) := by decide +kernel
theorem dX1_init_13 : decode cX1_init 13 = .ok (.newarray .int, 2) := by decide +kernel
theorem dX1_init_15 : decode cX1_init 15 = .ok (.putfield 15, 3) := by decide +kernel
theorem dX1_init_18 : decode cX1_init 18 = .ok (.aload_n 0, 1) := by decide +kernel
theorem dX1_init_19 : decode cX1_init 19 = .ok (.iconst 4, 1) := by decide +kernel
theorem dX1_init_20 : decode cX1_init 20 = .ok (.newarray .long, 2) := by decide +kernel
theorem dX1_init_22 : decode cX1_init 22 = .ok (.putfield 18, 3) := by decide +kernel
theorem dX1_init_25 : decode cX1_init 25 = .ok (.return_, 1) := by decide +kernel
theorem dX1_clear_0 : decode cX1_clear 0 = .ok (.aload_n 0, 1) := by decide +kernel
theorem dX1_clear_1 : decode cX1_clear 1 = .ok (.iconst (-1), 1) := by decide +kernel
theorem dX1_clear_2 : decode cX1_clear 2 = .ok (.putfield 22, 3) := by decide +kernel
theorem dX1_clear_5 : decode cX1_clear 5 = .ok (.aload_n 0, 1) := by decide +kernel
theorem dX1_clear_6 : decode cX1_clear 6 = .ok (.iconst 0, 1) := by decide +kernel
theorem dX1_clear_7 : decode cX1_clear 7 = .ok (.putfield 26, 3) := by decide +kernel
theorem dX1_clear_10 : decode cX1_clear 10 = .ok (.return_, 1) := by decide +kernel
theorem dX1_addRight_0 : decode cX1_addRight 0 = .ok (.aload_n 0, 1) := by decide +kernel
theorem dX1_addRight_1 : decode cX1_addRight 1 = .ok (.getfield 26, 3) := by decide +kernel
theorem dX1_addRight_4 : decode cX1_addRight 4 = .ok (.iconst 4, 1) := by decide +kernel
theorem dX1_addRight_5 : decode cX1_addRight 5 = .ok (.if_icmp .lt 6, 3) := by decide +kernel
theorem dX1_addRight_8 : decode cX1_addRight 8 = .ok (.bipush (-104), 2) := by decide +kernel
theorem dX1_addRight_10 : decode cX1_addRight 10 = .ok (.ireturn, 1) := by decide +kernel
theorem dX1_addRight_11 : decode cX1_addRight 11 = .ok (.aload_n 0, 1) := by decide +kernel
theorem dX1_addRight_12 : decode cX1_addRight 12 = .ok (.getfield 9, 3) := by decide +kernel
theorem dX1_addRight_15 : decode cX1_addRight 15 = .ok (.aload_n 0, 1) := by decide +kernel
theorem dX1_addRight_16 : decode cX1_addRight 16 = .ok (.getfield 26, 3) := by decide +kernel
theorem dX1_addRight_19 : decode cX1_addRight 19 = .ok (.iload_n 1, 1) := by decide +kernel
theorem dX1_addRight_20 : decode cX1_addRight 20 = .ok (.iastore, 1) := by decide +kernel
theorem dX1_addRight_21 : decode cX1_addRight 21 = .ok (.aload_n 0, 1) := by decide +kernel
theorem dX1_addRight_22 : decode cX1_addRight 22 = .ok (.getfield 15, 3) := by decide +kernel
theorem dX1_addRight_25 : decode cX1_addRight 25 = .ok (.aload_n 0, 1) := by decide +kernel
theorem dX1_addRight_26 : decode cX1_addRight 26 = .ok (.getfield 26, 3) := by decide +kernel
theorem dX1_addRight_29 : decode cX1_addRight 29 = .ok (.iload_n 2, 1) := by decide +kernel
theorem dX1_addRight_30 : decode cX1_addRight 30 = .ok (.iastore, 1) := by decide +kernel
theorem dX1_addRight_31 : decode cX1_addRight 31 = .ok (.aload_n 0, 1) := by decide +kernel
theorem dX1_addRight_32 : decode cX1_addRight 32 = .ok (.getfield 18, 3) := by decide +kernel
theorem dX1_addRight_35 : decode cX1_addRight 35 = .ok (.aload_n 0, 1) := by decide +kernel
theorem dX1_addRight_36 : decode cX1_addRight 36 = .ok (.getfield 26, 3) := by decide +kernel
theorem dX1_addRight_39 : decode cX1_addRight 39 = .ok (.iload_n 2, 1) := by decide +kernel
theorem dX1_addRight_40 : decode cX1_addRight 40 = .ok (.i2l, 1) := by decide +kernel
theorem dX1_addRight_41 : decode cX1_addRight 41 = .ok (.lastore, 1) := by decide +kernel
theorem dX1_addRight_42 : decode cX1_addRight 42 = .ok (.aload_n 0, 1) := by decide +kernel
theorem dX1_addRight_43 : decode cX1_addRight 43 = .ok (.dup, 1) := by decide +kernel
theorem dX1_addRight_44 : decode cX1_addRight 44 = .ok (.getfield 26, 3) := by decide +kernel
theorem dX1_addRight_47 : decode cX1_addRight 47 = .ok (.iconst 1, 1) := by decide +kernel
theorem dX1_addRight_48 : decode cX1_addRight 48 = .ok (.iadd, 1) := by decide +kernel
theorem dX1_addRight_49 : decode cX1_addRight 49 = .ok (.putfield 26, 3) := by decide +kernel
theorem dX1_addRight_52 : decode cX1_addRight 52 = .ok (.aload_n 0, 1) := by decide +kernel
theorem dX1_addRight_53 : decode cX1_addRight 53 = .ok (.getfield 26, 3) := by decide +kernel
theorem dX1_addRight_56 : decode cX1_addRight 56 = .ok (.ireturn, 1) := by decide +kernel
theorem dX2_init_0 : decode cX2_init 0 = .ok (.aload_n 0, 1) := by decide +kernel
theorem dX2_init_1 : decode cX2_init 1 = .ok (.invokespecial 3, 3) := by decide +kernel
theorem dX2_init_4 : decode cX2_init 4 = .ok (.aload_n 0, 1) := by decide +kernel
theorem dX2_init_5 : decode cX2_init 5 = .ok (.sipush 256, 3) := by decide +kernel
theorem dX2_init_8 : decode cX2_init 8 = .ok (.newarray .int, 2) := by decide +kernel
theorem dX2_init_10 : decode cX2_init 10 = .ok (.putfield 9, 3) := by decide +kernel
theorem dX2_init_13 : decode cX2_init 13 = .ok (.aload_n 0, 1) := by decide +kernel
theorem dX2_init_14 : decode cX2_init 14 = .ok (.sipush 256, 3) := by decide +kernel
theorem dX2_init_17 : decode cX2_init 17 = .ok (.newarray .int, 2) := by decide +kernel
theorem dX2_init_19 : decode cX2_init 19 = .ok (.putfield 15, 3) := by decide +kernel
theorem dX2_init_22 : decode cX2_init 22 = .ok (.aload_n 0, 1) := by decide +kernel
theorem dX2_init_23 : decode cX2_init 23 = .ok (.sipush 256, 3) := by decide +kernel
theorem dX2_init_26 : decode cX2_init 26 = .ok (.newarray .boolean, 2) := by decide +kernel
theorem dX2_init_28 : decode cX2_init 28 = .ok (.putfield 18, 3) := by decide +kernel
theorem dX2_init_31 : decode cX2_init 31 = .ok (.aload_n 0, 1) := by decide +kernel
theorem dX2_init_32 : decode cX2_init 32 = .ok (.sipush 256, 3) := by decide +kernel
theorem dX2_init_35 : decode cX2_init 35 = .ok (.newarray .boolean, 2) := by decide +kernel
theorem dX2_init_37 : decode cX2_init 37 = .ok (.putfield 22, 3) := by decide +kernel
theorem dX2_init_40 : decode cX2_init 40 = .ok (.aload_n 0, 1) := by decide +kernel
theorem dX2_init_41 : decode cX2_init 41 = .ok (.sipush 256, 3) := by decide +kernel
theorem dX2_init_44 : decode cX2_init 44 = .ok (.newarray .int, 2) := by decide +kernel
theorem dX2_init_46 : decode cX2_init 46 = .ok (.putfield 25, 3) := by decide +kernel
theorem dX2_init_49 : decode cX2_init 49 = .ok (.return_, 1) := by decide +kernel
theorem dX2_renew_0 : decode cX2_renew 0 = .ok (.aload_n 0, 1) := by decide +kernel
theorem dX2_renew_1 : decode cX2_renew 1 = .ok (.iload_n 1, 1) := by decide +kernel
theorem dX2_renew_2 : decode cX2_renew 2 = .ok (.putfield 28, 3) := by decide +kernel
theorem dX2_renew_5 : decode cX2_renew 5 = .ok (.aload_n 0, 1) := by decide +kernel
theorem dX2_renew_6 : decode cX2_renew 6 = .ok (.iload_n 2, 1) := by decide +kernel
theorem dX2_renew_7 : decode cX2_renew 7 = .ok (.putfield 32, 3) := by decide +kernel
theorem dX2_renew_10 : decode cX2_renew 10 = .ok (.iconst 0, 1) := by decide +kernel
theorem dX2_renew_11 : decode cX2_renew 11 = .ok (.istore_n 3, 1) := by decide +kernel
theorem dX2_renew_12 : decode cX2_renew 12 = .ok (.iload_n 3, 1) := by decide +kernel
theorem dX2_renew_13 : decode cX2_renew 13 = .ok (.sipush 256, 3) := by decide +kernel
theorem dX2_renew_16 : decode cX2_renew 16 = .ok (.if_icmp .ge 44, 3) := by decide +kernel
theorem dX2_renew_19 : decode cX2_renew 19 = .ok (.aload_n 0, 1) := by decide +kernel
theorem dX2_renew_20 : decode cX2_renew 20 = .ok (.getfield 9, 3) := by decide +kernel
theorem dX2_renew_23 : decode cX2_renew 23 = .ok (.iload_n 3, 1) := by decide +kernel
theorem dX2_renew_24 : decode cX2_renew 24 = .ok (.iconst (-1), 1) := by decide +kernel
theorem dX2_renew_25 : decode cX2_renew 25 = .ok (.iastore, 1) := by decide +kernel
theorem dX2_renew_26 : decode cX2_renew 26 = .ok (.aload_n 0, 1) := by decide +kernel
theorem dX2_renew_27 : decode cX2_renew 27 = .ok (.getfield 15, 3) := by decide +kernel
theorem dX2_renew_30 : decode cX2_renew 30 = .ok (.iload_n 3, 1) := by decide +kernel
theorem dX2_renew_31 : decode cX2_renew 31 = .ok (.iconst 0, 1) := by decide +kernel
theorem dX2_renew_32 : decode cX2_renew 32 = .ok (.iastore, 1) := by decide +kernel
theorem dX2_renew_33 : decode cX2_renew 33 = .ok (.aload_n 0, 1) := by decide +kernel
theorem dX2_renew_34 : decode cX2_renew 34 = .ok (.getfield 18, 3) := by decide +kernel
theorem dX2_renew_37 : decode cX2_renew 37 = .ok (.iload_n 3, 1) := by decide +kernel
theorem dX2_renew_38 : decode cX2_renew 38 = .ok (.iconst 0, 1) := by decide +kernel
theorem dX2_renew_39 : decode cX2_renew 39 = .ok (.bastore, 1) := by decide +kernel
theorem dX2_renew_40 : decode cX2_renew 40 = .ok (.aload_n 0, 1) := by decide +kernel
theorem dX2_renew_41 : decode cX2_renew 41 = .ok (.getfield 22, 3) := by decide +kernel
theorem dX2_renew_44 : decode cX2_renew 44 = .ok (.iload_n 3, 1) := by decide +kernel
theorem dX2_renew_45 : decode cX2_renew 45 = .ok (.iconst 0, 1) := by decide +kernel
theorem dX2_renew_46 : decode cX2_renew 46 = .ok (.bastore, 1) := by decide +kernel
theorem dX2_renew_47 : decode cX2_renew 47 = .ok (.aload_n 0, 1) := by decide +kernel
theorem dX2_renew_48 : decode cX2_renew 48 = .ok (.getfield 25, 3) := by decide +kernel
theorem dX2_renew_51 : decode cX2_renew 51 = .ok (.iload_n 3, 1) := by decide +kernel
theorem dX2_renew_52 : decode cX2_renew 52 = .ok (.iconst (-1), 1) := by decide +kernel
theorem dX2_renew_53 : decode cX2_renew 53 = .ok (.iastore, 1) := by decide +kernel
theorem dX2_renew_54 : decode cX2_renew 54 = .ok (.iinc 3 1, 3) := by decide +kernel
theorem dX2_renew_57 : decode cX2_renew 57 = .ok (.goto (-45), 3) := by decide +kernel
theorem dX2_renew_60 : decode cX2_renew 60 = .ok (.return_, 1) := by decide +kernel
theorem dX2_at_0 : decode cX2_at 0 = .ok (.iload_n 1, 1) := by decide +kernel
theorem dX2_at_1 : decode cX2_at 1 = .ok (.ifCond .lt 39, 3) := by decide +kernel
theorem dX2_at_4 : decode cX2_at 4 = .ok (.iload_n 1, 1) := by decide +kernel
theorem dX2_at_5 : decode cX2_at 5 = .ok (.aload_n 0, 1) := by decide +kernel
theorem dX2_at_6 : decode cX2_at 6 = .ok (.getfield 28, 3) := by decide +kernel
theorem dX2_at_9 : decode cX2_at 9 = .ok (.if_icmp .ge 31, 3) := by decide +kernel
theorem dX2_at_12 : decode cX2_at 12 = .ok (.iload_n 1, 1) := by decide +kernel
theorem dX2_at_13 : decode cX2_at 13 = .ok (.bipush 16, 2) := by decide +kernel
theorem dX2_at_15 : decode cX2_at 15 = .ok (.if_icmp .ge 25, 3) := by decide +kernel
theorem dX2_at_18 : decode cX2_at 18 = .ok (.iload_n 2, 1) := by decide +kernel
theorem dX2_at_19 : decode cX2_at 19 = .ok (.ifCond .lt 21, 3) := by decide +kernel
theorem dX2_at_22 : decode cX2_at 22 = .ok (.iload_n 2, 1) := by decide +kernel
theorem dX2_at_23 : decode cX2_at 23 = .ok (.aload_n 0, 1) := by decide +kernel
theorem dX2_at_24 : decode cX2_at 24 = .ok (.getfield 32, 3) := by decide +kernel
theorem dX2_at_27 : decode cX2_at 27 = .ok (.if_icmp .ge 13, 3) := by decide +kernel
theorem dX2_at_30 : decode cX2_at 30 = .ok (.iload_n 2, 1) := by decide +kernel
theorem dX2_at_31 : decode cX2_at 31 = .ok (.bipush 16, 2) := by decide +kernel
theorem dX2_at_33 : decode cX2_at 33 = .ok (.if_icmp .ge 7, 3) := by decide +kernel
theorem dX2_at_36 : decode cX2_at 36 = .ok (.iconst 1, 1) := by decide +kernel
theorem dX2_at_37 : decode cX2_at 37 = .ok (.goto 4, 3) := by decide +kernel
theorem dX2_at_40 : decode cX2_at 40 = .ok (.iconst 0, 1) := by decide +kernel
theorem dX2_at_41 : decode cX2_at 41 = .ok (.istore_n 3, 1) := by decide +kernel
theorem dX2_at_42 : decode cX2_at 42 = .ok (.iload_n 3, 1) := by decide +kernel
theorem dX2_at_43 : decode cX2_at 43 = .ok (.ifCond .eq 12, 3) := by decide +kernel
theorem dX2_at_46 : decode cX2_at 46 = .ok (.iload_n 2, 1) := by decide +kernel
theorem dX2_at_47 : decode cX2_at 47 = .ok (.bipush 16, 2) := by decide +kernel
theorem dX2_at_49 : decode cX2_at 49 = .ok (.imul, 1) := by decide +kernel
theorem dX2_at_50 : decode cX2_at 50 = .ok (.iload_n 1, 1) := by decide +kernel
theorem dX2_at_51 : decode cX2_at 51 = .ok (.iadd, 1) := by decide +kernel
theorem dX2_at_52 : decode cX2_at 52 = .ok (.goto 4, 3) := by decide +kernel
theorem dX2_at_55 : decode cX2_at 55 = .ok (.iconst (-1), 1) := by decide +kernel
theorem dX2_at_56 : decode cX2_at 56 = .ok (.ireturn, 1) := by decide +kernel
theorem dX2_beside_0 : decode cX2_beside 0 = .ok (.aload_n 0, 1) := by decide +kernel
theorem dX2_beside_1 : decode cX2_beside 1 = .ok (.iload_n 1, 1) := by decide +kernel
theorem dX2_beside_2 : decode cX2_beside 2 = .ok (.bipush 16, 2) := by decide +kernel
theorem dX2_beside_4 : decode cX2_beside 4 = .ok (.irem, 1) := by decide +kernel
theorem dX2_beside_5 : decode cX2_beside 5 = .ok (.getstatic 35, 3) := by decide +kernel
theorem dX2_beside_8 : decode cX2_beside 8 = .ok (.iload_n 2, 1) := by decide +kernel
theorem dX2_beside_9 : decode cX2_beside 9 = .ok (.iaload, 1) := by decide +kernel
theorem dX2_beside_10 : decode cX2_beside 10 = .ok (.iadd, 1) := by decide +kernel
theorem dX2_beside_11 : decode cX2_beside 11 = .ok (.iload_n 1, 1) := by decide +kernel
theorem dX2_beside_12 : decode cX2_beside 12 = .ok (.bipush 16, 2) := by decide +kernel
theorem dX2_beside_14 : decode cX2_beside 14 = .ok (.idiv, 1) := by decide +kernel
theorem dX2_beside_15 : decode cX2_beside 15 = .ok (.getstatic 38, 3) := by decide +kernel
theorem dX2_beside_18 : decode cX2_beside 18 = .ok (.iload_n 2, 1) := by decide +kernel
theorem dX2_beside_19 : decode cX2_beside 19 = .ok (.iaload, 1) := by decide +kernel
theorem dX2_beside_20 : decode cX2_beside 20 = .ok (.iadd, 1) := by decide +kernel
theorem dX2_beside_21 : decode cX2_beside 21 = .ok (.invokevirtual 41, 3) := by decide +kernel
theorem dX2_beside_24 : decode cX2_beside 24 = .ok (.ireturn, 1) := by decide +kernel
theorem dX2_isTaken_0 : decode cX2_isTaken 0 = .ok (.aload_n 0, 1) := by decide +kernel
theorem dX2_isTaken_1 : decode cX2_isTaken 1 = .ok (.getfield 25, 3) := by decide +kernel
theorem dX2_isTaken_4 : decode cX2_isTaken 4 = .ok (.iload_n 1, 1) := by decide +kernel
theorem dX2_isTaken_5 : decode cX2_isTaken 5 = .ok (.iaload, 1) := by decide +kernel
theorem dX2_isTaken_6 : decode cX2_isTaken 6 = .ok (.iconst (-1), 1) := by decide +kernel
theorem dX2_isTaken_7 : decode cX2_isTaken 7 = .ok (.if_icmp .eq 7, 3) := by decide +kernel
theorem dX2_isTaken_10 : decode cX2_isTaken 10 = .ok (.iconst 1, 1) := by decide +kernel
theorem dX2_isTaken_11 : decode cX2_isTaken 11 = .ok (.goto 4, 3) := by decide +kernel
theorem dX2_isTaken_14 : decode cX2_isTaken 14 = .ok (.iconst 0, 1) := by decide +kernel
theorem dX2_isTaken_15 : decode cX2_isTaken 15 = .ok (.ireturn, 1) := by decide +kernel
theorem dX2_isKept_0 : decode cX2_isKept 0 = .ok (.aload_n 0, 1) := by decide +kernel
theorem dX2_isKept_1 : decode cX2_isKept 1 = .ok (.getfield 9, 3) := by decide +kernel
theorem dX2_isKept_4 : decode cX2_isKept 4 = .ok (.iload_n 1, 1) := by decide +kernel
theorem dX2_isKept_5 : decode cX2_isKept 5 = .ok (.iaload, 1) := by decide +kernel
theorem dX2_isKept_6 : decode cX2_isKept 6 = .ok (.iload_n 2, 1) := by decide +kernel
theorem dX2_isKept_7 : decode cX2_isKept 7 = .ok (.if_icmp .ne 17, 3) := by decide +kernel
theorem dX2_isKept_10 : decode cX2_isKept 10 = .ok (.aload_n 0, 1) := by decide +kernel
theorem dX2_isKept_11 : decode cX2_isKept 11 = .ok (.getfield 25, 3) := by decide +kernel
theorem dX2_isKept_14 : decode cX2_isKept 14 = .ok (.iload_n 1, 1) := by decide +kernel
theorem dX2_isKept_15 : decode cX2_isKept 15 = .ok (.iaload, 1) := by decide +kernel
theorem dX2_isKept_16 : decode cX2_isKept 16 = .ok (.iconst (-1), 1) := by decide +kernel
theorem dX2_isKept_17 : decode cX2_isKept 17 = .ok (.if_icmp .ne 7, 3) := by decide +kernel
theorem dX2_isKept_20 : decode cX2_isKept 20 = .ok (.iconst 1, 1) := by decide +kernel
theorem dX2_isKept_21 : decode cX2_isKept 21 = .ok (.goto 4, 3) := by decide +kernel
theorem dX2_isKept_24 : decode cX2_isKept 24 = .ok (.iconst 0, 1) := by decide +kernel
theorem dX2_isKept_25 : decode cX2_isKept 25 = .ok (.ireturn, 1) := by decide +kernel
theorem dX2_isInLineOf_0 : decode cX2_isInLineOf 0 = .ok (.aload_n 0, 1) := by decide +kernel
theorem dX2_isInLineOf_1 : decode cX2_isInLineOf 1 = .ok (.getfield 22, 3) := by decide +kernel
theorem dX2_isInLineOf_4 : decode cX2_isInLineOf 4 = .ok (.iload_n 1, 1) := by decide +kernel
theorem dX2_isInLineOf_5 : decode cX2_isInLineOf 5 = .ok (.baload, 1) := by decide +kernel
theorem dX2_isInLineOf_6 : decode cX2_isInLineOf 6 = .ok (.ifCond .eq 17, 3) := by decide +kernel
theorem dX2_isInLineOf_9 : decode cX2_isInLineOf 9 = .ok (.aload_n 0, 1) := by decide +kernel
theorem dX2_isInLineOf_10 : decode cX2_isInLineOf 10 = .ok (.getfield 9, 3) := by decide +kernel
theorem dX2_isInLineOf_13 : decode cX2_isInLineOf 13 = .ok (.iload_n 1, 1) := by decide +kernel
theorem dX2_isInLineOf_14 : decode cX2_isInLineOf 14 = .ok (.iaload, 1) := by decide +kernel
theorem dX2_isInLineOf_15 : decode cX2_isInLineOf 15 = .ok (.iload_n 2, 1) := by decide +kernel
theorem dX2_isInLineOf_16 : decode cX2_isInLineOf 16 = .ok (.if_icmp .ne 7, 3) := by decide +kernel
theorem dX2_isInLineOf_19 : decode cX2_isInLineOf 19 = .ok (.iconst 1, 1) := by decide +kernel
theorem dX2_isInLineOf_20 : decode cX2_isInLineOf 20 = .ok (.goto 4, 3) := by decide +kernel
theorem dX2_isInLineOf_23 : decode cX2_isInLineOf 23 = .ok (.iconst 0, 1) := by decide +kernel
theorem dX2_isInLineOf_24 : decode cX2_isInLineOf 24 = .ok (.ireturn, 1) := by decide +kernel
theorem dX2_isOpenLane_0 : decode cX2_isOpenLane 0 = .ok (.aload_n 0, 1) := by decide +kernel
theorem dX2_isOpenLane_1 : decode cX2_isOpenLane 1 = .ok (.getfield 18, 3) := by decide +kernel
theorem dX2_isOpenLane_4 : decode cX2_isOpenLane 4 = .ok (.iload_n 1, 1) := by decide +kernel
theorem dX2_isOpenLane_5 : decode cX2_isOpenLane 5 = .ok (.baload, 1) := by decide +kernel
theorem dX2_isOpenLane_6 : decode cX2_isOpenLane 6 = .ok (.ifCond .eq 17, 3) := by decide +kernel
theorem dX2_isOpenLane_9 : decode cX2_isOpenLane 9 = .ok (.aload_n 0, 1) := by decide +kernel
theorem dX2_isOpenLane_10 : decode cX2_isOpenLane 10 = .ok (.getfield 25, 3) := by decide +kernel
theorem dX2_isOpenLane_13 : decode cX2_isOpenLane 13 = .ok (.iload_n 1, 1) := by decide +kernel
theorem dX2_isOpenLane_14 : decode cX2_isOpenLane 14 = .ok (.iaload, 1) := by decide +kernel
theorem dX2_isOpenLane_15 : decode cX2_isOpenLane 15 = .ok (.iconst (-1), 1) := by decide +kernel
theorem dX2_isOpenLane_16 : decode cX2_isOpenLane 16 = .ok (.if_icmp .ne 7, 3) := by decide +kernel
theorem dX2_isOpenLane_19 : decode cX2_isOpenLane 19 = .ok (.iconst 1, 1) := by decide +kernel
theorem dX2_isOpenLane_20 : decode cX2_isOpenLane 20 = .ok (.goto 4, 3) := by decide +kernel
theorem dX2_isOpenLane_23 : decode cX2_isOpenLane 23 = .ok (.iconst 0, 1) := by decide +kernel
theorem dX2_isOpenLane_24 : decode cX2_isOpenLane 24 = .ok (.ireturn, 1) := by decide +kernel
theorem dX2_cellsInLine_0 : decode cX2_cellsInLine 0 = .ok (.iconst 0, 1) := by decide +kernel
theorem dX2_cellsInLine_1 : decode cX2_cellsInLine 1 = .ok (.istore_n 2, 1) := by decide +kernel
theorem dX2_cellsInLine_2 : decode cX2_cellsInLine 2 = .ok (.iconst 0, 1) := by decide +kernel
theorem dX2_cellsInLine_3 : decode cX2_cellsInLine 3 = .ok (.istore_n 3, 1) := by decide +kernel
theorem dX2_cellsInLine_4 : decode cX2_cellsInLine 4 = .ok (.iload_n 3, 1) := by decide +kernel
theorem dX2_cellsInLine_5 : decode cX2_cellsInLine 5 = .ok (.sipush 256, 3) := by decide +kernel
theorem dX2_cellsInLine_8 : decode cX2_cellsInLine 8 = .ok (.if_icmp .ge 26, 3) := by decide +kernel
theorem dX2_cellsInLine_11 : decode cX2_cellsInLine 11 = .ok (.iload_n 2, 1) := by decide +kernel
theorem dX2_cellsInLine_12 : decode cX2_cellsInLine 12 = .ok (.aload_n 0, 1) := by decide +kernel
theorem dX2_cellsInLine_13 : decode cX2_cellsInLine 13 = .ok (.iload_n 3, 1) := by decide +kernel
theorem dX2_cellsInLine_14 : decode cX2_cellsInLine 14 = .ok (.iload_n 1, 1) := by decide +kernel
theorem dX2_cellsInLine_15 : decode cX2_cellsInLine 15 = .ok (.invokevirtual 45, 3) := by decide +kernel
theorem dX2_cellsInLine_18 : decode cX2_cellsInLine 18 = .ok (.ifCond .eq 7, 3) := by decide +kernel
theorem dX2_cellsInLine_21 : decode cX2_cellsInLine 21 = .ok (.iconst 1, 1) := by decide +kernel
theorem dX2_cellsInLine_22 : decode cX2_cellsInLine 22 = .ok (.goto 4, 3) := by decide +kernel
theorem dX2_cellsInLine_25 : decode cX2_cellsInLine 25 = .ok (.iconst 0, 1) := by decide +kernel
theorem dX2_cellsInLine_26 : decode cX2_cellsInLine 26 = .ok (.iadd, 1) := by decide +kernel
theorem dX2_cellsInLine_27 : decode cX2_cellsInLine 27 = .ok (.istore_n 2, 1) := by decide +kernel
theorem dX2_cellsInLine_28 : decode cX2_cellsInLine 28 = .ok (.iinc 3 1, 3) := by decide +kernel
theorem dX2_cellsInLine_31 : decode cX2_cellsInLine 31 = .ok (.goto (-27), 3) := by decide +kernel
theorem dX2_cellsInLine_34 : decode cX2_cellsInLine 34 = .ok (.iload_n 2, 1) := by decide +kernel
theorem dX2_cellsInLine_35 : decode cX2_cellsInLine 35 = .ok (.ireturn, 1) := by decide +kernel
theorem dX2_cellsChosen_0 : decode cX2_cellsChosen 0 = .ok (.iconst 0, 1) := by decide +kernel
theorem dX2_cellsChosen_1 : decode cX2_cellsChosen 1 = .ok (.istore_n 1, 1) := by decide +kernel
theorem dX2_cellsChosen_2 : decode cX2_cellsChosen 2 = .ok (.iconst 0, 1) := by decide +kernel
theorem dX2_cellsChosen_3 : decode cX2_cellsChosen 3 = .ok (.istore_n 2, 1) := by decide +kernel
theorem dX2_cellsChosen_4 : decode cX2_cellsChosen 4 = .ok (.iload_n 2, 1) := by decide +kernel
theorem dX2_cellsChosen_5 : decode cX2_cellsChosen 5 = .ok (.sipush 256, 3) := by decide +kernel
theorem dX2_cellsChosen_8 : decode cX2_cellsChosen 8 = .ok (.if_icmp .ge 26, 3) := by decide +kernel
theorem dX2_cellsChosen_11 : decode cX2_cellsChosen 11 = .ok (.iload_n 1, 1) := by decide +kernel
theorem dX2_cellsChosen_12 : decode cX2_cellsChosen 12 = .ok (.aload_n 0, 1) := by decide +kernel
theorem dX2_cellsChosen_13 : decode cX2_cellsChosen 13 = .ok (.getfield 22, 3) := by decide +kernel
theorem dX2_cellsChosen_16 : decode cX2_cellsChosen 16 = .ok (.iload_n 2, 1) := by decide +kernel
theorem dX2_cellsChosen_17 : decode cX2_cellsChosen 17 = .ok (.baload, 1) := by decide +kernel
theorem dX2_cellsChosen_18 : decode cX2_cellsChosen 18 = .ok (.ifCond .eq 7, 3) := by decide +kernel
theorem dX2_cellsChosen_21 : decode cX2_cellsChosen 21 = .ok (.iconst 1, 1) := by decide +kernel
theorem dX2_cellsChosen_22 : decode cX2_cellsChosen 22 = .ok (.goto 4, 3) := by decide +kernel
theorem dX2_cellsChosen_25 : decode cX2_cellsChosen 25 = .ok (.iconst 0, 1) := by decide +kernel
theorem dX2_cellsChosen_26 : decode cX2_cellsChosen 26 = .ok (.iadd, 1) := by decide +kernel
theorem dX2_cellsChosen_27 : decode cX2_cellsChosen 27 = .ok (.istore_n 1, 1) := by decide +kernel
theorem dX2_cellsChosen_28 : decode cX2_cellsChosen 28 = .ok (.iinc 2 1, 3) := by decide +kernel
theorem dX2_cellsChosen_31 : decode cX2_cellsChosen 31 = .ok (.goto (-27), 3) := by decide +kernel
theorem dX2_cellsChosen_34 : decode cX2_cellsChosen 34 = .ok (.iload_n 1, 1) := by decide +kernel
theorem dX2_cellsChosen_35 : decode cX2_cellsChosen 35 = .ok (.ireturn, 1) := by decide +kernel
theorem dX2_cellsTaken_0 : decode cX2_cellsTaken 0 = .ok (.iconst 0, 1) := by decide +kernel
theorem dX2_cellsTaken_1 : decode cX2_cellsTaken 1 = .ok (.istore_n 1, 1) := by decide +kernel
theorem dX2_cellsTaken_2 : decode cX2_cellsTaken 2 = .ok (.iconst 0, 1) := by decide +kernel
theorem dX2_cellsTaken_3 : decode cX2_cellsTaken 3 = .ok (.istore_n 2, 1) := by decide +kernel
theorem dX2_cellsTaken_4 : decode cX2_cellsTaken 4 = .ok (.iload_n 2, 1) := by decide +kernel
theorem dX2_cellsTaken_5 : decode cX2_cellsTaken 5 = .ok (.sipush 256, 3) := by decide +kernel
theorem dX2_cellsTaken_8 : decode cX2_cellsTaken 8 = .ok (.if_icmp .ge 25, 3) := by decide +kernel
theorem dX2_cellsTaken_11 : decode cX2_cellsTaken 11 = .ok (.iload_n 1, 1) := by decide +kernel
theorem dX2_cellsTaken_12 : decode cX2_cellsTaken 12 = .ok (.aload_n 0, 1) := by decide +kernel
theorem dX2_cellsTaken_13 : decode cX2_cellsTaken 13 = .ok (.iload_n 2, 1) := by decide +kernel
theorem dX2_cellsTaken_14 : decode cX2_cellsTaken 14 = .ok (.invokevirtual 49, 3) := by decide +kernel
theorem dX2_cellsTaken_17 : decode cX2_cellsTaken 17 = .ok (.ifCond .eq 7, 3) := by decide +kernel
theorem dX2_cellsTaken_20 : decode cX2_cellsTaken 20 = .ok (.iconst 1, 1) := by decide +kernel
theorem dX2_cellsTaken_21 : decode cX2_cellsTaken 21 = .ok (.goto 4, 3) := by decide +kernel
theorem dX2_cellsTaken_24 : decode cX2_cellsTaken 24 = .ok (.iconst 0, 1) := by decide +kernel
theorem dX2_cellsTaken_25 : decode cX2_cellsTaken 25 = .ok (.iadd, 1) := by decide +kernel
theorem dX2_cellsTaken_26 : decode cX2_cellsTaken 26 = .ok (.istore_n 1, 1) := by decide +kernel
theorem dX2_cellsTaken_27 : decode cX2_cellsTaken 27 = .ok (.iinc 2 1, 3) := by decide +kernel
theorem dX2_cellsTaken_30 : decode cX2_cellsTaken 30 = .ok (.goto (-26), 3) := by decide +kernel
theorem dX2_cellsTaken_33 : decode cX2_cellsTaken 33 = .ok (.iload_n 1, 1) := by decide +kernel
theorem dX2_cellsTaken_34 : decode cX2_cellsTaken 34 = .ok (.ireturn, 1) := by decide +kernel
theorem dX2_takeLine_0 : decode cX2_takeLine 0 = .ok (.iconst 0, 1) := by decide +kernel
theorem dX2_takeLine_1 : decode cX2_takeLine 1 = .ok (.istore_n 3, 1) := by decide +kernel
theorem dX2_takeLine_2 : decode cX2_takeLine 2 = .ok (.iload_n 3, 1) := by decide +kernel
theorem dX2_takeLine_3 : decode cX2_takeLine 3 = .ok (.sipush 256, 3) := by decide +kernel
theorem dX2_takeLine_6 : decode cX2_takeLine 6 = .ok (.if_icmp .ge 25, 3) := by decide +kernel
theorem dX2_takeLine_9 : decode cX2_takeLine 9 = .ok (.aload_n 0, 1) := by decide +kernel
theorem dX2_takeLine_10 : decode cX2_takeLine 10 = .ok (.iload_n 3, 1) := by decide +kernel
theorem dX2_takeLine_11 : decode cX2_takeLine 11 = .ok (.iload_n 1, 1) := by decide +kernel
theorem dX2_takeLine_12 : decode cX2_takeLine 12 = .ok (.invokevirtual 45, 3) := by decide +kernel
theorem dX2_takeLine_15 : decode cX2_takeLine 15 = .ok (.ifCond .eq 10, 3) := by decide +kernel
theorem dX2_takeLine_18 : decode cX2_takeLine 18 = .ok (.aload_n 0, 1) := by decide +kernel
theorem dX2_takeLine_19 : decode cX2_takeLine 19 = .ok (.getfield 25, 3) := by decide +kernel
theorem dX2_takeLine_22 : decode cX2_takeLine 22 = .ok (.iload_n 3, 1) := by decide +kernel
theorem dX2_takeLine_23 : decode cX2_takeLine 23 = .ok (.iload_n 2, 1) := by decide +kernel
theorem dX2_takeLine_24 : decode cX2_takeLine 24 = .ok (.iastore, 1) := by decide +kernel
theorem dX2_takeLine_25 : decode cX2_takeLine 25 = .ok (.iinc 3 1, 3) := by decide +kernel
theorem dX2_takeLine_28 : decode cX2_takeLine 28 = .ok (.goto (-26), 3) := by decide +kernel
theorem dX2_takeLine_31 : decode cX2_takeLine 31 = .ok (.return_, 1) := by decide +kernel
theorem dX2_giveBack_0 : decode cX2_giveBack 0 = .ok (.iconst 0, 1) := by decide +kernel
theorem dX2_giveBack_1 : decode cX2_giveBack 1 = .ok (.istore_n 2, 1) := by decide +kernel
theorem dX2_giveBack_2 : decode cX2_giveBack 2 = .ok (.iload_n 2, 1) := by decide +kernel
theorem dX2_giveBack_3 : decode cX2_giveBack 3 = .ok (.sipush 256, 3) := by decide +kernel
theorem dX2_giveBack_6 : decode cX2_giveBack 6 = .ok (.if_icmp .ge 26, 3) := by decide +kernel
theorem dX2_giveBack_9 : decode cX2_giveBack 9 = .ok (.aload_n 0, 1) := by decide +kernel
theorem dX2_giveBack_10 : decode cX2_giveBack 10 = .ok (.getfield 25, 3) := by decide +kernel
theorem dX2_giveBack_13 : decode cX2_giveBack 13 = .ok (.iload_n 2, 1) := by decide +kernel
theorem dX2_giveBack_14 : decode cX2_giveBack 14 = .ok (.iaload, 1) := by decide +kernel
theorem dX2_giveBack_15 : decode cX2_giveBack 15 = .ok (.iload_n 1, 1) := by decide +kernel
theorem dX2_giveBack_16 : decode cX2_giveBack 16 = .ok (.if_icmp .ne 10, 3) := by decide +kernel
theorem dX2_giveBack_19 : decode cX2_giveBack 19 = .ok (.aload_n 0, 1) := by decide +kernel
theorem dX2_giveBack_20 : decode cX2_giveBack 20 = .ok (.getfield 25, 3) := by decide +kernel
theorem dX2_giveBack_23 : decode cX2_giveBack 23 = .ok (.iload_n 2, 1) := by decide +kernel
theorem dX2_giveBack_24 : decode cX2_giveBack 24 = .ok (.iconst (-1), 1) := by decide +kernel
theorem dX2_giveBack_25 : decode cX2_giveBack 25 = .ok (.iastore, 1) := by decide +kernel
theorem dX2_giveBack_26 : decode cX2_giveBack 26 = .ok (.iinc 2 1, 3) := by decide +kernel
theorem dX2_giveBack_29 : decode cX2_giveBack 29 = .ok (.goto (-27), 3) := by decide +kernel
theorem dX2_giveBack_32 : decode cX2_giveBack 32 = .ok (.return_, 1) := by decide +kernel
theorem dX2_emptyLine_0 : decode cX2_emptyLine 0 = .ok (.iconst 0, 1) := by decide +kernel
theorem dX2_emptyLine_1 : decode cX2_emptyLine 1 = .ok (.istore_n 1, 1) := by decide +kernel
theorem dX2_emptyLine_2 : decode cX2_emptyLine 2 = .ok (.iload_n 1, 1) := by decide +kernel
theorem dX2_emptyLine_3 : decode cX2_emptyLine 3 = .ok (.sipush 256, 3) := by decide +kernel
theorem dX2_emptyLine_6 : decode cX2_emptyLine 6 = .ok (.if_icmp .ge 16, 3) := by decide +kernel
theorem dX2_emptyLine_9 : decode cX2_emptyLine 9 = .ok (.aload_n 0, 1) := by decide +kernel
theorem dX2_emptyLine_10 : decode cX2_emptyLine 10 = .ok (.getfield 22, 3) := by decide +kernel
theorem dX2_emptyLine_13 : decode cX2_emptyLine 13 = .ok (.iload_n 1, 1) := by decide +kernel
theorem dX2_emptyLine_14 : decode cX2_emptyLine 14 = .ok (.iconst 0, 1) := by decide +kernel
theorem dX2_emptyLine_15 : decode cX2_emptyLine 15 = .ok (.bastore, 1) := by decide +kernel
theorem dX2_emptyLine_16 : decode cX2_emptyLine 16 = .ok (.iinc 1 1, 3) := by decide +kernel
theorem dX2_emptyLine_19 : decode cX2_emptyLine 19 = .ok (.goto (-17), 3) := by decide +kernel
theorem dX2_emptyLine_22 : decode cX2_emptyLine 22 = .ok (.return_, 1) := by decide +kernel
theorem dX2_worthInLine_0 : decode cX2_worthInLine 0 = .ok (.lconst 0, 1) := by decide +kernel
theorem dX2_worthInLine_1 : decode cX2_worthInLine 1 = .ok (.lstore_n 3, 1) := by decide +kernel
theorem dX2_worthInLine_2 : decode cX2_worthInLine 2 = .ok (.iconst 0, 1) := by decide +kernel
theorem dX2_worthInLine_3 : decode cX2_worthInLine 3 = .ok (.istore 5, 2) := by decide +kernel
theorem dX2_worthInLine_5 : decode cX2_worthInLine 5 = .ok (.iload 5, 2) := by decide +kernel
theorem dX2_worthInLine_7 : decode cX2_worthInLine 7 = .ok (.sipush 256, 3) := by decide +kernel
theorem dX2_worthInLine_10 : decode cX2_worthInLine 10 = .ok (.if_icmp .ge 30, 3) := by decide +kernel
theorem dX2_worthInLine_13 : decode cX2_worthInLine 13 = .ok (.aload_n 0, 1) := by decide +kernel
theorem dX2_worthInLine_14 : decode cX2_worthInLine 14 = .ok (.iload 5, 2) := by decide +kernel
theorem dX2_worthInLine_16 : decode cX2_worthInLine 16 = .ok (.iload_n 1, 1) := by decide +kernel
theorem dX2_worthInLine_17 : decode cX2_worthInLine 17 = .ok (.invokevirtual 45, 3) := by decide +kernel
theorem dX2_worthInLine_20 : decode cX2_worthInLine 20 = .ok (.ifCond .eq 14, 3) := by decide +kernel
theorem dX2_worthInLine_23 : decode cX2_worthInLine 23 = .ok (.lload_n 3, 1) := by decide +kernel
theorem dX2_worthInLine_24 : decode cX2_worthInLine 24 = .ok (.aload_n 0, 1) := by decide +kernel
theorem dX2_worthInLine_25 : decode cX2_worthInLine 25 = .ok (.iload 5, 2) := by decide +kernel
theorem dX2_worthInLine_27 : decode cX2_worthInLine 27 = .ok (.aload_n 2, 1) := by decide +kernel
theorem dX2_worthInLine_28 : decode cX2_worthInLine 28 = .ok (.invokevirtual 53, 3) := by decide +kernel
theorem dX2_worthInLine_31 : decode cX2_worthInLine 31 = .ok (.i2l, 1) := by decide +kernel
theorem dX2_worthInLine_32 : decode cX2_worthInLine 32 = .ok (.ladd, 1) := by decide +kernel
theorem dX2_worthInLine_33 : decode cX2_worthInLine 33 = .ok (.lstore_n 3, 1) := by decide +kernel
theorem dX2_worthInLine_34 : decode cX2_worthInLine 34 = .ok (.iinc 5 1, 3) := by decide +kernel
theorem dX2_worthInLine_37 : decode cX2_worthInLine 37 = .ok (.goto (-32), 3) := by decide +kernel
theorem dX2_worthInLine_40 : decode cX2_worthInLine 40 = .ok (.lload_n 3, 1) := by decide +kernel
theorem dX2_worthInLine_41 : decode cX2_worthInLine 41 = .ok (.lreturn, 1) := by decide +kernel
theorem dX2_priceAt_0 : decode cX2_priceAt 0 = .ok (.aload_n 0, 1) := by decide +kernel
theorem dX2_priceAt_1 : decode cX2_priceAt 1 = .ok (.getfield 15, 3) := by decide +kernel
theorem dX2_priceAt_4 : decode cX2_priceAt 4 = .ok (.iload_n 1, 1) := by decide +kernel
theorem dX2_priceAt_5 : decode cX2_priceAt 5 = .ok (.iaload, 1) := by decide +kernel
theorem dX2_priceAt_6 : decode cX2_priceAt 6 = .ok (.istore_n 3, 1) := by decide +kernel
theorem dX2_priceAt_7 : decode cX2_priceAt 7 = .ok (.iload_n 3, 1) := by decide +kernel
theorem dX2_priceAt_8 : decode cX2_priceAt 8 = .ok (.ifCond .lt 15, 3) := by decide +kernel
theorem dX2_priceAt_11 : decode cX2_priceAt 11 = .ok (.iload_n 3, 1) := by decide +kernel
theorem dX2_priceAt_12 : decode cX2_priceAt 12 = .ok (.aload_n 2, 1) := by decide +kernel
theorem dX2_priceAt_13 : decode cX2_priceAt 13 = .ok (.arraylength, 1) := by decide +kernel
theorem dX2_priceAt_14 : decode cX2_priceAt 14 = .ok (.if_icmp .ge 9, 3) := by decide +kernel
theorem dX2_priceAt_17 : decode cX2_priceAt 17 = .ok (.aload_n 2, 1) := by decide +kernel
theorem dX2_priceAt_18 : decode cX2_priceAt 18 = .ok (.iload_n 3, 1) := by decide +kernel
theorem dX2_priceAt_19 : decode cX2_priceAt 19 = .ok (.iaload, 1) := by decide +kernel
theorem dX2_priceAt_20 : decode cX2_priceAt 20 = .ok (.goto 4, 3) := by decide +kernel
theorem dX2_priceAt_23 : decode cX2_priceAt 23 = .ok (.iconst 0, 1) := by decide +kernel
theorem dX2_priceAt_24 : decode cX2_priceAt 24 = .ok (.ireturn, 1) := by decide +kernel
theorem dX2_fenceSides_0 : decode cX2_fenceSides 0 = .ok (.iconst 0, 1) := by decide +kernel
theorem dX2_fenceSides_1 : decode cX2_fenceSides 1 = .ok (.istore_n 2, 1) := by decide +kernel
theorem dX2_fenceSides_2 : decode cX2_fenceSides 2 = .ok (.iconst 0, 1) := by decide +kernel
theorem dX2_fenceSides_3 : decode cX2_fenceSides 3 = .ok (.istore_n 3, 1) := by decide +kernel
theorem dX2_fenceSides_4 : decode cX2_fenceSides 4 = .ok (.iload_n 3, 1) := by decide +kernel
theorem dX2_fenceSides_5 : decode cX2_fenceSides 5 = .ok (.sipush 256, 3) := by decide +kernel
theorem dX2_fenceSides_8 : decode cX2_fenceSides 8 = .ok (.if_icmp .ge 27, 3) := by decide +kernel
theorem dX2_fenceSides_11 : decode cX2_fenceSides 11 = .ok (.aload_n 0, 1) := by decide +kernel
theorem dX2_fenceSides_12 : decode cX2_fenceSides 12 = .ok (.iload_n 3, 1) := by decide +kernel
theorem dX2_fenceSides_13 : decode cX2_fenceSides 13 = .ok (.iload_n 1, 1) := by decide +kernel
theorem dX2_fenceSides_14 : decode cX2_fenceSides 14 = .ok (.invokevirtual 45, 3) := by decide +kernel
theorem dX2_fenceSides_17 : decode cX2_fenceSides 17 = .ok (.ifCond .eq 12, 3) := by decide +kernel
theorem dX2_fenceSides_20 : decode cX2_fenceSides 20 = .ok (.iload_n 2, 1) := by decide +kernel
theorem dX2_fenceSides_21 : decode cX2_fenceSides 21 = .ok (.aload_n 0, 1) := by decide +kernel
theorem dX2_fenceSides_22 : decode cX2_fenceSides 22 = .ok (.iload_n 3, 1) := by decide +kernel
theorem dX2_fenceSides_23 : decode cX2_fenceSides 23 = .ok (.iload_n 1, 1) := by decide +kernel
theorem dX2_fenceSides_24 : decode cX2_fenceSides 24 = .ok (.invokevirtual 57, 3) := by decide +kernel
theorem dX2_fenceSides_27 : decode cX2_fenceSides 27 = .ok (.iadd, 1) := by decide +kernel
theorem dX2_fenceSides_28 : decode cX2_fenceSides 28 = .ok (.istore_n 2, 1) := by decide +kernel
theorem dX2_fenceSides_29 : decode cX2_fenceSides 29 = .ok (.iinc 3 1, 3) := by decide +kernel
theorem dX2_fenceSides_32 : decode cX2_fenceSides 32 = .ok (.goto (-28), 3) := by decide +kernel
theorem dX2_fenceSides_35 : decode cX2_fenceSides 35 = .ok (.iload_n 2, 1) := by decide +kernel
theorem dX2_fenceSides_36 : decode cX2_fenceSides 36 = .ok (.ireturn, 1) := by decide +kernel
theorem dX2_keptSides_0 : decode cX2_keptSides 0 = .ok (.iconst 0, 1) := by decide +kernel
theorem dX2_keptSides_1 : decode cX2_keptSides 1 = .ok (.istore_n 3, 1) := by decide +kernel
theorem dX2_keptSides_2 : decode cX2_keptSides 2 = .ok (.iconst 0, 1) := by decide +kernel
theorem dX2_keptSides_3 : decode cX2_keptSides 3 = .ok (.istore 4, 2) := by decide +kernel
theorem dX2_keptSides_5 : decode cX2_keptSides 5 = .ok (.iload 4, 2) := by decide +kernel
theorem dX2_keptSides_7 : decode cX2_keptSides 7 = .ok (.iconst 4, 1) := by decide +kernel
theorem dX2_keptSides_8 : decode cX2_keptSides 8 = .ok (.if_icmp .ge 37, 3) := by decide +kernel
theorem dX2_keptSides_11 : decode cX2_keptSides 11 = .ok (.aload_n 0, 1) := by decide +kernel
theorem dX2_keptSides_12 : decode cX2_keptSides 12 = .ok (.iload_n 1, 1) := by decide +kernel
theorem dX2_keptSides_13 : decode cX2_keptSides 13 = .ok (.iload 4, 2) := by decide +kernel
theorem dX2_keptSides_15 : decode cX2_keptSides 15 = .ok (.invokevirtual 60, 3) := by decide +kernel
theorem dX2_keptSides_18 : decode cX2_keptSides 18 = .ok (.istore 5, 2) := by decide +kernel
theorem dX2_keptSides_20 : decode cX2_keptSides 20 = .ok (.iload 5, 2) := by decide +kernel
theorem dX2_keptSides_22 : decode cX2_keptSides 22 = .ok (.iconst (-1), 1) := by decide +kernel
theorem dX2_keptSides_23 : decode cX2_keptSides 23 = .ok (.if_icmp .eq 16, 3) := by decide +kernel
theorem dX2_keptSides_26 : decode cX2_keptSides 26 = .ok (.aload_n 0, 1) := by decide +kernel
theorem dX2_keptSides_27 : decode cX2_keptSides 27 = .ok (.iload 5, 2) := by decide +kernel
theorem dX2_keptSides_29 : decode cX2_keptSides 29 = .ok (.iload_n 2, 1) := by decide +kernel
theorem dX2_keptSides_30 : decode cX2_keptSides 30 = .ok (.invokevirtual 63, 3) := by decide +kernel
theorem dX2_keptSides_33 : decode cX2_keptSides 33 = .ok (.ifCond .eq 6, 3) := by decide +kernel
theorem dX2_keptSides_36 : decode cX2_keptSides 36 = .ok (.iinc 3 1, 3) := by decide +kernel
theorem dX2_keptSides_39 : decode cX2_keptSides 39 = .ok (.iinc 4 1, 3) := by decide +kernel
theorem dX2_keptSides_42 : decode cX2_keptSides 42 = .ok (.goto (-37), 3) := by decide +kernel
theorem dX2_keptSides_45 : decode cX2_keptSides 45 = .ok (.iload_n 3, 1) := by decide +kernel
theorem dX2_keptSides_46 : decode cX2_keptSides 46 = .ok (.ireturn, 1) := by decide +kernel
theorem dX3_init_0 : decode cX3_init 0 = .ok (.aload_n 0, 1) := by decide +kernel
theorem dX3_init_1 : decode cX3_init 1 = .ok (.invokespecial 3, 3) := by decide +kernel
theorem dX3_init_4 : decode cX3_init 4 = .ok (.aload_n 0, 1) := by decide +kernel
theorem dX3_init_5 : decode cX3_init 5 = .ok (.bipush 12, 2) := by decide +kernel
theorem dX3_init_7 : decode cX3_init 7 = .ok (.anewarray 9, 3) := by decide +kernel
theorem dX3_init_10 : decode cX3_init 10 = .ok (.putfield 11, 3) := by decide +kernel
theorem dX3_init_13 : decode cX3_init 13 = .ok (.return_, 1) := by decide +kernel
theorem dX3_begin_0 : decode cX3_begin 0 = .ok (.aload_n 0, 1) := by decide +kernel
theorem dX3_begin_1 : decode cX3_begin 1 = .ok (.iload_n 1, 1) := by decide +kernel
theorem dX3_begin_2 : decode cX3_begin 2 = .ok (.putfield 17, 3) := by decide +kernel
theorem dX3_begin_5 : decode cX3_begin 5 = .ok (.aload_n 0, 1) := by decide +kernel
theorem dX3_begin_6 : decode cX3_begin 6 = .ok (.iload_n 2, 1) := by decide +kernel
theorem dX3_begin_7 : decode cX3_begin 7 = .ok (.putfield 21, 3) := by decide +kernel
theorem dX3_begin_10 : decode cX3_begin 10 = .ok (.aload_n 0, 1) := by decide +kernel
theorem dX3_begin_11 : decode cX3_begin 11 = .ok (.iconst 0, 1) := by decide +kernel
theorem dX3_begin_12 : decode cX3_begin 12 = .ok (.putfield 24, 3) := by decide +kernel
theorem dX3_begin_15 : decode cX3_begin 15 = .ok (.return_, 1) := by decide +kernel
theorem dX3_addCase_0 : decode cX3_addCase 0 = .ok (.aload_n 0, 1) := by decide +kernel
theorem dX3_addCase_1 : decode cX3_addCase 1 = .ok (.getfield 24, 3) := by decide +kernel
theorem dX3_addCase_4 : decode cX3_addCase 4 = .ok (.bipush 12, 2) := by decide +kernel
theorem dX3_addCase_6 : decode cX3_addCase 6 = .ok (.if_icmp .lt 4, 3) := by decide +kernel
theorem dX3_addCase_9 : decode cX3_addCase 9 = .ok (.return_, 1) := by decide +kernel
theorem dX3_addCase_10 : decode cX3_addCase 10 = .ok (.aload_n 0, 1) := by decide +kernel
theorem dX3_addCase_11 : decode cX3_addCase 11 = .ok (.getfield 11, 3) := by decide +kernel
theorem dX3_addCase_14 : decode cX3_addCase 14 = .ok (.aload_n 0, 1) := by decide +kernel
theorem dX3_addCase_15 : decode cX3_addCase 15 = .ok (.getfield 24, 3) := by decide +kernel
theorem dX3_addCase_18 : decode cX3_addCase 18 = .ok (.aaload, 1) := by decide +kernel
theorem dX3_addCase_19 : decode cX3_addCase 19 = .ok (.astore_n 3, 1) := by decide +kernel
theorem dX3_addCase_20 : decode cX3_addCase 20 = .ok (.aload_n 3, 1) := by decide +kernel
theorem dX3_addCase_21 : decode cX3_addCase 21 = .ok (.ifnonnull 21, 3) := by decide +kernel
theorem dX3_addCase_24 : decode cX3_addCase 24 = .ok (.new 9, 3) := by decide +kernel
theorem dX3_addCase_27 : decode cX3_addCase 27 = .ok (.dup, 1) := by decide +kernel
theorem dX3_addCase_28 : decode cX3_addCase 28 = .ok (.invokespecial 27, 3) := by decide +kernel
theorem dX3_addCase_31 : decode cX3_addCase 31 = .ok (.astore_n 3, 1) := by decide +kernel
theorem dX3_addCase_32 : decode cX3_addCase 32 = .ok (.aload_n 0, 1) := by decide +kernel
theorem dX3_addCase_33 : decode cX3_addCase 33 = .ok (.getfield 11, 3) := by decide +kernel
theorem dX3_addCase_36 : decode cX3_addCase 36 = .ok (.aload_n 0, 1) := by decide +kernel
theorem dX3_addCase_37 : decode cX3_addCase 37 = .ok (.getfield 24, 3) := by decide +kernel
theorem dX3_addCase_40 : decode cX3_addCase 40 = .ok (.aload_n 3, 1) := by decide +kernel
theorem dX3_addCase_41 : decode cX3_addCase 41 = .ok (.aastore, 1) := by decide +kernel
theorem dX3_addCase_42 : decode cX3_addCase 42 = .ok (.aload_n 0, 1) := by decide +kernel
theorem dX3_addCase_43 : decode cX3_addCase 43 = .ok (.dup, 1) := by decide +kernel
theorem dX3_addCase_44 : decode cX3_addCase 44 = .ok (.getfield 24, 3) := by decide +kernel
theorem dX3_addCase_47 : decode cX3_addCase 47 = .ok (.iconst 1, 1) := by decide +kernel
theorem dX3_addCase_48 : decode cX3_addCase 48 = .ok (.iadd, 1) := by decide +kernel
theorem dX3_addCase_49 : decode cX3_addCase 49 = .ok (.putfield 24, 3) := by decide +kernel
theorem dX3_addCase_52 : decode cX3_addCase 52 = .ok (.aload_n 3, 1) := by decide +kernel
theorem dX3_addCase_53 : decode cX3_addCase 53 = .ok (.iload_n 1, 1) := by decide +kernel
theorem dX3_addCase_54 : decode cX3_addCase 54 = .ok (.iload_n 2, 1) := by decide +kernel
theorem dX3_addCase_55 : decode cX3_addCase 55 = .ok (.invokevirtual 28, 3) := by decide +kernel
theorem dX3_addCase_58 : decode cX3_addCase 58 = .ok (.return_, 1) := by decide +kernel
theorem dX3_caseAt_0 : decode cX3_caseAt 0 = .ok (.iload_n 1, 1) := by decide +kernel
theorem dX3_caseAt_1 : decode cX3_caseAt 1 = .ok (.ifCond .lt 26, 3) := by decide +kernel
theorem dX3_caseAt_4 : decode cX3_caseAt 4 = .ok (.iload_n 1, 1) := by decide +kernel
theorem dX3_caseAt_5 : decode cX3_caseAt 5 = .ok (.aload_n 0, 1) := by decide +kernel
theorem dX3_caseAt_6 : decode cX3_caseAt 6 = .ok (.getfield 24, 3) := by decide +kernel
theorem dX3_caseAt_9 : decode cX3_caseAt 9 = .ok (.if_icmp .ge 18, 3) := by decide +kernel
theorem dX3_caseAt_12 : decode cX3_caseAt 12 = .ok (.iload_n 1, 1) := by decide +kernel
theorem dX3_caseAt_13 : decode cX3_caseAt 13 = .ok (.bipush 12, 2) := by decide +kernel
theorem dX3_caseAt_15 : decode cX3_caseAt 15 = .ok (.if_icmp .ge 12, 3) := by decide +kernel
theorem dX3_caseAt_18 : decode cX3_caseAt 18 = .ok (.aload_n 0, 1) := by decide +kernel
theorem dX3_caseAt_19 : decode cX3_caseAt 19 = .ok (.getfield 11, 3) := by decide +kernel
theorem dX3_caseAt_22 : decode cX3_caseAt 22 = .ok (.iload_n 1, 1) := by decide +kernel
theorem dX3_caseAt_23 : decode cX3_caseAt 23 = .ok (.aaload, 1) := by decide +kernel
theorem dX3_caseAt_24 : decode cX3_caseAt 24 = .ok (.goto 4, 3) := by decide +kernel
theorem dX3_caseAt_27 : decode cX3_caseAt 27 = .ok (.aconst_null, 1) := by decide +kernel
theorem dX3_caseAt_28 : decode cX3_caseAt 28 = .ok (.areturn, 1) := by decide +kernel
theorem dX3_noticeEnd_0 : decode cX3_noticeEnd 0 = .ok (.aload_n 0, 1) := by decide +kernel
theorem dX3_noticeEnd_1 : decode cX3_noticeEnd 1 = .ok (.getfield 17, 3) := by decide +kernel
theorem dX3_noticeEnd_4 : decode cX3_noticeEnd 4 = .ok (.aload_n 0, 1) := by decide +kernel
theorem dX3_noticeEnd_5 : decode cX3_noticeEnd 5 = .ok (.getfield 21, 3) := by decide +kernel
theorem dX3_noticeEnd_8 : decode cX3_noticeEnd 8 = .ok (.iadd, 1) := by decide +kernel
theorem dX3_noticeEnd_9 : decode cX3_noticeEnd 9 = .ok (.ireturn, 1) := by decide +kernel
theorem dX3_hasReady_0 : decode cX3_hasReady 0 = .ok (.iconst 0, 1) := by decide +kernel
theorem dX3_hasReady_1 : decode cX3_hasReady 1 = .ok (.istore_n 1, 1) := by decide +kernel
theorem dX3_hasReady_2 : decode cX3_hasReady 2 = .ok (.iload_n 1, 1) := by decide +kernel
theorem dX3_hasReady_3 : decode cX3_hasReady 3 = .ok (.aload_n 0, 1) := by decide +kernel
theorem dX3_hasReady_4 : decode cX3_hasReady 4 = .ok (.getfield 24, 3) := by decide +kernel
theorem dX3_hasReady_7 : decode cX3_hasReady 7 = .ok (.if_icmp .ge 28, 3) := by decide +kernel
theorem dX3_hasReady_10 : decode cX3_hasReady 10 = .ok (.aload_n 0, 1) := by decide +kernel
theorem dX3_hasReady_11 : decode cX3_hasReady 11 = .ok (.iload_n 1, 1) := by decide +kernel
theorem dX3_hasReady_12 : decode cX3_hasReady 12 = .ok (.invokevirtual 32, 3) := by decide +kernel
theorem dX3_hasReady_15 : decode cX3_hasReady 15 = .ok (.astore_n 2, 1) := by decide +kernel
theorem dX3_hasReady_16 : decode cX3_hasReady 16 = .ok (.aload_n 2, 1) := by decide +kernel
theorem dX3_hasReady_17 : decode cX3_hasReady 17 = .ok (.ifnull 12, 3) := by decide +kernel
theorem dX3_hasReady_20 : decode cX3_hasReady 20 = .ok (.aload_n 2, 1) := by decide +kernel
theorem dX3_hasReady_21 : decode cX3_hasReady 21 = .ok (.invokevirtual 36, 3) := by decide +kernel
theorem dX3_hasReady_24 : decode cX3_hasReady 24 = .ok (.ifCond .eq 5, 3) := by decide +kernel
theorem dX3_hasReady_27 : decode cX3_hasReady 27 = .ok (.iconst 1, 1) := by decide +kernel
theorem dX3_hasReady_28 : decode cX3_hasReady 28 = .ok (.ireturn, 1) := by decide +kernel
theorem dX3_hasReady_29 : decode cX3_hasReady 29 = .ok (.iinc 1 1, 3) := by decide +kernel
theorem dX3_hasReady_32 : decode cX3_hasReady 32 = .ok (.goto (-30), 3) := by decide +kernel
theorem dX3_hasReady_35 : decode cX3_hasReady 35 = .ok (.iconst 0, 1) := by decide +kernel
theorem dX3_hasReady_36 : decode cX3_hasReady 36 = .ok (.ireturn, 1) := by decide +kernel
theorem dX3_isDone_0 : decode cX3_isDone 0 = .ok (.iconst 0, 1) := by decide +kernel
theorem dX3_isDone_1 : decode cX3_isDone 1 = .ok (.istore_n 1, 1) := by decide +kernel
theorem dX3_isDone_2 : decode cX3_isDone 2 = .ok (.iload_n 1, 1) := by decide +kernel
theorem dX3_isDone_3 : decode cX3_isDone 3 = .ok (.aload_n 0, 1) := by decide +kernel
theorem dX3_isDone_4 : decode cX3_isDone 4 = .ok (.getfield 24, 3) := by decide +kernel
theorem dX3_isDone_7 : decode cX3_isDone 7 = .ok (.if_icmp .ge 37, 3) := by decide +kernel
theorem dX3_isDone_10 : decode cX3_isDone 10 = .ok (.aload_n 0, 1) := by decide +kernel
theorem dX3_isDone_11 : decode cX3_isDone 11 = .ok (.iload_n 1, 1) := by decide +kernel
theorem dX3_isDone_12 : decode cX3_isDone 12 = .ok (.invokevirtual 32, 3) := by decide +kernel
theorem dX3_isDone_15 : decode cX3_isDone 15 = .ok (.astore_n 2, 1) := by decide +kernel
theorem dX3_isDone_16 : decode cX3_isDone 16 = .ok (.aload_n 2, 1) := by decide +kernel
theorem dX3_isDone_17 : decode cX3_isDone 17 = .ok (.ifnull 21, 3) := by decide +kernel
theorem dX3_isDone_20 : decode cX3_isDone 20 = .ok (.aload_n 2, 1) := by decide +kernel
theorem dX3_isDone_21 : decode cX3_isDone 21 = .ok (.getfield 40, 3) := by decide +kernel
theorem dX3_isDone_24 : decode cX3_isDone 24 = .ok (.iconst 4, 1) := by decide +kernel
theorem dX3_isDone_25 : decode cX3_isDone 25 = .ok (.if_icmp .eq 13, 3) := by decide +kernel
theorem dX3_isDone_28 : decode cX3_isDone 28 = .ok (.aload_n 2, 1) := by decide +kernel
theorem dX3_isDone_29 : decode cX3_isDone 29 = .ok (.getfield 40, 3) := by decide +kernel
theorem dX3_isDone_32 : decode cX3_isDone 32 = .ok (.iconst 3, 1) := by decide +kernel
theorem dX3_isDone_33 : decode cX3_isDone 33 = .ok (.if_icmp .eq 5, 3) := by decide +kernel
theorem dX3_isDone_36 : decode cX3_isDone 36 = .ok (.iconst 0, 1) := by decide +kernel
theorem dX3_isDone_37 : decode cX3_isDone 37 = .ok (.ireturn, 1) := by decide +kernel
theorem dX3_isDone_38 : decode cX3_isDone 38 = .ok (.iinc 1 1, 3) := by decide +kernel
theorem dX3_isDone_41 : decode cX3_isDone 41 = .ok (.goto (-39), 3) := by decide +kernel
theorem dX3_isDone_44 : decode cX3_isDone 44 = .ok (.iconst 1, 1) := by decide +kernel
theorem dX3_isDone_45 : decode cX3_isDone 45 = .ok (.ireturn, 1) := by decide +kernel
theorem dX3_lossOf_0 : decode cX3_lossOf 0 = .ok (.lconst 0, 1) := by decide +kernel
theorem dX3_lossOf_1 : decode cX3_lossOf 1 = .ok (.lstore_n 2, 1) := by decide +kernel
theorem dX3_lossOf_2 : decode cX3_lossOf 2 = .ok (.iconst 0, 1) := by decide +kernel
theorem dX3_lossOf_3 : decode cX3_lossOf 3 = .ok (.istore 4, 2) := by decide +kernel
theorem dX3_lossOf_5 : decode cX3_lossOf 5 = .ok (.iload 4, 2) := by decide +kernel
theorem dX3_lossOf_7 : decode cX3_lossOf 7 = .ok (.aload_n 0, 1) := by decide +kernel
theorem dX3_lossOf_8 : decode cX3_lossOf 8 = .ok (.getfield 24, 3) := by decide +kernel
theorem dX3_lossOf_11 : decode cX3_lossOf 11 = .ok (.if_icmp .ge 39, 3) := by decide +kernel
theorem dX3_lossOf_14 : decode cX3_lossOf 14 = .ok (.aload_n 0, 1) := by decide +kernel
theorem dX3_lossOf_15 : decode cX3_lossOf 15 = .ok (.iload 4, 2) := by decide +kernel
theorem dX3_lossOf_17 : decode cX3_lossOf 17 = .ok (.invokevirtual 32, 3) := by decide +kernel
theorem dX3_lossOf_20 : decode cX3_lossOf 20 = .ok (.astore 5, 2) := by decide +kernel
theorem dX3_lossOf_22 : decode cX3_lossOf 22 = .ok (.aload 5, 2) := by decide +kernel
theorem dX3_lossOf_24 : decode cX3_lossOf 24 = .ok (.ifnull 20, 3) := by decide +kernel
theorem dX3_lossOf_27 : decode cX3_lossOf 27 = .ok (.aload 5, 2) := by decide +kernel
theorem dX3_lossOf_29 : decode cX3_lossOf 29 = .ok (.getfield 43, 3) := by decide +kernel
theorem dX3_lossOf_32 : decode cX3_lossOf 32 = .ok (.iload_n 1, 1) := by decide +kernel
theorem dX3_lossOf_33 : decode cX3_lossOf 33 = .ok (.if_icmp .ne 11, 3) := by decide +kernel
theorem dX3_lossOf_36 : decode cX3_lossOf 36 = .ok (.lload_n 2, 1) := by decide +kernel
theorem dX3_lossOf_37 : decode cX3_lossOf 37 = .ok (.aload 5, 2) := by decide +kernel
theorem dX3_lossOf_39 : decode cX3_lossOf 39 = .ok (.getfield 46, 3) := by decide +kernel
theorem dX3_lossOf_42 : decode cX3_lossOf 42 = .ok (.ladd, 1) := by decide +kernel
theorem dX3_lossOf_43 : decode cX3_lossOf 43 = .ok (.lstore_n 2, 1) := by decide +kernel
theorem dX3_lossOf_44 : decode cX3_lossOf 44 = .ok (.iinc 4 1, 3) := by decide +kernel
theorem dX3_lossOf_47 : decode cX3_lossOf 47 = .ok (.goto (-42), 3) := by decide +kernel
theorem dX3_lossOf_50 : decode cX3_lossOf 50 = .ok (.lload_n 2, 1) := by decide +kernel
theorem dX3_lossOf_51 : decode cX3_lossOf 51 = .ok (.lreturn, 1) := by decide +kernel
theorem dX4_init_0 : decode cX4_init 0 = .ok (.aload_n 0, 1) := by decide +kernel
theorem dX4_init_1 : decode cX4_init 1 = .ok (.invokespecial 3, 3) := by decide +kernel
theorem dX4_init_4 : decode cX4_init 4 = .ok (.aload_n 0, 1) := by decide +kernel
theorem dX4_init_5 : decode cX4_init 5 = .ok (.bipush 20, 2) := by decide +kernel
theorem dX4_init_7 : decode cX4_init 7 = .ok (.newarray .int, 2) := by decide +kernel
theorem dX4_init_9 : decode cX4_init 9 = .ok (.putfield 9, 3) := by decide +kernel
theorem dX4_init_12 : decode cX4_init 12 = .ok (.aload_n 0, 1) := by decide +kernel
theorem dX4_init_13 : decode cX4_init 13 = .ok (.bipush 20, 2) := by decide +kernel
theorem dX4_init_15 : decode cX4_init 15 = .ok (.newarray .int, 2) := by decide +kernel
theorem dX4_init_17 : decode cX4_init 17 = .ok (.putfield 15, 3) := by decide +kernel
theorem dX4_init_20 : decode cX4_init 20 = .ok (.return_, 1) := by decide +kernel
theorem dX4_put_0 : decode cX4_put 0 = .ok (.iconst 0, 1) := by decide +kernel
theorem dX4_put_1 : decode cX4_put 1 = .ok (.istore_n 3, 1) := by decide +kernel
theorem dX4_put_2 : decode cX4_put 2 = .ok (.iload_n 3, 1) := by decide +kernel
theorem dX4_put_3 : decode cX4_put 3 = .ok (.aload_n 0, 1) := by decide +kernel
theorem dX4_put_4 : decode cX4_put 4 = .ok (.getfield 18, 3) := by decide +kernel
theorem dX4_put_7 : decode cX4_put 7 = .ok (.if_icmp .ge 37, 3) := by decide +kernel
theorem dX4_put_10 : decode cX4_put 10 = .ok (.iload_n 3, 1) := by decide +kernel
theorem dX4_put_11 : decode cX4_put 11 = .ok (.bipush 20, 2) := by decide +kernel
theorem dX4_put_13 : decode cX4_put 13 = .ok (.if_icmp .ge 31, 3) := by decide +kernel
theorem dX4_put_16 : decode cX4_put 16 = .ok (.aload_n 0, 1) := by decide +kernel
theorem dX4_put_17 : decode cX4_put 17 = .ok (.getfield 9, 3) := by decide +kernel
theorem dX4_put_20 : decode cX4_put 20 = .ok (.iload_n 3, 1) := by decide +kernel
theorem dX4_put_21 : decode cX4_put 21 = .ok (.iaload, 1) := by decide +kernel
theorem dX4_put_22 : decode cX4_put 22 = .ok (.iload_n 1, 1) := by decide +kernel
theorem dX4_put_23 : decode cX4_put 23 = .ok (.if_icmp .ne 15, 3) := by decide +kernel
theorem dX4_put_26 : decode cX4_put 26 = .ok (.aload_n 0, 1) := by decide +kernel
theorem dX4_put_27 : decode cX4_put 27 = .ok (.getfield 15, 3) := by decide +kernel
theorem dX4_put_30 : decode cX4_put 30 = .ok (.iload_n 3, 1) := by decide +kernel
theorem dX4_put_31 : decode cX4_put 31 = .ok (.iload_n 2, 1) := by decide +kernel
theorem dX4_put_32 : decode cX4_put 32 = .ok (.iastore, 1) := by decide +kernel
theorem dX4_put_33 : decode cX4_put 33 = .ok (.aload_n 0, 1) := by decide +kernel
theorem dX4_put_34 : decode cX4_put 34 = .ok (.getfield 18, 3) := by decide +kernel
theorem dX4_put_37 : decode cX4_put 37 = .ok (.ireturn, 1) := by decide +kernel
theorem dX4_put_38 : decode cX4_put 38 = .ok (.iinc 3 1, 3) := by decide +kernel
theorem dX4_put_41 : decode cX4_put 41 = .ok (.goto (-39), 3) := by decide +kernel
theorem dX4_put_44 : decode cX4_put 44 = .ok (.aload_n 0, 1) := by decide +kernel
theorem dX4_put_45 : decode cX4_put 45 = .ok (.getfield 18, 3) := by decide +kernel
theorem dX4_put_48 : decode cX4_put 48 = .ok (.bipush 20, 2) := by decide +kernel
theorem dX4_put_50 : decode cX4_put 50 = .ok (.if_icmp .lt 6, 3) := by decide +kernel
theorem dX4_put_53 : decode cX4_put 53 = .ok (.bipush (-104), 2) := by decide +kernel
theorem dX4_put_55 : decode cX4_put 55 = .ok (.ireturn, 1) := by decide +kernel
theorem dX4_put_56 : decode cX4_put 56 = .ok (.aload_n 0, 1) := by decide +kernel
theorem dX4_put_57 : decode cX4_put 57 = .ok (.getfield 9, 3) := by decide +kernel
theorem dX4_put_60 : decode cX4_put 60 = .ok (.aload_n 0, 1) := by decide +kernel
theorem dX4_put_61 : decode cX4_put 61 = .ok (.getfield 18, 3) := by decide +kernel
theorem dX4_put_64 : decode cX4_put 64 = .ok (.iload_n 1, 1) := by decide +kernel
theorem dX4_put_65 : decode cX4_put 65 = .ok (.iastore, 1) := by decide +kernel
theorem dX4_put_66 : decode cX4_put 66 = .ok (.aload_n 0, 1) := by decide +kernel
theorem dX4_put_67 : decode cX4_put 67 = .ok (.getfield 15, 3) := by decide +kernel
theorem dX4_put_70 : decode cX4_put 70 = .ok (.aload_n 0, 1) := by decide +kernel
theorem dX4_put_71 : decode cX4_put 71 = .ok (.getfield 18, 3) := by decide +kernel
theorem dX4_put_74 : decode cX4_put 74 = .ok (.iload_n 2, 1) := by decide +kernel
theorem dX4_put_75 : decode cX4_put 75 = .ok (.iastore, 1) := by decide +kernel
theorem dX4_put_76 : decode cX4_put 76 = .ok (.aload_n 0, 1) := by decide +kernel
theorem dX4_put_77 : decode cX4_put 77 = .ok (.dup, 1) := by decide +kernel
theorem dX4_put_78 : decode cX4_put 78 = .ok (.getfield 18, 3) := by decide +kernel
theorem dX4_put_81 : decode cX4_put 81 = .ok (.iconst 1, 1) := by decide +kernel
theorem dX4_put_82 : decode cX4_put 82 = .ok (.iadd, 1) := by decide +kernel
theorem dX4_put_83 : decode cX4_put 83 = .ok (.putfield 18, 3) := by decide +kernel
theorem dX4_put_86 : decode cX4_put 86 = .ok (.aload_n 0, 1) := by decide +kernel
theorem dX4_put_87 : decode cX4_put 87 = .ok (.getfield 18, 3) := by decide +kernel
theorem dX4_put_90 : decode cX4_put 90 = .ok (.ireturn, 1) := by decide +kernel
theorem dX4_on_0 : decode cX4_on 0 = .ok (.iconst (-1), 1) := by decide +kernel
theorem dX4_on_1 : decode cX4_on 1 = .ok (.istore_n 2, 1) := by decide +kernel
theorem dX4_on_2 : decode cX4_on 2 = .ok (.iconst 0, 1) := by decide +kernel
theorem dX4_on_3 : decode cX4_on 3 = .ok (.istore_n 3, 1) := by decide +kernel
theorem dX4_on_4 : decode cX4_on 4 = .ok (.iconst 0, 1) := by decide +kernel
theorem dX4_on_5 : decode cX4_on 5 = .ok (.istore 4, 2) := by decide +kernel
theorem dX4_on_7 : decode cX4_on 7 = .ok (.iload 4, 2) := by decide +kernel
theorem dX4_on_9 : decode cX4_on 9 = .ok (.aload_n 0, 1) := by decide +kernel
theorem dX4_on_10 : decode cX4_on 10 = .ok (.getfield 18, 3) := by decide +kernel
theorem dX4_on_13 : decode cX4_on 13 = .ok (.if_icmp .ge 54, 3) := by decide +kernel
theorem dX4_on_16 : decode cX4_on 16 = .ok (.iload 4, 2) := by decide +kernel
theorem dX4_on_18 : decode cX4_on 18 = .ok (.bipush 20, 2) := by decide +kernel
theorem dX4_on_20 : decode cX4_on 20 = .ok (.if_icmp .ge 47, 3) := by decide +kernel
theorem dX4_on_23 : decode cX4_on 23 = .ok (.aload_n 0, 1) := by decide +kernel
theorem dX4_on_24 : decode cX4_on 24 = .ok (.getfield 9, 3) := by decide +kernel
theorem dX4_on_27 : decode cX4_on 27 = .ok (.iload 4, 2) := by decide +kernel
theorem dX4_on_29 : decode cX4_on 29 = .ok (.iaload, 1) := by decide +kernel
theorem dX4_on_30 : decode cX4_on 30 = .ok (.iload_n 1, 1) := by decide +kernel
theorem dX4_on_31 : decode cX4_on 31 = .ok (.if_icmp .gt 30, 3) := by decide +kernel
theorem dX4_on_34 : decode cX4_on 34 = .ok (.aload_n 0, 1) := by decide +kernel
theorem dX4_on_35 : decode cX4_on 35 = .ok (.getfield 9, 3) := by decide +kernel
theorem dX4_on_38 : decode cX4_on 38 = .ok (.iload 4, 2) := by decide +kernel
theorem dX4_on_40 : decode cX4_on 40 = .ok (.iaload, 1) := by decide +kernel
theorem dX4_on_41 : decode cX4_on 41 = .ok (.iload_n 2, 1) := by decide +kernel
theorem dX4_on_42 : decode cX4_on 42 = .ok (.if_icmp .le 19, 3) := by decide +kernel
theorem dX4_on_45 : decode cX4_on 45 = .ok (.aload_n 0, 1) := by decide +kernel
theorem dX4_on_46 : decode cX4_on 46 = .ok (.getfield 9, 3) := by decide +kernel
theorem dX4_on_49 : decode cX4_on 49 = .ok (.iload 4, 2) := by decide +kernel
theorem dX4_on_51 : decode cX4_on 51 = .ok (.iaload, 1) := by decide +kernel
theorem dX4_on_52 : decode cX4_on 52 = .ok (.istore_n 2, 1) := by decide +kernel
theorem dX4_on_53 : decode cX4_on 53 = .ok (.aload_n 0, 1) := by decide +kernel
theorem dX4_on_54 : decode cX4_on 54 = .ok (.getfield 15, 3) := by decide +kernel
theorem dX4_on_57 : decode cX4_on 57 = .ok (.iload 4, 2) := by decide +kernel
theorem dX4_on_59 : decode cX4_on 59 = .ok (.iaload, 1) := by decide +kernel
theorem dX4_on_60 : decode cX4_on 60 = .ok (.istore_n 3, 1) := by decide +kernel
theorem dX4_on_61 : decode cX4_on 61 = .ok (.iinc 4 1, 3) := by decide +kernel
theorem dX4_on_64 : decode cX4_on 64 = .ok (.goto (-57), 3) := by decide +kernel
theorem dX4_on_67 : decode cX4_on 67 = .ok (.iload_n 3, 1) := by decide +kernel
theorem dX4_on_68 : decode cX4_on 68 = .ok (.ireturn, 1) := by decide +kernel
theorem dX5_init_0 : decode cX5_init 0 = .ok (.aload_n 0, 1) := by decide +kernel
theorem dX5_init_1 : decode cX5_init 1 = .ok (.invokespecial 3, 3) := by decide +kernel
theorem dX5_init_4 : decode cX5_init 4 = .ok (.aload_n 0, 1) := by decide +kernel
theorem dX5_init_5 : decode cX5_init 5 = .ok (.sipush 256, 3) := by decide +kernel
theorem dX5_init_8 : decode cX5_init 8 = .ok (.newarray .int, 2) := by decide +kernel
theorem dX5_init_10 : decode cX5_init 10 = .ok (.putfield 9, 3) := by decide +kernel
theorem dX5_init_13 : decode cX5_init 13 = .ok (.aload_n 0, 1) := by decide +kernel
theorem dX5_init_14 : decode cX5_init 14 = .ok (.sipush 256, 3) := by decide +kernel
theorem dX5_init_17 : decode cX5_init 17 = .ok (.newarray .int, 2) := by decide +kernel
theorem dX5_init_19 : decode cX5_init 19 = .ok (.putfield 15, 3) := by decide +kernel
theorem dX5_init_22 : decode cX5_init 22 = .ok (.aload_n 0, 1) := by decide +kernel
theorem dX5_init_23 : decode cX5_init 23 = .ok (.sipush 256, 3) := by decide +kernel
theorem dX5_init_26 : decode cX5_init 26 = .ok (.newarray .int, 2) := by decide +kernel
theorem dX5_init_28 : decode cX5_init 28 = .ok (.putfield 18, 3) := by decide +kernel
theorem dX5_init_31 : decode cX5_init 31 = .ok (.aload_n 0, 1) := by decide +kernel
theorem dX5_init_32 : decode cX5_init 32 = .ok (.sipush 256, 3) := by decide +kernel
theorem dX5_init_35 : decode cX5_init 35 = .ok (.newarray .boolean, 2) := by decide +kernel
theorem dX5_init_37 : decode cX5_init 37 = .ok (.putfield 21, 3) := by decide +kernel
theorem dX5_init_40 : decode cX5_init 40 = .ok (.aload_n 0, 1) := by decide +kernel
theorem dX5_init_41 : decode cX5_init 41 = .ok (.sipush 256, 3) := by decide +kernel
theorem dX5_init_44 : decode cX5_init 44 = .ok (.newarray .int, 2) := by decide +kernel
theorem dX5_init_46 : decode cX5_init 46 = .ok (.putfield 25, 3) := by decide +kernel
theorem dX5_init_49 : decode cX5_init 49 = .ok (.return_, 1) := by decide +kernel
theorem dX5_find_0 : decode cX5_find 0 = .ok (.aload_n 0, 1) := by decide +kernel
theorem dX5_find_1 : decode cX5_find 1 = .ok (.iconst 0, 1) := by decide +kernel
theorem dX5_find_2 : decode cX5_find 2 = .ok (.putfield 28, 3) := by decide +kernel
theorem dX5_find_5 : decode cX5_find 5 = .ok (.iconst 0, 1) := by decide +kernel
theorem dX5_find_6 : decode cX5_find 6 = .ok (.istore 4, 2) := by decide +kernel
theorem dX5_find_8 : decode cX5_find 8 = .ok (.iload 4, 2) := by decide +kernel
theorem dX5_find_10 : decode cX5_find 10 = .ok (.sipush 256, 3) := by decide +kernel
theorem dX5_find_13 : decode cX5_find 13 = .ok (.if_icmp .ge 17, 3) := by decide +kernel
theorem dX5_find_16 : decode cX5_find 16 = .ok (.aload_n 0, 1) := by decide +kernel
theorem dX5_find_17 : decode cX5_find 17 = .ok (.getfield 9, 3) := by decide +kernel
theorem dX5_find_20 : decode cX5_find 20 = .ok (.iload 4, 2) := by decide +kernel
theorem dX5_find_22 : decode cX5_find 22 = .ok (.iconst (-1), 1) := by decide +kernel
theorem dX5_find_23 : decode cX5_find 23 = .ok (.iastore, 1) := by decide +kernel
theorem dX5_find_24 : decode cX5_find 24 = .ok (.iinc 4 1, 3) := by decide +kernel
theorem dX5_find_27 : decode cX5_find 27 = .ok (.goto (-19), 3) := by decide +kernel
theorem dX5_find_30 : decode cX5_find 30 = .ok (.iconst 0, 1) := by decide +kernel
theorem dX5_find_31 : decode cX5_find 31 = .ok (.istore 4, 2) := by decide +kernel
theorem dX5_find_33 : decode cX5_find 33 = .ok (.iload 4, 2) := by decide +kernel
theorem dX5_find_35 : decode cX5_find 35 = .ok (.sipush 256, 3) := by decide +kernel
theorem dX5_find_38 : decode cX5_find 38 = .ok (.if_icmp .ge 48, 3) := by decide +kernel
theorem dX5_find_41 : decode cX5_find 41 = .ok (.aload_n 0, 1) := by decide +kernel
theorem dX5_find_42 : decode cX5_find 42 = .ok (.getfield 28, 3) := by decide +kernel
theorem dX5_find_45 : decode cX5_find 45 = .ok (.sipush 256, 3) := by decide +kernel
theorem dX5_find_48 : decode cX5_find 48 = .ok (.if_icmp .ge 32, 3) := by decide +kernel
theorem dX5_find_51 : decode cX5_find 51 = .ok (.aload_n 0, 1) := by decide +kernel
theorem dX5_find_52 : decode cX5_find 52 = .ok (.getfield 9, 3) := by decide +kernel
theorem dX5_find_55 : decode cX5_find 55 = .ok (.iload 4, 2) := by decide +kernel
theorem dX5_find_57 : decode cX5_find 57 = .ok (.iaload, 1) := by decide +kernel
theorem dX5_find_58 : decode cX5_find 58 = .ok (.iconst (-1), 1) := by decide +kernel
theorem dX5_find_59 : decode cX5_find 59 = .ok (.if_icmp .ne 21, 3) := by decide +kernel
theorem dX5_find_62 : decode cX5_find 62 = .ok (.aload_n 1, 1) := by decide +kernel
theorem dX5_find_63 : decode cX5_find 63 = .ok (.iload 4, 2) := by decide +kernel
theorem dX5_find_65 : decode cX5_find 65 = .ok (.iload_n 2, 1) := by decide +kernel
theorem dX5_find_66 : decode cX5_find 66 = .ok (.invokevirtual 32, 3) := by decide +kernel
theorem dX5_find_69 : decode cX5_find 69 = .ok (.ifCond .eq 11, 3) := by decide +kernel
theorem dX5_find_72 : decode cX5_find 72 = .ok (.aload_n 0, 1) := by decide +kernel
theorem dX5_find_73 : decode cX5_find 73 = .ok (.aload_n 1, 1) := by decide +kernel
theorem dX5_find_74 : decode cX5_find 74 = .ok (.iload_n 2, 1) := by decide +kernel
theorem dX5_find_75 : decode cX5_find 75 = .ok (.iload 4, 2) := by decide +kernel
theorem dX5_find_77 : decode cX5_find 77 = .ok (.invokevirtual 38, 3) := by decide +kernel
theorem dX5_find_80 : decode cX5_find 80 = .ok (.iinc 4 1, 3) := by decide +kernel
theorem dX5_find_83 : decode cX5_find 83 = .ok (.goto (-50), 3) := by decide +kernel
theorem dX5_find_86 : decode cX5_find 86 = .ok (.aload_n 0, 1) := by decide +kernel
theorem dX5_find_87 : decode cX5_find 87 = .ok (.aload_n 0, 1) := by decide +kernel
theorem dX5_find_88 : decode cX5_find 88 = .ok (.iload_n 3, 1) := by decide +kernel
theorem dX5_find_89 : decode cX5_find 89 = .ok (.invokevirtual 42, 3) := by decide +kernel
theorem dX5_find_92 : decode cX5_find 92 = .ok (.putfield 46, 3) := by decide +kernel
theorem dX5_find_95 : decode cX5_find 95 = .ok (.return_, 1) := by decide +kernel
theorem dX5_spread_0 : decode cX5_spread 0 = .ok (.aload_n 0, 1) := by decide +kernel
theorem dX5_spread_1 : decode cX5_spread 1 = .ok (.getfield 28, 3) := by decide +kernel
theorem dX5_spread_4 : decode cX5_spread 4 = .ok (.istore 4, 2) := by decide +kernel
theorem dX5_spread_6 : decode cX5_spread 6 = .ok (.aload_n 0, 1) := by decide +kernel
theorem dX5_spread_7 : decode cX5_spread 7 = .ok (.dup, 1) := by decide +kernel
theorem dX5_spread_8 : decode cX5_spread 8 = .ok (.getfield 28, 3) := by decide +kernel
theorem dX5_spread_11 : decode cX5_spread 11 = .ok (.iconst 1, 1) := by decide +kernel
theorem dX5_spread_12 : decode cX5_spread 12 = .ok (.iadd, 1) := by decide +kernel
theorem dX5_spread_13 : decode cX5_spread 13 = .ok (.putfield 28, 3) := by decide +kernel
theorem dX5_spread_16 : decode cX5_spread 16 = .ok (.aload_n 0, 1) := by decide +kernel
theorem dX5_spread_17 : decode cX5_spread 17 = .ok (.getfield 18, 3) := by decide +kernel
theorem dX5_spread_20 : decode cX5_spread 20 = .ok (.iload 4, 2) := by decide +kernel
theorem dX5_spread_22 : decode cX5_spread 22 = .ok (.iload_n 3, 1) := by decide +kernel
theorem dX5_spread_23 : decode cX5_spread 23 = .ok (.iastore, 1) := by decide +kernel
theorem dX5_spread_24 : decode cX5_spread 24 = .ok (.aload_n 0, 1) := by decide +kernel
theorem dX5_spread_25 : decode cX5_spread 25 = .ok (.getfield 21, 3) := by decide +kernel
theorem dX5_spread_28 : decode cX5_spread 28 = .ok (.iload 4, 2) := by decide +kernel
theorem dX5_spread_30 : decode cX5_spread 30 = .ok (.iconst 0, 1) := by decide +kernel
theorem dX5_spread_31 : decode cX5_spread 31 = .ok (.bastore, 1) := by decide +kernel
theorem dX5_spread_32 : decode cX5_spread 32 = .ok (.aload_n 0, 1) := by decide +kernel
theorem dX5_spread_33 : decode cX5_spread 33 = .ok (.getfield 9, 3) := by decide +kernel
theorem dX5_spread_36 : decode cX5_spread 36 = .ok (.iload_n 3, 1) := by decide +kernel
theorem dX5_spread_37 : decode cX5_spread 37 = .ok (.iload 4, 2) := by decide +kernel
theorem dX5_spread_39 : decode cX5_spread 39 = .ok (.iastore, 1) := by decide +kernel
theorem dX5_spread_40 : decode cX5_spread 40 = .ok (.aload_n 0, 1) := by decide +kernel
theorem dX5_spread_41 : decode cX5_spread 41 = .ok (.getfield 25, 3) := by decide +kernel
theorem dX5_spread_44 : decode cX5_spread 44 = .ok (.iconst 0, 1) := by decide +kernel
theorem dX5_spread_45 : decode cX5_spread 45 = .ok (.iload_n 3, 1) := by decide +kernel
theorem dX5_spread_46 : decode cX5_spread 46 = .ok (.iastore, 1) := by decide +kernel
theorem dX5_spread_47 : decode cX5_spread 47 = .ok (.iconst 1, 1) := by decide +kernel
theorem dX5_spread_48 : decode cX5_spread 48 = .ok (.istore 5, 2) := by decide +kernel
theorem dX5_spread_50 : decode cX5_spread 50 = .ok (.iconst 0, 1) := by decide +kernel
theorem dX5_spread_51 : decode cX5_spread 51 = .ok (.istore 6, 2) := by decide +kernel
theorem dX5_spread_53 : decode cX5_spread 53 = .ok (.iload 6, 2) := by decide +kernel
theorem dX5_spread_55 : decode cX5_spread 55 = .ok (.iload 5, 2) := by decide +kernel
theorem dX5_spread_57 : decode cX5_spread 57 = .ok (.if_icmp .ge 129, 3) := by decide +kernel
theorem dX5_spread_60 : decode cX5_spread 60 = .ok (.iload 6, 2) := by decide +kernel
theorem dX5_spread_62 : decode cX5_spread 62 = .ok (.sipush 256, 3) := by decide +kernel
theorem dX5_spread_65 : decode cX5_spread 65 = .ok (.if_icmp .ge 121, 3) := by decide +kernel
theorem dX5_spread_68 : decode cX5_spread 68 = .ok (.iconst 0, 1) := by decide +kernel
theorem dX5_spread_69 : decode cX5_spread 69 = .ok (.istore 7, 2) := by decide +kernel
theorem dX5_spread_71 : decode cX5_spread 71 = .ok (.iload 7, 2) := by decide +kernel
theorem dX5_spread_73 : decode cX5_spread 73 = .ok (.iconst 4, 1) := by decide +kernel
theorem dX5_spread_74 : decode cX5_spread 74 = .ok (.if_icmp .ge 106, 3) := by decide +kernel
theorem dX5_spread_77 : decode cX5_spread 77 = .ok (.aload_n 1, 1) := by decide +kernel
theorem dX5_spread_78 : decode cX5_spread 78 = .ok (.aload_n 0, 1) := by decide +kernel
theorem dX5_spread_79 : decode cX5_spread 79 = .ok (.getfield 25, 3) := by decide +kernel
theorem dX5_spread_82 : decode cX5_spread 82 = .ok (.iload 6, 2) := by decide +kernel
theorem dX5_spread_84 : decode cX5_spread 84 = .ok (.iaload, 1) := by decide +kernel
theorem dX5_spread_85 : decode cX5_spread 85 = .ok (.iload 7, 2) := by decide +kernel
theorem dX5_spread_87 : decode cX5_spread 87 = .ok (.invokevirtual 49, 3) := by decide +kernel
theorem dX5_spread_90 : decode cX5_spread 90 = .ok (.istore 8, 2) := by decide +kernel
theorem dX5_spread_92 : decode cX5_spread 92 = .ok (.iload 8, 2) := by decide +kernel
theorem dX5_spread_94 : decode cX5_spread 94 = .ok (.iconst (-1), 1) := by decide +kernel
theorem dX5_spread_95 : decode cX5_spread 95 = .ok (.if_icmp .eq 23, 3) := by decide +kernel
theorem dX5_spread_98 : decode cX5_spread 98 = .ok (.aload_n 1, 1) := by decide +kernel
theorem dX5_spread_99 : decode cX5_spread 99 = .ok (.iload 8, 2) := by decide +kernel
theorem dX5_spread_101 : decode cX5_spread 101 = .ok (.invokevirtual 53, 3) := by decide +kernel
theorem dX5_spread_104 : decode cX5_spread 104 = .ok (.ifCond .eq 14, 3) := by decide +kernel
theorem dX5_spread_107 : decode cX5_spread 107 = .ok (.aload_n 0, 1) := by decide +kernel
theorem dX5_spread_108 : decode cX5_spread 108 = .ok (.getfield 21, 3) := by decide +kernel
theorem dX5_spread_111 : decode cX5_spread 111 = .ok (.iload 4, 2) := by decide +kernel
theorem dX5_spread_113 : decode cX5_spread 113 = .ok (.iconst 1, 1) := by decide +kernel
theorem dX5_spread_114 : decode cX5_spread 114 = .ok (.bastore, 1) := by decide +kernel
theorem dX5_spread_115 : decode cX5_spread 115 = .ok (.goto 59, 3) := by decide +kernel
theorem dX5_spread_118 : decode cX5_spread 118 = .ok (.iload 8, 2) := by decide +kernel
theorem dX5_spread_120 : decode cX5_spread 120 = .ok (.iconst (-1), 1) := by decide +kernel
theorem dX5_spread_121 : decode cX5_spread 121 = .ok (.if_icmp .eq 53, 3) := by decide +kernel
theorem dX5_spread_124 : decode cX5_spread 124 = .ok (.aload_n 0, 1) := by decide +kernel
theorem dX5_spread_125 : decode cX5_spread 125 = .ok (.getfield 9, 3) := by decide +kernel
theorem dX5_spread_128 : decode cX5_spread 128 = .ok (.iload 8, 2) := by decide +kernel
theorem dX5_spread_130 : decode cX5_spread 130 = .ok (.iaload, 1) := by decide +kernel
theorem dX5_spread_131 : decode cX5_spread 131 = .ok (.iconst (-1), 1) := by decide +kernel
theorem dX5_spread_132 : decode cX5_spread 132 = .ok (.if_icmp .ne 42, 3) := by decide +kernel
theorem dX5_spread_135 : decode cX5_spread 135 = .ok (.aload_n 1, 1) := by decide +kernel
theorem dX5_spread_136 : decode cX5_spread 136 = .ok (.iload 8, 2) := by decide +kernel
theorem dX5_spread_138 : decode cX5_spread 138 = .ok (.iload_n 2, 1) := by decide +kernel
theorem dX5_spread_139 : decode cX5_spread 139 = .ok (.invokevirtual 32, 3) := by decide +kernel
theorem dX5_spread_142 : decode cX5_spread 142 = .ok (.ifCond .eq 32, 3) := by decide +kernel
theorem dX5_spread_145 : decode cX5_spread 145 = .ok (.iload 5, 2) := by decide +kernel
theorem dX5_spread_147 : decode cX5_spread 147 = .ok (.sipush 256, 3) := by decide +kernel
theorem dX5_spread_150 : decode cX5_spread 150 = .ok (.if_icmp .ge 24, 3) := by decide +kernel
theorem dX5_spread_153 : decode cX5_spread 153 = .ok (.aload_n 0, 1) := by decide +kernel
theorem dX5_spread_154 : decode cX5_spread 154 = .ok (.getfield 9, 3) := by decide +kernel
theorem dX5_spread_157 : decode cX5_spread 157 = .ok (.iload 8, 2) := by decide +kernel
theorem dX5_spread_159 : decode cX5_spread 159 = .ok (.iload 4, 2) := by decide +kernel
theorem dX5_spread_161 : decode cX5_spread 161 = .ok (.iastore, 1) := by decide +kernel
theorem dX5_spread_162 : decode cX5_spread 162 = .ok (.aload_n 0, 1) := by decide +kernel
theorem dX5_spread_163 : decode cX5_spread 163 = .ok (.getfield 25, 3) := by decide +kernel
theorem dX5_spread_166 : decode cX5_spread 166 = .ok (.iload 5, 2) := by decide +kernel
theorem dX5_spread_168 : decode cX5_spread 168 = .ok (.iload 8, 2) := by decide +kernel
theorem dX5_spread_170 : decode cX5_spread 170 = .ok (.iastore, 1) := by decide +kernel
theorem dX5_spread_171 : decode cX5_spread 171 = .ok (.iinc 5 1, 3) := by decide +kernel
theorem dX5_spread_174 : decode cX5_spread 174 = .ok (.iinc 7 1, 3) := by decide +kernel
theorem dX5_spread_177 : decode cX5_spread 177 = .ok (.goto (-106), 3) := by decide +kernel
theorem dX5_spread_180 : decode cX5_spread 180 = .ok (.iinc 6 1, 3) := by decide +kernel
theorem dX5_spread_183 : decode cX5_spread 183 = .ok (.goto (-130), 3) := by decide +kernel
theorem dX5_spread_186 : decode cX5_spread 186 = .ok (.aload_n 0, 1) := by decide +kernel
theorem dX5_spread_187 : decode cX5_spread 187 = .ok (.getfield 15, 3) := by decide +kernel
theorem dX5_spread_190 : decode cX5_spread 190 = .ok (.iload 4, 2) := by decide +kernel
theorem dX5_spread_192 : decode cX5_spread 192 = .ok (.iload 5, 2) := by decide +kernel
theorem dX5_spread_194 : decode cX5_spread 194 = .ok (.iastore, 1) := by decide +kernel
theorem dX5_spread_195 : decode cX5_spread 195 = .ok (.return_, 1) := by decide +kernel
theorem dX5_chosenMain_0 : decode cX5_chosenMain 0 = .ok (.iload_n 1, 1) := by decide +kernel
theorem dX5_chosenMain_1 : decode cX5_chosenMain 1 = .ok (.ifCond .lt 27, 3) := by decide +kernel
theorem dX5_chosenMain_4 : decode cX5_chosenMain 4 = .ok (.iload_n 1, 1) := by decide +kernel
theorem dX5_chosenMain_5 : decode cX5_chosenMain 5 = .ok (.sipush 256, 3) := by decide +kernel
theorem dX5_chosenMain_8 : decode cX5_chosenMain 8 = .ok (.if_icmp .ge 20, 3) := by decide +kernel
theorem dX5_chosenMain_11 : decode cX5_chosenMain 11 = .ok (.aload_n 0, 1) := by decide +kernel
theorem dX5_chosenMain_12 : decode cX5_chosenMain 12 = .ok (.getfield 9, 3) := by decide +kernel
theorem dX5_chosenMain_15 : decode cX5_chosenMain 15 = .ok (.iload_n 1, 1) := by decide +kernel
theorem dX5_chosenMain_16 : decode cX5_chosenMain 16 = .ok (.iaload, 1) := by decide +kernel
theorem dX5_chosenMain_17 : decode cX5_chosenMain 17 = .ok (.iconst (-1), 1) := by decide +kernel
theorem dX5_chosenMain_18 : decode cX5_chosenMain 18 = .ok (.if_icmp .eq 10, 3) := by decide +kernel
theorem dX5_chosenMain_21 : decode cX5_chosenMain 21 = .ok (.aload_n 0, 1) := by decide +kernel
theorem dX5_chosenMain_22 : decode cX5_chosenMain 22 = .ok (.getfield 9, 3) := by decide +kernel
theorem dX5_chosenMain_25 : decode cX5_chosenMain 25 = .ok (.iload_n 1, 1) := by decide +kernel
theorem dX5_chosenMain_26 : decode cX5_chosenMain 26 = .ok (.iaload, 1) := by decide +kernel
theorem dX5_chosenMain_27 : decode cX5_chosenMain 27 = .ok (.ireturn, 1) := by decide +kernel
theorem dX5_chosenMain_28 : decode cX5_chosenMain 28 = .ok (.iconst (-1), 1) := by decide +kernel
theorem dX5_chosenMain_29 : decode cX5_chosenMain 29 = .ok (.istore_n 2, 1) := by decide +kernel
theorem dX5_chosenMain_30 : decode cX5_chosenMain 30 = .ok (.iconst 0, 1) := by decide +kernel
theorem dX5_chosenMain_31 : decode cX5_chosenMain 31 = .ok (.istore_n 3, 1) := by decide +kernel
theorem dX5_chosenMain_32 : decode cX5_chosenMain 32 = .ok (.iload_n 3, 1) := by decide +kernel
theorem dX5_chosenMain_33 : decode cX5_chosenMain 33 = .ok (.aload_n 0, 1) := by decide +kernel
theorem dX5_chosenMain_34 : decode cX5_chosenMain 34 = .ok (.getfield 28, 3) := by decide +kernel
theorem dX5_chosenMain_37 : decode cX5_chosenMain 37 = .ok (.if_icmp .ge 31, 3) := by decide +kernel
theorem dX5_chosenMain_40 : decode cX5_chosenMain 40 = .ok (.iload_n 2, 1) := by decide +kernel
theorem dX5_chosenMain_41 : decode cX5_chosenMain 41 = .ok (.iconst (-1), 1) := by decide +kernel
theorem dX5_chosenMain_42 : decode cX5_chosenMain 42 = .ok (.if_icmp .eq 18, 3) := by decide +kernel
theorem dX5_chosenMain_45 : decode cX5_chosenMain 45 = .ok (.aload_n 0, 1) := by decide +kernel
theorem dX5_chosenMain_46 : decode cX5_chosenMain 46 = .ok (.getfield 15, 3) := by decide +kernel
theorem dX5_chosenMain_49 : decode cX5_chosenMain 49 = .ok (.iload_n 3, 1) := by decide +kernel
theorem dX5_chosenMain_50 : decode cX5_chosenMain 50 = .ok (.iaload, 1) := by decide +kernel
theorem dX5_chosenMain_51 : decode cX5_chosenMain 51 = .ok (.aload_n 0, 1) := by decide +kernel
theorem dX5_chosenMain_52 : decode cX5_chosenMain 52 = .ok (.getfield 15, 3) := by decide +kernel
theorem dX5_chosenMain_55 : decode cX5_chosenMain 55 = .ok (.iload_n 2, 1) := by decide +kernel
theorem dX5_chosenMain_56 : decode cX5_chosenMain 56 = .ok (.iaload, 1) := by decide +kernel
theorem dX5_chosenMain_57 : decode cX5_chosenMain 57 = .ok (.if_icmp .le 5, 3) := by decide +kernel
theorem dX5_chosenMain_60 : decode cX5_chosenMain 60 = .ok (.iload_n 3, 1) := by decide +kernel
theorem dX5_chosenMain_61 : decode cX5_chosenMain 61 = .ok (.istore_n 2, 1) := by decide +kernel
theorem dX5_chosenMain_62 : decode cX5_chosenMain 62 = .ok (.iinc 3 1, 3) := by decide +kernel
theorem dX5_chosenMain_65 : decode cX5_chosenMain 65 = .ok (.goto (-33), 3) := by decide +kernel
theorem dX5_chosenMain_68 : decode cX5_chosenMain 68 = .ok (.iload_n 2, 1) := by decide +kernel
theorem dX5_chosenMain_69 : decode cX5_chosenMain 69 = .ok (.ireturn, 1) := by decide +kernel
theorem dX5_hasWay_0 : decode cX5_hasWay 0 = .ok (.iload_n 1, 1) := by decide +kernel
theorem dX5_hasWay_1 : decode cX5_hasWay 1 = .ok (.ifCond .lt 24, 3) := by decide +kernel
theorem dX5_hasWay_4 : decode cX5_hasWay 4 = .ok (.iload_n 1, 1) := by decide +kernel
theorem dX5_hasWay_5 : decode cX5_hasWay 5 = .ok (.aload_n 0, 1) := by decide +kernel
theorem dX5_hasWay_6 : decode cX5_hasWay 6 = .ok (.getfield 28, 3) := by decide +kernel
theorem dX5_hasWay_9 : decode cX5_hasWay 9 = .ok (.if_icmp .ge 16, 3) := by decide +kernel
theorem dX5_hasWay_12 : decode cX5_hasWay 12 = .ok (.aload_n 0, 1) := by decide +kernel
theorem dX5_hasWay_13 : decode cX5_hasWay 13 = .ok (.getfield 21, 3) := by decide +kernel
theorem dX5_hasWay_16 : decode cX5_hasWay 16 = .ok (.iload_n 1, 1) := by decide +kernel
theorem dX5_hasWay_17 : decode cX5_hasWay 17 = .ok (.baload, 1) := by decide +kernel
theorem dX5_hasWay_18 : decode cX5_hasWay 18 = .ok (.ifCond .eq 7, 3) := by decide +kernel
theorem dX5_hasWay_21 : decode cX5_hasWay 21 = .ok (.iconst 1, 1) := by decide +kernel
theorem dX5_hasWay_22 : decode cX5_hasWay 22 = .ok (.goto 4, 3) := by decide +kernel
theorem dX5_hasWay_25 : decode cX5_hasWay 25 = .ok (.iconst 0, 1) := by decide +kernel
theorem dX5_hasWay_26 : decode cX5_hasWay 26 = .ok (.ireturn, 1) := by decide +kernel
theorem dX5_worth_0 : decode cX5_worth 0 = .ok (.iload_n 1, 1) := by decide +kernel
theorem dX5_worth_1 : decode cX5_worth 1 = .ok (.iconst (-1), 1) := by decide +kernel
theorem dX5_worth_2 : decode cX5_worth 2 = .ok (.if_icmp .ne 5, 3) := by decide +kernel
theorem dX5_worth_5 : decode cX5_worth 5 = .ok (.lconst 0, 1) := by decide +kernel
theorem dX5_worth_6 : decode cX5_worth 6 = .ok (.lreturn, 1) := by decide +kernel
theorem dX5_worth_7 : decode cX5_worth 7 = .ok (.lconst 0, 1) := by decide +kernel
theorem dX5_worth_8 : decode cX5_worth 8 = .ok (.lstore 4, 2) := by decide +kernel
theorem dX5_worth_10 : decode cX5_worth 10 = .ok (.iconst 0, 1) := by decide +kernel
theorem dX5_worth_11 : decode cX5_worth 11 = .ok (.istore 6, 2) := by decide +kernel
theorem dX5_worth_13 : decode cX5_worth 13 = .ok (.iload 6, 2) := by decide +kernel
theorem dX5_worth_15 : decode cX5_worth 15 = .ok (.sipush 256, 3) := by decide +kernel
theorem dX5_worth_18 : decode cX5_worth 18 = .ok (.if_icmp .ge 33, 3) := by decide +kernel
theorem dX5_worth_21 : decode cX5_worth 21 = .ok (.aload_n 0, 1) := by decide +kernel
theorem dX5_worth_22 : decode cX5_worth 22 = .ok (.getfield 9, 3) := by decide +kernel
theorem dX5_worth_25 : decode cX5_worth 25 = .ok (.iload 6, 2) := by decide +kernel
theorem dX5_worth_27 : decode cX5_worth 27 = .ok (.iaload, 1) := by decide +kernel
theorem dX5_worth_28 : decode cX5_worth 28 = .ok (.iload_n 1, 1) := by decide +kernel
theorem dX5_worth_29 : decode cX5_worth 29 = .ok (.if_icmp .ne 16, 3) := by decide +kernel
theorem dX5_worth_32 : decode cX5_worth 32 = .ok (.lload 4, 2) := by decide +kernel
theorem dX5_worth_34 : decode cX5_worth 34 = .ok (.aload_n 2, 1) := by decide +kernel
theorem dX5_worth_35 : decode cX5_worth 35 = .ok (.iload 6, 2) := by decide +kernel
theorem dX5_worth_37 : decode cX5_worth 37 = .ok (.aload_n 3, 1) := by decide +kernel
theorem dX5_worth_38 : decode cX5_worth 38 = .ok (.invokevirtual 57, 3) := by decide +kernel
theorem dX5_worth_41 : decode cX5_worth 41 = .ok (.i2l, 1) := by decide +kernel
theorem dX5_worth_42 : decode cX5_worth 42 = .ok (.ladd, 1) := by decide +kernel
theorem dX5_worth_43 : decode cX5_worth 43 = .ok (.lstore 4, 2) := by decide +kernel
theorem dX5_worth_45 : decode cX5_worth 45 = .ok (.iinc 6 1, 3) := by decide +kernel
theorem dX5_worth_48 : decode cX5_worth 48 = .ok (.goto (-35), 3) := by decide +kernel
theorem dX5_worth_51 : decode cX5_worth 51 = .ok (.lload 4, 2) := by decide +kernel
theorem dX5_worth_53 : decode cX5_worth 53 = .ok (.lreturn, 1) := by decide +kernel
theorem dX5_tell_0 : decode cX5_tell 0 = .ok (.iload_n 2, 1) := by decide +kernel
theorem dX5_tell_1 : decode cX5_tell 1 = .ok (.tableswitch 55 0 2 #[27, 34, 41], 27) := by decide +kernel
theorem dX5_tell_28 : decode cX5_tell 28 = .ok (.aload_n 0, 1) := by decide +kernel
theorem dX5_tell_29 : decode cX5_tell 29 = .ok (.getfield 15, 3) := by decide +kernel
theorem dX5_tell_32 : decode cX5_tell 32 = .ok (.iload_n 1, 1) := by decide +kernel
theorem dX5_tell_33 : decode cX5_tell 33 = .ok (.iaload, 1) := by decide +kernel
theorem dX5_tell_34 : decode cX5_tell 34 = .ok (.ireturn, 1) := by decide +kernel
theorem dX5_tell_35 : decode cX5_tell 35 = .ok (.aload_n 0, 1) := by decide +kernel
theorem dX5_tell_36 : decode cX5_tell 36 = .ok (.getfield 18, 3) := by decide +kernel
theorem dX5_tell_39 : decode cX5_tell 39 = .ok (.iload_n 1, 1) := by decide +kernel
theorem dX5_tell_40 : decode cX5_tell 40 = .ok (.iaload, 1) := by decide +kernel
theorem dX5_tell_41 : decode cX5_tell 41 = .ok (.ireturn, 1) := by decide +kernel
theorem dX5_tell_42 : decode cX5_tell 42 = .ok (.iload_n 1, 1) := by decide +kernel
theorem dX5_tell_43 : decode cX5_tell 43 = .ok (.aload_n 0, 1) := by decide +kernel
theorem dX5_tell_44 : decode cX5_tell 44 = .ok (.getfield 46, 3) := by decide +kernel
theorem dX5_tell_47 : decode cX5_tell 47 = .ok (.if_icmp .ne 7, 3) := by decide +kernel
theorem dX5_tell_50 : decode cX5_tell 50 = .ok (.iconst 1, 1) := by decide +kernel
theorem dX5_tell_51 : decode cX5_tell 51 = .ok (.goto 4, 3) := by decide +kernel
theorem dX5_tell_54 : decode cX5_tell 54 = .ok (.iconst 0, 1) := by decide +kernel
theorem dX5_tell_55 : decode cX5_tell 55 = .ok (.ireturn, 1) := by decide +kernel
theorem dX5_tell_56 : decode cX5_tell 56 = .ok (.aload_n 0, 1) := by decide +kernel
theorem dX5_tell_57 : decode cX5_tell 57 = .ok (.getfield 21, 3) := by decide +kernel
theorem dX5_tell_60 : decode cX5_tell 60 = .ok (.iload_n 1, 1) := by decide +kernel
theorem dX5_tell_61 : decode cX5_tell 61 = .ok (.baload, 1) := by decide +kernel
theorem dX5_tell_62 : decode cX5_tell 62 = .ok (.ifCond .eq 7, 3) := by decide +kernel
theorem dX5_tell_65 : decode cX5_tell 65 = .ok (.iconst 1, 1) := by decide +kernel
theorem dX5_tell_66 : decode cX5_tell 66 = .ok (.goto 4, 3) := by decide +kernel
theorem dX5_tell_69 : decode cX5_tell 69 = .ok (.iconst 0, 1) := by decide +kernel
theorem dX5_tell_70 : decode cX5_tell 70 = .ok (.ireturn, 1) := by decide +kernel
theorem dX6_init_0 : decode cX6_init 0 = .ok (.aload_n 0, 1) := by decide +kernel
theorem dX6_init_1 : decode cX6_init 1 = .ok (.invokespecial 3, 3) := by decide +kernel
theorem dX6_init_4 : decode cX6_init 4 = .ok (.aload_n 0, 1) := by decide +kernel
theorem dX6_init_5 : decode cX6_init 5 = .ok (.new 9, 3) := by decide +kernel
theorem dX6_init_8 : decode cX6_init 8 = .ok (.dup, 1) := by decide +kernel
theorem dX6_init_9 : decode cX6_init 9 = .ok (.invokespecial 11, 3) := by decide +kernel
theorem dX6_init_12 : decode cX6_init 12 = .ok (.putfield 12, 3) := by decide +kernel
theorem dX6_init_15 : decode cX6_init 15 = .ok (.aload_n 0, 1) := by decide +kernel
theorem dX6_init_16 : decode cX6_init 16 = .ok (.new 16, 3) := by decide +kernel
theorem dX6_init_19 : decode cX6_init 19 = .ok (.dup, 1) := by decide +kernel
theorem dX6_init_20 : decode cX6_init 20 = .ok (.invokespecial 18, 3) := by decide +kernel
theorem dX6_init_23 : decode cX6_init 23 = .ok (.putfield 19, 3) := by decide +kernel
theorem dX6_init_26 : decode cX6_init 26 = .ok (.aload_n 0, 1) := by decide +kernel
theorem dX6_init_27 : decode cX6_init 27 = .ok (.bipush 12, 2) := by decide +kernel
theorem dX6_init_29 : decode cX6_init 29 = .ok (.anewarray 23, 3) := by decide +kernel
theorem dX6_init_32 : decode cX6_init 32 = .ok (.putfield 25, 3) := by decide +kernel
theorem dX6_init_35 : decode cX6_init 35 = .ok (.iconst 0, 1) := by decide +kernel
theorem dX6_init_36 : decode cX6_init 36 = .ok (.istore_n 1, 1) := by decide +kernel
theorem dX6_init_37 : decode cX6_init 37 = .ok (.iload_n 1, 1) := by decide +kernel
theorem dX6_init_38 : decode cX6_init 38 = .ok (.bipush 12, 2) := by decide +kernel
theorem dX6_init_40 : decode cX6_init 40 = .ok (.if_icmp .ge 22, 3) := by decide +kernel
theorem dX6_init_43 : decode cX6_init 43 = .ok (.aload_n 0, 1) := by decide +kernel
theorem dX6_init_44 : decode cX6_init 44 = .ok (.getfield 25, 3) := by decide +kernel
theorem dX6_init_47 : decode cX6_init 47 = .ok (.iload_n 1, 1) := by decide +kernel
theorem dX6_init_48 : decode cX6_init 48 = .ok (.new 23, 3) := by decide +kernel
theorem dX6_init_51 : decode cX6_init 51 = .ok (.dup, 1) := by decide +kernel
theorem dX6_init_52 : decode cX6_init 52 = .ok (.invokespecial 29, 3) := by decide +kernel
theorem dX6_init_55 : decode cX6_init 55 = .ok (.aastore, 1) := by decide +kernel
theorem dX6_init_56 : decode cX6_init 56 = .ok (.iinc 1 1, 3) := by decide +kernel
theorem dX6_init_59 : decode cX6_init 59 = .ok (.goto (-22), 3) := by decide +kernel
theorem dX6_init_62 : decode cX6_init 62 = .ok (.aload_n 0, 1) := by decide +kernel
theorem dX6_init_63 : decode cX6_init 63 = .ok (.iconst 4, 1) := by decide +kernel
theorem dX6_init_64 : decode cX6_init 64 = .ok (.anewarray 30, 3) := by decide +kernel
theorem dX6_init_67 : decode cX6_init 67 = .ok (.putfield 32, 3) := by decide +kernel
theorem dX6_init_70 : decode cX6_init 70 = .ok (.iconst 0, 1) := by decide +kernel
theorem dX6_init_71 : decode cX6_init 71 = .ok (.istore_n 1, 1) := by decide +kernel
theorem dX6_init_72 : decode cX6_init 72 = .ok (.iload_n 1, 1) := by decide +kernel
theorem dX6_init_73 : decode cX6_init 73 = .ok (.iconst 4, 1) := by decide +kernel
theorem dX6_init_74 : decode cX6_init 74 = .ok (.if_icmp .ge 22, 3) := by decide +kernel
theorem dX6_init_77 : decode cX6_init 77 = .ok (.aload_n 0, 1) := by decide +kernel
theorem dX6_init_78 : decode cX6_init 78 = .ok (.getfield 32, 3) := by decide +kernel
theorem dX6_init_81 : decode cX6_init 81 = .ok (.iload_n 1, 1) := by decide +kernel
theorem dX6_init_82 : decode cX6_init 82 = .ok (.new 30, 3) := by decide +kernel
theorem dX6_init_85 : decode cX6_init 85 = .ok (.dup, 1) := by decide +kernel
theorem dX6_init_86 : decode cX6_init 86 = .ok (.invokespecial 36, 3) := by decide +kernel
theorem dX6_init_89 : decode cX6_init 89 = .ok (.aastore, 1) := by decide +kernel
theorem dX6_init_90 : decode cX6_init 90 = .ok (.iinc 1 1, 3) := by decide +kernel
theorem dX6_init_93 : decode cX6_init 93 = .ok (.goto (-21), 3) := by decide +kernel
theorem dX6_init_96 : decode cX6_init 96 = .ok (.aload_n 0, 1) := by decide +kernel
theorem dX6_init_97 : decode cX6_init 97 = .ok (.iconst 4, 1) := by decide +kernel
theorem dX6_init_98 : decode cX6_init 98 = .ok (.newarray .int, 2) := by decide +kernel
theorem dX6_init_100 : decode cX6_init 100 = .ok (.putfield 37, 3) := by decide +kernel
theorem dX6_init_103 : decode cX6_init 103 = .ok (.aload_n 0, 1) := by decide +kernel
theorem dX6_init_104 : decode cX6_init 104 = .ok (.iconst 5, 1) := by decide +kernel
theorem dX6_init_105 : decode cX6_init 105 = .ok (.newarray .int, 2) := by decide +kernel
theorem dX6_init_107 : decode cX6_init 107 = .ok (.putfield 41, 3) := by decide +kernel
theorem dX6_init_110 : decode cX6_init 110 = .ok (.aload_n 0, 1) := by decide +kernel
theorem dX6_init_111 : decode cX6_init 111 = .ok (.getfield 41, 3) := by decide +kernel
theorem dX6_init_114 : decode cX6_init 114 = .ok (.iconst 4, 1) := by decide +kernel
theorem dX6_init_115 : decode cX6_init 115 = .ok (.bipush 28, 2) := by decide +kernel
theorem dX6_init_117 : decode cX6_init 117 = .ok (.iastore, 1) := by decide +kernel
theorem dX6_init_118 : decode cX6_init 118 = .ok (.aload_n 0, 1) := by decide +kernel
theorem dX6_init_119 : decode cX6_init 119 = .ok (.bipush 60, 2) := by decide +kernel
theorem dX6_init_121 : decode cX6_init 121 = .ok (.anewarray 44, 3) := by decide +kernel
theorem dX6_init_124 : decode cX6_init 124 = .ok (.putfield 46, 3) := by decide +kernel
theorem dX6_init_127 : decode cX6_init 127 = .ok (.aload_n 0, 1) := by decide +kernel
theorem dX6_init_128 : decode cX6_init 128 = .ok (.getfield 12, 3) := by decide +kernel
theorem dX6_init_131 : decode cX6_init 131 = .ok (.iconst 1, 1) := by decide +kernel
theorem dX6_init_132 : decode cX6_init 132 = .ok (.iconst 1, 1) := by decide +kernel
theorem dX6_init_133 : decode cX6_init 133 = .ok (.invokevirtual 50, 3) := by decide +kernel
theorem dX6_init_136 : decode cX6_init 136 = .ok (.return_, 1) := by decide +kernel
theorem dX6_map_0 : decode cX6_map 0 = .ok (.iload_n 1, 1) := by decide +kernel
theorem dX6_map_1 : decode cX6_map 1 = .ok (.iconst 1, 1) := by decide +kernel
theorem dX6_map_2 : decode cX6_map 2 = .ok (.if_icmp .lt 20, 3) := by decide +kernel
theorem dX6_map_5 : decode cX6_map 5 = .ok (.iload_n 1, 1) := by decide +kernel
theorem dX6_map_6 : decode cX6_map 6 = .ok (.bipush 16, 2) := by decide +kernel
theorem dX6_map_8 : decode cX6_map 8 = .ok (.if_icmp .gt 14, 3) := by decide +kernel
theorem dX6_map_11 : decode cX6_map 11 = .ok (.iload_n 2, 1) := by decide +kernel
theorem dX6_map_12 : decode cX6_map 12 = .ok (.iconst 1, 1) := by decide +kernel
theorem dX6_map_13 : decode cX6_map 13 = .ok (.if_icmp .lt 9, 3) := by decide +kernel
theorem dX6_map_16 : decode cX6_map 16 = .ok (.iload_n 2, 1) := by decide +kernel
theorem dX6_map_17 : decode cX6_map 17 = .ok (.bipush 16, 2) := by decide +kernel
theorem dX6_map_19 : decode cX6_map 19 = .ok (.if_icmp .le 6, 3) := by decide +kernel
theorem dX6_map_22 : decode cX6_map 22 = .ok (.bipush (-102), 2) := by decide +kernel
theorem dX6_map_24 : decode cX6_map 24 = .ok (.ireturn, 1) := by decide +kernel
theorem dX6_map_25 : decode cX6_map 25 = .ok (.aload_n 0, 1) := by decide +kernel
theorem dX6_map_26 : decode cX6_map 26 = .ok (.invokevirtual 54, 3) := by decide +kernel
theorem dX6_map_29 : decode cX6_map 29 = .ok (.ifCond .eq 6, 3) := by decide +kernel
theorem dX6_map_32 : decode cX6_map 32 = .ok (.bipush (-103), 2) := by decide +kernel
theorem dX6_map_34 : decode cX6_map 34 = .ok (.ireturn, 1) := by decide +kernel
theorem dX6_map_35 : decode cX6_map 35 = .ok (.aload_n 0, 1) := by decide +kernel
theorem dX6_map_36 : decode cX6_map 36 = .ok (.getfield 12, 3) := by decide +kernel
theorem dX6_map_39 : decode cX6_map 39 = .ok (.iload_n 1, 1) := by decide +kernel
theorem dX6_map_40 : decode cX6_map 40 = .ok (.iload_n 2, 1) := by decide +kernel
theorem dX6_map_41 : decode cX6_map 41 = .ok (.invokevirtual 50, 3) := by decide +kernel
theorem dX6_map_44 : decode cX6_map 44 = .ok (.aload_n 0, 1) := by decide +kernel
theorem dX6_map_45 : decode cX6_map 45 = .ok (.iconst 0, 1) := by decide +kernel
theorem dX6_map_46 : decode cX6_map 46 = .ok (.putfield 58, 3) := by decide +kernel
theorem dX6_map_49 : decode cX6_map 49 = .ok (.iload_n 1, 1) := by decide +kernel
theorem dX6_map_50 : decode cX6_map 50 = .ok (.iload_n 2, 1) := by decide +kernel
theorem dX6_map_51 : decode cX6_map 51 = .ok (.imul, 1) := by decide +kernel
theorem dX6_map_52 : decode cX6_map 52 = .ok (.ireturn, 1) := by decide +kernel
theorem dX6_field_0 : decode cX6_field 0 = .ok (.aload_n 0, 1) := by decide +kernel
theorem dX6_field_1 : decode cX6_field 1 = .ok (.invokevirtual 54, 3) := by decide +kernel
theorem dX6_field_4 : decode cX6_field 4 = .ok (.ifCond .eq 6, 3) := by decide +kernel
theorem dX6_field_7 : decode cX6_field 7 = .ok (.bipush (-103), 2) := by decide +kernel
theorem dX6_field_9 : decode cX6_field 9 = .ok (.ireturn, 1) := by decide +kernel
theorem dX6_field_10 : decode cX6_field 10 = .ok (.aload_n 0, 1) := by decide +kernel
theorem dX6_field_11 : decode cX6_field 11 = .ok (.getfield 58, 3) := by decide +kernel
theorem dX6_field_14 : decode cX6_field 14 = .ok (.bipush 12, 2) := by decide +kernel
theorem dX6_field_16 : decode cX6_field 16 = .ok (.if_icmp .lt 6, 3) := by decide +kernel
theorem dX6_field_19 : decode cX6_field 19 = .ok (.bipush (-104), 2) := by decide +kernel
theorem dX6_field_21 : decode cX6_field 21 = .ok (.ireturn, 1) := by decide +kernel
theorem dX6_field_22 : decode cX6_field 22 = .ok (.aload_n 0, 1) := by decide +kernel
theorem dX6_field_23 : decode cX6_field 23 = .ok (.getfield 25, 3) := by decide +kernel
theorem dX6_field_26 : decode cX6_field 26 = .ok (.aload_n 0, 1) := by decide +kernel
theorem dX6_field_27 : decode cX6_field 27 = .ok (.getfield 58, 3) := by decide +kernel
theorem dX6_field_30 : decode cX6_field 30 = .ok (.aaload, 1) := by decide +kernel
theorem dX6_field_31 : decode cX6_field 31 = .ok (.invokevirtual 62, 3) := by decide +kernel
theorem dX6_field_34 : decode cX6_field 34 = .ok (.aload_n 0, 1) := by decide +kernel
theorem dX6_field_35 : decode cX6_field 35 = .ok (.dup, 1) := by decide +kernel
theorem dX6_field_36 : decode cX6_field 36 = .ok (.getfield 58, 3) := by decide +kernel
theorem dX6_field_39 : decode cX6_field 39 = .ok (.iconst 1, 1) := by decide +kernel
theorem dX6_field_40 : decode cX6_field 40 = .ok (.iadd, 1) := by decide +kernel
theorem dX6_field_41 : decode cX6_field 41 = .ok (.putfield 58, 3) := by decide +kernel
theorem dX6_field_44 : decode cX6_field 44 = .ok (.aload_n 0, 1) := by decide +kernel
theorem dX6_field_45 : decode cX6_field 45 = .ok (.getfield 58, 3) := by decide +kernel
theorem dX6_field_48 : decode cX6_field 48 = .ok (.iconst 1, 1) := by decide +kernel
theorem dX6_field_49 : decode cX6_field 49 = .ok (.isub, 1) := by decide +kernel
theorem dX6_field_50 : decode cX6_field 50 = .ok (.ireturn, 1) := by decide +kernel
theorem dX6_cell_0 : decode cX6_cell 0 = .ok (.aload_n 0, 1) := by decide +kernel
theorem dX6_cell_1 : decode cX6_cell 1 = .ok (.getfield 12, 3) := by decide +kernel
theorem dX6_cell_4 : decode cX6_cell 4 = .ok (.iload_n 1, 1) := by decide +kernel
theorem dX6_cell_5 : decode cX6_cell 5 = .ok (.iload_n 2, 1) := by decide +kernel
theorem dX6_cell_6 : decode cX6_cell 6 = .ok (.invokevirtual 65, 3) := by decide +kernel
theorem dX6_cell_9 : decode cX6_cell 9 = .ok (.istore 5, 2) := by decide +kernel
theorem dX6_cell_11 : decode cX6_cell 11 = .ok (.iload 5, 2) := by decide +kernel
theorem dX6_cell_13 : decode cX6_cell 13 = .ok (.iconst (-1), 1) := by decide +kernel
theorem dX6_cell_14 : decode cX6_cell 14 = .ok (.if_icmp .eq 16, 3) := by decide +kernel
theorem dX6_cell_17 : decode cX6_cell 17 = .ok (.iload_n 3, 1) := by decide +kernel
theorem dX6_cell_18 : decode cX6_cell 18 = .ok (.iconst (-1), 1) := by decide +kernel
theorem dX6_cell_19 : decode cX6_cell 19 = .ok (.if_icmp .eq 14, 3) := by decide +kernel
theorem dX6_cell_22 : decode cX6_cell 22 = .ok (.aload_n 0, 1) := by decide +kernel
theorem dX6_cell_23 : decode cX6_cell 23 = .ok (.iload_n 3, 1) := by decide +kernel
theorem dX6_cell_24 : decode cX6_cell 24 = .ok (.invokevirtual 69, 3) := by decide +kernel
theorem dX6_cell_27 : decode cX6_cell 27 = .ok (.ifCond .ne 6, 3) := by decide +kernel
theorem dX6_cell_30 : decode cX6_cell 30 = .ok (.bipush (-101), 2) := by decide +kernel
theorem dX6_cell_32 : decode cX6_cell 32 = .ok (.ireturn, 1) := by decide +kernel
theorem dX6_cell_33 : decode cX6_cell 33 = .ok (.iload 4, 2) := by decide +kernel
theorem dX6_cell_35 : decode cX6_cell 35 = .ok (.invokestatic 73, 3) := by decide +kernel
theorem dX6_cell_38 : decode cX6_cell 38 = .ok (.ifCond .ne 6, 3) := by decide +kernel
theorem dX6_cell_41 : decode cX6_cell 41 = .ok (.bipush (-102), 2) := by decide +kernel
theorem dX6_cell_43 : decode cX6_cell 43 = .ok (.ireturn, 1) := by decide +kernel
theorem dX6_cell_44 : decode cX6_cell 44 = .ok (.aload_n 0, 1) := by decide +kernel
theorem dX6_cell_45 : decode cX6_cell 45 = .ok (.invokevirtual 54, 3) := by decide +kernel
theorem dX6_cell_48 : decode cX6_cell 48 = .ok (.ifCond .eq 6, 3) := by decide +kernel
theorem dX6_cell_51 : decode cX6_cell 51 = .ok (.bipush (-103), 2) := by decide +kernel
theorem dX6_cell_53 : decode cX6_cell 53 = .ok (.ireturn, 1) := by decide +kernel
theorem dX6_cell_54 : decode cX6_cell 54 = .ok (.aload_n 0, 1) := by decide +kernel
theorem dX6_cell_55 : decode cX6_cell 55 = .ok (.iload 5, 2) := by decide +kernel
theorem dX6_cell_57 : decode cX6_cell 57 = .ok (.invokevirtual 76, 3) := by decide +kernel
theorem dX6_cell_60 : decode cX6_cell 60 = .ok (.aload_n 0, 1) := by decide +kernel
theorem dX6_cell_61 : decode cX6_cell 61 = .ok (.getfield 12, 3) := by decide +kernel
theorem dX6_cell_64 : decode cX6_cell 64 = .ok (.getfield 80, 3) := by decide +kernel
theorem dX6_cell_67 : decode cX6_cell 67 = .ok (.iload 5, 2) := by decide +kernel
theorem dX6_cell_69 : decode cX6_cell 69 = .ok (.iload_n 3, 1) := by decide +kernel
theorem dX6_cell_70 : decode cX6_cell 70 = .ok (.iastore, 1) := by decide +kernel
theorem dX6_cell_71 : decode cX6_cell 71 = .ok (.aload_n 0, 1) := by decide +kernel
theorem dX6_cell_72 : decode cX6_cell 72 = .ok (.getfield 12, 3) := by decide +kernel
theorem dX6_cell_75 : decode cX6_cell 75 = .ok (.getfield 83, 3) := by decide +kernel
theorem dX6_cell_78 : decode cX6_cell 78 = .ok (.iload 5, 2) := by decide +kernel
theorem dX6_cell_80 : decode cX6_cell 80 = .ok (.iload 4, 2) := by decide +kernel
theorem dX6_cell_82 : decode cX6_cell 82 = .ok (.iastore, 1) := by decide +kernel
theorem dX6_cell_83 : decode cX6_cell 83 = .ok (.aload_n 0, 1) := by decide +kernel
theorem dX6_cell_84 : decode cX6_cell 84 = .ok (.getfield 12, 3) := by decide +kernel
theorem dX6_cell_87 : decode cX6_cell 87 = .ok (.getfield 86, 3) := by decide +kernel
theorem dX6_cell_90 : decode cX6_cell 90 = .ok (.iload 5, 2) := by decide +kernel
theorem dX6_cell_92 : decode cX6_cell 92 = .ok (.iconst 0, 1) := by decide +kernel
theorem dX6_cell_93 : decode cX6_cell 93 = .ok (.bastore, 1) := by decide +kernel
theorem dX6_cell_94 : decode cX6_cell 94 = .ok (.iconst 1, 1) := by decide +kernel
theorem dX6_cell_95 : decode cX6_cell 95 = .ok (.ireturn, 1) := by decide +kernel
theorem dX6_lane_0 : decode cX6_lane 0 = .ok (.aload_n 0, 1) := by decide +kernel
theorem dX6_lane_1 : decode cX6_lane 1 = .ok (.getfield 12, 3) := by decide +kernel
theorem dX6_lane_4 : decode cX6_lane 4 = .ok (.iload_n 1, 1) := by decide +kernel
theorem dX6_lane_5 : decode cX6_lane 5 = .ok (.iload_n 2, 1) := by decide +kernel
theorem dX6_lane_6 : decode cX6_lane 6 = .ok (.invokevirtual 65, 3) := by decide +kernel
theorem dX6_lane_9 : decode cX6_lane 9 = .ok (.istore_n 3, 1) := by decide +kernel
theorem dX6_lane_10 : decode cX6_lane 10 = .ok (.iload_n 3, 1) := by decide +kernel
theorem dX6_lane_11 : decode cX6_lane 11 = .ok (.iconst (-1), 1) := by decide +kernel
theorem dX6_lane_12 : decode cX6_lane 12 = .ok (.if_icmp .ne 6, 3) := by decide +kernel
theorem dX6_lane_15 : decode cX6_lane 15 = .ok (.bipush (-101), 2) := by decide +kernel
theorem dX6_lane_17 : decode cX6_lane 17 = .ok (.ireturn, 1) := by decide +kernel
theorem dX6_lane_18 : decode cX6_lane 18 = .ok (.aload_n 0, 1) := by decide +kernel
theorem dX6_lane_19 : decode cX6_lane 19 = .ok (.invokevirtual 54, 3) := by decide +kernel
theorem dX6_lane_22 : decode cX6_lane 22 = .ok (.ifCond .eq 6, 3) := by decide +kernel
theorem dX6_lane_25 : decode cX6_lane 25 = .ok (.bipush (-103), 2) := by decide +kernel
theorem dX6_lane_27 : decode cX6_lane 27 = .ok (.ireturn, 1) := by decide +kernel
theorem dX6_lane_28 : decode cX6_lane 28 = .ok (.aload_n 0, 1) := by decide +kernel
theorem dX6_lane_29 : decode cX6_lane 29 = .ok (.iload_n 3, 1) := by decide +kernel
theorem dX6_lane_30 : decode cX6_lane 30 = .ok (.invokevirtual 76, 3) := by decide +kernel
theorem dX6_lane_33 : decode cX6_lane 33 = .ok (.aload_n 0, 1) := by decide +kernel
theorem dX6_lane_34 : decode cX6_lane 34 = .ok (.getfield 12, 3) := by decide +kernel
theorem dX6_lane_37 : decode cX6_lane 37 = .ok (.getfield 80, 3) := by decide +kernel
theorem dX6_lane_40 : decode cX6_lane 40 = .ok (.iload_n 3, 1) := by decide +kernel
theorem dX6_lane_41 : decode cX6_lane 41 = .ok (.iconst (-1), 1) := by decide +kernel
theorem dX6_lane_42 : decode cX6_lane 42 = .ok (.iastore, 1) := by decide +kernel
theorem dX6_lane_43 : decode cX6_lane 43 = .ok (.aload_n 0, 1) := by decide +kernel
theorem dX6_lane_44 : decode cX6_lane 44 = .ok (.getfield 12, 3) := by decide +kernel
theorem dX6_lane_47 : decode cX6_lane 47 = .ok (.getfield 86, 3) := by decide +kernel
theorem dX6_lane_50 : decode cX6_lane 50 = .ok (.iload_n 3, 1) := by decide +kernel
theorem dX6_lane_51 : decode cX6_lane 51 = .ok (.iconst 1, 1) := by decide +kernel
theorem dX6_lane_52 : decode cX6_lane 52 = .ok (.bastore, 1) := by decide +kernel
theorem dX6_lane_53 : decode cX6_lane 53 = .ok (.iconst 1, 1) := by decide +kernel
theorem dX6_lane_54 : decode cX6_lane 54 = .ok (.ireturn, 1) := by decide +kernel
theorem dX6_house_0 : decode cX6_house 0 = .ok (.aload_n 0, 1) := by decide +kernel
theorem dX6_house_1 : decode cX6_house 1 = .ok (.getfield 12, 3) := by decide +kernel
theorem dX6_house_4 : decode cX6_house 4 = .ok (.iload_n 2, 1) := by decide +kernel
theorem dX6_house_5 : decode cX6_house 5 = .ok (.iload_n 3, 1) := by decide +kernel
theorem dX6_house_6 : decode cX6_house 6 = .ok (.invokevirtual 65, 3) := by decide +kernel
theorem dX6_house_9 : decode cX6_house 9 = .ok (.istore 4, 2) := by decide +kernel
theorem dX6_house_11 : decode cX6_house 11 = .ok (.aload_n 0, 1) := by decide +kernel
theorem dX6_house_12 : decode cX6_house 12 = .ok (.iload_n 1, 1) := by decide +kernel
theorem dX6_house_13 : decode cX6_house 13 = .ok (.invokevirtual 69, 3) := by decide +kernel
theorem dX6_house_16 : decode cX6_house 16 = .ok (.ifCond .eq 9, 3) := by decide +kernel
theorem dX6_house_19 : decode cX6_house 19 = .ok (.iload 4, 2) := by decide +kernel
theorem dX6_house_21 : decode cX6_house 21 = .ok (.iconst (-1), 1) := by decide +kernel
theorem dX6_house_22 : decode cX6_house 22 = .ok (.if_icmp .ne 6, 3) := by decide +kernel
theorem dX6_house_25 : decode cX6_house 25 = .ok (.bipush (-101), 2) := by decide +kernel
theorem dX6_house_27 : decode cX6_house 27 = .ok (.ireturn, 1) := by decide +kernel
theorem dX6_house_28 : decode cX6_house 28 = .ok (.aload_n 0, 1) := by decide +kernel
theorem dX6_house_29 : decode cX6_house 29 = .ok (.getfield 12, 3) := by decide +kernel
theorem dX6_house_32 : decode cX6_house 32 = .ok (.getfield 80, 3) := by decide +kernel
theorem dX6_house_35 : decode cX6_house 35 = .ok (.iload 4, 2) := by decide +kernel
theorem dX6_house_37 : decode cX6_house 37 = .ok (.iaload, 1) := by decide +kernel
theorem dX6_house_38 : decode cX6_house 38 = .ok (.iload_n 1, 1) := by decide +kernel
theorem dX6_house_39 : decode cX6_house 39 = .ok (.if_icmp .eq 6, 3) := by decide +kernel
theorem dX6_house_42 : decode cX6_house 42 = .ok (.bipush (-102), 2) := by decide +kernel
theorem dX6_house_44 : decode cX6_house 44 = .ok (.ireturn, 1) := by decide +kernel
theorem dX6_house_45 : decode cX6_house 45 = .ok (.aload_n 0, 1) := by decide +kernel
theorem dX6_house_46 : decode cX6_house 46 = .ok (.invokevirtual 54, 3) := by decide +kernel
theorem dX6_house_49 : decode cX6_house 49 = .ok (.ifCond .eq 6, 3) := by decide +kernel
theorem dX6_house_52 : decode cX6_house 52 = .ok (.bipush (-103), 2) := by decide +kernel
theorem dX6_house_54 : decode cX6_house 54 = .ok (.ireturn, 1) := by decide +kernel
theorem dX6_house_55 : decode cX6_house 55 = .ok (.aload_n 0, 1) := by decide +kernel
theorem dX6_house_56 : decode cX6_house 56 = .ok (.getfield 25, 3) := by decide +kernel
theorem dX6_house_59 : decode cX6_house 59 = .ok (.iload_n 1, 1) := by decide +kernel
theorem dX6_house_60 : decode cX6_house 60 = .ok (.aaload, 1) := by decide +kernel
theorem dX6_house_61 : decode cX6_house 61 = .ok (.iload 4, 2) := by decide +kernel
theorem dX6_house_63 : decode cX6_house 63 = .ok (.putfield 90, 3) := by decide +kernel
theorem dX6_house_66 : decode cX6_house 66 = .ok (.iconst 1, 1) := by decide +kernel
theorem dX6_house_67 : decode cX6_house 67 = .ok (.ireturn, 1) := by decide +kernel
theorem dX6_right_0 : decode cX6_right 0 = .ok (.aload_n 0, 1) := by decide +kernel
theorem dX6_right_1 : decode cX6_right 1 = .ok (.iload_n 1, 1) := by decide +kernel
theorem dX6_right_2 : decode cX6_right 2 = .ok (.invokevirtual 69, 3) := by decide +kernel
theorem dX6_right_5 : decode cX6_right 5 = .ok (.ifCond .ne 6, 3) := by decide +kernel
theorem dX6_right_8 : decode cX6_right 8 = .ok (.bipush (-101), 2) := by decide +kernel
theorem dX6_right_10 : decode cX6_right 10 = .ok (.ireturn, 1) := by decide +kernel
theorem dX6_right_11 : decode cX6_right 11 = .ok (.iload_n 2, 1) := by decide +kernel
theorem dX6_right_12 : decode cX6_right 12 = .ok (.iload_n 3, 1) := by decide +kernel
theorem dX6_right_13 : decode cX6_right 13 = .ok (.invokestatic 93, 3) := by decide +kernel
theorem dX6_right_16 : decode cX6_right 16 = .ok (.ifCond .ne 6, 3) := by decide +kernel
theorem dX6_right_19 : decode cX6_right 19 = .ok (.bipush (-102), 2) := by decide +kernel
theorem dX6_right_21 : decode cX6_right 21 = .ok (.ireturn, 1) := by decide +kernel
theorem dX6_right_22 : decode cX6_right 22 = .ok (.aload_n 0, 1) := by decide +kernel
theorem dX6_right_23 : decode cX6_right 23 = .ok (.invokevirtual 54, 3) := by decide +kernel
theorem dX6_right_26 : decode cX6_right 26 = .ok (.ifCond .eq 6, 3) := by decide +kernel
theorem dX6_right_29 : decode cX6_right 29 = .ok (.bipush (-103), 2) := by decide +kernel
theorem dX6_right_31 : decode cX6_right 31 = .ok (.ireturn, 1) := by decide +kernel
theorem dX6_right_32 : decode cX6_right 32 = .ok (.aload_n 0, 1) := by decide +kernel
theorem dX6_right_33 : decode cX6_right 33 = .ok (.getfield 25, 3) := by decide +kernel
theorem dX6_right_36 : decode cX6_right 36 = .ok (.iload_n 1, 1) := by decide +kernel
theorem dX6_right_37 : decode cX6_right 37 = .ok (.aaload, 1) := by decide +kernel
theorem dX6_right_38 : decode cX6_right 38 = .ok (.iload_n 2, 1) := by decide +kernel
theorem dX6_right_39 : decode cX6_right 39 = .ok (.iload_n 3, 1) := by decide +kernel
theorem dX6_right_40 : decode cX6_right 40 = .ok (.invokevirtual 97, 3) := by decide +kernel
theorem dX6_right_43 : decode cX6_right 43 = .ok (.ireturn, 1) := by decide +kernel
theorem dX6_wasOrderMade_0 : decode cX6_wasOrderMade 0 = .ok (.aload_n 0, 1) := by decide +kernel
theorem dX6_wasOrderMade_1 : decode cX6_wasOrderMade 1 = .ok (.getfield 100, 3) := by decide +kernel
theorem dX6_wasOrderMade_4 : decode cX6_wasOrderMade 4 = .ok (.ifCond .gt 10, 3) := by decide +kernel
theorem dX6_wasOrderMade_7 : decode cX6_wasOrderMade 7 = .ok (.aload_n 0, 1) := by decide +kernel
theorem dX6_wasOrderMade_8 : decode cX6_wasOrderMade 8 = .ok (.getfield 103, 3) := by decide +kernel
theorem dX6_wasOrderMade_11 : decode cX6_wasOrderMade 11 = .ok (.ifCond .le 7, 3) := by decide +kernel
theorem dX6_wasOrderMade_14 : decode cX6_wasOrderMade 14 = .ok (.iconst 1, 1) := by decide +kernel
theorem dX6_wasOrderMade_15 : decode cX6_wasOrderMade 15 = .ok (.goto 4, 3) := by decide +kernel
theorem dX6_wasOrderMade_18 : decode cX6_wasOrderMade 18 = .ok (.iconst 0, 1) := by decide +kernel
theorem dX6_wasOrderMade_19 : decode cX6_wasOrderMade 19 = .ok (.ireturn, 1) := by decide +kernel
theorem dX6_isField_0 : decode cX6_isField 0 = .ok (.iload_n 1, 1) := by decide +kernel
theorem dX6_isField_1 : decode cX6_isField 1 = .ok (.ifCond .lt 21, 3) := by decide +kernel
theorem dX6_isField_4 : decode cX6_isField 4 = .ok (.iload_n 1, 1) := by decide +kernel
theorem dX6_isField_5 : decode cX6_isField 5 = .ok (.aload_n 0, 1) := by decide +kernel
theorem dX6_isField_6 : decode cX6_isField 6 = .ok (.getfield 58, 3) := by decide +kernel
theorem dX6_isField_9 : decode cX6_isField 9 = .ok (.if_icmp .ge 13, 3) := by decide +kernel
theorem dX6_isField_12 : decode cX6_isField 12 = .ok (.iload_n 1, 1) := by decide +kernel
theorem dX6_isField_13 : decode cX6_isField 13 = .ok (.bipush 12, 2) := by decide +kernel
theorem dX6_isField_15 : decode cX6_isField 15 = .ok (.if_icmp .ge 7, 3) := by decide +kernel
theorem dX6_isField_18 : decode cX6_isField 18 = .ok (.iconst 1, 1) := by decide +kernel
theorem dX6_isField_19 : decode cX6_isField 19 = .ok (.goto 4, 3) := by decide +kernel
theorem dX6_isField_22 : decode cX6_isField 22 = .ok (.iconst 0, 1) := by decide +kernel
theorem dX6_isField_23 : decode cX6_isField 23 = .ok (.ireturn, 1) := by decide +kernel
theorem dX6_isSoil_0 : decode cX6_isSoil 0 = .ok (.iload_n 0, 1) := by decide +kernel
theorem dX6_isSoil_1 : decode cX6_isSoil 1 = .ok (.ifCond .lt 12, 3) := by decide +kernel
theorem dX6_isSoil_4 : decode cX6_isSoil 4 = .ok (.iload_n 0, 1) := by decide +kernel
theorem dX6_isSoil_5 : decode cX6_isSoil 5 = .ok (.iconst 4, 1) := by decide +kernel
theorem dX6_isSoil_6 : decode cX6_isSoil 6 = .ok (.if_icmp .ge 7, 3) := by decide +kernel
theorem dX6_isSoil_9 : decode cX6_isSoil 9 = .ok (.iconst 1, 1) := by decide +kernel
theorem dX6_isSoil_10 : decode cX6_isSoil 10 = .ok (.goto 4, 3) := by decide +kernel
theorem dX6_isSoil_13 : decode cX6_isSoil 13 = .ok (.iconst 0, 1) := by decide +kernel
theorem dX6_isSoil_14 : decode cX6_isSoil 14 = .ok (.ireturn, 1) := by decide +kernel
theorem dX6_isAmount_0 : decode cX6_isAmount 0 = .ok (.iload_n 0, 1) := by decide +kernel
theorem dX6_isAmount_1 : decode cX6_isAmount 1 = .ok (.iconst 1, 1) := by decide +kernel
theorem dX6_isAmount_2 : decode cX6_isAmount 2 = .ok (.if_icmp .ne 19, 3) := by decide +kernel
theorem dX6_isAmount_5 : decode cX6_isAmount 5 = .ok (.iload_n 1, 1) := by decide +kernel
theorem dX6_isAmount_6 : decode cX6_isAmount 6 = .ok (.ifCond .lt 13, 3) := by decide +kernel
theorem dX6_isAmount_9 : decode cX6_isAmount 9 = .ok (.iload_n 1, 1) := by decide +kernel
theorem dX6_isAmount_10 : decode cX6_isAmount 10 = .ok (.ldc 106, 2) := by decide +kernel
theorem dX6_isAmount_12 : decode cX6_isAmount 12 = .ok (.if_icmp .gt 7, 3) := by decide +kernel
theorem dX6_isAmount_15 : decode cX6_isAmount 15 = .ok (.iconst 1, 1) := by decide +kernel
theorem dX6_isAmount_16 : decode cX6_isAmount 16 = .ok (.goto 4, 3) := by decide +kernel
theorem dX6_isAmount_19 : decode cX6_isAmount 19 = .ok (.iconst 0, 1) := by decide +kernel
theorem dX6_isAmount_20 : decode cX6_isAmount 20 = .ok (.ireturn, 1) := by decide +kernel
theorem dX6_isAmount_21 : decode cX6_isAmount 21 = .ok (.iload_n 0, 1) := by decide +kernel
theorem dX6_isAmount_22 : decode cX6_isAmount 22 = .ok (.iconst 2, 1) := by decide +kernel
theorem dX6_isAmount_23 : decode cX6_isAmount 23 = .ok (.if_icmp .ne 18, 3) := by decide +kernel
theorem dX6_isAmount_26 : decode cX6_isAmount 26 = .ok (.iload_n 1, 1) := by decide +kernel
theorem dX6_isAmount_27 : decode cX6_isAmount 27 = .ok (.ifCond .lt 14, 3) := by decide +kernel
theorem dX6_isAmount_30 : decode cX6_isAmount 30 = .ok (.iload_n 1, 1) := by decide +kernel
theorem dX6_isAmount_31 : decode cX6_isAmount 31 = .ok (.sipush 1000, 3) := by decide +kernel
theorem dX6_isAmount_34 : decode cX6_isAmount 34 = .ok (.if_icmp .gt 7, 3) := by decide +kernel
theorem dX6_isAmount_37 : decode cX6_isAmount 37 = .ok (.iconst 1, 1) := by decide +kernel
theorem dX6_isAmount_38 : decode cX6_isAmount 38 = .ok (.goto 4, 3) := by decide +kernel
theorem dX6_isAmount_41 : decode cX6_isAmount 41 = .ok (.iconst 0, 1) := by decide +kernel
theorem dX6_isAmount_42 : decode cX6_isAmount 42 = .ok (.ireturn, 1) := by decide +kernel
theorem dX6_pullDownHouse_0 : decode cX6_pullDownHouse 0 = .ok (.iconst 0, 1) := by decide +kernel
theorem dX6_pullDownHouse_1 : decode cX6_pullDownHouse 1 = .ok (.istore_n 2, 1) := by decide +kernel
theorem dX6_pullDownHouse_2 : decode cX6_pullDownHouse 2 = .ok (.iload_n 2, 1) := by decide +kernel
theorem dX6_pullDownHouse_3 : decode cX6_pullDownHouse 3 = .ok (.aload_n 0, 1) := by decide +kernel
theorem dX6_pullDownHouse_4 : decode cX6_pullDownHouse 4 = .ok (.getfield 58, 3) := by decide +kernel
theorem dX6_pullDownHouse_7 : decode cX6_pullDownHouse 7 = .ok (.if_icmp .ge 38, 3) := by decide +kernel
theorem dX6_pullDownHouse_10 : decode cX6_pullDownHouse 10 = .ok (.iload_n 2, 1) := by decide +kernel
theorem dX6_pullDownHouse_11 : decode cX6_pullDownHouse 11 = .ok (.bipush 12, 2) := by decide +kernel
theorem dX6_pullDownHouse_13 : decode cX6_pullDownHouse 13 = .ok (.if_icmp .ge 32, 3) := by decide +kernel
theorem dX6_pullDownHouse_16 : decode cX6_pullDownHouse 16 = .ok (.aload_n 0, 1) := by decide +kernel
theorem dX6_pullDownHouse_17 : decode cX6_pullDownHouse 17 = .ok (.getfield 25, 3) := by decide +kernel
theorem dX6_pullDownHouse_20 : decode cX6_pullDownHouse 20 = .ok (.iload_n 2, 1) := by decide +kernel
theorem dX6_pullDownHouse_21 : decode cX6_pullDownHouse 21 = .ok (.aaload, 1) := by decide +kernel
theorem dX6_pullDownHouse_22 : decode cX6_pullDownHouse 22 = .ok (.getfield 90, 3) := by decide +kernel
theorem dX6_pullDownHouse_25 : decode cX6_pullDownHouse 25 = .ok (.iload_n 1, 1) := by decide +kernel
theorem dX6_pullDownHouse_26 : decode cX6_pullDownHouse 26 = .ok (.if_icmp .ne 13, 3) := by decide +kernel
theorem dX6_pullDownHouse_29 : decode cX6_pullDownHouse 29 = .ok (.aload_n 0, 1) := by decide +kernel
theorem dX6_pullDownHouse_30 : decode cX6_pullDownHouse 30 = .ok (.getfield 25, 3) := by decide +kernel
theorem dX6_pullDownHouse_33 : decode cX6_pullDownHouse 33 = .ok (.iload_n 2, 1) := by decide +kernel
theorem dX6_pullDownHouse_34 : decode cX6_pullDownHouse 34 = .ok (.aaload, 1) := by decide +kernel
theorem dX6_pullDownHouse_35 : decode cX6_pullDownHouse 35 = .ok (.iconst (-1), 1) := by decide +kernel
theorem dX6_pullDownHouse_36 : decode cX6_pullDownHouse 36 = .ok (.putfield 90, 3) := by decide +kernel
theorem dX6_pullDownHouse_39 : decode cX6_pullDownHouse 39 = .ok (.iinc 2 1, 3) := by decide +kernel
theorem dX6_pullDownHouse_42 : decode cX6_pullDownHouse 42 = .ok (.goto (-40), 3) := by decide +kernel
theorem dX6_pullDownHouse_45 : decode cX6_pullDownHouse 45 = .ok (.return_, 1) := by decide +kernel
theorem dX6_price_0 : decode cX6_price 0 = .ok (.iload_n 1, 1) := by decide +kernel
theorem dX6_price_1 : decode cX6_price 1 = .ok (.invokestatic 73, 3) := by decide +kernel
theorem dX6_price_4 : decode cX6_price 4 = .ok (.ifCond .ne 6, 3) := by decide +kernel
theorem dX6_price_7 : decode cX6_price 7 = .ok (.bipush (-101), 2) := by decide +kernel
theorem dX6_price_9 : decode cX6_price 9 = .ok (.ireturn, 1) := by decide +kernel
theorem dX6_price_10 : decode cX6_price 10 = .ok (.iload_n 2, 1) := by decide +kernel
theorem dX6_price_11 : decode cX6_price 11 = .ok (.invokestatic 107, 3) := by decide +kernel
theorem dX6_price_14 : decode cX6_price 14 = .ok (.ifCond .eq 13, 3) := by decide +kernel
theorem dX6_price_17 : decode cX6_price 17 = .ok (.iload_n 3, 1) := by decide +kernel
theorem dX6_price_18 : decode cX6_price 18 = .ok (.ifCond .lt 9, 3) := by decide +kernel
theorem dX6_price_21 : decode cX6_price 21 = .ok (.iload_n 3, 1) := by decide +kernel
theorem dX6_price_22 : decode cX6_price 22 = .ok (.ldc 110, 2) := by decide +kernel
theorem dX6_price_24 : decode cX6_price 24 = .ok (.if_icmp .le 6, 3) := by decide +kernel
theorem dX6_price_27 : decode cX6_price 27 = .ok (.bipush (-102), 2) := by decide +kernel
theorem dX6_price_29 : decode cX6_price 29 = .ok (.ireturn, 1) := by decide +kernel
theorem dX6_price_30 : decode cX6_price 30 = .ok (.aload_n 0, 1) := by decide +kernel
theorem dX6_price_31 : decode cX6_price 31 = .ok (.getfield 32, 3) := by decide +kernel
theorem dX6_price_34 : decode cX6_price 34 = .ok (.iload_n 1, 1) := by decide +kernel
theorem dX6_price_35 : decode cX6_price 35 = .ok (.aaload, 1) := by decide +kernel
theorem dX6_price_36 : decode cX6_price 36 = .ok (.iload_n 2, 1) := by decide +kernel
theorem dX6_price_37 : decode cX6_price 37 = .ok (.iload_n 3, 1) := by decide +kernel
theorem dX6_price_38 : decode cX6_price 38 = .ok (.invokevirtual 111, 3) := by decide +kernel
theorem dX6_price_41 : decode cX6_price 41 = .ok (.ireturn, 1) := by decide +kernel
theorem dX6_costs_0 : decode cX6_costs 0 = .ok (.iload_n 1, 1) := by decide +kernel
theorem dX6_costs_1 : decode cX6_costs 1 = .ok (.invokestatic 73, 3) := by decide +kernel
theorem dX6_costs_4 : decode cX6_costs 4 = .ok (.ifCond .ne 6, 3) := by decide +kernel
theorem dX6_costs_7 : decode cX6_costs 7 = .ok (.bipush (-101), 2) := by decide +kernel
theorem dX6_costs_9 : decode cX6_costs 9 = .ok (.ireturn, 1) := by decide +kernel
theorem dX6_costs_10 : decode cX6_costs 10 = .ok (.iload_n 2, 1) := by decide +kernel
theorem dX6_costs_11 : decode cX6_costs 11 = .ok (.invokestatic 107, 3) := by decide +kernel
theorem dX6_costs_14 : decode cX6_costs 14 = .ok (.ifCond .ne 6, 3) := by decide +kernel
theorem dX6_costs_17 : decode cX6_costs 17 = .ok (.bipush (-102), 2) := by decide +kernel
theorem dX6_costs_19 : decode cX6_costs 19 = .ok (.ireturn, 1) := by decide +kernel
theorem dX6_costs_20 : decode cX6_costs 20 = .ok (.aload_n 0, 1) := by decide +kernel
theorem dX6_costs_21 : decode cX6_costs 21 = .ok (.getfield 32, 3) := by decide +kernel
theorem dX6_costs_24 : decode cX6_costs 24 = .ok (.iload_n 1, 1) := by decide +kernel
theorem dX6_costs_25 : decode cX6_costs 25 = .ok (.aaload, 1) := by decide +kernel
theorem dX6_costs_26 : decode cX6_costs 26 = .ok (.iload_n 2, 1) := by decide +kernel
theorem dX6_costs_27 : decode cX6_costs 27 = .ok (.invokevirtual 114, 3) := by decide +kernel
theorem dX6_costs_30 : decode cX6_costs 30 = .ok (.ireturn, 1) := by decide +kernel
theorem dX6_rate_0 : decode cX6_rate 0 = .ok (.iload_n 1, 1) := by decide +kernel
theorem dX6_rate_1 : decode cX6_rate 1 = .ok (.ifCond .lt 8, 3) := by decide +kernel
theorem dX6_rate_4 : decode cX6_rate 4 = .ok (.iload_n 1, 1) := by decide +kernel
theorem dX6_rate_5 : decode cX6_rate 5 = .ok (.iconst 5, 1) := by decide +kernel
theorem dX6_rate_6 : decode cX6_rate 6 = .ok (.if_icmp .lt 6, 3) := by decide +kernel
theorem dX6_rate_9 : decode cX6_rate 9 = .ok (.bipush (-101), 2) := by decide +kernel
theorem dX6_rate_11 : decode cX6_rate 11 = .ok (.ireturn, 1) := by decide +kernel
theorem dX6_rate_12 : decode cX6_rate 12 = .ok (.iload_n 2, 1) := by decide +kernel
theorem dX6_rate_13 : decode cX6_rate 13 = .ok (.ifCond .lt 12, 3) := by decide +kernel
theorem dX6_rate_16 : decode cX6_rate 16 = .ok (.iload_n 2, 1) := by decide +kernel
theorem dX6_rate_17 : decode cX6_rate 17 = .ok (.getstatic 118, 3) := by decide +kernel
theorem dX6_rate_20 : decode cX6_rate 20 = .ok (.iload_n 1, 1) := by decide +kernel
theorem dX6_rate_21 : decode cX6_rate 21 = .ok (.iaload, 1) := by decide +kernel
theorem dX6_rate_22 : decode cX6_rate 22 = .ok (.if_icmp .le 6, 3) := by decide +kernel
theorem dX6_rate_25 : decode cX6_rate 25 = .ok (.bipush (-102), 2) := by decide +kernel
theorem dX6_rate_27 : decode cX6_rate 27 = .ok (.ireturn, 1) := by decide +kernel
theorem dX6_rate_28 : decode cX6_rate 28 = .ok (.aload_n 0, 1) := by decide +kernel
theorem dX6_rate_29 : decode cX6_rate 29 = .ok (.getfield 41, 3) := by decide +kernel
theorem dX6_rate_32 : decode cX6_rate 32 = .ok (.iload_n 1, 1) := by decide +kernel
theorem dX6_rate_33 : decode cX6_rate 33 = .ok (.iaload, 1) := by decide +kernel
theorem dX6_rate_34 : decode cX6_rate 34 = .ok (.istore_n 3, 1) := by decide +kernel
theorem dX6_rate_35 : decode cX6_rate 35 = .ok (.aload_n 0, 1) := by decide +kernel
theorem dX6_rate_36 : decode cX6_rate 36 = .ok (.getfield 41, 3) := by decide +kernel
theorem dX6_rate_39 : decode cX6_rate 39 = .ok (.iload_n 1, 1) := by decide +kernel
theorem dX6_rate_40 : decode cX6_rate 40 = .ok (.iload_n 2, 1) := by decide +kernel
theorem dX6_rate_41 : decode cX6_rate 41 = .ok (.iastore, 1) := by decide +kernel
theorem dX6_rate_42 : decode cX6_rate 42 = .ok (.iload_n 3, 1) := by decide +kernel
theorem dX6_rate_43 : decode cX6_rate 43 = .ok (.ireturn, 1) := by decide +kernel
theorem dX6_days_0 : decode cX6_days 0 = .ok (.iload_n 1, 1) := by decide +kernel
theorem dX6_days_1 : decode cX6_days 1 = .ok (.iconst 1, 1) := by decide +kernel
theorem dX6_days_2 : decode cX6_days 2 = .ok (.if_icmp .lt 22, 3) := by decide +kernel
theorem dX6_days_5 : decode cX6_days 5 = .ok (.iload_n 1, 1) := by decide +kernel
theorem dX6_days_6 : decode cX6_days 6 = .ok (.sipush 1000, 3) := by decide +kernel
theorem dX6_days_9 : decode cX6_days 9 = .ok (.if_icmp .gt 15, 3) := by decide +kernel
theorem dX6_days_12 : decode cX6_days 12 = .ok (.aload_n 0, 1) := by decide +kernel
theorem dX6_days_13 : decode cX6_days 13 = .ok (.getfield 121, 3) := by decide +kernel
theorem dX6_days_16 : decode cX6_days 16 = .ok (.iload_n 1, 1) := by decide +kernel
theorem dX6_days_17 : decode cX6_days 17 = .ok (.iadd, 1) := by decide +kernel
theorem dX6_days_18 : decode cX6_days 18 = .ok (.sipush 10000, 3) := by decide +kernel
theorem dX6_days_21 : decode cX6_days 21 = .ok (.if_icmp .le 6, 3) := by decide +kernel
theorem dX6_days_24 : decode cX6_days 24 = .ok (.bipush (-102), 2) := by decide +kernel
theorem dX6_days_26 : decode cX6_days 26 = .ok (.ireturn, 1) := by decide +kernel
theorem dX6_days_27 : decode cX6_days 27 = .ok (.aload_n 0, 1) := by decide +kernel
theorem dX6_days_28 : decode cX6_days 28 = .ok (.dup, 1) := by decide +kernel
theorem dX6_days_29 : decode cX6_days 29 = .ok (.getfield 121, 3) := by decide +kernel
theorem dX6_days_32 : decode cX6_days 32 = .ok (.iload_n 1, 1) := by decide +kernel
theorem dX6_days_33 : decode cX6_days 33 = .ok (.iadd, 1) := by decide +kernel
theorem dX6_days_34 : decode cX6_days 34 = .ok (.putfield 121, 3) := by decide +kernel
theorem dX6_days_37 : decode cX6_days 37 = .ok (.aload_n 0, 1) := by decide +kernel
theorem dX6_days_38 : decode cX6_days 38 = .ok (.getfield 121, 3) := by decide +kernel
theorem dX6_days_41 : decode cX6_days 41 = .ok (.ireturn, 1) := by decide +kernel
theorem dX6_isDay_0 : decode cX6_isDay 0 = .ok (.iload_n 0, 1) := by decide +kernel
theorem dX6_isDay_1 : decode cX6_isDay 1 = .ok (.ifCond .lt 14, 3) := by decide +kernel
theorem dX6_isDay_4 : decode cX6_isDay 4 = .ok (.iload_n 0, 1) := by decide +kernel
theorem dX6_isDay_5 : decode cX6_isDay 5 = .ok (.sipush 10000, 3) := by decide +kernel
theorem dX6_isDay_8 : decode cX6_isDay 8 = .ok (.if_icmp .gt 7, 3) := by decide +kernel
theorem dX6_isDay_11 : decode cX6_isDay 11 = .ok (.iconst 1, 1) := by decide +kernel
theorem dX6_isDay_12 : decode cX6_isDay 12 = .ok (.goto 4, 3) := by decide +kernel
theorem dX6_isDay_15 : decode cX6_isDay 15 = .ok (.iconst 0, 1) := by decide +kernel
theorem dX6_isDay_16 : decode cX6_isDay 16 = .ok (.ireturn, 1) := by decide +kernel
theorem dX6_line_0 : decode cX6_line 0 = .ok (.aload_n 0, 1) := by decide +kernel
theorem dX6_line_1 : decode cX6_line 1 = .ok (.getfield 12, 3) := by decide +kernel
theorem dX6_line_4 : decode cX6_line 4 = .ok (.iload_n 1, 1) := by decide +kernel
theorem dX6_line_5 : decode cX6_line 5 = .ok (.iload_n 2, 1) := by decide +kernel
theorem dX6_line_6 : decode cX6_line 6 = .ok (.invokevirtual 65, 3) := by decide +kernel
theorem dX6_line_9 : decode cX6_line 9 = .ok (.istore 4, 2) := by decide +kernel
theorem dX6_line_11 : decode cX6_line 11 = .ok (.iload 4, 2) := by decide +kernel
theorem dX6_line_13 : decode cX6_line 13 = .ok (.iconst (-1), 1) := by decide +kernel
theorem dX6_line_14 : decode cX6_line 14 = .ok (.if_icmp .ne 6, 3) := by decide +kernel
theorem dX6_line_17 : decode cX6_line 17 = .ok (.bipush (-101), 2) := by decide +kernel
theorem dX6_line_19 : decode cX6_line 19 = .ok (.ireturn, 1) := by decide +kernel
theorem dX6_line_20 : decode cX6_line 20 = .ok (.aload_n 0, 1) := by decide +kernel
theorem dX6_line_21 : decode cX6_line 21 = .ok (.invokevirtual 124, 3) := by decide +kernel
theorem dX6_line_24 : decode cX6_line 24 = .ok (.ifnonnull 15, 3) := by decide +kernel
theorem dX6_line_27 : decode cX6_line 27 = .ok (.aload_n 0, 1) := by decide +kernel
theorem dX6_line_28 : decode cX6_line 28 = .ok (.getfield 12, 3) := by decide +kernel
theorem dX6_line_31 : decode cX6_line 31 = .ok (.iload 4, 2) := by decide +kernel
theorem dX6_line_33 : decode cX6_line 33 = .ok (.invokevirtual 128, 3) := by decide +kernel
theorem dX6_line_36 : decode cX6_line 36 = .ok (.ifCond .eq 6, 3) := by decide +kernel
theorem dX6_line_39 : decode cX6_line 39 = .ok (.bipush (-103), 2) := by decide +kernel
theorem dX6_line_41 : decode cX6_line 41 = .ok (.ireturn, 1) := by decide +kernel
theorem dX6_line_42 : decode cX6_line 42 = .ok (.aload_n 0, 1) := by decide +kernel
theorem dX6_line_43 : decode cX6_line 43 = .ok (.getfield 12, 3) := by decide +kernel
theorem dX6_line_46 : decode cX6_line 46 = .ok (.getfield 131, 3) := by decide +kernel
theorem dX6_line_49 : decode cX6_line 49 = .ok (.iload 4, 2) := by decide +kernel
theorem dX6_line_51 : decode cX6_line 51 = .ok (.baload, 1) := by decide +kernel
theorem dX6_line_52 : decode cX6_line 52 = .ok (.ifCond .eq 7, 3) := by decide +kernel
theorem dX6_line_55 : decode cX6_line 55 = .ok (.iconst 1, 1) := by decide +kernel
theorem dX6_line_56 : decode cX6_line 56 = .ok (.goto 4, 3) := by decide +kernel
theorem dX6_line_59 : decode cX6_line 59 = .ok (.iconst 0, 1) := by decide +kernel
theorem dX6_line_60 : decode cX6_line 60 = .ok (.istore 5, 2) := by decide +kernel
theorem dX6_line_62 : decode cX6_line 62 = .ok (.aload_n 0, 1) := by decide +kernel
theorem dX6_line_63 : decode cX6_line 63 = .ok (.getfield 12, 3) := by decide +kernel
theorem dX6_line_66 : decode cX6_line 66 = .ok (.getfield 131, 3) := by decide +kernel
theorem dX6_line_69 : decode cX6_line 69 = .ok (.iload 4, 2) := by decide +kernel
theorem dX6_line_71 : decode cX6_line 71 = .ok (.iload_n 3, 1) := by decide +kernel
theorem dX6_line_72 : decode cX6_line 72 = .ok (.bastore, 1) := by decide +kernel
theorem dX6_line_73 : decode cX6_line 73 = .ok (.iload 5, 2) := by decide +kernel
theorem dX6_line_75 : decode cX6_line 75 = .ok (.ireturn, 1) := by decide +kernel
theorem dX6_make_0 : decode cX6_make 0 = .ok (.aload_n 0, 1) := by decide +kernel
theorem dX6_make_1 : decode cX6_make 1 = .ok (.invokevirtual 124, 3) := by decide +kernel
theorem dX6_make_4 : decode cX6_make 4 = .ok (.ifnull 6, 3) := by decide +kernel
theorem dX6_make_7 : decode cX6_make 7 = .ok (.bipush (-103), 2) := by decide +kernel
theorem dX6_make_9 : decode cX6_make 9 = .ok (.ireturn, 1) := by decide +kernel
theorem dX6_make_10 : decode cX6_make 10 = .ok (.aload_n 0, 1) := by decide +kernel
theorem dX6_make_11 : decode cX6_make 11 = .ok (.invokevirtual 134, 3) := by decide +kernel
theorem dX6_make_14 : decode cX6_make 14 = .ok (.ifCond .ne 6, 3) := by decide +kernel
theorem dX6_make_17 : decode cX6_make 17 = .ok (.bipush (-102), 2) := by decide +kernel
theorem dX6_make_19 : decode cX6_make 19 = .ok (.ireturn, 1) := by decide +kernel
theorem dX6_make_20 : decode cX6_make 20 = .ok (.aload_n 0, 1) := by decide +kernel
theorem dX6_make_21 : decode cX6_make 21 = .ok (.getfield 100, 3) := by decide +kernel
theorem dX6_make_24 : decode cX6_make 24 = .ok (.bipush 60, 2) := by decide +kernel
theorem dX6_make_26 : decode cX6_make 26 = .ok (.if_icmp .lt 6, 3) := by decide +kernel
theorem dX6_make_29 : decode cX6_make 29 = .ok (.bipush (-104), 2) := by decide +kernel
theorem dX6_make_31 : decode cX6_make 31 = .ok (.ireturn, 1) := by decide +kernel
theorem dX6_make_32 : decode cX6_make 32 = .ok (.aload_n 0, 1) := by decide +kernel
theorem dX6_make_33 : decode cX6_make 33 = .ok (.getfield 46, 3) := by decide +kernel
theorem dX6_make_36 : decode cX6_make 36 = .ok (.aload_n 0, 1) := by decide +kernel
theorem dX6_make_37 : decode cX6_make 37 = .ok (.getfield 100, 3) := by decide +kernel
theorem dX6_make_40 : decode cX6_make 40 = .ok (.aaload, 1) := by decide +kernel
theorem dX6_make_41 : decode cX6_make 41 = .ok (.astore_n 1, 1) := by decide +kernel
theorem dX6_make_42 : decode cX6_make 42 = .ok (.aload_n 1, 1) := by decide +kernel
theorem dX6_make_43 : decode cX6_make 43 = .ok (.ifnonnull 21, 3) := by decide +kernel
theorem dX6_make_46 : decode cX6_make 46 = .ok (.new 44, 3) := by decide +kernel
theorem dX6_make_49 : decode cX6_make 49 = .ok (.dup, 1) := by decide +kernel
theorem dX6_make_50 : decode cX6_make 50 = .ok (.invokespecial 137, 3) := by decide +kernel
theorem dX6_make_53 : decode cX6_make 53 = .ok (.astore_n 1, 1) := by decide +kernel
theorem dX6_make_54 : decode cX6_make 54 = .ok (.aload_n 0, 1) := by decide +kernel
theorem dX6_make_55 : decode cX6_make 55 = .ok (.getfield 46, 3) := by decide +kernel
theorem dX6_make_58 : decode cX6_make 58 = .ok (.aload_n 0, 1) := by decide +kernel
theorem dX6_make_59 : decode cX6_make 59 = .ok (.getfield 100, 3) := by decide +kernel
theorem dX6_make_62 : decode cX6_make 62 = .ok (.aload_n 1, 1) := by decide +kernel
theorem dX6_make_63 : decode cX6_make 63 = .ok (.aastore, 1) := by decide +kernel
theorem dX6_make_64 : decode cX6_make 64 = .ok (.aload_n 0, 1) := by decide +kernel
theorem dX6_make_65 : decode cX6_make 65 = .ok (.dup, 1) := by decide +kernel
theorem dX6_make_66 : decode cX6_make 66 = .ok (.getfield 100, 3) := by decide +kernel
theorem dX6_make_69 : decode cX6_make 69 = .ok (.iconst 1, 1) := by decide +kernel
theorem dX6_make_70 : decode cX6_make 70 = .ok (.iadd, 1) := by decide +kernel
theorem dX6_make_71 : decode cX6_make 71 = .ok (.putfield 100, 3) := by decide +kernel
theorem dX6_make_74 : decode cX6_make 74 = .ok (.aload_n 1, 1) := by decide +kernel
theorem dX6_make_75 : decode cX6_make 75 = .ok (.aload_n 0, 1) := by decide +kernel
theorem dX6_make_76 : decode cX6_make 76 = .ok (.getfield 121, 3) := by decide +kernel
theorem dX6_make_79 : decode cX6_make 79 = .ok (.aload_n 0, 1) := by decide +kernel
theorem dX6_make_80 : decode cX6_make 80 = .ok (.getfield 41, 3) := by decide +kernel
theorem dX6_make_83 : decode cX6_make 83 = .ok (.iconst 4, 1) := by decide +kernel
theorem dX6_make_84 : decode cX6_make 84 = .ok (.iaload, 1) := by decide +kernel
theorem dX6_make_85 : decode cX6_make 85 = .ok (.invokevirtual 138, 3) := by decide +kernel
theorem dX6_make_88 : decode cX6_make 88 = .ok (.iconst 0, 1) := by decide +kernel
theorem dX6_make_89 : decode cX6_make 89 = .ok (.istore_n 2, 1) := by decide +kernel
theorem dX6_make_90 : decode cX6_make 90 = .ok (.iload_n 2, 1) := by decide +kernel
theorem dX6_make_91 : decode cX6_make 91 = .ok (.aload_n 0, 1) := by decide +kernel
theorem dX6_make_92 : decode cX6_make 92 = .ok (.getfield 58, 3) := by decide +kernel
theorem dX6_make_95 : decode cX6_make 95 = .ok (.if_icmp .ge 28, 3) := by decide +kernel
theorem dX6_make_98 : decode cX6_make 98 = .ok (.aload_n 0, 1) := by decide +kernel
theorem dX6_make_99 : decode cX6_make 99 = .ok (.getfield 12, 3) := by decide +kernel
theorem dX6_make_102 : decode cX6_make 102 = .ok (.iload_n 2, 1) := by decide +kernel
theorem dX6_make_103 : decode cX6_make 103 = .ok (.invokevirtual 141, 3) := by decide +kernel
theorem dX6_make_106 : decode cX6_make 106 = .ok (.istore_n 3, 1) := by decide +kernel
theorem dX6_make_107 : decode cX6_make 107 = .ok (.iload_n 3, 1) := by decide +kernel
theorem dX6_make_108 : decode cX6_make 108 = .ok (.ifCond .le 9, 3) := by decide +kernel
theorem dX6_make_111 : decode cX6_make 111 = .ok (.aload_n 1, 1) := by decide +kernel
theorem dX6_make_112 : decode cX6_make 112 = .ok (.iload_n 2, 1) := by decide +kernel
theorem dX6_make_113 : decode cX6_make 113 = .ok (.iload_n 3, 1) := by decide +kernel
theorem dX6_make_114 : decode cX6_make 114 = .ok (.invokevirtual 144, 3) := by decide +kernel
theorem dX6_make_117 : decode cX6_make 117 = .ok (.iinc 2 1, 3) := by decide +kernel
theorem dX6_make_120 : decode cX6_make 120 = .ok (.goto (-30), 3) := by decide +kernel
theorem dX6_make_123 : decode cX6_make 123 = .ok (.aload_n 1, 1) := by decide +kernel
theorem dX6_make_124 : decode cX6_make 124 = .ok (.getfield 147, 3) := by decide +kernel
theorem dX6_make_127 : decode cX6_make 127 = .ok (.ireturn, 1) := by decide +kernel
theorem dX6_object_0 : decode cX6_object 0 = .ok (.aload_n 0, 1) := by decide +kernel
theorem dX6_object_1 : decode cX6_object 1 = .ok (.invokevirtual 124, 3) := by decide +kernel
theorem dX6_object_4 : decode cX6_object 4 = .ok (.astore_n 2, 1) := by decide +kernel
theorem dX6_object_5 : decode cX6_object 5 = .ok (.aload_n 2, 1) := by decide +kernel
theorem dX6_object_6 : decode cX6_object 6 = .ok (.ifnonnull 6, 3) := by decide +kernel
theorem dX6_object_9 : decode cX6_object 9 = .ok (.bipush (-103), 2) := by decide +kernel
theorem dX6_object_11 : decode cX6_object 11 = .ok (.ireturn, 1) := by decide +kernel
theorem dX6_object_12 : decode cX6_object 12 = .ok (.aload_n 2, 1) := by decide +kernel
theorem dX6_object_13 : decode cX6_object 13 = .ok (.iload_n 1, 1) := by decide +kernel
theorem dX6_object_14 : decode cX6_object 14 = .ok (.invokevirtual 150, 3) := by decide +kernel
theorem dX6_object_17 : decode cX6_object 17 = .ok (.astore_n 3, 1) := by decide +kernel
theorem dX6_object_18 : decode cX6_object 18 = .ok (.aload_n 3, 1) := by decide +kernel
theorem dX6_object_19 : decode cX6_object 19 = .ok (.ifnonnull 6, 3) := by decide +kernel
theorem dX6_object_22 : decode cX6_object 22 = .ok (.bipush (-101), 2) := by decide +kernel
theorem dX6_object_24 : decode cX6_object 24 = .ok (.ireturn, 1) := by decide +kernel
theorem dX6_object_25 : decode cX6_object 25 = .ok (.aload_n 3, 1) := by decide +kernel
theorem dX6_object_26 : decode cX6_object 26 = .ok (.getfield 154, 3) := by decide +kernel
theorem dX6_object_29 : decode cX6_object 29 = .ok (.ifCond .ne 14, 3) := by decide +kernel
theorem dX6_object_32 : decode cX6_object 32 = .ok (.aload_n 0, 1) := by decide +kernel
theorem dX6_object_33 : decode cX6_object 33 = .ok (.getfield 121, 3) := by decide +kernel
theorem dX6_object_36 : decode cX6_object 36 = .ok (.aload_n 2, 1) := by decide +kernel
theorem dX6_object_37 : decode cX6_object 37 = .ok (.invokevirtual 159, 3) := by decide +kernel
theorem dX6_object_40 : decode cX6_object 40 = .ok (.if_icmp .le 6, 3) := by decide +kernel
theorem dX6_object_43 : decode cX6_object 43 = .ok (.bipush (-103), 2) := by decide +kernel
theorem dX6_object_45 : decode cX6_object 45 = .ok (.ireturn, 1) := by decide +kernel
theorem dX6_object_46 : decode cX6_object 46 = .ok (.aload_n 3, 1) := by decide +kernel
theorem dX6_object_47 : decode cX6_object 47 = .ok (.iconst 1, 1) := by decide +kernel
theorem dX6_object_48 : decode cX6_object 48 = .ok (.putfield 154, 3) := by decide +kernel
theorem dX6_object_51 : decode cX6_object 51 = .ok (.iconst 1, 1) := by decide +kernel
theorem dX6_object_52 : decode cX6_object 52 = .ok (.ireturn, 1) := by decide +kernel
theorem dX6_hear_0 : decode cX6_hear 0 = .ok (.aload_n 0, 1) := by decide +kernel
theorem dX6_hear_1 : decode cX6_hear 1 = .ok (.invokevirtual 124, 3) := by decide +kernel
theorem dX6_hear_4 : decode cX6_hear 4 = .ok (.astore_n 3, 1) := by decide +kernel
theorem dX6_hear_5 : decode cX6_hear 5 = .ok (.aload_n 3, 1) := by decide +kernel
theorem dX6_hear_6 : decode cX6_hear 6 = .ok (.ifnonnull 6, 3) := by decide +kernel
theorem dX6_hear_9 : decode cX6_hear 9 = .ok (.bipush (-103), 2) := by decide +kernel
theorem dX6_hear_11 : decode cX6_hear 11 = .ok (.ireturn, 1) := by decide +kernel
theorem dX6_hear_12 : decode cX6_hear 12 = .ok (.aload_n 3, 1) := by decide +kernel
theorem dX6_hear_13 : decode cX6_hear 13 = .ok (.iload_n 1, 1) := by decide +kernel
theorem dX6_hear_14 : decode cX6_hear 14 = .ok (.invokevirtual 150, 3) := by decide +kernel
theorem dX6_hear_17 : decode cX6_hear 17 = .ok (.astore 4, 2) := by decide +kernel
theorem dX6_hear_19 : decode cX6_hear 19 = .ok (.aload 4, 2) := by decide +kernel
theorem dX6_hear_21 : decode cX6_hear 21 = .ok (.ifnonnull 6, 3) := by decide +kernel
theorem dX6_hear_24 : decode cX6_hear 24 = .ok (.bipush (-101), 2) := by decide +kernel
theorem dX6_hear_26 : decode cX6_hear 26 = .ok (.ireturn, 1) := by decide +kernel
theorem dX6_hear_27 : decode cX6_hear 27 = .ok (.aload 4, 2) := by decide +kernel
theorem dX6_hear_29 : decode cX6_hear 29 = .ok (.getfield 154, 3) := by decide +kernel
theorem dX6_hear_32 : decode cX6_hear 32 = .ok (.iconst 1, 1) := by decide +kernel
theorem dX6_hear_33 : decode cX6_hear 33 = .ok (.if_icmp .eq 6, 3) := by decide +kernel
theorem dX6_hear_36 : decode cX6_hear 36 = .ok (.bipush (-103), 2) := by decide +kernel
theorem dX6_hear_38 : decode cX6_hear 38 = .ok (.ireturn, 1) := by decide +kernel
theorem dX6_hear_39 : decode cX6_hear 39 = .ok (.aload 4, 2) := by decide +kernel
theorem dX6_hear_41 : decode cX6_hear 41 = .ok (.iload_n 2, 1) := by decide +kernel
theorem dX6_hear_42 : decode cX6_hear 42 = .ok (.ifCond .eq 7, 3) := by decide +kernel
theorem dX6_hear_45 : decode cX6_hear 45 = .ok (.iconst 3, 1) := by decide +kernel
theorem dX6_hear_46 : decode cX6_hear 46 = .ok (.goto 4, 3) := by decide +kernel
theorem dX6_hear_49 : decode cX6_hear 49 = .ok (.iconst 2, 1) := by decide +kernel
theorem dX6_hear_50 : decode cX6_hear 50 = .ok (.putfield 154, 3) := by decide +kernel
theorem dX6_hear_53 : decode cX6_hear 53 = .ok (.aload_n 0, 1) := by decide +kernel
theorem dX6_hear_54 : decode cX6_hear 54 = .ok (.aload_n 3, 1) := by decide +kernel
theorem dX6_hear_55 : decode cX6_hear 55 = .ok (.invokevirtual 163, 3) := by decide +kernel
theorem dX6_hear_58 : decode cX6_hear 58 = .ok (.iconst 1, 1) := by decide +kernel
theorem dX6_hear_59 : decode cX6_hear 59 = .ok (.ireturn, 1) := by decide +kernel
theorem dX6_enter_0 : decode cX6_enter 0 = .ok (.aload_n 0, 1) := by decide +kernel
theorem dX6_enter_1 : decode cX6_enter 1 = .ok (.invokevirtual 124, 3) := by decide +kernel
theorem dX6_enter_4 : decode cX6_enter 4 = .ok (.astore_n 1, 1) := by decide +kernel
theorem dX6_enter_5 : decode cX6_enter 5 = .ok (.aload_n 1, 1) := by decide +kernel
theorem dX6_enter_6 : decode cX6_enter 6 = .ok (.ifnull 21, 3) := by decide +kernel
theorem dX6_enter_9 : decode cX6_enter 9 = .ok (.aload_n 0, 1) := by decide +kernel
theorem dX6_enter_10 : decode cX6_enter 10 = .ok (.getfield 121, 3) := by decide +kernel
theorem dX6_enter_13 : decode cX6_enter 13 = .ok (.aload_n 1, 1) := by decide +kernel
theorem dX6_enter_14 : decode cX6_enter 14 = .ok (.invokevirtual 159, 3) := by decide +kernel
theorem dX6_enter_17 : decode cX6_enter 17 = .ok (.if_icmp .lt 10, 3) := by decide +kernel
theorem dX6_enter_20 : decode cX6_enter 20 = .ok (.aload_n 1, 1) := by decide +kernel
theorem dX6_enter_21 : decode cX6_enter 21 = .ok (.invokevirtual 167, 3) := by decide +kernel
theorem dX6_enter_24 : decode cX6_enter 24 = .ok (.ifCond .ne 6, 3) := by decide +kernel
theorem dX6_enter_27 : decode cX6_enter 27 = .ok (.bipush (-103), 2) := by decide +kernel
theorem dX6_enter_29 : decode cX6_enter 29 = .ok (.ireturn, 1) := by decide +kernel
theorem dX6_enter_30 : decode cX6_enter 30 = .ok (.iconst 0, 1) := by decide +kernel
theorem dX6_enter_31 : decode cX6_enter 31 = .ok (.istore_n 2, 1) := by decide +kernel
theorem dX6_enter_32 : decode cX6_enter 32 = .ok (.iload_n 2, 1) := by decide +kernel
theorem dX6_enter_33 : decode cX6_enter 33 = .ok (.iconst 4, 1) := by decide +kernel
theorem dX6_enter_34 : decode cX6_enter 34 = .ok (.if_icmp .ge 28, 3) := by decide +kernel
theorem dX6_enter_37 : decode cX6_enter 37 = .ok (.aload_n 0, 1) := by decide +kernel
theorem dX6_enter_38 : decode cX6_enter 38 = .ok (.getfield 37, 3) := by decide +kernel
theorem dX6_enter_41 : decode cX6_enter 41 = .ok (.iload_n 2, 1) := by decide +kernel
theorem dX6_enter_42 : decode cX6_enter 42 = .ok (.aload_n 0, 1) := by decide +kernel
theorem dX6_enter_43 : decode cX6_enter 43 = .ok (.getfield 32, 3) := by decide +kernel
theorem dX6_enter_46 : decode cX6_enter 46 = .ok (.iload_n 2, 1) := by decide +kernel
theorem dX6_enter_47 : decode cX6_enter 47 = .ok (.aaload, 1) := by decide +kernel
theorem dX6_enter_48 : decode cX6_enter 48 = .ok (.aload_n 0, 1) := by decide +kernel
theorem dX6_enter_49 : decode cX6_enter 49 = .ok (.getfield 121, 3) := by decide +kernel
theorem dX6_enter_52 : decode cX6_enter 52 = .ok (.invokevirtual 114, 3) := by decide +kernel
theorem dX6_enter_55 : decode cX6_enter 55 = .ok (.iastore, 1) := by decide +kernel
theorem dX6_enter_56 : decode cX6_enter 56 = .ok (.iinc 2 1, 3) := by decide +kernel
theorem dX6_enter_59 : decode cX6_enter 59 = .ok (.goto (-27), 3) := by decide +kernel
theorem dX6_enter_62 : decode cX6_enter 62 = .ok (.aload_n 0, 1) := by decide +kernel
theorem dX6_enter_63 : decode cX6_enter 63 = .ok (.aload_n 1, 1) := by decide +kernel
theorem dX6_enter_64 : decode cX6_enter 64 = .ok (.invokevirtual 170, 3) := by decide +kernel
theorem dX6_enter_67 : decode cX6_enter 67 = .ok (.aload_n 0, 1) := by decide +kernel
theorem dX6_enter_68 : decode cX6_enter 68 = .ok (.aload_n 1, 1) := by decide +kernel
theorem dX6_enter_69 : decode cX6_enter 69 = .ok (.invokevirtual 173, 3) := by decide +kernel
theorem dX6_enter_72 : decode cX6_enter 72 = .ok (.istore_n 2, 1) := by decide +kernel
theorem dX6_enter_73 : decode cX6_enter 73 = .ok (.aload_n 0, 1) := by decide +kernel
theorem dX6_enter_74 : decode cX6_enter 74 = .ok (.aload_n 1, 1) := by decide +kernel
theorem dX6_enter_75 : decode cX6_enter 75 = .ok (.invokevirtual 163, 3) := by decide +kernel
theorem dX6_enter_78 : decode cX6_enter 78 = .ok (.iload_n 2, 1) := by decide +kernel
theorem dX6_enter_79 : decode cX6_enter 79 = .ok (.ireturn, 1) := by decide +kernel
theorem dX6_undo_0 : decode cX6_undo 0 = .ok (.aload_n 0, 1) := by decide +kernel
theorem dX6_undo_1 : decode cX6_undo 1 = .ok (.invokevirtual 177, 3) := by decide +kernel
theorem dX6_undo_4 : decode cX6_undo 4 = .ok (.astore_n 1, 1) := by decide +kernel
theorem dX6_undo_5 : decode cX6_undo 5 = .ok (.aload_n 1, 1) := by decide +kernel
theorem dX6_undo_6 : decode cX6_undo 6 = .ok (.ifnull 10, 3) := by decide +kernel
theorem dX6_undo_9 : decode cX6_undo 9 = .ok (.aload_n 1, 1) := by decide +kernel
theorem dX6_undo_10 : decode cX6_undo 10 = .ok (.invokevirtual 180, 3) := by decide +kernel
theorem dX6_undo_13 : decode cX6_undo 13 = .ok (.ifCond .ne 7, 3) := by decide +kernel
theorem dX6_undo_16 : decode cX6_undo 16 = .ok (.ldc2_w 183, 3) := by decide +kernel
theorem dX6_undo_19 : decode cX6_undo 19 = .ok (.lreturn, 1) := by decide +kernel
theorem dX6_undo_20 : decode cX6_undo 20 = .ok (.lconst 0, 1) := by decide +kernel
theorem dX6_undo_21 : decode cX6_undo 21 = .ok (.lstore_n 2, 1) := by decide +kernel
theorem dX6_undo_22 : decode cX6_undo 22 = .ok (.iconst 0, 1) := by decide +kernel
theorem dX6_undo_23 : decode cX6_undo 23 = .ok (.istore 4, 2) := by decide +kernel
theorem dX6_undo_25 : decode cX6_undo 25 = .ok (.iload 4, 2) := by decide +kernel
theorem dX6_undo_27 : decode cX6_undo 27 = .ok (.aload_n 1, 1) := by decide +kernel
theorem dX6_undo_28 : decode cX6_undo 28 = .ok (.getfield 147, 3) := by decide +kernel
theorem dX6_undo_31 : decode cX6_undo 31 = .ok (.if_icmp .ge 42, 3) := by decide +kernel
theorem dX6_undo_34 : decode cX6_undo 34 = .ok (.aload_n 1, 1) := by decide +kernel
theorem dX6_undo_35 : decode cX6_undo 35 = .ok (.iload 4, 2) := by decide +kernel
theorem dX6_undo_37 : decode cX6_undo 37 = .ok (.invokevirtual 150, 3) := by decide +kernel
theorem dX6_undo_40 : decode cX6_undo 40 = .ok (.astore 5, 2) := by decide +kernel
theorem dX6_undo_42 : decode cX6_undo 42 = .ok (.aload 5, 2) := by decide +kernel
theorem dX6_undo_44 : decode cX6_undo 44 = .ok (.ifnull 23, 3) := by decide +kernel
theorem dX6_undo_47 : decode cX6_undo 47 = .ok (.lload_n 2, 1) := by decide +kernel
theorem dX6_undo_48 : decode cX6_undo 48 = .ok (.aload 5, 2) := by decide +kernel
theorem dX6_undo_50 : decode cX6_undo 50 = .ok (.getfield 185, 3) := by decide +kernel
theorem dX6_undo_53 : decode cX6_undo 53 = .ok (.aload 5, 2) := by decide +kernel
theorem dX6_undo_55 : decode cX6_undo 55 = .ok (.getfield 189, 3) := by decide +kernel
theorem dX6_undo_58 : decode cX6_undo 58 = .ok (.ladd, 1) := by decide +kernel
theorem dX6_undo_59 : decode cX6_undo 59 = .ok (.ladd, 1) := by decide +kernel
theorem dX6_undo_60 : decode cX6_undo 60 = .ok (.lstore_n 2, 1) := by decide +kernel
theorem dX6_undo_61 : decode cX6_undo 61 = .ok (.aload_n 0, 1) := by decide +kernel
theorem dX6_undo_62 : decode cX6_undo 62 = .ok (.aload 5, 2) := by decide +kernel
theorem dX6_undo_64 : decode cX6_undo 64 = .ok (.invokevirtual 192, 3) := by decide +kernel
theorem dX6_undo_67 : decode cX6_undo 67 = .ok (.iinc 4 1, 3) := by decide +kernel
theorem dX6_undo_70 : decode cX6_undo 70 = .ok (.goto (-45), 3) := by decide +kernel
theorem dX6_undo_73 : decode cX6_undo 73 = .ok (.aload_n 0, 1) := by decide +kernel
theorem dX6_undo_74 : decode cX6_undo 74 = .ok (.dup, 1) := by decide +kernel
theorem dX6_undo_75 : decode cX6_undo 75 = .ok (.getfield 100, 3) := by decide +kernel
theorem dX6_undo_78 : decode cX6_undo 78 = .ok (.iconst 1, 1) := by decide +kernel
theorem dX6_undo_79 : decode cX6_undo 79 = .ok (.isub, 1) := by decide +kernel
theorem dX6_undo_80 : decode cX6_undo 80 = .ok (.putfield 100, 3) := by decide +kernel
theorem dX6_undo_83 : decode cX6_undo 83 = .ok (.aload_n 0, 1) := by decide +kernel
theorem dX6_undo_84 : decode cX6_undo 84 = .ok (.dup, 1) := by decide +kernel
theorem dX6_undo_85 : decode cX6_undo 85 = .ok (.getfield 103, 3) := by decide +kernel
theorem dX6_undo_88 : decode cX6_undo 88 = .ok (.iconst 1, 1) := by decide +kernel
theorem dX6_undo_89 : decode cX6_undo 89 = .ok (.iadd, 1) := by decide +kernel
theorem dX6_undo_90 : decode cX6_undo 90 = .ok (.putfield 103, 3) := by decide +kernel
theorem dX6_undo_93 : decode cX6_undo 93 = .ok (.aload_n 0, 1) := by decide +kernel
theorem dX6_undo_94 : decode cX6_undo 94 = .ok (.getfield 12, 3) := by decide +kernel
theorem dX6_undo_97 : decode cX6_undo 97 = .ok (.aload_n 0, 1) := by decide +kernel
theorem dX6_undo_98 : decode cX6_undo 98 = .ok (.getfield 100, 3) := by decide +kernel
theorem dX6_undo_101 : decode cX6_undo 101 = .ok (.invokevirtual 196, 3) := by decide +kernel
theorem dX6_undo_104 : decode cX6_undo 104 = .ok (.lload_n 2, 1) := by decide +kernel
theorem dX6_undo_105 : decode cX6_undo 105 = .ok (.lreturn, 1) := by decide +kernel
theorem dX6_orderAt_0 : decode cX6_orderAt 0 = .ok (.iload_n 1, 1) := by decide +kernel
theorem dX6_orderAt_1 : decode cX6_orderAt 1 = .ok (.ifCond .lt 26, 3) := by decide +kernel
theorem dX6_orderAt_4 : decode cX6_orderAt 4 = .ok (.iload_n 1, 1) := by decide +kernel
theorem dX6_orderAt_5 : decode cX6_orderAt 5 = .ok (.aload_n 0, 1) := by decide +kernel
theorem dX6_orderAt_6 : decode cX6_orderAt 6 = .ok (.getfield 100, 3) := by decide +kernel
theorem dX6_orderAt_9 : decode cX6_orderAt 9 = .ok (.if_icmp .ge 18, 3) := by decide +kernel
theorem dX6_orderAt_12 : decode cX6_orderAt 12 = .ok (.iload_n 1, 1) := by decide +kernel
theorem dX6_orderAt_13 : decode cX6_orderAt 13 = .ok (.bipush 60, 2) := by decide +kernel
theorem dX6_orderAt_15 : decode cX6_orderAt 15 = .ok (.if_icmp .ge 12, 3) := by decide +kernel
theorem dX6_orderAt_18 : decode cX6_orderAt 18 = .ok (.aload_n 0, 1) := by decide +kernel
theorem dX6_orderAt_19 : decode cX6_orderAt 19 = .ok (.getfield 46, 3) := by decide +kernel
theorem dX6_orderAt_22 : decode cX6_orderAt 22 = .ok (.iload_n 1, 1) := by decide +kernel
theorem dX6_orderAt_23 : decode cX6_orderAt 23 = .ok (.aaload, 1) := by decide +kernel
theorem dX6_orderAt_24 : decode cX6_orderAt 24 = .ok (.goto 4, 3) := by decide +kernel
theorem dX6_orderAt_27 : decode cX6_orderAt 27 = .ok (.aconst_null, 1) := by decide +kernel
theorem dX6_orderAt_28 : decode cX6_orderAt 28 = .ok (.areturn, 1) := by decide +kernel
theorem dX6_latestOrder_0 : decode cX6_latestOrder 0 = .ok (.aload_n 0, 1) := by decide +kernel
theorem dX6_latestOrder_1 : decode cX6_latestOrder 1 = .ok (.aload_n 0, 1) := by decide +kernel
theorem dX6_latestOrder_2 : decode cX6_latestOrder 2 = .ok (.getfield 100, 3) := by decide +kernel
theorem dX6_latestOrder_5 : decode cX6_latestOrder 5 = .ok (.iconst 1, 1) := by decide +kernel
theorem dX6_latestOrder_6 : decode cX6_latestOrder 6 = .ok (.isub, 1) := by decide +kernel
theorem dX6_latestOrder_7 : decode cX6_latestOrder 7 = .ok (.invokevirtual 199, 3) := by decide +kernel
theorem dX6_latestOrder_10 : decode cX6_latestOrder 10 = .ok (.areturn, 1) := by decide +kernel
theorem dX6_openOrder_0 : decode cX6_openOrder 0 = .ok (.aload_n 0, 1) := by decide +kernel
theorem dX6_openOrder_1 : decode cX6_openOrder 1 = .ok (.invokevirtual 177, 3) := by decide +kernel
theorem dX6_openOrder_4 : decode cX6_openOrder 4 = .ok (.astore_n 1, 1) := by decide +kernel
theorem dX6_openOrder_5 : decode cX6_openOrder 5 = .ok (.aload_n 1, 1) := by decide +kernel
theorem dX6_openOrder_6 : decode cX6_openOrder 6 = .ok (.ifnull 10, 3) := by decide +kernel
theorem dX6_openOrder_9 : decode cX6_openOrder 9 = .ok (.aload_n 1, 1) := by decide +kernel
theorem dX6_openOrder_10 : decode cX6_openOrder 10 = .ok (.invokevirtual 180, 3) := by decide +kernel
theorem dX6_openOrder_13 : decode cX6_openOrder 13 = .ok (.ifCond .eq 7, 3) := by decide +kernel
theorem dX6_openOrder_16 : decode cX6_openOrder 16 = .ok (.aconst_null, 1) := by decide +kernel
theorem dX6_openOrder_17 : decode cX6_openOrder 17 = .ok (.goto 4, 3) := by decide +kernel
theorem dX6_openOrder_20 : decode cX6_openOrder 20 = .ok (.aload_n 1, 1) := by decide +kernel
theorem dX6_openOrder_21 : decode cX6_openOrder 21 = .ok (.areturn, 1) := by decide +kernel
theorem dX6_caseOf_0 : decode cX6_caseOf 0 = .ok (.aload_n 0, 1) := by decide +kernel
theorem dX6_caseOf_1 : decode cX6_caseOf 1 = .ok (.iload_n 1, 1) := by decide +kernel
theorem dX6_caseOf_2 : decode cX6_caseOf 2 = .ok (.invokevirtual 199, 3) := by decide +kernel
theorem dX6_caseOf_5 : decode cX6_caseOf 5 = .ok (.astore_n 3, 1) := by decide +kernel
theorem dX6_caseOf_6 : decode cX6_caseOf 6 = .ok (.aload_n 3, 1) := by decide +kernel
theorem dX6_caseOf_7 : decode cX6_caseOf 7 = .ok (.ifnonnull 7, 3) := by decide +kernel
theorem dX6_caseOf_10 : decode cX6_caseOf 10 = .ok (.aconst_null, 1) := by decide +kernel
theorem dX6_caseOf_11 : decode cX6_caseOf 11 = .ok (.goto 8, 3) := by decide +kernel
theorem dX6_caseOf_14 : decode cX6_caseOf 14 = .ok (.aload_n 3, 1) := by decide +kernel
theorem dX6_caseOf_15 : decode cX6_caseOf 15 = .ok (.iload_n 2, 1) := by decide +kernel
theorem dX6_caseOf_16 : decode cX6_caseOf 16 = .ok (.invokevirtual 150, 3) := by decide +kernel
theorem dX6_caseOf_19 : decode cX6_caseOf 19 = .ok (.areturn, 1) := by decide +kernel
theorem dX6_touchesField_0 : decode cX6_touchesField 0 = .ok (.iconst 0, 1) := by decide +kernel
theorem dX6_touchesField_1 : decode cX6_touchesField 1 = .ok (.istore_n 1, 1) := by decide +kernel
theorem dX6_touchesField_2 : decode cX6_touchesField 2 = .ok (.iload_n 1, 1) := by decide +kernel
theorem dX6_touchesField_3 : decode cX6_touchesField 3 = .ok (.aload_n 0, 1) := by decide +kernel
theorem dX6_touchesField_4 : decode cX6_touchesField 4 = .ok (.getfield 58, 3) := by decide +kernel
theorem dX6_touchesField_7 : decode cX6_touchesField 7 = .ok (.if_icmp .ge 22, 3) := by decide +kernel
theorem dX6_touchesField_10 : decode cX6_touchesField 10 = .ok (.aload_n 0, 1) := by decide +kernel
theorem dX6_touchesField_11 : decode cX6_touchesField 11 = .ok (.getfield 12, 3) := by decide +kernel
theorem dX6_touchesField_14 : decode cX6_touchesField 14 = .ok (.iload_n 1, 1) := by decide +kernel
theorem dX6_touchesField_15 : decode cX6_touchesField 15 = .ok (.invokevirtual 141, 3) := by decide +kernel
theorem dX6_touchesField_18 : decode cX6_touchesField 18 = .ok (.ifCond .le 5, 3) := by decide +kernel
theorem dX6_touchesField_21 : decode cX6_touchesField 21 = .ok (.iconst 1, 1) := by decide +kernel
theorem dX6_touchesField_22 : decode cX6_touchesField 22 = .ok (.ireturn, 1) := by decide +kernel
theorem dX6_touchesField_23 : decode cX6_touchesField 23 = .ok (.iinc 1 1, 3) := by decide +kernel
theorem dX6_touchesField_26 : decode cX6_touchesField 26 = .ok (.goto (-24), 3) := by decide +kernel
theorem dX6_touchesField_29 : decode cX6_touchesField 29 = .ok (.iconst 0, 1) := by decide +kernel
theorem dX6_touchesField_30 : decode cX6_touchesField 30 = .ok (.ireturn, 1) := by decide +kernel
theorem dX6_emptyLineIfDone_0 : decode cX6_emptyLineIfDone 0 = .ok (.aload_n 1, 1) := by decide +kernel
theorem dX6_emptyLineIfDone_1 : decode cX6_emptyLineIfDone 1 = .ok (.invokevirtual 180, 3) := by decide +kernel
theorem dX6_emptyLineIfDone_4 : decode cX6_emptyLineIfDone 4 = .ok (.ifCond .eq 10, 3) := by decide +kernel
theorem dX6_emptyLineIfDone_7 : decode cX6_emptyLineIfDone 7 = .ok (.aload_n 0, 1) := by decide +kernel
theorem dX6_emptyLineIfDone_8 : decode cX6_emptyLineIfDone 8 = .ok (.getfield 12, 3) := by decide +kernel
theorem dX6_emptyLineIfDone_11 : decode cX6_emptyLineIfDone 11 = .ok (.invokevirtual 203, 3) := by decide +kernel
theorem dX6_emptyLineIfDone_14 : decode cX6_emptyLineIfDone 14 = .ok (.return_, 1) := by decide +kernel
theorem dX6_takeReadyCells_0 : decode cX6_takeReadyCells 0 = .ok (.aload_n 0, 1) := by decide +kernel
theorem dX6_takeReadyCells_1 : decode cX6_takeReadyCells 1 = .ok (.getfield 100, 3) := by decide +kernel
theorem dX6_takeReadyCells_4 : decode cX6_takeReadyCells 4 = .ok (.iconst 1, 1) := by decide +kernel
theorem dX6_takeReadyCells_5 : decode cX6_takeReadyCells 5 = .ok (.isub, 1) := by decide +kernel
theorem dX6_takeReadyCells_6 : decode cX6_takeReadyCells 6 = .ok (.istore_n 2, 1) := by decide +kernel
theorem dX6_takeReadyCells_7 : decode cX6_takeReadyCells 7 = .ok (.aload_n 0, 1) := by decide +kernel
theorem dX6_takeReadyCells_8 : decode cX6_takeReadyCells 8 = .ok (.getfield 12, 3) := by decide +kernel
theorem dX6_takeReadyCells_11 : decode cX6_takeReadyCells 11 = .ok (.iconst (-1), 1) := by decide +kernel
theorem dX6_takeReadyCells_12 : decode cX6_takeReadyCells 12 = .ok (.iload_n 2, 1) := by decide +kernel
theorem dX6_takeReadyCells_13 : decode cX6_takeReadyCells 13 = .ok (.invokevirtual 206, 3) := by decide +kernel
theorem dX6_takeReadyCells_16 : decode cX6_takeReadyCells 16 = .ok (.iconst 0, 1) := by decide +kernel
theorem dX6_takeReadyCells_17 : decode cX6_takeReadyCells 17 = .ok (.istore_n 3, 1) := by decide +kernel
theorem dX6_takeReadyCells_18 : decode cX6_takeReadyCells 18 = .ok (.iload_n 3, 1) := by decide +kernel
theorem dX6_takeReadyCells_19 : decode cX6_takeReadyCells 19 = .ok (.aload_n 1, 1) := by decide +kernel
theorem dX6_takeReadyCells_20 : decode cX6_takeReadyCells 20 = .ok (.getfield 147, 3) := by decide +kernel
theorem dX6_takeReadyCells_23 : decode cX6_takeReadyCells 23 = .ok (.if_icmp .ge 42, 3) := by decide +kernel
theorem dX6_takeReadyCells_26 : decode cX6_takeReadyCells 26 = .ok (.aload_n 1, 1) := by decide +kernel
theorem dX6_takeReadyCells_27 : decode cX6_takeReadyCells 27 = .ok (.iload_n 3, 1) := by decide +kernel
theorem dX6_takeReadyCells_28 : decode cX6_takeReadyCells 28 = .ok (.invokevirtual 150, 3) := by decide +kernel
theorem dX6_takeReadyCells_31 : decode cX6_takeReadyCells 31 = .ok (.astore 4, 2) := by decide +kernel
theorem dX6_takeReadyCells_33 : decode cX6_takeReadyCells 33 = .ok (.aload 4, 2) := by decide +kernel
theorem dX6_takeReadyCells_35 : decode cX6_takeReadyCells 35 = .ok (.ifnull 24, 3) := by decide +kernel
theorem dX6_takeReadyCells_38 : decode cX6_takeReadyCells 38 = .ok (.aload 4, 2) := by decide +kernel
theorem dX6_takeReadyCells_40 : decode cX6_takeReadyCells 40 = .ok (.invokevirtual 209, 3) := by decide +kernel
theorem dX6_takeReadyCells_43 : decode cX6_takeReadyCells 43 = .ok (.ifCond .eq 16, 3) := by decide +kernel
theorem dX6_takeReadyCells_46 : decode cX6_takeReadyCells 46 = .ok (.aload_n 0, 1) := by decide +kernel
theorem dX6_takeReadyCells_47 : decode cX6_takeReadyCells 47 = .ok (.getfield 12, 3) := by decide +kernel
theorem dX6_takeReadyCells_50 : decode cX6_takeReadyCells 50 = .ok (.aload 4, 2) := by decide +kernel
theorem dX6_takeReadyCells_52 : decode cX6_takeReadyCells 52 = .ok (.getfield 212, 3) := by decide +kernel
theorem dX6_takeReadyCells_55 : decode cX6_takeReadyCells 55 = .ok (.iload_n 2, 1) := by decide +kernel
theorem dX6_takeReadyCells_56 : decode cX6_takeReadyCells 56 = .ok (.invokevirtual 206, 3) := by decide +kernel
theorem dX6_takeReadyCells_59 : decode cX6_takeReadyCells 59 = .ok (.iinc 3 1, 3) := by decide +kernel
theorem dX6_takeReadyCells_62 : decode cX6_takeReadyCells 62 = .ok (.goto (-44), 3) := by decide +kernel
theorem dX6_takeReadyCells_65 : decode cX6_takeReadyCells 65 = .ok (.return_, 1) := by decide +kernel
theorem dX6_settleReadyCases_0 : decode cX6_settleReadyCases 0 = .ok (.iconst 0, 1) := by decide +kernel
theorem dX6_settleReadyCases_1 : decode cX6_settleReadyCases 1 = .ok (.istore_n 2, 1) := by decide +kernel
theorem dX6_settleReadyCases_2 : decode cX6_settleReadyCases 2 = .ok (.iconst 0, 1) := by decide +kernel
theorem dX6_settleReadyCases_3 : decode cX6_settleReadyCases 3 = .ok (.istore_n 3, 1) := by decide +kernel
theorem dX6_settleReadyCases_4 : decode cX6_settleReadyCases 4 = .ok (.iload_n 3, 1) := by decide +kernel
theorem dX6_settleReadyCases_5 : decode cX6_settleReadyCases 5 = .ok (.aload_n 1, 1) := by decide +kernel
theorem dX6_settleReadyCases_6 : decode cX6_settleReadyCases 6 = .ok (.getfield 147, 3) := by decide +kernel
theorem dX6_settleReadyCases_9 : decode cX6_settleReadyCases 9 = .ok (.if_icmp .ge 91, 3) := by decide +kernel
theorem dX6_settleReadyCases_12 : decode cX6_settleReadyCases 12 = .ok (.aload_n 1, 1) := by decide +kernel
theorem dX6_settleReadyCases_13 : decode cX6_settleReadyCases 13 = .ok (.iload_n 3, 1) := by decide +kernel
theorem dX6_settleReadyCases_14 : decode cX6_settleReadyCases 14 = .ok (.invokevirtual 150, 3) := by decide +kernel
theorem dX6_settleReadyCases_17 : decode cX6_settleReadyCases 17 = .ok (.astore 4, 2) := by decide +kernel
theorem dX6_settleReadyCases_19 : decode cX6_settleReadyCases 19 = .ok (.aload 4, 2) := by decide +kernel
theorem dX6_settleReadyCases_21 : decode cX6_settleReadyCases 21 = .ok (.ifnull 73, 3) := by decide +kernel
theorem dX6_settleReadyCases_24 : decode cX6_settleReadyCases 24 = .ok (.aload 4, 2) := by decide +kernel
theorem dX6_settleReadyCases_26 : decode cX6_settleReadyCases 26 = .ok (.invokevirtual 209, 3) := by decide +kernel
theorem dX6_settleReadyCases_29 : decode cX6_settleReadyCases 29 = .ok (.ifCond .eq 65, 3) := by decide +kernel
theorem dX6_settleReadyCases_32 : decode cX6_settleReadyCases 32 = .ok (.aload_n 0, 1) := by decide +kernel
theorem dX6_settleReadyCases_33 : decode cX6_settleReadyCases 33 = .ok (.aload 4, 2) := by decide +kernel
theorem dX6_settleReadyCases_35 : decode cX6_settleReadyCases 35 = .ok (.getfield 212, 3) := by decide +kernel
theorem dX6_settleReadyCases_38 : decode cX6_settleReadyCases 38 = .ok (.invokevirtual 69, 3) := by decide +kernel
theorem dX6_settleReadyCases_41 : decode cX6_settleReadyCases 41 = .ok (.ifCond .eq 53, 3) := by decide +kernel
theorem dX6_settleReadyCases_44 : decode cX6_settleReadyCases 44 = .ok (.aload_n 0, 1) := by decide +kernel
theorem dX6_settleReadyCases_45 : decode cX6_settleReadyCases 45 = .ok (.aload 4, 2) := by decide +kernel
theorem dX6_settleReadyCases_47 : decode cX6_settleReadyCases 47 = .ok (.aload_n 0, 1) := by decide +kernel
theorem dX6_settleReadyCases_48 : decode cX6_settleReadyCases 48 = .ok (.getfield 25, 3) := by decide +kernel
theorem dX6_settleReadyCases_51 : decode cX6_settleReadyCases 51 = .ok (.aload 4, 2) := by decide +kernel
theorem dX6_settleReadyCases_53 : decode cX6_settleReadyCases 53 = .ok (.getfield 212, 3) := by decide +kernel
theorem dX6_settleReadyCases_56 : decode cX6_settleReadyCases 56 = .ok (.aaload, 1) := by decide +kernel
theorem dX6_settleReadyCases_57 : decode cX6_settleReadyCases 57 = .ok (.invokevirtual 215, 3) := by decide +kernel
theorem dX6_settleReadyCases_60 : decode cX6_settleReadyCases 60 = .ok (.aload_n 0, 1) := by decide +kernel
theorem dX6_settleReadyCases_61 : decode cX6_settleReadyCases 61 = .ok (.aload 4, 2) := by decide +kernel
theorem dX6_settleReadyCases_63 : decode cX6_settleReadyCases 63 = .ok (.aload_n 0, 1) := by decide +kernel
theorem dX6_settleReadyCases_64 : decode cX6_settleReadyCases 64 = .ok (.getfield 25, 3) := by decide +kernel
theorem dX6_settleReadyCases_67 : decode cX6_settleReadyCases 67 = .ok (.aload 4, 2) := by decide +kernel
theorem dX6_settleReadyCases_69 : decode cX6_settleReadyCases 69 = .ok (.getfield 212, 3) := by decide +kernel
theorem dX6_settleReadyCases_72 : decode cX6_settleReadyCases 72 = .ok (.aaload, 1) := by decide +kernel
theorem dX6_settleReadyCases_73 : decode cX6_settleReadyCases 73 = .ok (.invokevirtual 219, 3) := by decide +kernel
theorem dX6_settleReadyCases_76 : decode cX6_settleReadyCases 76 = .ok (.aload 4, 2) := by decide +kernel
theorem dX6_settleReadyCases_78 : decode cX6_settleReadyCases 78 = .ok (.aload_n 0, 1) := by decide +kernel
theorem dX6_settleReadyCases_79 : decode cX6_settleReadyCases 79 = .ok (.getfield 121, 3) := by decide +kernel
theorem dX6_settleReadyCases_82 : decode cX6_settleReadyCases 82 = .ok (.aload_n 0, 1) := by decide +kernel
theorem dX6_settleReadyCases_83 : decode cX6_settleReadyCases 83 = .ok (.getfield 41, 3) := by decide +kernel
theorem dX6_settleReadyCases_86 : decode cX6_settleReadyCases 86 = .ok (.iconst 3, 1) := by decide +kernel
theorem dX6_settleReadyCases_87 : decode cX6_settleReadyCases 87 = .ok (.iaload, 1) := by decide +kernel
theorem dX6_settleReadyCases_88 : decode cX6_settleReadyCases 88 = .ok (.invokevirtual 222, 3) := by decide +kernel
theorem dX6_settleReadyCases_91 : decode cX6_settleReadyCases 91 = .ok (.iinc 2 1, 3) := by decide +kernel
theorem dX6_settleReadyCases_94 : decode cX6_settleReadyCases 94 = .ok (.iinc 3 1, 3) := by decide +kernel
theorem dX6_settleReadyCases_97 : decode cX6_settleReadyCases 97 = .ok (.goto (-93), 3) := by decide +kernel
theorem dX6_settleReadyCases_100 : decode cX6_settleReadyCases 100 = .ok (.iload_n 2, 1) := by decide +kernel
theorem dX6_settleReadyCases_101 : decode cX6_settleReadyCases 101 = .ok (.ireturn, 1) := by decide +kernel
theorem dX6_assess_0 : decode cX6_assess 0 = .ok (.aload_n 1, 1) := by decide +kernel
theorem dX6_assess_1 : decode cX6_assess 1 = .ok (.getfield 212, 3) := by decide +kernel
theorem dX6_assess_4 : decode cX6_assess 4 = .ok (.istore_n 3, 1) := by decide +kernel
theorem dX6_assess_5 : decode cX6_assess 5 = .ok (.aload_n 0, 1) := by decide +kernel
theorem dX6_assess_6 : decode cX6_assess 6 = .ok (.getfield 19, 3) := by decide +kernel
theorem dX6_assess_9 : decode cX6_assess 9 = .ok (.aload_n 0, 1) := by decide +kernel
theorem dX6_assess_10 : decode cX6_assess 10 = .ok (.getfield 12, 3) := by decide +kernel
theorem dX6_assess_13 : decode cX6_assess 13 = .ok (.iload_n 3, 1) := by decide +kernel
theorem dX6_assess_14 : decode cX6_assess 14 = .ok (.aload_n 2, 1) := by decide +kernel
theorem dX6_assess_15 : decode cX6_assess 15 = .ok (.getfield 90, 3) := by decide +kernel
theorem dX6_assess_18 : decode cX6_assess 18 = .ok (.invokevirtual 225, 3) := by decide +kernel
theorem dX6_assess_21 : decode cX6_assess 21 = .ok (.aload_n 1, 1) := by decide +kernel
theorem dX6_assess_22 : decode cX6_assess 22 = .ok (.aload_n 0, 1) := by decide +kernel
theorem dX6_assess_23 : decode cX6_assess 23 = .ok (.getfield 12, 3) := by decide +kernel
theorem dX6_assess_26 : decode cX6_assess 26 = .ok (.iload_n 3, 1) := by decide +kernel
theorem dX6_assess_27 : decode cX6_assess 27 = .ok (.aload_n 0, 1) := by decide +kernel
theorem dX6_assess_28 : decode cX6_assess 28 = .ok (.getfield 37, 3) := by decide +kernel
theorem dX6_assess_31 : decode cX6_assess 31 = .ok (.invokevirtual 229, 3) := by decide +kernel
theorem dX6_assess_34 : decode cX6_assess 34 = .ok (.putfield 233, 3) := by decide +kernel
theorem dX6_assess_37 : decode cX6_assess 37 = .ok (.aload_n 1, 1) := by decide +kernel
theorem dX6_assess_38 : decode cX6_assess 38 = .ok (.lconst 0, 1) := by decide +kernel
theorem dX6_assess_39 : decode cX6_assess 39 = .ok (.aload_n 0, 1) := by decide +kernel
theorem dX6_assess_40 : decode cX6_assess 40 = .ok (.invokevirtual 236, 3) := by decide +kernel
theorem dX6_assess_43 : decode cX6_assess 43 = .ok (.aload_n 0, 1) := by decide +kernel
theorem dX6_assess_44 : decode cX6_assess 44 = .ok (.iload_n 3, 1) := by decide +kernel
theorem dX6_assess_45 : decode cX6_assess 45 = .ok (.invokevirtual 240, 3) := by decide +kernel
theorem dX6_assess_48 : decode cX6_assess 48 = .ok (.lsub, 1) := by decide +kernel
theorem dX6_assess_49 : decode cX6_assess 49 = .ok (.invokestatic 244, 3) := by decide +kernel
theorem dX6_assess_52 : decode cX6_assess 52 = .ok (.putfield 250, 3) := by decide +kernel
theorem dX6_assess_55 : decode cX6_assess 55 = .ok (.aload_n 1, 1) := by decide +kernel
theorem dX6_assess_56 : decode cX6_assess 56 = .ok (.aload_n 0, 1) := by decide +kernel
theorem dX6_assess_57 : decode cX6_assess 57 = .ok (.getfield 41, 3) := by decide +kernel
theorem dX6_assess_60 : decode cX6_assess 60 = .ok (.iconst 1, 1) := by decide +kernel
theorem dX6_assess_61 : decode cX6_assess 61 = .ok (.iaload, 1) := by decide +kernel
theorem dX6_assess_62 : decode cX6_assess 62 = .ok (.i2l, 1) := by decide +kernel
theorem dX6_assess_63 : decode cX6_assess 63 = .ok (.aload_n 0, 1) := by decide +kernel
theorem dX6_assess_64 : decode cX6_assess 64 = .ok (.getfield 12, 3) := by decide +kernel
theorem dX6_assess_67 : decode cX6_assess 67 = .ok (.iload_n 3, 1) := by decide +kernel
theorem dX6_assess_68 : decode cX6_assess 68 = .ok (.invokevirtual 253, 3) := by decide +kernel
theorem dX6_assess_71 : decode cX6_assess 71 = .ok (.i2l, 1) := by decide +kernel
theorem dX6_assess_72 : decode cX6_assess 72 = .ok (.lmul, 1) := by decide +kernel
theorem dX6_assess_73 : decode cX6_assess 73 = .ok (.putfield 256, 3) := by decide +kernel
theorem dX6_assess_76 : decode cX6_assess 76 = .ok (.aload_n 1, 1) := by decide +kernel
theorem dX6_assess_77 : decode cX6_assess 77 = .ok (.getfield 233, 3) := by decide +kernel
theorem dX6_assess_80 : decode cX6_assess 80 = .ok (.aload_n 1, 1) := by decide +kernel
theorem dX6_assess_81 : decode cX6_assess 81 = .ok (.getfield 250, 3) := by decide +kernel
theorem dX6_assess_84 : decode cX6_assess 84 = .ok (.ladd, 1) := by decide +kernel
theorem dX6_assess_85 : decode cX6_assess 85 = .ok (.aload_n 1, 1) := by decide +kernel
theorem dX6_assess_86 : decode cX6_assess 86 = .ok (.getfield 256, 3) := by decide +kernel
theorem dX6_assess_89 : decode cX6_assess 89 = .ok (.ladd, 1) := by decide +kernel
theorem dX6_assess_90 : decode cX6_assess 90 = .ok (.lstore 4, 2) := by decide +kernel
theorem dX6_assess_92 : decode cX6_assess 92 = .ok (.aload_n 1, 1) := by decide +kernel
theorem dX6_assess_93 : decode cX6_assess 93 = .ok (.lload 4, 2) := by decide +kernel
theorem dX6_assess_95 : decode cX6_assess 95 = .ok (.aload_n 0, 1) := by decide +kernel
theorem dX6_assess_96 : decode cX6_assess 96 = .ok (.getfield 19, 3) := by decide +kernel
theorem dX6_assess_99 : decode cX6_assess 99 = .ok (.aload_n 0, 1) := by decide +kernel
theorem dX6_assess_100 : decode cX6_assess 100 = .ok (.getfield 19, 3) := by decide +kernel
theorem dX6_assess_103 : decode cX6_assess 103 = .ok (.getfield 259, 3) := by decide +kernel
theorem dX6_assess_106 : decode cX6_assess 106 = .ok (.aload_n 0, 1) := by decide +kernel
theorem dX6_assess_107 : decode cX6_assess 107 = .ok (.getfield 12, 3) := by decide +kernel
theorem dX6_assess_110 : decode cX6_assess 110 = .ok (.aload_n 0, 1) := by decide +kernel
theorem dX6_assess_111 : decode cX6_assess 111 = .ok (.getfield 37, 3) := by decide +kernel
theorem dX6_assess_114 : decode cX6_assess 114 = .ok (.invokevirtual 262, 3) := by decide +kernel
theorem dX6_assess_117 : decode cX6_assess 117 = .ok (.aload_n 0, 1) := by decide +kernel
theorem dX6_assess_118 : decode cX6_assess 118 = .ok (.getfield 41, 3) := by decide +kernel
theorem dX6_assess_121 : decode cX6_assess 121 = .ok (.iconst 2, 1) := by decide +kernel
theorem dX6_assess_122 : decode cX6_assess 122 = .ok (.iaload, 1) := by decide +kernel
theorem dX6_assess_123 : decode cX6_assess 123 = .ok (.i2l, 1) := by decide +kernel
theorem dX6_assess_124 : decode cX6_assess 124 = .ok (.lmul, 1) := by decide +kernel
theorem dX6_assess_125 : decode cX6_assess 125 = .ok (.ldc2_w 266, 3) := by decide +kernel
theorem dX6_assess_128 : decode cX6_assess 128 = .ok (.ldiv, 1) := by decide +kernel
theorem dX6_assess_129 : decode cX6_assess 129 = .ok (.invokestatic 268, 3) := by decide +kernel
theorem dX6_assess_132 : decode cX6_assess 132 = .ok (.putfield 271, 3) := by decide +kernel
theorem dX6_assess_135 : decode cX6_assess 135 = .ok (.aload_n 1, 1) := by decide +kernel
theorem dX6_assess_136 : decode cX6_assess 136 = .ok (.lload 4, 2) := by decide +kernel
theorem dX6_assess_138 : decode cX6_assess 138 = .ok (.aload_n 1, 1) := by decide +kernel
theorem dX6_assess_139 : decode cX6_assess 139 = .ok (.getfield 271, 3) := by decide +kernel
theorem dX6_assess_142 : decode cX6_assess 142 = .ok (.lsub, 1) := by decide +kernel
theorem dX6_assess_143 : decode cX6_assess 143 = .ok (.putfield 274, 3) := by decide +kernel
theorem dX6_assess_146 : decode cX6_assess 146 = .ok (.return_, 1) := by decide +kernel
theorem dX6_lossOfPieces_0 : decode cX6_lossOfPieces 0 = .ok (.aload_n 0, 1) := by decide +kernel
theorem dX6_lossOfPieces_1 : decode cX6_lossOfPieces 1 = .ok (.getfield 19, 3) := by decide +kernel
theorem dX6_lossOfPieces_4 : decode cX6_lossOfPieces 4 = .ok (.aload_n 0, 1) := by decide +kernel
theorem dX6_lossOfPieces_5 : decode cX6_lossOfPieces 5 = .ok (.getfield 19, 3) := by decide +kernel
theorem dX6_lossOfPieces_8 : decode cX6_lossOfPieces 8 = .ok (.getfield 259, 3) := by decide +kernel
theorem dX6_lossOfPieces_11 : decode cX6_lossOfPieces 11 = .ok (.invokevirtual 277, 3) := by decide +kernel
theorem dX6_lossOfPieces_14 : decode cX6_lossOfPieces 14 = .ok (.istore_n 1, 1) := by decide +kernel
theorem dX6_lossOfPieces_15 : decode cX6_lossOfPieces 15 = .ok (.lconst 0, 1) := by decide +kernel
theorem dX6_lossOfPieces_16 : decode cX6_lossOfPieces 16 = .ok (.lstore_n 2, 1) := by decide +kernel
theorem dX6_lossOfPieces_17 : decode cX6_lossOfPieces 17 = .ok (.iconst 0, 1) := by decide +kernel
theorem dX6_lossOfPieces_18 : decode cX6_lossOfPieces 18 = .ok (.istore 4, 2) := by decide +kernel
theorem dX6_lossOfPieces_20 : decode cX6_lossOfPieces 20 = .ok (.iload 4, 2) := by decide +kernel
theorem dX6_lossOfPieces_22 : decode cX6_lossOfPieces 22 = .ok (.aload_n 0, 1) := by decide +kernel
theorem dX6_lossOfPieces_23 : decode cX6_lossOfPieces 23 = .ok (.getfield 19, 3) := by decide +kernel
theorem dX6_lossOfPieces_26 : decode cX6_lossOfPieces 26 = .ok (.getfield 280, 3) := by decide +kernel
theorem dX6_lossOfPieces_29 : decode cX6_lossOfPieces 29 = .ok (.if_icmp .ge 90, 3) := by decide +kernel
theorem dX6_lossOfPieces_32 : decode cX6_lossOfPieces 32 = .ok (.iload 4, 2) := by decide +kernel
theorem dX6_lossOfPieces_34 : decode cX6_lossOfPieces 34 = .ok (.aload_n 0, 1) := by decide +kernel
theorem dX6_lossOfPieces_35 : decode cX6_lossOfPieces 35 = .ok (.getfield 19, 3) := by decide +kernel
theorem dX6_lossOfPieces_38 : decode cX6_lossOfPieces 38 = .ok (.getfield 259, 3) := by decide +kernel
theorem dX6_lossOfPieces_41 : decode cX6_lossOfPieces 41 = .ok (.if_icmp .eq 72, 3) := by decide +kernel
theorem dX6_lossOfPieces_44 : decode cX6_lossOfPieces 44 = .ok (.aload_n 0, 1) := by decide +kernel
theorem dX6_lossOfPieces_45 : decode cX6_lossOfPieces 45 = .ok (.getfield 19, 3) := by decide +kernel
theorem dX6_lossOfPieces_48 : decode cX6_lossOfPieces 48 = .ok (.iload 4, 2) := by decide +kernel
theorem dX6_lossOfPieces_50 : decode cX6_lossOfPieces 50 = .ok (.aload_n 0, 1) := by decide +kernel
theorem dX6_lossOfPieces_51 : decode cX6_lossOfPieces 51 = .ok (.getfield 12, 3) := by decide +kernel
theorem dX6_lossOfPieces_54 : decode cX6_lossOfPieces 54 = .ok (.aload_n 0, 1) := by decide +kernel
theorem dX6_lossOfPieces_55 : decode cX6_lossOfPieces 55 = .ok (.getfield 37, 3) := by decide +kernel
theorem dX6_lossOfPieces_58 : decode cX6_lossOfPieces 58 = .ok (.invokevirtual 262, 3) := by decide +kernel
theorem dX6_lossOfPieces_61 : decode cX6_lossOfPieces 61 = .ok (.lstore 5, 2) := by decide +kernel
theorem dX6_lossOfPieces_63 : decode cX6_lossOfPieces 63 = .ok (.iload_n 1, 1) := by decide +kernel
theorem dX6_lossOfPieces_64 : decode cX6_lossOfPieces 64 = .ok (.ifCond .eq 19, 3) := by decide +kernel
theorem dX6_lossOfPieces_67 : decode cX6_lossOfPieces 67 = .ok (.aload_n 0, 1) := by decide +kernel
theorem dX6_lossOfPieces_68 : decode cX6_lossOfPieces 68 = .ok (.getfield 19, 3) := by decide +kernel
theorem dX6_lossOfPieces_71 : decode cX6_lossOfPieces 71 = .ok (.iload 4, 2) := by decide +kernel
theorem dX6_lossOfPieces_73 : decode cX6_lossOfPieces 73 = .ok (.invokevirtual 277, 3) := by decide +kernel
theorem dX6_lossOfPieces_76 : decode cX6_lossOfPieces 76 = .ok (.ifCond .ne 7, 3) := by decide +kernel
theorem dX6_lossOfPieces_79 : decode cX6_lossOfPieces 79 = .ok (.iconst 1, 1) := by decide +kernel
theorem dX6_lossOfPieces_80 : decode cX6_lossOfPieces 80 = .ok (.goto 4, 3) := by decide +kernel
theorem dX6_lossOfPieces_83 : decode cX6_lossOfPieces 83 = .ok (.iconst 0, 1) := by decide +kernel
theorem dX6_lossOfPieces_84 : decode cX6_lossOfPieces 84 = .ok (.istore 7, 2) := by decide +kernel
theorem dX6_lossOfPieces_86 : decode cX6_lossOfPieces 86 = .ok (.lload_n 2, 1) := by decide +kernel
theorem dX6_lossOfPieces_87 : decode cX6_lossOfPieces 87 = .ok (.iload 7, 2) := by decide +kernel
theorem dX6_lossOfPieces_89 : decode cX6_lossOfPieces 89 = .ok (.ifCond .eq 8, 3) := by decide +kernel
theorem dX6_lossOfPieces_92 : decode cX6_lossOfPieces 92 = .ok (.lload 5, 2) := by decide +kernel
theorem dX6_lossOfPieces_94 : decode cX6_lossOfPieces 94 = .ok (.goto 17, 3) := by decide +kernel
theorem dX6_lossOfPieces_97 : decode cX6_lossOfPieces 97 = .ok (.lload 5, 2) := by decide +kernel
theorem dX6_lossOfPieces_99 : decode cX6_lossOfPieces 99 = .ok (.aload_n 0, 1) := by decide +kernel
theorem dX6_lossOfPieces_100 : decode cX6_lossOfPieces 100 = .ok (.getfield 41, 3) := by decide +kernel
theorem dX6_lossOfPieces_103 : decode cX6_lossOfPieces 103 = .ok (.iconst 0, 1) := by decide +kernel
theorem dX6_lossOfPieces_104 : decode cX6_lossOfPieces 104 = .ok (.iaload, 1) := by decide +kernel
theorem dX6_lossOfPieces_105 : decode cX6_lossOfPieces 105 = .ok (.i2l, 1) := by decide +kernel
theorem dX6_lossOfPieces_106 : decode cX6_lossOfPieces 106 = .ok (.lmul, 1) := by decide +kernel
theorem dX6_lossOfPieces_107 : decode cX6_lossOfPieces 107 = .ok (.ldc2_w 266, 3) := by decide +kernel
theorem dX6_lossOfPieces_110 : decode cX6_lossOfPieces 110 = .ok (.ldiv, 1) := by decide +kernel
theorem dX6_lossOfPieces_111 : decode cX6_lossOfPieces 111 = .ok (.ladd, 1) := by decide +kernel
theorem dX6_lossOfPieces_112 : decode cX6_lossOfPieces 112 = .ok (.lstore_n 2, 1) := by decide +kernel
theorem dX6_lossOfPieces_113 : decode cX6_lossOfPieces 113 = .ok (.iinc 4 1, 3) := by decide +kernel
theorem dX6_lossOfPieces_116 : decode cX6_lossOfPieces 116 = .ok (.goto (-96), 3) := by decide +kernel
theorem dX6_lossOfPieces_119 : decode cX6_lossOfPieces 119 = .ok (.lload_n 2, 1) := by decide +kernel
theorem dX6_lossOfPieces_120 : decode cX6_lossOfPieces 120 = .ok (.lreturn, 1) := by decide +kernel
theorem dX6_lossBefore_0 : decode cX6_lossBefore 0 = .ok (.lconst 0, 1) := by decide +kernel
theorem dX6_lossBefore_1 : decode cX6_lossBefore 1 = .ok (.lstore_n 2, 1) := by decide +kernel
theorem dX6_lossBefore_2 : decode cX6_lossBefore 2 = .ok (.iconst 0, 1) := by decide +kernel
theorem dX6_lossBefore_3 : decode cX6_lossBefore 3 = .ok (.istore 4, 2) := by decide +kernel
theorem dX6_lossBefore_5 : decode cX6_lossBefore 5 = .ok (.iload 4, 2) := by decide +kernel
theorem dX6_lossBefore_7 : decode cX6_lossBefore 7 = .ok (.aload_n 0, 1) := by decide +kernel
end
section
theorem dX6_lossBefore_8 : decode cX6_lossBefore 8 = .ok (.getfield 100, 3) := by decide +kernel
theorem dX6_lossBefore_11 : decode cX6_lossBefore 11 = .ok (.iconst 1, 1) := by decide +kernel
theorem dX6_lossBefore_12 : decode cX6_lossBefore 12 = .ok (.isub, 1) := by decide +kernel
theorem dX6_lossBefore_13 : decode cX6_lossBefore 13 = .ok (.if_icmp .ge 31, 3) := by decide +kernel
theorem dX6_lossBefore_16 : decode cX6_lossBefore 16 = .ok (.aload_n 0, 1) := by decide +kernel
theorem dX6_lossBefore_17 : decode cX6_lossBefore 17 = .ok (.iload 4, 2) := by decide +kernel
theorem dX6_lossBefore_19 : decode cX6_lossBefore 19 = .ok (.invokevirtual 199, 3) := by decide +kernel
theorem dX6_lossBefore_22 : decode cX6_lossBefore 22 = .ok (.astore 5, 2) := by decide +kernel
theorem dX6_lossBefore_24 : decode cX6_lossBefore 24 = .ok (.aload 5, 2) := by decide +kernel
theorem dX6_lossBefore_26 : decode cX6_lossBefore 26 = .ok (.ifnull 12, 3) := by decide +kernel
theorem dX6_lossBefore_29 : decode cX6_lossBefore 29 = .ok (.lload_n 2, 1) := by decide +kernel
theorem dX6_lossBefore_30 : decode cX6_lossBefore 30 = .ok (.aload 5, 2) := by decide +kernel
theorem dX6_lossBefore_32 : decode cX6_lossBefore 32 = .ok (.iload_n 1, 1) := by decide +kernel
theorem dX6_lossBefore_33 : decode cX6_lossBefore 33 = .ok (.invokevirtual 283, 3) := by decide +kernel
theorem dX6_lossBefore_36 : decode cX6_lossBefore 36 = .ok (.ladd, 1) := by decide +kernel
theorem dX6_lossBefore_37 : decode cX6_lossBefore 37 = .ok (.lstore_n 2, 1) := by decide +kernel
theorem dX6_lossBefore_38 : decode cX6_lossBefore 38 = .ok (.iinc 4 1, 3) := by decide +kernel
theorem dX6_lossBefore_41 : decode cX6_lossBefore 41 = .ok (.goto (-36), 3) := by decide +kernel
theorem dX6_lossBefore_44 : decode cX6_lossBefore 44 = .ok (.lload_n 2, 1) := by decide +kernel
theorem dX6_lossBefore_45 : decode cX6_lossBefore 45 = .ok (.lreturn, 1) := by decide +kernel
theorem dX6_share_0 : decode cX6_share 0 = .ok (.aload_n 1, 1) := by decide +kernel
theorem dX6_share_1 : decode cX6_share 1 = .ok (.getfield 274, 3) := by decide +kernel
theorem dX6_share_4 : decode cX6_share 4 = .ok (.lstore_n 3, 1) := by decide +kernel
theorem dX6_share_5 : decode cX6_share 5 = .ok (.iconst 0, 1) := by decide +kernel
theorem dX6_share_6 : decode cX6_share 6 = .ok (.istore 5, 2) := by decide +kernel
theorem dX6_share_8 : decode cX6_share 8 = .ok (.iload 5, 2) := by decide +kernel
theorem dX6_share_10 : decode cX6_share 10 = .ok (.aload_n 2, 1) := by decide +kernel
theorem dX6_share_11 : decode cX6_share 11 = .ok (.getfield 286, 3) := by decide +kernel
theorem dX6_share_14 : decode cX6_share 14 = .ok (.if_icmp .ge 106, 3) := by decide +kernel
theorem dX6_share_17 : decode cX6_share 17 = .ok (.iload 5, 2) := by decide +kernel
theorem dX6_share_19 : decode cX6_share 19 = .ok (.iconst 4, 1) := by decide +kernel
theorem dX6_share_20 : decode cX6_share 20 = .ok (.if_icmp .ge 100, 3) := by decide +kernel
theorem dX6_share_23 : decode cX6_share 23 = .ok (.aload_n 2, 1) := by decide +kernel
theorem dX6_share_24 : decode cX6_share 24 = .ok (.getfield 289, 3) := by decide +kernel
theorem dX6_share_27 : decode cX6_share 27 = .ok (.iload 5, 2) := by decide +kernel
theorem dX6_share_29 : decode cX6_share 29 = .ok (.iaload, 1) := by decide +kernel
theorem dX6_share_30 : decode cX6_share 30 = .ok (.iconst 1, 1) := by decide +kernel
theorem dX6_share_31 : decode cX6_share 31 = .ok (.if_icmp .ne 7, 3) := by decide +kernel
theorem dX6_share_34 : decode cX6_share 34 = .ok (.iconst 1, 1) := by decide +kernel
theorem dX6_share_35 : decode cX6_share 35 = .ok (.goto 4, 3) := by decide +kernel
theorem dX6_share_38 : decode cX6_share 38 = .ok (.iconst 0, 1) := by decide +kernel
theorem dX6_share_39 : decode cX6_share 39 = .ok (.istore 6, 2) := by decide +kernel
theorem dX6_share_41 : decode cX6_share 41 = .ok (.iload 6, 2) := by decide +kernel
theorem dX6_share_43 : decode cX6_share 43 = .ok (.ifCond .eq 13, 3) := by decide +kernel
theorem dX6_share_46 : decode cX6_share 46 = .ok (.aload_n 2, 1) := by decide +kernel
theorem dX6_share_47 : decode cX6_share 47 = .ok (.getfield 292, 3) := by decide +kernel
theorem dX6_share_50 : decode cX6_share 50 = .ok (.iload 5, 2) := by decide +kernel
theorem dX6_share_52 : decode cX6_share 52 = .ok (.laload, 1) := by decide +kernel
theorem dX6_share_53 : decode cX6_share 53 = .ok (.goto 20, 3) := by decide +kernel
theorem dX6_share_56 : decode cX6_share 56 = .ok (.aload_n 1, 1) := by decide +kernel
theorem dX6_share_57 : decode cX6_share 57 = .ok (.getfield 274, 3) := by decide +kernel
theorem dX6_share_60 : decode cX6_share 60 = .ok (.aload_n 2, 1) := by decide +kernel
theorem dX6_share_61 : decode cX6_share 61 = .ok (.getfield 296, 3) := by decide +kernel
theorem dX6_share_64 : decode cX6_share 64 = .ok (.iload 5, 2) := by decide +kernel
theorem dX6_share_66 : decode cX6_share 66 = .ok (.iaload, 1) := by decide +kernel
theorem dX6_share_67 : decode cX6_share 67 = .ok (.i2l, 1) := by decide +kernel
theorem dX6_share_68 : decode cX6_share 68 = .ok (.lmul, 1) := by decide +kernel
theorem dX6_share_69 : decode cX6_share 69 = .ok (.ldc2_w 266, 3) := by decide +kernel
theorem dX6_share_72 : decode cX6_share 72 = .ok (.ldiv, 1) := by decide +kernel
theorem dX6_share_73 : decode cX6_share 73 = .ok (.lstore 7, 2) := by decide +kernel
theorem dX6_share_75 : decode cX6_share 75 = .ok (.lload_n 3, 1) := by decide +kernel
theorem dX6_share_76 : decode cX6_share 76 = .ok (.lload 7, 2) := by decide +kernel
theorem dX6_share_78 : decode cX6_share 78 = .ok (.invokestatic 268, 3) := by decide +kernel
theorem dX6_share_81 : decode cX6_share 81 = .ok (.lstore 9, 2) := by decide +kernel
theorem dX6_share_83 : decode cX6_share 83 = .ok (.iload 6, 2) := by decide +kernel
theorem dX6_share_85 : decode cX6_share 85 = .ok (.ifCond .eq 15, 3) := by decide +kernel
theorem dX6_share_88 : decode cX6_share 88 = .ok (.aload_n 2, 1) := by decide +kernel
theorem dX6_share_89 : decode cX6_share 89 = .ok (.getfield 292, 3) := by decide +kernel
theorem dX6_share_92 : decode cX6_share 92 = .ok (.iload 5, 2) := by decide +kernel
theorem dX6_share_94 : decode cX6_share 94 = .ok (.dup2, 1) := by decide +kernel
theorem dX6_share_95 : decode cX6_share 95 = .ok (.laload, 1) := by decide +kernel
theorem dX6_share_96 : decode cX6_share 96 = .ok (.lload 9, 2) := by decide +kernel
theorem dX6_share_98 : decode cX6_share 98 = .ok (.lsub, 1) := by decide +kernel
theorem dX6_share_99 : decode cX6_share 99 = .ok (.lastore, 1) := by decide +kernel
theorem dX6_share_100 : decode cX6_share 100 = .ok (.aload_n 1, 1) := by decide +kernel
theorem dX6_share_101 : decode cX6_share 101 = .ok (.getfield 299, 3) := by decide +kernel
theorem dX6_share_104 : decode cX6_share 104 = .ok (.iload 5, 2) := by decide +kernel
theorem dX6_share_106 : decode cX6_share 106 = .ok (.lload 9, 2) := by decide +kernel
theorem dX6_share_108 : decode cX6_share 108 = .ok (.lastore, 1) := by decide +kernel
theorem dX6_share_109 : decode cX6_share 109 = .ok (.lload_n 3, 1) := by decide +kernel
theorem dX6_share_110 : decode cX6_share 110 = .ok (.lload 9, 2) := by decide +kernel
theorem dX6_share_112 : decode cX6_share 112 = .ok (.lsub, 1) := by decide +kernel
theorem dX6_share_113 : decode cX6_share 113 = .ok (.lstore_n 3, 1) := by decide +kernel
theorem dX6_share_114 : decode cX6_share 114 = .ok (.iinc 5 1, 3) := by decide +kernel
theorem dX6_share_117 : decode cX6_share 117 = .ok (.goto (-109), 3) := by decide +kernel
theorem dX6_share_120 : decode cX6_share 120 = .ok (.aload_n 1, 1) := by decide +kernel
theorem dX6_share_121 : decode cX6_share 121 = .ok (.lload_n 3, 1) := by decide +kernel
theorem dX6_share_122 : decode cX6_share 122 = .ok (.putfield 302, 3) := by decide +kernel
theorem dX6_share_125 : decode cX6_share 125 = .ok (.return_, 1) := by decide +kernel
theorem dX6_oweDebtsAgain_0 : decode cX6_oweDebtsAgain 0 = .ok (.aload_n 0, 1) := by decide +kernel
theorem dX6_oweDebtsAgain_1 : decode cX6_oweDebtsAgain 1 = .ok (.aload_n 1, 1) := by decide +kernel
theorem dX6_oweDebtsAgain_2 : decode cX6_oweDebtsAgain 2 = .ok (.getfield 212, 3) := by decide +kernel
theorem dX6_oweDebtsAgain_5 : decode cX6_oweDebtsAgain 5 = .ok (.invokevirtual 69, 3) := by decide +kernel
theorem dX6_oweDebtsAgain_8 : decode cX6_oweDebtsAgain 8 = .ok (.ifCond .ne 4, 3) := by decide +kernel
theorem dX6_oweDebtsAgain_11 : decode cX6_oweDebtsAgain 11 = .ok (.return_, 1) := by decide +kernel
theorem dX6_oweDebtsAgain_12 : decode cX6_oweDebtsAgain 12 = .ok (.aload_n 0, 1) := by decide +kernel
theorem dX6_oweDebtsAgain_13 : decode cX6_oweDebtsAgain 13 = .ok (.getfield 25, 3) := by decide +kernel
theorem dX6_oweDebtsAgain_16 : decode cX6_oweDebtsAgain 16 = .ok (.aload_n 1, 1) := by decide +kernel
theorem dX6_oweDebtsAgain_17 : decode cX6_oweDebtsAgain 17 = .ok (.getfield 212, 3) := by decide +kernel
theorem dX6_oweDebtsAgain_20 : decode cX6_oweDebtsAgain 20 = .ok (.aaload, 1) := by decide +kernel
theorem dX6_oweDebtsAgain_21 : decode cX6_oweDebtsAgain 21 = .ok (.astore_n 2, 1) := by decide +kernel
theorem dX6_oweDebtsAgain_22 : decode cX6_oweDebtsAgain 22 = .ok (.iconst 0, 1) := by decide +kernel
theorem dX6_oweDebtsAgain_23 : decode cX6_oweDebtsAgain 23 = .ok (.istore_n 3, 1) := by decide +kernel
theorem dX6_oweDebtsAgain_24 : decode cX6_oweDebtsAgain 24 = .ok (.iload_n 3, 1) := by decide +kernel
theorem dX6_oweDebtsAgain_25 : decode cX6_oweDebtsAgain 25 = .ok (.aload_n 2, 1) := by decide +kernel
theorem dX6_oweDebtsAgain_26 : decode cX6_oweDebtsAgain 26 = .ok (.getfield 286, 3) := by decide +kernel
theorem dX6_oweDebtsAgain_29 : decode cX6_oweDebtsAgain 29 = .ok (.if_icmp .ge 39, 3) := by decide +kernel
theorem dX6_oweDebtsAgain_32 : decode cX6_oweDebtsAgain 32 = .ok (.iload_n 3, 1) := by decide +kernel
theorem dX6_oweDebtsAgain_33 : decode cX6_oweDebtsAgain 33 = .ok (.iconst 4, 1) := by decide +kernel
theorem dX6_oweDebtsAgain_34 : decode cX6_oweDebtsAgain 34 = .ok (.if_icmp .ge 34, 3) := by decide +kernel
theorem dX6_oweDebtsAgain_37 : decode cX6_oweDebtsAgain 37 = .ok (.aload_n 2, 1) := by decide +kernel
theorem dX6_oweDebtsAgain_38 : decode cX6_oweDebtsAgain 38 = .ok (.getfield 289, 3) := by decide +kernel
theorem dX6_oweDebtsAgain_41 : decode cX6_oweDebtsAgain 41 = .ok (.iload_n 3, 1) := by decide +kernel
theorem dX6_oweDebtsAgain_42 : decode cX6_oweDebtsAgain 42 = .ok (.iaload, 1) := by decide +kernel
theorem dX6_oweDebtsAgain_43 : decode cX6_oweDebtsAgain 43 = .ok (.iconst 1, 1) := by decide +kernel
theorem dX6_oweDebtsAgain_44 : decode cX6_oweDebtsAgain 44 = .ok (.if_icmp .ne 18, 3) := by decide +kernel
theorem dX6_oweDebtsAgain_47 : decode cX6_oweDebtsAgain 47 = .ok (.aload_n 2, 1) := by decide +kernel
theorem dX6_oweDebtsAgain_48 : decode cX6_oweDebtsAgain 48 = .ok (.getfield 292, 3) := by decide +kernel
theorem dX6_oweDebtsAgain_51 : decode cX6_oweDebtsAgain 51 = .ok (.iload_n 3, 1) := by decide +kernel
theorem dX6_oweDebtsAgain_52 : decode cX6_oweDebtsAgain 52 = .ok (.dup2, 1) := by decide +kernel
theorem dX6_oweDebtsAgain_53 : decode cX6_oweDebtsAgain 53 = .ok (.laload, 1) := by decide +kernel
theorem dX6_oweDebtsAgain_54 : decode cX6_oweDebtsAgain 54 = .ok (.aload_n 1, 1) := by decide +kernel
theorem dX6_oweDebtsAgain_55 : decode cX6_oweDebtsAgain 55 = .ok (.getfield 299, 3) := by decide +kernel
theorem dX6_oweDebtsAgain_58 : decode cX6_oweDebtsAgain 58 = .ok (.iload_n 3, 1) := by decide +kernel
theorem dX6_oweDebtsAgain_59 : decode cX6_oweDebtsAgain 59 = .ok (.laload, 1) := by decide +kernel
theorem dX6_oweDebtsAgain_60 : decode cX6_oweDebtsAgain 60 = .ok (.ladd, 1) := by decide +kernel
theorem dX6_oweDebtsAgain_61 : decode cX6_oweDebtsAgain 61 = .ok (.lastore, 1) := by decide +kernel
theorem dX6_oweDebtsAgain_62 : decode cX6_oweDebtsAgain 62 = .ok (.iinc 3 1, 3) := by decide +kernel
theorem dX6_oweDebtsAgain_65 : decode cX6_oweDebtsAgain 65 = .ok (.goto (-41), 3) := by decide +kernel
theorem dX6_oweDebtsAgain_68 : decode cX6_oweDebtsAgain 68 = .ok (.return_, 1) := by decide +kernel
theorem dX6_pay_0 : decode cX6_pay 0 = .ok (.aload_n 0, 1) := by decide +kernel
theorem dX6_pay_1 : decode cX6_pay 1 = .ok (.iload_n 1, 1) := by decide +kernel
theorem dX6_pay_2 : decode cX6_pay 2 = .ok (.iload_n 2, 1) := by decide +kernel
theorem dX6_pay_3 : decode cX6_pay 3 = .ok (.invokevirtual 305, 3) := by decide +kernel
theorem dX6_pay_6 : decode cX6_pay 6 = .ok (.astore 5, 2) := by decide +kernel
theorem dX6_pay_8 : decode cX6_pay 8 = .ok (.aload 5, 2) := by decide +kernel
theorem dX6_pay_10 : decode cX6_pay 10 = .ok (.ifnonnull 7, 3) := by decide +kernel
theorem dX6_pay_13 : decode cX6_pay 13 = .ok (.ldc2_w 309, 3) := by decide +kernel
theorem dX6_pay_16 : decode cX6_pay 16 = .ok (.lreturn, 1) := by decide +kernel
theorem dX6_pay_17 : decode cX6_pay 17 = .ok (.lload_n 3, 1) := by decide +kernel
theorem dX6_pay_18 : decode cX6_pay 18 = .ok (.lconst 1, 1) := by decide +kernel
theorem dX6_pay_19 : decode cX6_pay 19 = .ok (.lcmp, 1) := by decide +kernel
theorem dX6_pay_20 : decode cX6_pay 20 = .ok (.ifCond .lt 11, 3) := by decide +kernel
theorem dX6_pay_23 : decode cX6_pay 23 = .ok (.lload_n 3, 1) := by decide +kernel
theorem dX6_pay_24 : decode cX6_pay 24 = .ok (.ldc2_w 311, 3) := by decide +kernel
theorem dX6_pay_27 : decode cX6_pay 27 = .ok (.lcmp, 1) := by decide +kernel
theorem dX6_pay_28 : decode cX6_pay 28 = .ok (.ifCond .le 7, 3) := by decide +kernel
theorem dX6_pay_31 : decode cX6_pay 31 = .ok (.ldc2_w 313, 3) := by decide +kernel
theorem dX6_pay_34 : decode cX6_pay 34 = .ok (.lreturn, 1) := by decide +kernel
theorem dX6_pay_35 : decode cX6_pay 35 = .ok (.aload 5, 2) := by decide +kernel
theorem dX6_pay_37 : decode cX6_pay 37 = .ok (.getfield 154, 3) := by decide +kernel
theorem dX6_pay_40 : decode cX6_pay 40 = .ok (.iconst 4, 1) := by decide +kernel
theorem dX6_pay_41 : decode cX6_pay 41 = .ok (.if_icmp .eq 7, 3) := by decide +kernel
theorem dX6_pay_44 : decode cX6_pay 44 = .ok (.ldc2_w 183, 3) := by decide +kernel
theorem dX6_pay_47 : decode cX6_pay 47 = .ok (.lreturn, 1) := by decide +kernel
theorem dX6_pay_48 : decode cX6_pay 48 = .ok (.aload 5, 2) := by decide +kernel
theorem dX6_pay_50 : decode cX6_pay 50 = .ok (.lload_n 3, 1) := by decide +kernel
theorem dX6_pay_51 : decode cX6_pay 51 = .ok (.aload_n 0, 1) := by decide +kernel
theorem dX6_pay_52 : decode cX6_pay 52 = .ok (.getfield 121, 3) := by decide +kernel
theorem dX6_pay_55 : decode cX6_pay 55 = .ok (.invokevirtual 315, 3) := by decide +kernel
theorem dX6_pay_58 : decode cX6_pay 58 = .ok (.lreturn, 1) := by decide +kernel
theorem dX6_told_0 : decode cX6_told 0 = .ok (.aload_n 0, 1) := by decide +kernel
theorem dX6_told_1 : decode cX6_told 1 = .ok (.iload_n 1, 1) := by decide +kernel
theorem dX6_told_2 : decode cX6_told 2 = .ok (.iload_n 2, 1) := by decide +kernel
theorem dX6_told_3 : decode cX6_told 3 = .ok (.invokevirtual 305, 3) := by decide +kernel
theorem dX6_told_6 : decode cX6_told 6 = .ok (.astore 4, 2) := by decide +kernel
theorem dX6_told_8 : decode cX6_told 8 = .ok (.aload 4, 2) := by decide +kernel
theorem dX6_told_10 : decode cX6_told 10 = .ok (.ifnonnull 7, 3) := by decide +kernel
theorem dX6_told_13 : decode cX6_told 13 = .ok (.ldc2_w 309, 3) := by decide +kernel
theorem dX6_told_16 : decode cX6_told 16 = .ok (.lreturn, 1) := by decide +kernel
theorem dX6_told_17 : decode cX6_told 17 = .ok (.iload_n 3, 1) := by decide +kernel
theorem dX6_told_18 : decode cX6_told 18 = .ok (.ifCond .lt 9, 3) := by decide +kernel
theorem dX6_told_21 : decode cX6_told 21 = .ok (.iload_n 3, 1) := by decide +kernel
theorem dX6_told_22 : decode cX6_told 22 = .ok (.bipush 14, 2) := by decide +kernel
theorem dX6_told_24 : decode cX6_told 24 = .ok (.if_icmp .lt 7, 3) := by decide +kernel
theorem dX6_told_27 : decode cX6_told 27 = .ok (.ldc2_w 313, 3) := by decide +kernel
theorem dX6_told_30 : decode cX6_told 30 = .ok (.lreturn, 1) := by decide +kernel
theorem dX6_told_31 : decode cX6_told 31 = .ok (.aload 4, 2) := by decide +kernel
theorem dX6_told_33 : decode cX6_told 33 = .ok (.iload_n 3, 1) := by decide +kernel
theorem dX6_told_34 : decode cX6_told 34 = .ok (.aload_n 0, 1) := by decide +kernel
theorem dX6_told_35 : decode cX6_told 35 = .ok (.getfield 121, 3) := by decide +kernel
theorem dX6_told_38 : decode cX6_told 38 = .ok (.invokevirtual 319, 3) := by decide +kernel
theorem dX6_told_41 : decode cX6_told 41 = .ok (.lreturn, 1) := by decide +kernel
theorem dX6_gets_0 : decode cX6_gets 0 = .ok (.aload_n 0, 1) := by decide +kernel
theorem dX6_gets_1 : decode cX6_gets 1 = .ok (.iload_n 1, 1) := by decide +kernel
theorem dX6_gets_2 : decode cX6_gets 2 = .ok (.iload_n 2, 1) := by decide +kernel
theorem dX6_gets_3 : decode cX6_gets 3 = .ok (.invokevirtual 305, 3) := by decide +kernel
theorem dX6_gets_6 : decode cX6_gets 6 = .ok (.astore 4, 2) := by decide +kernel
theorem dX6_gets_8 : decode cX6_gets 8 = .ok (.aload 4, 2) := by decide +kernel
theorem dX6_gets_10 : decode cX6_gets 10 = .ok (.ifnull 15, 3) := by decide +kernel
theorem dX6_gets_13 : decode cX6_gets 13 = .ok (.aload_n 0, 1) := by decide +kernel
theorem dX6_gets_14 : decode cX6_gets 14 = .ok (.aload 4, 2) := by decide +kernel
theorem dX6_gets_16 : decode cX6_gets 16 = .ok (.getfield 212, 3) := by decide +kernel
theorem dX6_gets_19 : decode cX6_gets 19 = .ok (.invokevirtual 69, 3) := by decide +kernel
theorem dX6_gets_22 : decode cX6_gets 22 = .ok (.ifCond .ne 7, 3) := by decide +kernel
theorem dX6_gets_25 : decode cX6_gets 25 = .ok (.ldc2_w 309, 3) := by decide +kernel
theorem dX6_gets_28 : decode cX6_gets 28 = .ok (.lreturn, 1) := by decide +kernel
theorem dX6_gets_29 : decode cX6_gets 29 = .ok (.iload_n 3, 1) := by decide +kernel
theorem dX6_gets_30 : decode cX6_gets 30 = .ok (.ifCond .lt 25, 3) := by decide +kernel
theorem dX6_gets_33 : decode cX6_gets 33 = .ok (.iload_n 3, 1) := by decide +kernel
theorem dX6_gets_34 : decode cX6_gets 34 = .ok (.aload_n 0, 1) := by decide +kernel
theorem dX6_gets_35 : decode cX6_gets 35 = .ok (.getfield 25, 3) := by decide +kernel
theorem dX6_gets_38 : decode cX6_gets 38 = .ok (.aload 4, 2) := by decide +kernel
theorem dX6_gets_40 : decode cX6_gets 40 = .ok (.getfield 212, 3) := by decide +kernel
theorem dX6_gets_43 : decode cX6_gets 43 = .ok (.aaload, 1) := by decide +kernel
theorem dX6_gets_44 : decode cX6_gets 44 = .ok (.getfield 286, 3) := by decide +kernel
theorem dX6_gets_47 : decode cX6_gets 47 = .ok (.if_icmp .ge 8, 3) := by decide +kernel
theorem dX6_gets_50 : decode cX6_gets 50 = .ok (.iload_n 3, 1) := by decide +kernel
theorem dX6_gets_51 : decode cX6_gets 51 = .ok (.iconst 4, 1) := by decide +kernel
theorem dX6_gets_52 : decode cX6_gets 52 = .ok (.if_icmp .lt 7, 3) := by decide +kernel
theorem dX6_gets_55 : decode cX6_gets 55 = .ok (.ldc2_w 309, 3) := by decide +kernel
theorem dX6_gets_58 : decode cX6_gets 58 = .ok (.lreturn, 1) := by decide +kernel
theorem dX6_gets_59 : decode cX6_gets 59 = .ok (.aload 4, 2) := by decide +kernel
theorem dX6_gets_61 : decode cX6_gets 61 = .ok (.getfield 299, 3) := by decide +kernel
theorem dX6_gets_64 : decode cX6_gets 64 = .ok (.iload_n 3, 1) := by decide +kernel
theorem dX6_gets_65 : decode cX6_gets 65 = .ok (.laload, 1) := by decide +kernel
theorem dX6_gets_66 : decode cX6_gets 66 = .ok (.lreturn, 1) := by decide +kernel
theorem dX6_look_0 : decode cX6_look 0 = .ok (.aload_n 0, 1) := by decide +kernel
theorem dX6_look_1 : decode cX6_look 1 = .ok (.getfield 12, 3) := by decide +kernel
theorem dX6_look_4 : decode cX6_look 4 = .ok (.iload_n 1, 1) := by decide +kernel
theorem dX6_look_5 : decode cX6_look 5 = .ok (.iload_n 2, 1) := by decide +kernel
theorem dX6_look_6 : decode cX6_look 6 = .ok (.invokevirtual 65, 3) := by decide +kernel
theorem dX6_look_9 : decode cX6_look 9 = .ok (.istore 4, 2) := by decide +kernel
theorem dX6_look_11 : decode cX6_look 11 = .ok (.iload 4, 2) := by decide +kernel
theorem dX6_look_13 : decode cX6_look 13 = .ok (.iconst (-1), 1) := by decide +kernel
theorem dX6_look_14 : decode cX6_look 14 = .ok (.if_icmp .ne 6, 3) := by decide +kernel
theorem dX6_look_17 : decode cX6_look 17 = .ok (.bipush (-101), 2) := by decide +kernel
theorem dX6_look_19 : decode cX6_look 19 = .ok (.ireturn, 1) := by decide +kernel
theorem dX6_look_20 : decode cX6_look 20 = .ok (.iload_n 3, 1) := by decide +kernel
theorem dX6_look_21 : decode cX6_look 21 = .ok (.tableswitch 113 0 4 #[35, 46, 57, 76, 94], 35) := by decide +kernel
theorem dX6_look_56 : decode cX6_look 56 = .ok (.aload_n 0, 1) := by decide +kernel
theorem dX6_look_57 : decode cX6_look 57 = .ok (.getfield 12, 3) := by decide +kernel
theorem dX6_look_60 : decode cX6_look 60 = .ok (.getfield 80, 3) := by decide +kernel
theorem dX6_look_63 : decode cX6_look 63 = .ok (.iload 4, 2) := by decide +kernel
theorem dX6_look_65 : decode cX6_look 65 = .ok (.iaload, 1) := by decide +kernel
theorem dX6_look_66 : decode cX6_look 66 = .ok (.ireturn, 1) := by decide +kernel
theorem dX6_look_67 : decode cX6_look 67 = .ok (.aload_n 0, 1) := by decide +kernel
theorem dX6_look_68 : decode cX6_look 68 = .ok (.getfield 12, 3) := by decide +kernel
theorem dX6_look_71 : decode cX6_look 71 = .ok (.getfield 83, 3) := by decide +kernel
theorem dX6_look_74 : decode cX6_look 74 = .ok (.iload 4, 2) := by decide +kernel
theorem dX6_look_76 : decode cX6_look 76 = .ok (.iaload, 1) := by decide +kernel
theorem dX6_look_77 : decode cX6_look 77 = .ok (.ireturn, 1) := by decide +kernel
theorem dX6_look_78 : decode cX6_look 78 = .ok (.aload_n 0, 1) := by decide +kernel
theorem dX6_look_79 : decode cX6_look 79 = .ok (.getfield 12, 3) := by decide +kernel
theorem dX6_look_82 : decode cX6_look 82 = .ok (.getfield 86, 3) := by decide +kernel
theorem dX6_look_85 : decode cX6_look 85 = .ok (.iload 4, 2) := by decide +kernel
theorem dX6_look_87 : decode cX6_look 87 = .ok (.baload, 1) := by decide +kernel
theorem dX6_look_88 : decode cX6_look 88 = .ok (.ifCond .eq 7, 3) := by decide +kernel
theorem dX6_look_91 : decode cX6_look 91 = .ok (.iconst 1, 1) := by decide +kernel
theorem dX6_look_92 : decode cX6_look 92 = .ok (.goto 4, 3) := by decide +kernel
theorem dX6_look_95 : decode cX6_look 95 = .ok (.iconst 0, 1) := by decide +kernel
theorem dX6_look_96 : decode cX6_look 96 = .ok (.ireturn, 1) := by decide +kernel
theorem dX6_look_97 : decode cX6_look 97 = .ok (.aload_n 0, 1) := by decide +kernel
theorem dX6_look_98 : decode cX6_look 98 = .ok (.getfield 12, 3) := by decide +kernel
theorem dX6_look_101 : decode cX6_look 101 = .ok (.iload 4, 2) := by decide +kernel
theorem dX6_look_103 : decode cX6_look 103 = .ok (.invokevirtual 128, 3) := by decide +kernel
theorem dX6_look_106 : decode cX6_look 106 = .ok (.ifCond .eq 7, 3) := by decide +kernel
theorem dX6_look_109 : decode cX6_look 109 = .ok (.iconst 1, 1) := by decide +kernel
theorem dX6_look_110 : decode cX6_look 110 = .ok (.goto 4, 3) := by decide +kernel
theorem dX6_look_113 : decode cX6_look 113 = .ok (.iconst 0, 1) := by decide +kernel
theorem dX6_look_114 : decode cX6_look 114 = .ok (.ireturn, 1) := by decide +kernel
theorem dX6_look_115 : decode cX6_look 115 = .ok (.aload_n 0, 1) := by decide +kernel
theorem dX6_look_116 : decode cX6_look 116 = .ok (.getfield 12, 3) := by decide +kernel
theorem dX6_look_119 : decode cX6_look 119 = .ok (.getfield 131, 3) := by decide +kernel
theorem dX6_look_122 : decode cX6_look 122 = .ok (.iload 4, 2) := by decide +kernel
theorem dX6_look_124 : decode cX6_look 124 = .ok (.baload, 1) := by decide +kernel
theorem dX6_look_125 : decode cX6_look 125 = .ok (.ifCond .eq 7, 3) := by decide +kernel
theorem dX6_look_128 : decode cX6_look 128 = .ok (.iconst 1, 1) := by decide +kernel
theorem dX6_look_129 : decode cX6_look 129 = .ok (.goto 4, 3) := by decide +kernel
theorem dX6_look_132 : decode cX6_look 132 = .ok (.iconst 0, 1) := by decide +kernel
theorem dX6_look_133 : decode cX6_look 133 = .ok (.ireturn, 1) := by decide +kernel
theorem dX6_look_134 : decode cX6_look 134 = .ok (.bipush (-102), 2) := by decide +kernel
theorem dX6_look_136 : decode cX6_look 136 = .ok (.ireturn, 1) := by decide +kernel
theorem dX6_pieces_0 : decode cX6_pieces 0 = .ok (.aload_n 0, 1) := by decide +kernel
theorem dX6_pieces_1 : decode cX6_pieces 1 = .ok (.iload_n 1, 1) := by decide +kernel
theorem dX6_pieces_2 : decode cX6_pieces 2 = .ok (.invokevirtual 69, 3) := by decide +kernel
theorem dX6_pieces_5 : decode cX6_pieces 5 = .ok (.ifCond .ne 6, 3) := by decide +kernel
theorem dX6_pieces_8 : decode cX6_pieces 8 = .ok (.bipush (-101), 2) := by decide +kernel
theorem dX6_pieces_10 : decode cX6_pieces 10 = .ok (.ireturn, 1) := by decide +kernel
theorem dX6_pieces_11 : decode cX6_pieces 11 = .ok (.aload_n 0, 1) := by decide +kernel
theorem dX6_pieces_12 : decode cX6_pieces 12 = .ok (.getfield 19, 3) := by decide +kernel
theorem dX6_pieces_15 : decode cX6_pieces 15 = .ok (.aload_n 0, 1) := by decide +kernel
theorem dX6_pieces_16 : decode cX6_pieces 16 = .ok (.getfield 12, 3) := by decide +kernel
theorem dX6_pieces_19 : decode cX6_pieces 19 = .ok (.iload_n 1, 1) := by decide +kernel
theorem dX6_pieces_20 : decode cX6_pieces 20 = .ok (.aload_n 0, 1) := by decide +kernel
theorem dX6_pieces_21 : decode cX6_pieces 21 = .ok (.getfield 25, 3) := by decide +kernel
theorem dX6_pieces_24 : decode cX6_pieces 24 = .ok (.iload_n 1, 1) := by decide +kernel
theorem dX6_pieces_25 : decode cX6_pieces 25 = .ok (.aaload, 1) := by decide +kernel
theorem dX6_pieces_26 : decode cX6_pieces 26 = .ok (.getfield 90, 3) := by decide +kernel
theorem dX6_pieces_29 : decode cX6_pieces 29 = .ok (.invokevirtual 225, 3) := by decide +kernel
theorem dX6_pieces_32 : decode cX6_pieces 32 = .ok (.aload_n 0, 1) := by decide +kernel
theorem dX6_pieces_33 : decode cX6_pieces 33 = .ok (.getfield 19, 3) := by decide +kernel
theorem dX6_pieces_36 : decode cX6_pieces 36 = .ok (.getfield 280, 3) := by decide +kernel
theorem dX6_pieces_39 : decode cX6_pieces 39 = .ok (.ireturn, 1) := by decide +kernel
theorem dX6_piece_0 : decode cX6_piece 0 = .ok (.aload_n 0, 1) := by decide +kernel
theorem dX6_piece_1 : decode cX6_piece 1 = .ok (.iload_n 1, 1) := by decide +kernel
theorem dX6_piece_2 : decode cX6_piece 2 = .ok (.invokevirtual 69, 3) := by decide +kernel
theorem dX6_piece_5 : decode cX6_piece 5 = .ok (.ifCond .ne 6, 3) := by decide +kernel
theorem dX6_piece_8 : decode cX6_piece 8 = .ok (.bipush (-101), 2) := by decide +kernel
theorem dX6_piece_10 : decode cX6_piece 10 = .ok (.ireturn, 1) := by decide +kernel
theorem dX6_piece_11 : decode cX6_piece 11 = .ok (.aload_n 0, 1) := by decide +kernel
theorem dX6_piece_12 : decode cX6_piece 12 = .ok (.getfield 19, 3) := by decide +kernel
theorem dX6_piece_15 : decode cX6_piece 15 = .ok (.aload_n 0, 1) := by decide +kernel
theorem dX6_piece_16 : decode cX6_piece 16 = .ok (.getfield 12, 3) := by decide +kernel
theorem dX6_piece_19 : decode cX6_piece 19 = .ok (.iload_n 1, 1) := by decide +kernel
theorem dX6_piece_20 : decode cX6_piece 20 = .ok (.aload_n 0, 1) := by decide +kernel
theorem dX6_piece_21 : decode cX6_piece 21 = .ok (.getfield 25, 3) := by decide +kernel
theorem dX6_piece_24 : decode cX6_piece 24 = .ok (.iload_n 1, 1) := by decide +kernel
theorem dX6_piece_25 : decode cX6_piece 25 = .ok (.aaload, 1) := by decide +kernel
theorem dX6_piece_26 : decode cX6_piece 26 = .ok (.getfield 90, 3) := by decide +kernel
theorem dX6_piece_29 : decode cX6_piece 29 = .ok (.invokevirtual 225, 3) := by decide +kernel
theorem dX6_piece_32 : decode cX6_piece 32 = .ok (.iload_n 2, 1) := by decide +kernel
theorem dX6_piece_33 : decode cX6_piece 33 = .ok (.ifCond .lt 14, 3) := by decide +kernel
theorem dX6_piece_36 : decode cX6_piece 36 = .ok (.iload_n 2, 1) := by decide +kernel
theorem dX6_piece_37 : decode cX6_piece 37 = .ok (.aload_n 0, 1) := by decide +kernel
theorem dX6_piece_38 : decode cX6_piece 38 = .ok (.getfield 19, 3) := by decide +kernel
theorem dX6_piece_41 : decode cX6_piece 41 = .ok (.getfield 280, 3) := by decide +kernel
theorem dX6_piece_44 : decode cX6_piece 44 = .ok (.if_icmp .lt 6, 3) := by decide +kernel
theorem dX6_piece_47 : decode cX6_piece 47 = .ok (.bipush (-101), 2) := by decide +kernel
theorem dX6_piece_49 : decode cX6_piece 49 = .ok (.ireturn, 1) := by decide +kernel
theorem dX6_piece_50 : decode cX6_piece 50 = .ok (.iload_n 3, 1) := by decide +kernel
theorem dX6_piece_51 : decode cX6_piece 51 = .ok (.ifCond .lt 8, 3) := by decide +kernel
theorem dX6_piece_54 : decode cX6_piece 54 = .ok (.iload_n 3, 1) := by decide +kernel
theorem dX6_piece_55 : decode cX6_piece 55 = .ok (.iconst 4, 1) := by decide +kernel
theorem dX6_piece_56 : decode cX6_piece 56 = .ok (.if_icmp .lt 6, 3) := by decide +kernel
theorem dX6_piece_59 : decode cX6_piece 59 = .ok (.bipush (-102), 2) := by decide +kernel
theorem dX6_piece_61 : decode cX6_piece 61 = .ok (.ireturn, 1) := by decide +kernel
theorem dX6_piece_62 : decode cX6_piece 62 = .ok (.aload_n 0, 1) := by decide +kernel
theorem dX6_piece_63 : decode cX6_piece 63 = .ok (.getfield 19, 3) := by decide +kernel
theorem dX6_piece_66 : decode cX6_piece 66 = .ok (.iload_n 2, 1) := by decide +kernel
theorem dX6_piece_67 : decode cX6_piece 67 = .ok (.iload_n 3, 1) := by decide +kernel
theorem dX6_piece_68 : decode cX6_piece 68 = .ok (.invokevirtual 323, 3) := by decide +kernel
theorem dX6_piece_71 : decode cX6_piece 71 = .ok (.ireturn, 1) := by decide +kernel
theorem dX6_count_0 : decode cX6_count 0 = .ok (.iload_n 1, 1) := by decide +kernel
theorem dX6_count_1 : decode cX6_count 1 = .ok (.tableswitch 101 0 7 #[47, 52, 60, 68, 73, 78, 83, 96], 47) := by decide +kernel
theorem dX6_count_48 : decode cX6_count 48 = .ok (.aload_n 0, 1) := by decide +kernel
theorem dX6_count_49 : decode cX6_count 49 = .ok (.getfield 58, 3) := by decide +kernel
theorem dX6_count_52 : decode cX6_count 52 = .ok (.ireturn, 1) := by decide +kernel
theorem dX6_count_53 : decode cX6_count 53 = .ok (.aload_n 0, 1) := by decide +kernel
theorem dX6_count_54 : decode cX6_count 54 = .ok (.getfield 12, 3) := by decide +kernel
theorem dX6_count_57 : decode cX6_count 57 = .ok (.invokevirtual 325, 3) := by decide +kernel
theorem dX6_count_60 : decode cX6_count 60 = .ok (.ireturn, 1) := by decide +kernel
theorem dX6_count_61 : decode cX6_count 61 = .ok (.aload_n 0, 1) := by decide +kernel
theorem dX6_count_62 : decode cX6_count 62 = .ok (.getfield 12, 3) := by decide +kernel
theorem dX6_count_65 : decode cX6_count 65 = .ok (.invokevirtual 328, 3) := by decide +kernel
theorem dX6_count_68 : decode cX6_count 68 = .ok (.ireturn, 1) := by decide +kernel
theorem dX6_count_69 : decode cX6_count 69 = .ok (.aload_n 0, 1) := by decide +kernel
theorem dX6_count_70 : decode cX6_count 70 = .ok (.getfield 100, 3) := by decide +kernel
theorem dX6_count_73 : decode cX6_count 73 = .ok (.ireturn, 1) := by decide +kernel
theorem dX6_count_74 : decode cX6_count 74 = .ok (.aload_n 0, 1) := by decide +kernel
theorem dX6_count_75 : decode cX6_count 75 = .ok (.invokevirtual 331, 3) := by decide +kernel
theorem dX6_count_78 : decode cX6_count 78 = .ok (.ireturn, 1) := by decide +kernel
theorem dX6_count_79 : decode cX6_count 79 = .ok (.aload_n 0, 1) := by decide +kernel
theorem dX6_count_80 : decode cX6_count 80 = .ok (.getfield 121, 3) := by decide +kernel
theorem dX6_count_83 : decode cX6_count 83 = .ok (.ireturn, 1) := by decide +kernel
theorem dX6_count_84 : decode cX6_count 84 = .ok (.aload_n 0, 1) := by decide +kernel
theorem dX6_count_85 : decode cX6_count 85 = .ok (.invokevirtual 124, 3) := by decide +kernel
theorem dX6_count_88 : decode cX6_count 88 = .ok (.ifnonnull 7, 3) := by decide +kernel
theorem dX6_count_91 : decode cX6_count 91 = .ok (.iconst 0, 1) := by decide +kernel
theorem dX6_count_92 : decode cX6_count 92 = .ok (.goto 4, 3) := by decide +kernel
theorem dX6_count_95 : decode cX6_count 95 = .ok (.iconst 1, 1) := by decide +kernel
theorem dX6_count_96 : decode cX6_count 96 = .ok (.ireturn, 1) := by decide +kernel
theorem dX6_count_97 : decode cX6_count 97 = .ok (.aload_n 0, 1) := by decide +kernel
theorem dX6_count_98 : decode cX6_count 98 = .ok (.getfield 103, 3) := by decide +kernel
theorem dX6_count_101 : decode cX6_count 101 = .ok (.ireturn, 1) := by decide +kernel
theorem dX6_count_102 : decode cX6_count 102 = .ok (.bipush (-102), 2) := by decide +kernel
theorem dX6_count_104 : decode cX6_count 104 = .ok (.ireturn, 1) := by decide +kernel
theorem dX6_digest_0 : decode cX6_digest 0 = .ok (.ldc2_w 334, 3) := by decide +kernel
theorem dX6_digest_3 : decode cX6_digest 3 = .ok (.lstore_n 1, 1) := by decide +kernel
theorem dX6_digest_4 : decode cX6_digest 4 = .ok (.lload_n 1, 1) := by decide +kernel
theorem dX6_digest_5 : decode cX6_digest 5 = .ok (.aload_n 0, 1) := by decide +kernel
theorem dX6_digest_6 : decode cX6_digest 6 = .ok (.getfield 12, 3) := by decide +kernel
theorem dX6_digest_9 : decode cX6_digest 9 = .ok (.getfield 336, 3) := by decide +kernel
theorem dX6_digest_12 : decode cX6_digest 12 = .ok (.i2l, 1) := by decide +kernel
theorem dX6_digest_13 : decode cX6_digest 13 = .ok (.invokestatic 339, 3) := by decide +kernel
theorem dX6_digest_16 : decode cX6_digest 16 = .ok (.lstore_n 1, 1) := by decide +kernel
theorem dX6_digest_17 : decode cX6_digest 17 = .ok (.lload_n 1, 1) := by decide +kernel
theorem dX6_digest_18 : decode cX6_digest 18 = .ok (.aload_n 0, 1) := by decide +kernel
theorem dX6_digest_19 : decode cX6_digest 19 = .ok (.getfield 12, 3) := by decide +kernel
theorem dX6_digest_22 : decode cX6_digest 22 = .ok (.getfield 342, 3) := by decide +kernel
theorem dX6_digest_25 : decode cX6_digest 25 = .ok (.i2l, 1) := by decide +kernel
theorem dX6_digest_26 : decode cX6_digest 26 = .ok (.invokestatic 339, 3) := by decide +kernel
theorem dX6_digest_29 : decode cX6_digest 29 = .ok (.lstore_n 1, 1) := by decide +kernel
theorem dX6_digest_30 : decode cX6_digest 30 = .ok (.aload_n 0, 1) := by decide +kernel
theorem dX6_digest_31 : decode cX6_digest 31 = .ok (.lload_n 1, 1) := by decide +kernel
theorem dX6_digest_32 : decode cX6_digest 32 = .ok (.invokevirtual 345, 3) := by decide +kernel
theorem dX6_digest_35 : decode cX6_digest 35 = .ok (.lstore_n 1, 1) := by decide +kernel
theorem dX6_digest_36 : decode cX6_digest 36 = .ok (.aload_n 0, 1) := by decide +kernel
theorem dX6_digest_37 : decode cX6_digest 37 = .ok (.lload_n 1, 1) := by decide +kernel
theorem dX6_digest_38 : decode cX6_digest 38 = .ok (.invokevirtual 349, 3) := by decide +kernel
theorem dX6_digest_41 : decode cX6_digest 41 = .ok (.lstore_n 1, 1) := by decide +kernel
theorem dX6_digest_42 : decode cX6_digest 42 = .ok (.aload_n 0, 1) := by decide +kernel
theorem dX6_digest_43 : decode cX6_digest 43 = .ok (.lload_n 1, 1) := by decide +kernel
theorem dX6_digest_44 : decode cX6_digest 44 = .ok (.invokevirtual 352, 3) := by decide +kernel
theorem dX6_digest_47 : decode cX6_digest 47 = .ok (.lstore_n 1, 1) := by decide +kernel
theorem dX6_digest_48 : decode cX6_digest 48 = .ok (.iconst 0, 1) := by decide +kernel
theorem dX6_digest_49 : decode cX6_digest 49 = .ok (.istore_n 3, 1) := by decide +kernel
theorem dX6_digest_50 : decode cX6_digest 50 = .ok (.iload_n 3, 1) := by decide +kernel
theorem dX6_digest_51 : decode cX6_digest 51 = .ok (.iconst 5, 1) := by decide +kernel
theorem dX6_digest_52 : decode cX6_digest 52 = .ok (.if_icmp .ge 21, 3) := by decide +kernel
theorem dX6_digest_55 : decode cX6_digest 55 = .ok (.lload_n 1, 1) := by decide +kernel
theorem dX6_digest_56 : decode cX6_digest 56 = .ok (.aload_n 0, 1) := by decide +kernel
theorem dX6_digest_57 : decode cX6_digest 57 = .ok (.getfield 41, 3) := by decide +kernel
theorem dX6_digest_60 : decode cX6_digest 60 = .ok (.iload_n 3, 1) := by decide +kernel
theorem dX6_digest_61 : decode cX6_digest 61 = .ok (.iaload, 1) := by decide +kernel
theorem dX6_digest_62 : decode cX6_digest 62 = .ok (.i2l, 1) := by decide +kernel
theorem dX6_digest_63 : decode cX6_digest 63 = .ok (.invokestatic 339, 3) := by decide +kernel
theorem dX6_digest_66 : decode cX6_digest 66 = .ok (.lstore_n 1, 1) := by decide +kernel
theorem dX6_digest_67 : decode cX6_digest 67 = .ok (.iinc 3 1, 3) := by decide +kernel
theorem dX6_digest_70 : decode cX6_digest 70 = .ok (.goto (-20), 3) := by decide +kernel
theorem dX6_digest_73 : decode cX6_digest 73 = .ok (.iconst 5, 1) := by decide +kernel
theorem dX6_digest_74 : decode cX6_digest 74 = .ok (.istore_n 3, 1) := by decide +kernel
theorem dX6_digest_75 : decode cX6_digest 75 = .ok (.iload_n 3, 1) := by decide +kernel
theorem dX6_digest_76 : decode cX6_digest 76 = .ok (.bipush 8, 2) := by decide +kernel
theorem dX6_digest_78 : decode cX6_digest 78 = .ok (.if_icmp .ge 20, 3) := by decide +kernel
theorem dX6_digest_81 : decode cX6_digest 81 = .ok (.lload_n 1, 1) := by decide +kernel
theorem dX6_digest_82 : decode cX6_digest 82 = .ok (.aload_n 0, 1) := by decide +kernel
theorem dX6_digest_83 : decode cX6_digest 83 = .ok (.iload_n 3, 1) := by decide +kernel
theorem dX6_digest_84 : decode cX6_digest 84 = .ok (.invokevirtual 355, 3) := by decide +kernel
theorem dX6_digest_87 : decode cX6_digest 87 = .ok (.i2l, 1) := by decide +kernel
theorem dX6_digest_88 : decode cX6_digest 88 = .ok (.invokestatic 339, 3) := by decide +kernel
theorem dX6_digest_91 : decode cX6_digest 91 = .ok (.lstore_n 1, 1) := by decide +kernel
theorem dX6_digest_92 : decode cX6_digest 92 = .ok (.iinc 3 1, 3) := by decide +kernel
theorem dX6_digest_95 : decode cX6_digest 95 = .ok (.goto (-20), 3) := by decide +kernel
theorem dX6_digest_98 : decode cX6_digest 98 = .ok (.lload_n 1, 1) := by decide +kernel
theorem dX6_digest_99 : decode cX6_digest 99 = .ok (.lreturn, 1) := by decide +kernel
theorem dX6_casesOfLatest_0 : decode cX6_casesOfLatest 0 = .ok (.aload_n 0, 1) := by decide +kernel
theorem dX6_casesOfLatest_1 : decode cX6_casesOfLatest 1 = .ok (.invokevirtual 177, 3) := by decide +kernel
theorem dX6_casesOfLatest_4 : decode cX6_casesOfLatest 4 = .ok (.astore_n 1, 1) := by decide +kernel
theorem dX6_casesOfLatest_5 : decode cX6_casesOfLatest 5 = .ok (.aload_n 1, 1) := by decide +kernel
theorem dX6_casesOfLatest_6 : decode cX6_casesOfLatest 6 = .ok (.ifnonnull 7, 3) := by decide +kernel
theorem dX6_casesOfLatest_9 : decode cX6_casesOfLatest 9 = .ok (.iconst 0, 1) := by decide +kernel
theorem dX6_casesOfLatest_10 : decode cX6_casesOfLatest 10 = .ok (.goto 7, 3) := by decide +kernel
theorem dX6_casesOfLatest_13 : decode cX6_casesOfLatest 13 = .ok (.aload_n 1, 1) := by decide +kernel
theorem dX6_casesOfLatest_14 : decode cX6_casesOfLatest 14 = .ok (.getfield 147, 3) := by decide +kernel
theorem dX6_casesOfLatest_17 : decode cX6_casesOfLatest 17 = .ok (.ireturn, 1) := by decide +kernel
theorem dX6_mixed_0 : decode cX6_mixed 0 = .ok (.ldc2_w 358, 3) := by decide +kernel
theorem dX6_mixed_3 : decode cX6_mixed 3 = .ok (.lload_n 0, 1) := by decide +kernel
theorem dX6_mixed_4 : decode cX6_mixed 4 = .ok (.lmul, 1) := by decide +kernel
theorem dX6_mixed_5 : decode cX6_mixed 5 = .ok (.lload_n 2, 1) := by decide +kernel
theorem dX6_mixed_6 : decode cX6_mixed 6 = .ok (.ladd, 1) := by decide +kernel
theorem dX6_mixed_7 : decode cX6_mixed 7 = .ok (.lreturn, 1) := by decide +kernel
theorem dX6_mixedCells_0 : decode cX6_mixedCells 0 = .ok (.lload_n 1, 1) := by decide +kernel
theorem dX6_mixedCells_1 : decode cX6_mixedCells 1 = .ok (.lstore_n 3, 1) := by decide +kernel
theorem dX6_mixedCells_2 : decode cX6_mixedCells 2 = .ok (.iconst 0, 1) := by decide +kernel
theorem dX6_mixedCells_3 : decode cX6_mixedCells 3 = .ok (.istore 5, 2) := by decide +kernel
theorem dX6_mixedCells_5 : decode cX6_mixedCells 5 = .ok (.iload 5, 2) := by decide +kernel
theorem dX6_mixedCells_7 : decode cX6_mixedCells 7 = .ok (.aload_n 0, 1) := by decide +kernel
theorem dX6_mixedCells_8 : decode cX6_mixedCells 8 = .ok (.getfield 12, 3) := by decide +kernel
theorem dX6_mixedCells_11 : decode cX6_mixedCells 11 = .ok (.getfield 342, 3) := by decide +kernel
theorem dX6_mixedCells_14 : decode cX6_mixedCells 14 = .ok (.if_icmp .ge 61, 3) := by decide +kernel
theorem dX6_mixedCells_17 : decode cX6_mixedCells 17 = .ok (.iconst 0, 1) := by decide +kernel
theorem dX6_mixedCells_18 : decode cX6_mixedCells 18 = .ok (.istore 6, 2) := by decide +kernel
theorem dX6_mixedCells_20 : decode cX6_mixedCells 20 = .ok (.iload 6, 2) := by decide +kernel
theorem dX6_mixedCells_22 : decode cX6_mixedCells 22 = .ok (.aload_n 0, 1) := by decide +kernel
theorem dX6_mixedCells_23 : decode cX6_mixedCells 23 = .ok (.getfield 12, 3) := by decide +kernel
theorem dX6_mixedCells_26 : decode cX6_mixedCells 26 = .ok (.getfield 336, 3) := by decide +kernel
theorem dX6_mixedCells_29 : decode cX6_mixedCells 29 = .ok (.if_icmp .ge 40, 3) := by decide +kernel
theorem dX6_mixedCells_32 : decode cX6_mixedCells 32 = .ok (.iconst 0, 1) := by decide +kernel
theorem dX6_mixedCells_33 : decode cX6_mixedCells 33 = .ok (.istore 7, 2) := by decide +kernel
theorem dX6_mixedCells_35 : decode cX6_mixedCells 35 = .ok (.iload 7, 2) := by decide +kernel
theorem dX6_mixedCells_37 : decode cX6_mixedCells 37 = .ok (.iconst 5, 1) := by decide +kernel
theorem dX6_mixedCells_38 : decode cX6_mixedCells 38 = .ok (.if_icmp .ge 25, 3) := by decide +kernel
theorem dX6_mixedCells_41 : decode cX6_mixedCells 41 = .ok (.lload_n 3, 1) := by decide +kernel
theorem dX6_mixedCells_42 : decode cX6_mixedCells 42 = .ok (.aload_n 0, 1) := by decide +kernel
theorem dX6_mixedCells_43 : decode cX6_mixedCells 43 = .ok (.iload 6, 2) := by decide +kernel
theorem dX6_mixedCells_45 : decode cX6_mixedCells 45 = .ok (.iload 5, 2) := by decide +kernel
theorem dX6_mixedCells_47 : decode cX6_mixedCells 47 = .ok (.iload 7, 2) := by decide +kernel
theorem dX6_mixedCells_49 : decode cX6_mixedCells 49 = .ok (.invokevirtual 360, 3) := by decide +kernel
theorem dX6_mixedCells_52 : decode cX6_mixedCells 52 = .ok (.i2l, 1) := by decide +kernel
theorem dX6_mixedCells_53 : decode cX6_mixedCells 53 = .ok (.invokestatic 339, 3) := by decide +kernel
theorem dX6_mixedCells_56 : decode cX6_mixedCells 56 = .ok (.lstore_n 3, 1) := by decide +kernel
theorem dX6_mixedCells_57 : decode cX6_mixedCells 57 = .ok (.iinc 7 1, 3) := by decide +kernel
theorem dX6_mixedCells_60 : decode cX6_mixedCells 60 = .ok (.goto (-25), 3) := by decide +kernel
theorem dX6_mixedCells_63 : decode cX6_mixedCells 63 = .ok (.iinc 6 1, 3) := by decide +kernel
theorem dX6_mixedCells_66 : decode cX6_mixedCells 66 = .ok (.goto (-46), 3) := by decide +kernel
theorem dX6_mixedCells_69 : decode cX6_mixedCells 69 = .ok (.iinc 5 1, 3) := by decide +kernel
theorem dX6_mixedCells_72 : decode cX6_mixedCells 72 = .ok (.goto (-67), 3) := by decide +kernel
theorem dX6_mixedCells_75 : decode cX6_mixedCells 75 = .ok (.lload_n 3, 1) := by decide +kernel
theorem dX6_mixedCells_76 : decode cX6_mixedCells 76 = .ok (.lreturn, 1) := by decide +kernel
theorem dX6_mixedFields_0 : decode cX6_mixedFields 0 = .ok (.lload_n 1, 1) := by decide +kernel
theorem dX6_mixedFields_1 : decode cX6_mixedFields 1 = .ok (.lstore_n 3, 1) := by decide +kernel
theorem dX6_mixedFields_2 : decode cX6_mixedFields 2 = .ok (.iconst 0, 1) := by decide +kernel
theorem dX6_mixedFields_3 : decode cX6_mixedFields 3 = .ok (.istore 5, 2) := by decide +kernel
theorem dX6_mixedFields_5 : decode cX6_mixedFields 5 = .ok (.iload 5, 2) := by decide +kernel
theorem dX6_mixedFields_7 : decode cX6_mixedFields 7 = .ok (.aload_n 0, 1) := by decide +kernel
theorem dX6_mixedFields_8 : decode cX6_mixedFields 8 = .ok (.getfield 58, 3) := by decide +kernel
theorem dX6_mixedFields_11 : decode cX6_mixedFields 11 = .ok (.if_icmp .ge 89, 3) := by decide +kernel
theorem dX6_mixedFields_14 : decode cX6_mixedFields 14 = .ok (.iload 5, 2) := by decide +kernel
theorem dX6_mixedFields_16 : decode cX6_mixedFields 16 = .ok (.bipush 12, 2) := by decide +kernel
theorem dX6_mixedFields_18 : decode cX6_mixedFields 18 = .ok (.if_icmp .ge 82, 3) := by decide +kernel
theorem dX6_mixedFields_21 : decode cX6_mixedFields 21 = .ok (.aload_n 0, 1) := by decide +kernel
theorem dX6_mixedFields_22 : decode cX6_mixedFields 22 = .ok (.getfield 25, 3) := by decide +kernel
theorem dX6_mixedFields_25 : decode cX6_mixedFields 25 = .ok (.iload 5, 2) := by decide +kernel
theorem dX6_mixedFields_27 : decode cX6_mixedFields 27 = .ok (.aaload, 1) := by decide +kernel
theorem dX6_mixedFields_28 : decode cX6_mixedFields 28 = .ok (.astore 6, 2) := by decide +kernel
theorem dX6_mixedFields_30 : decode cX6_mixedFields 30 = .ok (.lload_n 3, 1) := by decide +kernel
theorem dX6_mixedFields_31 : decode cX6_mixedFields 31 = .ok (.aload 6, 2) := by decide +kernel
theorem dX6_mixedFields_33 : decode cX6_mixedFields 33 = .ok (.getfield 90, 3) := by decide +kernel
theorem dX6_mixedFields_36 : decode cX6_mixedFields 36 = .ok (.i2l, 1) := by decide +kernel
theorem dX6_mixedFields_37 : decode cX6_mixedFields 37 = .ok (.invokestatic 339, 3) := by decide +kernel
theorem dX6_mixedFields_40 : decode cX6_mixedFields 40 = .ok (.lstore_n 3, 1) := by decide +kernel
theorem dX6_mixedFields_41 : decode cX6_mixedFields 41 = .ok (.iconst 0, 1) := by decide +kernel
theorem dX6_mixedFields_42 : decode cX6_mixedFields 42 = .ok (.istore 7, 2) := by decide +kernel
theorem dX6_mixedFields_44 : decode cX6_mixedFields 44 = .ok (.iload 7, 2) := by decide +kernel
theorem dX6_mixedFields_46 : decode cX6_mixedFields 46 = .ok (.aload 6, 2) := by decide +kernel
theorem dX6_mixedFields_48 : decode cX6_mixedFields 48 = .ok (.getfield 286, 3) := by decide +kernel
theorem dX6_mixedFields_51 : decode cX6_mixedFields 51 = .ok (.if_icmp .ge 43, 3) := by decide +kernel
theorem dX6_mixedFields_54 : decode cX6_mixedFields 54 = .ok (.iload 7, 2) := by decide +kernel
theorem dX6_mixedFields_56 : decode cX6_mixedFields 56 = .ok (.iconst 4, 1) := by decide +kernel
theorem dX6_mixedFields_57 : decode cX6_mixedFields 57 = .ok (.if_icmp .ge 37, 3) := by decide +kernel
theorem dX6_mixedFields_60 : decode cX6_mixedFields 60 = .ok (.lload_n 3, 1) := by decide +kernel
theorem dX6_mixedFields_61 : decode cX6_mixedFields 61 = .ok (.aload 6, 2) := by decide +kernel
theorem dX6_mixedFields_63 : decode cX6_mixedFields 63 = .ok (.getfield 289, 3) := by decide +kernel
theorem dX6_mixedFields_66 : decode cX6_mixedFields 66 = .ok (.iload 7, 2) := by decide +kernel
theorem dX6_mixedFields_68 : decode cX6_mixedFields 68 = .ok (.iaload, 1) := by decide +kernel
theorem dX6_mixedFields_69 : decode cX6_mixedFields 69 = .ok (.i2l, 1) := by decide +kernel
theorem dX6_mixedFields_70 : decode cX6_mixedFields 70 = .ok (.invokestatic 339, 3) := by decide +kernel
theorem dX6_mixedFields_73 : decode cX6_mixedFields 73 = .ok (.lstore_n 3, 1) := by decide +kernel
theorem dX6_mixedFields_74 : decode cX6_mixedFields 74 = .ok (.lload_n 3, 1) := by decide +kernel
theorem dX6_mixedFields_75 : decode cX6_mixedFields 75 = .ok (.aload 6, 2) := by decide +kernel
theorem dX6_mixedFields_77 : decode cX6_mixedFields 77 = .ok (.getfield 296, 3) := by decide +kernel
theorem dX6_mixedFields_80 : decode cX6_mixedFields 80 = .ok (.iload 7, 2) := by decide +kernel
theorem dX6_mixedFields_82 : decode cX6_mixedFields 82 = .ok (.iaload, 1) := by decide +kernel
theorem dX6_mixedFields_83 : decode cX6_mixedFields 83 = .ok (.i2l, 1) := by decide +kernel
theorem dX6_mixedFields_84 : decode cX6_mixedFields 84 = .ok (.invokestatic 339, 3) := by decide +kernel
theorem dX6_mixedFields_87 : decode cX6_mixedFields 87 = .ok (.lstore_n 3, 1) := by decide +kernel
theorem dX6_mixedFields_88 : decode cX6_mixedFields 88 = .ok (.iinc 7 1, 3) := by decide +kernel
theorem dX6_mixedFields_91 : decode cX6_mixedFields 91 = .ok (.goto (-47), 3) := by decide +kernel
theorem dX6_mixedFields_94 : decode cX6_mixedFields 94 = .ok (.iinc 5 1, 3) := by decide +kernel
theorem dX6_mixedFields_97 : decode cX6_mixedFields 97 = .ok (.goto (-92), 3) := by decide +kernel
theorem dX6_mixedFields_100 : decode cX6_mixedFields 100 = .ok (.lload_n 3, 1) := by decide +kernel
theorem dX6_mixedFields_101 : decode cX6_mixedFields 101 = .ok (.lreturn, 1) := by decide +kernel
theorem dX6_mixedOrders_0 : decode cX6_mixedOrders 0 = .ok (.lload_n 1, 1) := by decide +kernel
theorem dX6_mixedOrders_1 : decode cX6_mixedOrders 1 = .ok (.lstore_n 3, 1) := by decide +kernel
theorem dX6_mixedOrders_2 : decode cX6_mixedOrders 2 = .ok (.iconst 0, 1) := by decide +kernel
theorem dX6_mixedOrders_3 : decode cX6_mixedOrders 3 = .ok (.istore 5, 2) := by decide +kernel
theorem dX6_mixedOrders_5 : decode cX6_mixedOrders 5 = .ok (.iload 5, 2) := by decide +kernel
theorem dX6_mixedOrders_7 : decode cX6_mixedOrders 7 = .ok (.aload_n 0, 1) := by decide +kernel
theorem dX6_mixedOrders_8 : decode cX6_mixedOrders 8 = .ok (.getfield 100, 3) := by decide +kernel
theorem dX6_mixedOrders_11 : decode cX6_mixedOrders 11 = .ok (.if_icmp .ge 83, 3) := by decide +kernel
theorem dX6_mixedOrders_14 : decode cX6_mixedOrders 14 = .ok (.aload_n 0, 1) := by decide +kernel
theorem dX6_mixedOrders_15 : decode cX6_mixedOrders 15 = .ok (.iload 5, 2) := by decide +kernel
theorem dX6_mixedOrders_17 : decode cX6_mixedOrders 17 = .ok (.invokevirtual 199, 3) := by decide +kernel
theorem dX6_mixedOrders_20 : decode cX6_mixedOrders 20 = .ok (.astore 6, 2) := by decide +kernel
theorem dX6_mixedOrders_22 : decode cX6_mixedOrders 22 = .ok (.aload 6, 2) := by decide +kernel
theorem dX6_mixedOrders_24 : decode cX6_mixedOrders 24 = .ok (.ifnull 64, 3) := by decide +kernel
theorem dX6_mixedOrders_27 : decode cX6_mixedOrders 27 = .ok (.lload_n 3, 1) := by decide +kernel
theorem dX6_mixedOrders_28 : decode cX6_mixedOrders 28 = .ok (.aload 6, 2) := by decide +kernel
theorem dX6_mixedOrders_30 : decode cX6_mixedOrders 30 = .ok (.getfield 364, 3) := by decide +kernel
theorem dX6_mixedOrders_33 : decode cX6_mixedOrders 33 = .ok (.i2l, 1) := by decide +kernel
theorem dX6_mixedOrders_34 : decode cX6_mixedOrders 34 = .ok (.invokestatic 339, 3) := by decide +kernel
theorem dX6_mixedOrders_37 : decode cX6_mixedOrders 37 = .ok (.lstore_n 3, 1) := by decide +kernel
theorem dX6_mixedOrders_38 : decode cX6_mixedOrders 38 = .ok (.iconst 0, 1) := by decide +kernel
theorem dX6_mixedOrders_39 : decode cX6_mixedOrders 39 = .ok (.istore 7, 2) := by decide +kernel
theorem dX6_mixedOrders_41 : decode cX6_mixedOrders 41 = .ok (.iload 7, 2) := by decide +kernel
theorem dX6_mixedOrders_43 : decode cX6_mixedOrders 43 = .ok (.aload 6, 2) := by decide +kernel
theorem dX6_mixedOrders_45 : decode cX6_mixedOrders 45 = .ok (.getfield 147, 3) := by decide +kernel
theorem dX6_mixedOrders_48 : decode cX6_mixedOrders 48 = .ok (.if_icmp .ge 40, 3) := by decide +kernel
theorem dX6_mixedOrders_51 : decode cX6_mixedOrders 51 = .ok (.iconst 0, 1) := by decide +kernel
theorem dX6_mixedOrders_52 : decode cX6_mixedOrders 52 = .ok (.istore 8, 2) := by decide +kernel
theorem dX6_mixedOrders_54 : decode cX6_mixedOrders 54 = .ok (.iload 8, 2) := by decide +kernel
theorem dX6_mixedOrders_56 : decode cX6_mixedOrders 56 = .ok (.bipush 14, 2) := by decide +kernel
theorem dX6_mixedOrders_58 : decode cX6_mixedOrders 58 = .ok (.if_icmp .ge 24, 3) := by decide +kernel
theorem dX6_mixedOrders_61 : decode cX6_mixedOrders 61 = .ok (.lload_n 3, 1) := by decide +kernel
theorem dX6_mixedOrders_62 : decode cX6_mixedOrders 62 = .ok (.aload_n 0, 1) := by decide +kernel
theorem dX6_mixedOrders_63 : decode cX6_mixedOrders 63 = .ok (.iload 5, 2) := by decide +kernel
theorem dX6_mixedOrders_65 : decode cX6_mixedOrders 65 = .ok (.iload 7, 2) := by decide +kernel
theorem dX6_mixedOrders_67 : decode cX6_mixedOrders 67 = .ok (.iload 8, 2) := by decide +kernel
theorem dX6_mixedOrders_69 : decode cX6_mixedOrders 69 = .ok (.invokevirtual 367, 3) := by decide +kernel
theorem dX6_mixedOrders_72 : decode cX6_mixedOrders 72 = .ok (.invokestatic 339, 3) := by decide +kernel
theorem dX6_mixedOrders_75 : decode cX6_mixedOrders 75 = .ok (.lstore_n 3, 1) := by decide +kernel
theorem dX6_mixedOrders_76 : decode cX6_mixedOrders 76 = .ok (.iinc 8 1, 3) := by decide +kernel
theorem dX6_mixedOrders_79 : decode cX6_mixedOrders 79 = .ok (.goto (-25), 3) := by decide +kernel
theorem dX6_mixedOrders_82 : decode cX6_mixedOrders 82 = .ok (.iinc 7 1, 3) := by decide +kernel
theorem dX6_mixedOrders_85 : decode cX6_mixedOrders 85 = .ok (.goto (-44), 3) := by decide +kernel
theorem dX6_mixedOrders_88 : decode cX6_mixedOrders 88 = .ok (.iinc 5 1, 3) := by decide +kernel
theorem dX6_mixedOrders_91 : decode cX6_mixedOrders 91 = .ok (.goto (-86), 3) := by decide +kernel
theorem dX6_mixedOrders_94 : decode cX6_mixedOrders 94 = .ok (.lload_n 3, 1) := by decide +kernel
theorem dX6_mixedOrders_95 : decode cX6_mixedOrders 95 = .ok (.lreturn, 1) := by decide +kernel
theorem dX7_init_0 : decode cX7_init 0 = .ok (.aload_n 0, 1) := by decide +kernel
theorem dX7_init_1 : decode cX7_init 1 = .ok (.invokespecial 1, 3) := by decide +kernel
theorem dX7_init_4 : decode cX7_init 4 = .ok (.aload_n 0, 1) := by decide +kernel
theorem dX7_init_5 : decode cX7_init 5 = .ok (.iconst 1, 1) := by decide +kernel
theorem dX7_init_6 : decode cX7_init 6 = .ok (.putfield 7, 3) := by decide +kernel
theorem dX7_init_9 : decode cX7_init 9 = .ok (.aload_n 0, 1) := by decide +kernel
theorem dX7_init_10 : decode cX7_init 10 = .ok (.iconst 1, 1) := by decide +kernel
theorem dX7_init_11 : decode cX7_init 11 = .ok (.putfield 13, 3) := by decide +kernel
theorem dX7_init_14 : decode cX7_init 14 = .ok (.aload_n 0, 1) := by decide +kernel
theorem dX7_init_15 : decode cX7_init 15 = .ok (.sipush 256, 3) := by decide +kernel
theorem dX7_init_18 : decode cX7_init 18 = .ok (.newarray .int, 2) := by decide +kernel
theorem dX7_init_20 : decode cX7_init 20 = .ok (.putfield 16, 3) := by decide +kernel
theorem dX7_init_23 : decode cX7_init 23 = .ok (.aload_n 0, 1) := by decide +kernel
theorem dX7_init_24 : decode cX7_init 24 = .ok (.sipush 256, 3) := by decide +kernel
theorem dX7_init_27 : decode cX7_init 27 = .ok (.newarray .int, 2) := by decide +kernel
theorem dX7_init_29 : decode cX7_init 29 = .ok (.putfield 20, 3) := by decide +kernel
theorem dX7_init_32 : decode cX7_init 32 = .ok (.aload_n 0, 1) := by decide +kernel
theorem dX7_init_33 : decode cX7_init 33 = .ok (.sipush 256, 3) := by decide +kernel
theorem dX7_init_36 : decode cX7_init 36 = .ok (.newarray .boolean, 2) := by decide +kernel
theorem dX7_init_38 : decode cX7_init 38 = .ok (.putfield 23, 3) := by decide +kernel
theorem dX7_init_41 : decode cX7_init 41 = .ok (.aload_n 0, 1) := by decide +kernel
theorem dX7_init_42 : decode cX7_init 42 = .ok (.sipush 256, 3) := by decide +kernel
theorem dX7_init_45 : decode cX7_init 45 = .ok (.newarray .boolean, 2) := by decide +kernel
theorem dX7_init_47 : decode cX7_init 47 = .ok (.putfield 27, 3) := by decide +kernel
theorem dX7_init_50 : decode cX7_init 50 = .ok (.aload_n 0, 1) := by decide +kernel
theorem dX7_init_51 : decode cX7_init 51 = .ok (.sipush 256, 3) := by decide +kernel
theorem dX7_init_54 : decode cX7_init 54 = .ok (.newarray .int, 2) := by decide +kernel
theorem dX7_init_56 : decode cX7_init 56 = .ok (.putfield 30, 3) := by decide +kernel
theorem dX7_init_59 : decode cX7_init 59 = .ok (.aload_n 0, 1) := by decide +kernel
theorem dX7_init_60 : decode cX7_init 60 = .ok (.bipush 12, 2) := by decide +kernel
theorem dX7_init_62 : decode cX7_init 62 = .ok (.newarray .int, 2) := by decide +kernel
theorem dX7_init_64 : decode cX7_init 64 = .ok (.putfield 33, 3) := by decide +kernel
theorem dX7_init_67 : decode cX7_init 67 = .ok (.aload_n 0, 1) := by decide +kernel
theorem dX7_init_68 : decode cX7_init 68 = .ok (.bipush 12, 2) := by decide +kernel
theorem dX7_init_70 : decode cX7_init 70 = .ok (.newarray .int, 2) := by decide +kernel
theorem dX7_init_72 : decode cX7_init 72 = .ok (.putfield 36, 3) := by decide +kernel
theorem dX7_init_75 : decode cX7_init 75 = .ok (.aload_n 0, 1) := by decide +kernel
theorem dX7_init_76 : decode cX7_init 76 = .ok (.bipush 48, 2) := by decide +kernel
theorem dX7_init_78 : decode cX7_init 78 = .ok (.newarray .int, 2) := by decide +kernel
theorem dX7_init_80 : decode cX7_init 80 = .ok (.putfield 39, 3) := by decide +kernel
theorem dX7_init_83 : decode cX7_init 83 = .ok (.aload_n 0, 1) := by decide +kernel
theorem dX7_init_84 : decode cX7_init 84 = .ok (.bipush 48, 2) := by decide +kernel
theorem dX7_init_86 : decode cX7_init 86 = .ok (.newarray .int, 2) := by decide +kernel
theorem dX7_init_88 : decode cX7_init 88 = .ok (.putfield 42, 3) := by decide +kernel
theorem dX7_init_91 : decode cX7_init 91 = .ok (.aload_n 0, 1) := by decide +kernel
theorem dX7_init_92 : decode cX7_init 92 = .ok (.iconst 4, 1) := by decide +kernel
theorem dX7_init_93 : decode cX7_init 93 = .ok (.newarray .int, 2) := by decide +kernel
theorem dX7_init_95 : decode cX7_init 95 = .ok (.putfield 45, 3) := by decide +kernel
theorem dX7_init_98 : decode cX7_init 98 = .ok (.aload_n 0, 1) := by decide +kernel
theorem dX7_init_99 : decode cX7_init 99 = .ok (.bipush 80, 2) := by decide +kernel
theorem dX7_init_101 : decode cX7_init 101 = .ok (.newarray .int, 2) := by decide +kernel
theorem dX7_init_103 : decode cX7_init 103 = .ok (.putfield 48, 3) := by decide +kernel
theorem dX7_init_106 : decode cX7_init 106 = .ok (.aload_n 0, 1) := by decide +kernel
theorem dX7_init_107 : decode cX7_init 107 = .ok (.bipush 80, 2) := by decide +kernel
theorem dX7_init_109 : decode cX7_init 109 = .ok (.newarray .int, 2) := by decide +kernel
theorem dX7_init_111 : decode cX7_init 111 = .ok (.putfield 51, 3) := by decide +kernel
theorem dX7_init_114 : decode cX7_init 114 = .ok (.aload_n 0, 1) := by decide +kernel
theorem dX7_init_115 : decode cX7_init 115 = .ok (.iconst 5, 1) := by decide +kernel
theorem dX7_init_116 : decode cX7_init 116 = .ok (.newarray .int, 2) := by decide +kernel
theorem dX7_init_118 : decode cX7_init 118 = .ok (.putfield 54, 3) := by decide +kernel
theorem dX7_init_121 : decode cX7_init 121 = .ok (.aload_n 0, 1) := by decide +kernel
theorem dX7_init_122 : decode cX7_init 122 = .ok (.bipush 60, 2) := by decide +kernel
theorem dX7_init_124 : decode cX7_init 124 = .ok (.newarray .int, 2) := by decide +kernel
theorem dX7_init_126 : decode cX7_init 126 = .ok (.putfield 57, 3) := by decide +kernel
theorem dX7_init_129 : decode cX7_init 129 = .ok (.aload_n 0, 1) := by decide +kernel
theorem dX7_init_130 : decode cX7_init 130 = .ok (.bipush 60, 2) := by decide +kernel
theorem dX7_init_132 : decode cX7_init 132 = .ok (.newarray .int, 2) := by decide +kernel
theorem dX7_init_134 : decode cX7_init 134 = .ok (.putfield 60, 3) := by decide +kernel
theorem dX7_init_137 : decode cX7_init 137 = .ok (.aload_n 0, 1) := by decide +kernel
theorem dX7_init_138 : decode cX7_init 138 = .ok (.bipush 60, 2) := by decide +kernel
theorem dX7_init_140 : decode cX7_init 140 = .ok (.newarray .int, 2) := by decide +kernel
theorem dX7_init_142 : decode cX7_init 142 = .ok (.putfield 63, 3) := by decide +kernel
theorem dX7_init_145 : decode cX7_init 145 = .ok (.aload_n 0, 1) := by decide +kernel
theorem dX7_init_146 : decode cX7_init 146 = .ok (.bipush 60, 2) := by decide +kernel
theorem dX7_init_148 : decode cX7_init 148 = .ok (.newarray .boolean, 2) := by decide +kernel
theorem dX7_init_150 : decode cX7_init 150 = .ok (.putfield 66, 3) := by decide +kernel
theorem dX7_init_153 : decode cX7_init 153 = .ok (.aload_n 0, 1) := by decide +kernel
theorem dX7_init_154 : decode cX7_init 154 = .ok (.sipush 720, 3) := by decide +kernel
theorem dX7_init_157 : decode cX7_init 157 = .ok (.newarray .int, 2) := by decide +kernel
theorem dX7_init_159 : decode cX7_init 159 = .ok (.putfield 69, 3) := by decide +kernel
theorem dX7_init_162 : decode cX7_init 162 = .ok (.aload_n 0, 1) := by decide +kernel
theorem dX7_init_163 : decode cX7_init 163 = .ok (.sipush 720, 3) := by decide +kernel
theorem dX7_init_166 : decode cX7_init 166 = .ok (.newarray .int, 2) := by decide +kernel
theorem dX7_init_168 : decode cX7_init 168 = .ok (.putfield 72, 3) := by decide +kernel
theorem dX7_init_171 : decode cX7_init 171 = .ok (.aload_n 0, 1) := by decide +kernel
theorem dX7_init_172 : decode cX7_init 172 = .ok (.sipush 720, 3) := by decide +kernel
theorem dX7_init_175 : decode cX7_init 175 = .ok (.newarray .int, 2) := by decide +kernel
theorem dX7_init_177 : decode cX7_init 177 = .ok (.putfield 75, 3) := by decide +kernel
theorem dX7_init_180 : decode cX7_init 180 = .ok (.aload_n 0, 1) := by decide +kernel
theorem dX7_init_181 : decode cX7_init 181 = .ok (.sipush 720, 3) := by decide +kernel
theorem dX7_init_184 : decode cX7_init 184 = .ok (.newarray .int, 2) := by decide +kernel
theorem dX7_init_186 : decode cX7_init 186 = .ok (.putfield 78, 3) := by decide +kernel
theorem dX7_init_189 : decode cX7_init 189 = .ok (.aload_n 0, 1) := by decide +kernel
theorem dX7_init_190 : decode cX7_init 190 = .ok (.sipush 720, 3) := by decide +kernel
theorem dX7_init_193 : decode cX7_init 193 = .ok (.newarray .int, 2) := by decide +kernel
theorem dX7_init_195 : decode cX7_init 195 = .ok (.putfield 81, 3) := by decide +kernel
theorem dX7_init_198 : decode cX7_init 198 = .ok (.aload_n 0, 1) := by decide +kernel
theorem dX7_init_199 : decode cX7_init 199 = .ok (.sipush 720, 3) := by decide +kernel
theorem dX7_init_202 : decode cX7_init 202 = .ok (.newarray .long, 2) := by decide +kernel
theorem dX7_init_204 : decode cX7_init 204 = .ok (.putfield 84, 3) := by decide +kernel
theorem dX7_init_207 : decode cX7_init 207 = .ok (.aload_n 0, 1) := by decide +kernel
theorem dX7_init_208 : decode cX7_init 208 = .ok (.sipush 720, 3) := by decide +kernel
theorem dX7_init_211 : decode cX7_init 211 = .ok (.newarray .long, 2) := by decide +kernel
theorem dX7_init_213 : decode cX7_init 213 = .ok (.putfield 88, 3) := by decide +kernel
theorem dX7_init_216 : decode cX7_init 216 = .ok (.aload_n 0, 1) := by decide +kernel
theorem dX7_init_217 : decode cX7_init 217 = .ok (.sipush 720, 3) := by decide +kernel
theorem dX7_init_220 : decode cX7_init 220 = .ok (.newarray .long, 2) := by decide +kernel
theorem dX7_init_222 : decode cX7_init 222 = .ok (.putfield 91, 3) := by decide +kernel
theorem dX7_init_225 : decode cX7_init 225 = .ok (.aload_n 0, 1) := by decide +kernel
theorem dX7_init_226 : decode cX7_init 226 = .ok (.sipush 720, 3) := by decide +kernel
theorem dX7_init_229 : decode cX7_init 229 = .ok (.newarray .long, 2) := by decide +kernel
theorem dX7_init_231 : decode cX7_init 231 = .ok (.putfield 94, 3) := by decide +kernel
theorem dX7_init_234 : decode cX7_init 234 = .ok (.aload_n 0, 1) := by decide +kernel
theorem dX7_init_235 : decode cX7_init 235 = .ok (.sipush 720, 3) := by decide +kernel
theorem dX7_init_238 : decode cX7_init 238 = .ok (.newarray .long, 2) := by decide +kernel
theorem dX7_init_240 : decode cX7_init 240 = .ok (.putfield 97, 3) := by decide +kernel
theorem dX7_init_243 : decode cX7_init 243 = .ok (.aload_n 0, 1) := by decide +kernel
theorem dX7_init_244 : decode cX7_init 244 = .ok (.sipush 720, 3) := by decide +kernel
theorem dX7_init_247 : decode cX7_init 247 = .ok (.newarray .long, 2) := by decide +kernel
theorem dX7_init_249 : decode cX7_init 249 = .ok (.putfield 100, 3) := by decide +kernel
theorem dX7_init_252 : decode cX7_init 252 = .ok (.aload_n 0, 1) := by decide +kernel
theorem dX7_init_253 : decode cX7_init 253 = .ok (.sipush 720, 3) := by decide +kernel
theorem dX7_init_256 : decode cX7_init 256 = .ok (.newarray .long, 2) := by decide +kernel
theorem dX7_init_258 : decode cX7_init 258 = .ok (.putfield 103, 3) := by decide +kernel
theorem dX7_init_261 : decode cX7_init 261 = .ok (.aload_n 0, 1) := by decide +kernel
theorem dX7_init_262 : decode cX7_init 262 = .ok (.sipush 720, 3) := by decide +kernel
theorem dX7_init_265 : decode cX7_init 265 = .ok (.newarray .int, 2) := by decide +kernel
theorem dX7_init_267 : decode cX7_init 267 = .ok (.putfield 106, 3) := by decide +kernel
theorem dX7_init_270 : decode cX7_init 270 = .ok (.aload_n 0, 1) := by decide +kernel
theorem dX7_init_271 : decode cX7_init 271 = .ok (.sipush 2880, 3) := by decide +kernel
theorem dX7_init_274 : decode cX7_init 274 = .ok (.newarray .long, 2) := by decide +kernel
theorem dX7_init_276 : decode cX7_init 276 = .ok (.putfield 109, 3) := by decide +kernel
theorem dX7_init_279 : decode cX7_init 279 = .ok (.aload_n 0, 1) := by decide +kernel
theorem dX7_init_280 : decode cX7_init 280 = .ok (.sipush 256, 3) := by decide +kernel
theorem dX7_init_283 : decode cX7_init 283 = .ok (.newarray .int, 2) := by decide +kernel
theorem dX7_init_285 : decode cX7_init 285 = .ok (.putfield 112, 3) := by decide +kernel
theorem dX7_init_288 : decode cX7_init 288 = .ok (.aload_n 0, 1) := by decide +kernel
theorem dX7_init_289 : decode cX7_init 289 = .ok (.sipush 256, 3) := by decide +kernel
theorem dX7_init_292 : decode cX7_init 292 = .ok (.newarray .int, 2) := by decide +kernel
theorem dX7_init_294 : decode cX7_init 294 = .ok (.putfield 115, 3) := by decide +kernel
theorem dX7_init_297 : decode cX7_init 297 = .ok (.aload_n 0, 1) := by decide +kernel
theorem dX7_init_298 : decode cX7_init 298 = .ok (.sipush 256, 3) := by decide +kernel
theorem dX7_init_301 : decode cX7_init 301 = .ok (.newarray .int, 2) := by decide +kernel
theorem dX7_init_303 : decode cX7_init 303 = .ok (.putfield 118, 3) := by decide +kernel
theorem dX7_init_306 : decode cX7_init 306 = .ok (.aload_n 0, 1) := by decide +kernel
theorem dX7_init_307 : decode cX7_init 307 = .ok (.sipush 256, 3) := by decide +kernel
theorem dX7_init_310 : decode cX7_init 310 = .ok (.newarray .int, 2) := by decide +kernel
theorem dX7_init_312 : decode cX7_init 312 = .ok (.putfield 121, 3) := by decide +kernel
theorem dX7_init_315 : decode cX7_init 315 = .ok (.aload_n 0, 1) := by decide +kernel
theorem dX7_init_316 : decode cX7_init 316 = .ok (.sipush 256, 3) := by decide +kernel
theorem dX7_init_319 : decode cX7_init 319 = .ok (.newarray .boolean, 2) := by decide +kernel
theorem dX7_init_321 : decode cX7_init 321 = .ok (.putfield 124, 3) := by decide +kernel
theorem dX7_init_324 : decode cX7_init 324 = .ok (.aload_n 0, 1) := by decide +kernel
theorem dX7_init_325 : decode cX7_init 325 = .ok (.invokevirtual 127, 3) := by decide +kernel
theorem dX7_init_328 : decode cX7_init 328 = .ok (.aload_n 0, 1) := by decide +kernel
theorem dX7_init_329 : decode cX7_init 329 = .ok (.getfield 54, 3) := by decide +kernel
theorem dX7_init_332 : decode cX7_init 332 = .ok (.iconst 4, 1) := by decide +kernel
theorem dX7_init_333 : decode cX7_init 333 = .ok (.bipush 28, 2) := by decide +kernel
theorem dX7_init_335 : decode cX7_init 335 = .ok (.iastore, 1) := by decide +kernel
theorem dX7_init_336 : decode cX7_init 336 = .ok (.return_, 1) := by decide +kernel
theorem dX7_in_0 : decode cX7_in 0 = .ok (.lload_n 0, 1) := by decide +kernel
theorem dX7_in_1 : decode cX7_in 1 = .ok (.lload_n 2, 1) := by decide +kernel
theorem dX7_in_2 : decode cX7_in 2 = .ok (.lcmp, 1) := by decide +kernel
theorem dX7_in_3 : decode cX7_in 3 = .ok (.ifCond .lt 14, 3) := by decide +kernel
theorem dX7_in_6 : decode cX7_in 6 = .ok (.lload_n 0, 1) := by decide +kernel
theorem dX7_in_7 : decode cX7_in 7 = .ok (.lload 4, 2) := by decide +kernel
theorem dX7_in_9 : decode cX7_in 9 = .ok (.lcmp, 1) := by decide +kernel
theorem dX7_in_10 : decode cX7_in 10 = .ok (.ifCond .gt 7, 3) := by decide +kernel
theorem dX7_in_13 : decode cX7_in 13 = .ok (.iconst 1, 1) := by decide +kernel
theorem dX7_in_14 : decode cX7_in 14 = .ok (.goto 4, 3) := by decide +kernel
theorem dX7_in_17 : decode cX7_in 17 = .ok (.iconst 0, 1) := by decide +kernel
theorem dX7_in_18 : decode cX7_in 18 = .ok (.ireturn, 1) := by decide +kernel
theorem dX7_fresh_0 : decode cX7_fresh 0 = .ok (.iconst 0, 1) := by decide +kernel
theorem dX7_fresh_1 : decode cX7_fresh 1 = .ok (.istore_n 1, 1) := by decide +kernel
theorem dX7_fresh_2 : decode cX7_fresh 2 = .ok (.iload_n 1, 1) := by decide +kernel
theorem dX7_fresh_3 : decode cX7_fresh 3 = .ok (.sipush 256, 3) := by decide +kernel
theorem dX7_fresh_6 : decode cX7_fresh 6 = .ok (.if_icmp .ge 44, 3) := by decide +kernel
theorem dX7_fresh_9 : decode cX7_fresh 9 = .ok (.aload_n 0, 1) := by decide +kernel
theorem dX7_fresh_10 : decode cX7_fresh 10 = .ok (.getfield 16, 3) := by decide +kernel
theorem dX7_fresh_13 : decode cX7_fresh 13 = .ok (.iload_n 1, 1) := by decide +kernel
theorem dX7_fresh_14 : decode cX7_fresh 14 = .ok (.iconst (-1), 1) := by decide +kernel
theorem dX7_fresh_15 : decode cX7_fresh 15 = .ok (.iastore, 1) := by decide +kernel
theorem dX7_fresh_16 : decode cX7_fresh 16 = .ok (.aload_n 0, 1) := by decide +kernel
theorem dX7_fresh_17 : decode cX7_fresh 17 = .ok (.getfield 20, 3) := by decide +kernel
theorem dX7_fresh_20 : decode cX7_fresh 20 = .ok (.iload_n 1, 1) := by decide +kernel
theorem dX7_fresh_21 : decode cX7_fresh 21 = .ok (.iconst 0, 1) := by decide +kernel
theorem dX7_fresh_22 : decode cX7_fresh 22 = .ok (.iastore, 1) := by decide +kernel
theorem dX7_fresh_23 : decode cX7_fresh 23 = .ok (.aload_n 0, 1) := by decide +kernel
theorem dX7_fresh_24 : decode cX7_fresh 24 = .ok (.getfield 23, 3) := by decide +kernel
theorem dX7_fresh_27 : decode cX7_fresh 27 = .ok (.iload_n 1, 1) := by decide +kernel
theorem dX7_fresh_28 : decode cX7_fresh 28 = .ok (.iconst 0, 1) := by decide +kernel
theorem dX7_fresh_29 : decode cX7_fresh 29 = .ok (.bastore, 1) := by decide +kernel
theorem dX7_fresh_30 : decode cX7_fresh 30 = .ok (.aload_n 0, 1) := by decide +kernel
theorem dX7_fresh_31 : decode cX7_fresh 31 = .ok (.getfield 27, 3) := by decide +kernel
theorem dX7_fresh_34 : decode cX7_fresh 34 = .ok (.iload_n 1, 1) := by decide +kernel
theorem dX7_fresh_35 : decode cX7_fresh 35 = .ok (.iconst 0, 1) := by decide +kernel
theorem dX7_fresh_36 : decode cX7_fresh 36 = .ok (.bastore, 1) := by decide +kernel
theorem dX7_fresh_37 : decode cX7_fresh 37 = .ok (.aload_n 0, 1) := by decide +kernel
theorem dX7_fresh_38 : decode cX7_fresh 38 = .ok (.getfield 30, 3) := by decide +kernel
theorem dX7_fresh_41 : decode cX7_fresh 41 = .ok (.iload_n 1, 1) := by decide +kernel
theorem dX7_fresh_42 : decode cX7_fresh 42 = .ok (.iconst 0, 1) := by decide +kernel
theorem dX7_fresh_43 : decode cX7_fresh 43 = .ok (.iastore, 1) := by decide +kernel
theorem dX7_fresh_44 : decode cX7_fresh 44 = .ok (.iinc 1 1, 3) := by decide +kernel
theorem dX7_fresh_47 : decode cX7_fresh 47 = .ok (.goto (-45), 3) := by decide +kernel
theorem dX7_fresh_50 : decode cX7_fresh 50 = .ok (.aload_n 0, 1) := by decide +kernel
theorem dX7_fresh_51 : decode cX7_fresh 51 = .ok (.iconst 0, 1) := by decide +kernel
theorem dX7_fresh_52 : decode cX7_fresh 52 = .ok (.putfield 130, 3) := by decide +kernel
theorem dX7_fresh_55 : decode cX7_fresh 55 = .ok (.return_, 1) := by decide +kernel
theorem dX7_isCell_0 : decode cX7_isCell 0 = .ok (.iload_n 1, 1) := by decide +kernel
theorem dX7_isCell_1 : decode cX7_isCell 1 = .ok (.i2l, 1) := by decide +kernel
theorem dX7_isCell_2 : decode cX7_isCell 2 = .ok (.lconst 0, 1) := by decide +kernel
theorem dX7_isCell_3 : decode cX7_isCell 3 = .ok (.aload_n 0, 1) := by decide +kernel
theorem dX7_isCell_4 : decode cX7_isCell 4 = .ok (.getfield 7, 3) := by decide +kernel
theorem dX7_isCell_7 : decode cX7_isCell 7 = .ok (.iconst 1, 1) := by decide +kernel
theorem dX7_isCell_8 : decode cX7_isCell 8 = .ok (.isub, 1) := by decide +kernel
theorem dX7_isCell_9 : decode cX7_isCell 9 = .ok (.i2l, 1) := by decide +kernel
theorem dX7_isCell_10 : decode cX7_isCell 10 = .ok (.invokestatic 133, 3) := by decide +kernel
theorem dX7_isCell_13 : decode cX7_isCell 13 = .ok (.ifCond .eq 23, 3) := by decide +kernel
theorem dX7_isCell_16 : decode cX7_isCell 16 = .ok (.iload_n 2, 1) := by decide +kernel
theorem dX7_isCell_17 : decode cX7_isCell 17 = .ok (.i2l, 1) := by decide +kernel
theorem dX7_isCell_18 : decode cX7_isCell 18 = .ok (.lconst 0, 1) := by decide +kernel
theorem dX7_isCell_19 : decode cX7_isCell 19 = .ok (.aload_n 0, 1) := by decide +kernel
theorem dX7_isCell_20 : decode cX7_isCell 20 = .ok (.getfield 13, 3) := by decide +kernel
theorem dX7_isCell_23 : decode cX7_isCell 23 = .ok (.iconst 1, 1) := by decide +kernel
theorem dX7_isCell_24 : decode cX7_isCell 24 = .ok (.isub, 1) := by decide +kernel
theorem dX7_isCell_25 : decode cX7_isCell 25 = .ok (.i2l, 1) := by decide +kernel
theorem dX7_isCell_26 : decode cX7_isCell 26 = .ok (.invokestatic 133, 3) := by decide +kernel
theorem dX7_isCell_29 : decode cX7_isCell 29 = .ok (.ifCond .eq 7, 3) := by decide +kernel
theorem dX7_isCell_32 : decode cX7_isCell 32 = .ok (.iconst 1, 1) := by decide +kernel
theorem dX7_isCell_33 : decode cX7_isCell 33 = .ok (.goto 4, 3) := by decide +kernel
theorem dX7_isCell_36 : decode cX7_isCell 36 = .ok (.iconst 0, 1) := by decide +kernel
theorem dX7_isCell_37 : decode cX7_isCell 37 = .ok (.ireturn, 1) := by decide +kernel
theorem dX7_isField_0 : decode cX7_isField 0 = .ok (.iload_n 1, 1) := by decide +kernel
theorem dX7_isField_1 : decode cX7_isField 1 = .ok (.i2l, 1) := by decide +kernel
theorem dX7_isField_2 : decode cX7_isField 2 = .ok (.lconst 0, 1) := by decide +kernel
theorem dX7_isField_3 : decode cX7_isField 3 = .ok (.aload_n 0, 1) := by decide +kernel
theorem dX7_isField_4 : decode cX7_isField 4 = .ok (.getfield 130, 3) := by decide +kernel
theorem dX7_isField_7 : decode cX7_isField 7 = .ok (.iconst 1, 1) := by decide +kernel
theorem dX7_isField_8 : decode cX7_isField 8 = .ok (.isub, 1) := by decide +kernel
theorem dX7_isField_9 : decode cX7_isField 9 = .ok (.i2l, 1) := by decide +kernel
theorem dX7_isField_10 : decode cX7_isField 10 = .ok (.invokestatic 133, 3) := by decide +kernel
theorem dX7_isField_13 : decode cX7_isField 13 = .ok (.ireturn, 1) := by decide +kernel
theorem dX7_map_0 : decode cX7_map 0 = .ok (.iload_n 1, 1) := by decide +kernel
theorem dX7_map_1 : decode cX7_map 1 = .ok (.i2l, 1) := by decide +kernel
theorem dX7_map_2 : decode cX7_map 2 = .ok (.lconst 1, 1) := by decide +kernel
theorem dX7_map_3 : decode cX7_map 3 = .ok (.ldc2_w 137, 3) := by decide +kernel
theorem dX7_map_6 : decode cX7_map 6 = .ok (.invokestatic 133, 3) := by decide +kernel
theorem dX7_map_9 : decode cX7_map 9 = .ok (.ifCond .eq 15, 3) := by decide +kernel
theorem dX7_map_12 : decode cX7_map 12 = .ok (.iload_n 2, 1) := by decide +kernel
theorem dX7_map_13 : decode cX7_map 13 = .ok (.i2l, 1) := by decide +kernel
theorem dX7_map_14 : decode cX7_map 14 = .ok (.lconst 1, 1) := by decide +kernel
theorem dX7_map_15 : decode cX7_map 15 = .ok (.ldc2_w 137, 3) := by decide +kernel
theorem dX7_map_18 : decode cX7_map 18 = .ok (.invokestatic 133, 3) := by decide +kernel
theorem dX7_map_21 : decode cX7_map 21 = .ok (.ifCond .ne 6, 3) := by decide +kernel
theorem dX7_map_24 : decode cX7_map 24 = .ok (.bipush (-102), 2) := by decide +kernel
theorem dX7_map_26 : decode cX7_map 26 = .ok (.ireturn, 1) := by decide +kernel
theorem dX7_map_27 : decode cX7_map 27 = .ok (.aload_n 0, 1) := by decide +kernel
theorem dX7_map_28 : decode cX7_map 28 = .ok (.getfield 139, 3) := by decide +kernel
theorem dX7_map_31 : decode cX7_map 31 = .ok (.ifCond .eq 6, 3) := by decide +kernel
theorem dX7_map_34 : decode cX7_map 34 = .ok (.bipush (-103), 2) := by decide +kernel
theorem dX7_map_36 : decode cX7_map 36 = .ok (.ireturn, 1) := by decide +kernel
theorem dX7_map_37 : decode cX7_map 37 = .ok (.aload_n 0, 1) := by decide +kernel
theorem dX7_map_38 : decode cX7_map 38 = .ok (.iload_n 1, 1) := by decide +kernel
theorem dX7_map_39 : decode cX7_map 39 = .ok (.putfield 7, 3) := by decide +kernel
theorem dX7_map_42 : decode cX7_map 42 = .ok (.aload_n 0, 1) := by decide +kernel
theorem dX7_map_43 : decode cX7_map 43 = .ok (.iload_n 2, 1) := by decide +kernel
theorem dX7_map_44 : decode cX7_map 44 = .ok (.putfield 13, 3) := by decide +kernel
theorem dX7_map_47 : decode cX7_map 47 = .ok (.aload_n 0, 1) := by decide +kernel
theorem dX7_map_48 : decode cX7_map 48 = .ok (.invokevirtual 127, 3) := by decide +kernel
theorem dX7_map_51 : decode cX7_map 51 = .ok (.iload_n 1, 1) := by decide +kernel
theorem dX7_map_52 : decode cX7_map 52 = .ok (.iload_n 2, 1) := by decide +kernel
theorem dX7_map_53 : decode cX7_map 53 = .ok (.imul, 1) := by decide +kernel
theorem dX7_map_54 : decode cX7_map 54 = .ok (.ireturn, 1) := by decide +kernel
theorem dX7_field_0 : decode cX7_field 0 = .ok (.aload_n 0, 1) := by decide +kernel
theorem dX7_field_1 : decode cX7_field 1 = .ok (.getfield 139, 3) := by decide +kernel
theorem dX7_field_4 : decode cX7_field 4 = .ok (.ifCond .eq 6, 3) := by decide +kernel
theorem dX7_field_7 : decode cX7_field 7 = .ok (.bipush (-103), 2) := by decide +kernel
theorem dX7_field_9 : decode cX7_field 9 = .ok (.ireturn, 1) := by decide +kernel
theorem dX7_field_10 : decode cX7_field 10 = .ok (.aload_n 0, 1) := by decide +kernel
theorem dX7_field_11 : decode cX7_field 11 = .ok (.getfield 130, 3) := by decide +kernel
theorem dX7_field_14 : decode cX7_field 14 = .ok (.bipush 12, 2) := by decide +kernel
theorem dX7_field_16 : decode cX7_field 16 = .ok (.if_icmp .ne 6, 3) := by decide +kernel
theorem dX7_field_19 : decode cX7_field 19 = .ok (.bipush (-104), 2) := by decide +kernel
theorem dX7_field_21 : decode cX7_field 21 = .ok (.ireturn, 1) := by decide +kernel
theorem dX7_field_22 : decode cX7_field 22 = .ok (.aload_n 0, 1) := by decide +kernel
theorem dX7_field_23 : decode cX7_field 23 = .ok (.getfield 33, 3) := by decide +kernel
theorem dX7_field_26 : decode cX7_field 26 = .ok (.aload_n 0, 1) := by decide +kernel
theorem dX7_field_27 : decode cX7_field 27 = .ok (.getfield 130, 3) := by decide +kernel
theorem dX7_field_30 : decode cX7_field 30 = .ok (.iconst (-1), 1) := by decide +kernel
theorem dX7_field_31 : decode cX7_field 31 = .ok (.iastore, 1) := by decide +kernel
theorem dX7_field_32 : decode cX7_field 32 = .ok (.aload_n 0, 1) := by decide +kernel
theorem dX7_field_33 : decode cX7_field 33 = .ok (.getfield 36, 3) := by decide +kernel
theorem dX7_field_36 : decode cX7_field 36 = .ok (.aload_n 0, 1) := by decide +kernel
theorem dX7_field_37 : decode cX7_field 37 = .ok (.getfield 130, 3) := by decide +kernel
theorem dX7_field_40 : decode cX7_field 40 = .ok (.iconst 0, 1) := by decide +kernel
theorem dX7_field_41 : decode cX7_field 41 = .ok (.iastore, 1) := by decide +kernel
theorem dX7_field_42 : decode cX7_field 42 = .ok (.aload_n 0, 1) := by decide +kernel
theorem dX7_field_43 : decode cX7_field 43 = .ok (.dup, 1) := by decide +kernel
theorem dX7_field_44 : decode cX7_field 44 = .ok (.getfield 130, 3) := by decide +kernel
theorem dX7_field_47 : decode cX7_field 47 = .ok (.iconst 1, 1) := by decide +kernel
theorem dX7_field_48 : decode cX7_field 48 = .ok (.iadd, 1) := by decide +kernel
theorem dX7_field_49 : decode cX7_field 49 = .ok (.putfield 130, 3) := by decide +kernel
theorem dX7_field_52 : decode cX7_field 52 = .ok (.aload_n 0, 1) := by decide +kernel
theorem dX7_field_53 : decode cX7_field 53 = .ok (.getfield 130, 3) := by decide +kernel
theorem dX7_field_56 : decode cX7_field 56 = .ok (.iconst 1, 1) := by decide +kernel
theorem dX7_field_57 : decode cX7_field 57 = .ok (.isub, 1) := by decide +kernel
theorem dX7_field_58 : decode cX7_field 58 = .ok (.ireturn, 1) := by decide +kernel
theorem dX7_clearHouse_0 : decode cX7_clearHouse 0 = .ok (.iconst 0, 1) := by decide +kernel
theorem dX7_clearHouse_1 : decode cX7_clearHouse 1 = .ok (.istore_n 2, 1) := by decide +kernel
theorem dX7_clearHouse_2 : decode cX7_clearHouse 2 = .ok (.iload_n 2, 1) := by decide +kernel
theorem dX7_clearHouse_3 : decode cX7_clearHouse 3 = .ok (.aload_n 0, 1) := by decide +kernel
theorem dX7_clearHouse_4 : decode cX7_clearHouse 4 = .ok (.getfield 130, 3) := by decide +kernel
theorem dX7_clearHouse_7 : decode cX7_clearHouse 7 = .ok (.if_icmp .ge 35, 3) := by decide +kernel
theorem dX7_clearHouse_10 : decode cX7_clearHouse 10 = .ok (.aload_n 0, 1) := by decide +kernel
theorem dX7_clearHouse_11 : decode cX7_clearHouse 11 = .ok (.getfield 33, 3) := by decide +kernel
theorem dX7_clearHouse_14 : decode cX7_clearHouse 14 = .ok (.iload_n 2, 1) := by decide +kernel
theorem dX7_clearHouse_15 : decode cX7_clearHouse 15 = .ok (.aload_n 0, 1) := by decide +kernel
theorem dX7_clearHouse_16 : decode cX7_clearHouse 16 = .ok (.getfield 33, 3) := by decide +kernel
theorem dX7_clearHouse_19 : decode cX7_clearHouse 19 = .ok (.iload_n 2, 1) := by decide +kernel
theorem dX7_clearHouse_20 : decode cX7_clearHouse 20 = .ok (.iaload, 1) := by decide +kernel
theorem dX7_clearHouse_21 : decode cX7_clearHouse 21 = .ok (.iload_n 1, 1) := by decide +kernel
theorem dX7_clearHouse_22 : decode cX7_clearHouse 22 = .ok (.if_icmp .ne 7, 3) := by decide +kernel
theorem dX7_clearHouse_25 : decode cX7_clearHouse 25 = .ok (.iconst (-1), 1) := by decide +kernel
theorem dX7_clearHouse_26 : decode cX7_clearHouse 26 = .ok (.goto 9, 3) := by decide +kernel
theorem dX7_clearHouse_29 : decode cX7_clearHouse 29 = .ok (.aload_n 0, 1) := by decide +kernel
theorem dX7_clearHouse_30 : decode cX7_clearHouse 30 = .ok (.getfield 33, 3) := by decide +kernel
theorem dX7_clearHouse_33 : decode cX7_clearHouse 33 = .ok (.iload_n 2, 1) := by decide +kernel
theorem dX7_clearHouse_34 : decode cX7_clearHouse 34 = .ok (.iaload, 1) := by decide +kernel
theorem dX7_clearHouse_35 : decode cX7_clearHouse 35 = .ok (.iastore, 1) := by decide +kernel
theorem dX7_clearHouse_36 : decode cX7_clearHouse 36 = .ok (.iinc 2 1, 3) := by decide +kernel
theorem dX7_clearHouse_39 : decode cX7_clearHouse 39 = .ok (.goto (-37), 3) := by decide +kernel
theorem dX7_clearHouse_42 : decode cX7_clearHouse 42 = .ok (.return_, 1) := by decide +kernel
theorem dX7_cell_0 : decode cX7_cell 0 = .ok (.aload_n 0, 1) := by decide +kernel
theorem dX7_cell_1 : decode cX7_cell 1 = .ok (.iload_n 1, 1) := by decide +kernel
theorem dX7_cell_2 : decode cX7_cell 2 = .ok (.iload_n 2, 1) := by decide +kernel
theorem dX7_cell_3 : decode cX7_cell 3 = .ok (.invokevirtual 143, 3) := by decide +kernel
theorem dX7_cell_6 : decode cX7_cell 6 = .ok (.ifCond .eq 16, 3) := by decide +kernel
theorem dX7_cell_9 : decode cX7_cell 9 = .ok (.iload_n 3, 1) := by decide +kernel
theorem dX7_cell_10 : decode cX7_cell 10 = .ok (.iconst (-1), 1) := by decide +kernel
theorem dX7_cell_11 : decode cX7_cell 11 = .ok (.if_icmp .eq 14, 3) := by decide +kernel
theorem dX7_cell_14 : decode cX7_cell 14 = .ok (.aload_n 0, 1) := by decide +kernel
theorem dX7_cell_15 : decode cX7_cell 15 = .ok (.iload_n 3, 1) := by decide +kernel
theorem dX7_cell_16 : decode cX7_cell 16 = .ok (.invokevirtual 147, 3) := by decide +kernel
theorem dX7_cell_19 : decode cX7_cell 19 = .ok (.ifCond .ne 6, 3) := by decide +kernel
theorem dX7_cell_22 : decode cX7_cell 22 = .ok (.bipush (-101), 2) := by decide +kernel
theorem dX7_cell_24 : decode cX7_cell 24 = .ok (.ireturn, 1) := by decide +kernel
theorem dX7_cell_25 : decode cX7_cell 25 = .ok (.iload 4, 2) := by decide +kernel
theorem dX7_cell_27 : decode cX7_cell 27 = .ok (.i2l, 1) := by decide +kernel
theorem dX7_cell_28 : decode cX7_cell 28 = .ok (.lconst 0, 1) := by decide +kernel
theorem dX7_cell_29 : decode cX7_cell 29 = .ok (.ldc2_w 151, 3) := by decide +kernel
theorem dX7_cell_32 : decode cX7_cell 32 = .ok (.invokestatic 133, 3) := by decide +kernel
theorem dX7_cell_35 : decode cX7_cell 35 = .ok (.ifCond .ne 6, 3) := by decide +kernel
theorem dX7_cell_38 : decode cX7_cell 38 = .ok (.bipush (-102), 2) := by decide +kernel
theorem dX7_cell_40 : decode cX7_cell 40 = .ok (.ireturn, 1) := by decide +kernel
theorem dX7_cell_41 : decode cX7_cell 41 = .ok (.aload_n 0, 1) := by decide +kernel
theorem dX7_cell_42 : decode cX7_cell 42 = .ok (.getfield 139, 3) := by decide +kernel
theorem dX7_cell_45 : decode cX7_cell 45 = .ok (.ifCond .eq 6, 3) := by decide +kernel
theorem dX7_cell_48 : decode cX7_cell 48 = .ok (.bipush (-103), 2) := by decide +kernel
theorem dX7_cell_50 : decode cX7_cell 50 = .ok (.ireturn, 1) := by decide +kernel
theorem dX7_cell_51 : decode cX7_cell 51 = .ok (.bipush 16, 2) := by decide +kernel
theorem dX7_cell_53 : decode cX7_cell 53 = .ok (.iload_n 2, 1) := by decide +kernel
theorem dX7_cell_54 : decode cX7_cell 54 = .ok (.imul, 1) := by decide +kernel
theorem dX7_cell_55 : decode cX7_cell 55 = .ok (.iload_n 1, 1) := by decide +kernel
theorem dX7_cell_56 : decode cX7_cell 56 = .ok (.iadd, 1) := by decide +kernel
theorem dX7_cell_57 : decode cX7_cell 57 = .ok (.istore 5, 2) := by decide +kernel
theorem dX7_cell_59 : decode cX7_cell 59 = .ok (.aload_n 0, 1) := by decide +kernel
theorem dX7_cell_60 : decode cX7_cell 60 = .ok (.getfield 16, 3) := by decide +kernel
theorem dX7_cell_63 : decode cX7_cell 63 = .ok (.iload 5, 2) := by decide +kernel
theorem dX7_cell_65 : decode cX7_cell 65 = .ok (.iload_n 3, 1) := by decide +kernel
theorem dX7_cell_66 : decode cX7_cell 66 = .ok (.iastore, 1) := by decide +kernel
theorem dX7_cell_67 : decode cX7_cell 67 = .ok (.aload_n 0, 1) := by decide +kernel
theorem dX7_cell_68 : decode cX7_cell 68 = .ok (.getfield 20, 3) := by decide +kernel
theorem dX7_cell_71 : decode cX7_cell 71 = .ok (.iload 5, 2) := by decide +kernel
theorem dX7_cell_73 : decode cX7_cell 73 = .ok (.iload 4, 2) := by decide +kernel
theorem dX7_cell_75 : decode cX7_cell 75 = .ok (.iastore, 1) := by decide +kernel
theorem dX7_cell_76 : decode cX7_cell 76 = .ok (.aload_n 0, 1) := by decide +kernel
theorem dX7_cell_77 : decode cX7_cell 77 = .ok (.getfield 23, 3) := by decide +kernel
theorem dX7_cell_80 : decode cX7_cell 80 = .ok (.iload 5, 2) := by decide +kernel
theorem dX7_cell_82 : decode cX7_cell 82 = .ok (.iconst 0, 1) := by decide +kernel
theorem dX7_cell_83 : decode cX7_cell 83 = .ok (.bastore, 1) := by decide +kernel
theorem dX7_cell_84 : decode cX7_cell 84 = .ok (.aload_n 0, 1) := by decide +kernel
theorem dX7_cell_85 : decode cX7_cell 85 = .ok (.iload 5, 2) := by decide +kernel
theorem dX7_cell_87 : decode cX7_cell 87 = .ok (.invokevirtual 153, 3) := by decide +kernel
theorem dX7_cell_90 : decode cX7_cell 90 = .ok (.iconst 1, 1) := by decide +kernel
theorem dX7_cell_91 : decode cX7_cell 91 = .ok (.ireturn, 1) := by decide +kernel
theorem dX7_lane_0 : decode cX7_lane 0 = .ok (.aload_n 0, 1) := by decide +kernel
theorem dX7_lane_1 : decode cX7_lane 1 = .ok (.iload_n 1, 1) := by decide +kernel
theorem dX7_lane_2 : decode cX7_lane 2 = .ok (.iload_n 2, 1) := by decide +kernel
theorem dX7_lane_3 : decode cX7_lane 3 = .ok (.invokevirtual 143, 3) := by decide +kernel
theorem dX7_lane_6 : decode cX7_lane 6 = .ok (.ifCond .ne 6, 3) := by decide +kernel
theorem dX7_lane_9 : decode cX7_lane 9 = .ok (.bipush (-101), 2) := by decide +kernel
theorem dX7_lane_11 : decode cX7_lane 11 = .ok (.ireturn, 1) := by decide +kernel
theorem dX7_lane_12 : decode cX7_lane 12 = .ok (.aload_n 0, 1) := by decide +kernel
theorem dX7_lane_13 : decode cX7_lane 13 = .ok (.getfield 139, 3) := by decide +kernel
theorem dX7_lane_16 : decode cX7_lane 16 = .ok (.ifCond .eq 6, 3) := by decide +kernel
theorem dX7_lane_19 : decode cX7_lane 19 = .ok (.bipush (-103), 2) := by decide +kernel
theorem dX7_lane_21 : decode cX7_lane 21 = .ok (.ireturn, 1) := by decide +kernel
theorem dX7_lane_22 : decode cX7_lane 22 = .ok (.bipush 16, 2) := by decide +kernel
theorem dX7_lane_24 : decode cX7_lane 24 = .ok (.iload_n 2, 1) := by decide +kernel
theorem dX7_lane_25 : decode cX7_lane 25 = .ok (.imul, 1) := by decide +kernel
theorem dX7_lane_26 : decode cX7_lane 26 = .ok (.iload_n 1, 1) := by decide +kernel
theorem dX7_lane_27 : decode cX7_lane 27 = .ok (.iadd, 1) := by decide +kernel
theorem dX7_lane_28 : decode cX7_lane 28 = .ok (.istore_n 3, 1) := by decide +kernel
theorem dX7_lane_29 : decode cX7_lane 29 = .ok (.aload_n 0, 1) := by decide +kernel
theorem dX7_lane_30 : decode cX7_lane 30 = .ok (.getfield 16, 3) := by decide +kernel
theorem dX7_lane_33 : decode cX7_lane 33 = .ok (.iload_n 3, 1) := by decide +kernel
theorem dX7_lane_34 : decode cX7_lane 34 = .ok (.iconst (-1), 1) := by decide +kernel
theorem dX7_lane_35 : decode cX7_lane 35 = .ok (.iastore, 1) := by decide +kernel
theorem dX7_lane_36 : decode cX7_lane 36 = .ok (.aload_n 0, 1) := by decide +kernel
theorem dX7_lane_37 : decode cX7_lane 37 = .ok (.getfield 23, 3) := by decide +kernel
theorem dX7_lane_40 : decode cX7_lane 40 = .ok (.iload_n 3, 1) := by decide +kernel
theorem dX7_lane_41 : decode cX7_lane 41 = .ok (.iconst 1, 1) := by decide +kernel
theorem dX7_lane_42 : decode cX7_lane 42 = .ok (.bastore, 1) := by decide +kernel
theorem dX7_lane_43 : decode cX7_lane 43 = .ok (.aload_n 0, 1) := by decide +kernel
theorem dX7_lane_44 : decode cX7_lane 44 = .ok (.iload_n 3, 1) := by decide +kernel
theorem dX7_lane_45 : decode cX7_lane 45 = .ok (.invokevirtual 153, 3) := by decide +kernel
theorem dX7_lane_48 : decode cX7_lane 48 = .ok (.iconst 1, 1) := by decide +kernel
theorem dX7_lane_49 : decode cX7_lane 49 = .ok (.ireturn, 1) := by decide +kernel
theorem dX7_house_0 : decode cX7_house 0 = .ok (.aload_n 0, 1) := by decide +kernel
theorem dX7_house_1 : decode cX7_house 1 = .ok (.iload_n 1, 1) := by decide +kernel
theorem dX7_house_2 : decode cX7_house 2 = .ok (.invokevirtual 147, 3) := by decide +kernel
theorem dX7_house_5 : decode cX7_house 5 = .ok (.ifCond .eq 12, 3) := by decide +kernel
theorem dX7_house_8 : decode cX7_house 8 = .ok (.aload_n 0, 1) := by decide +kernel
theorem dX7_house_9 : decode cX7_house 9 = .ok (.iload_n 2, 1) := by decide +kernel
theorem dX7_house_10 : decode cX7_house 10 = .ok (.iload_n 3, 1) := by decide +kernel
theorem dX7_house_11 : decode cX7_house 11 = .ok (.invokevirtual 143, 3) := by decide +kernel
theorem dX7_house_14 : decode cX7_house 14 = .ok (.ifCond .ne 6, 3) := by decide +kernel
theorem dX7_house_17 : decode cX7_house 17 = .ok (.bipush (-101), 2) := by decide +kernel
theorem dX7_house_19 : decode cX7_house 19 = .ok (.ireturn, 1) := by decide +kernel
theorem dX7_house_20 : decode cX7_house 20 = .ok (.aload_n 0, 1) := by decide +kernel
theorem dX7_house_21 : decode cX7_house 21 = .ok (.getfield 16, 3) := by decide +kernel
theorem dX7_house_24 : decode cX7_house 24 = .ok (.bipush 16, 2) := by decide +kernel
theorem dX7_house_26 : decode cX7_house 26 = .ok (.iload_n 3, 1) := by decide +kernel
theorem dX7_house_27 : decode cX7_house 27 = .ok (.imul, 1) := by decide +kernel
theorem dX7_house_28 : decode cX7_house 28 = .ok (.iload_n 2, 1) := by decide +kernel
theorem dX7_house_29 : decode cX7_house 29 = .ok (.iadd, 1) := by decide +kernel
theorem dX7_house_30 : decode cX7_house 30 = .ok (.iaload, 1) := by decide +kernel
theorem dX7_house_31 : decode cX7_house 31 = .ok (.iload_n 1, 1) := by decide +kernel
theorem dX7_house_32 : decode cX7_house 32 = .ok (.if_icmp .eq 6, 3) := by decide +kernel
theorem dX7_house_35 : decode cX7_house 35 = .ok (.bipush (-102), 2) := by decide +kernel
theorem dX7_house_37 : decode cX7_house 37 = .ok (.ireturn, 1) := by decide +kernel
theorem dX7_house_38 : decode cX7_house 38 = .ok (.aload_n 0, 1) := by decide +kernel
theorem dX7_house_39 : decode cX7_house 39 = .ok (.getfield 139, 3) := by decide +kernel
theorem dX7_house_42 : decode cX7_house 42 = .ok (.ifCond .eq 6, 3) := by decide +kernel
theorem dX7_house_45 : decode cX7_house 45 = .ok (.bipush (-103), 2) := by decide +kernel
theorem dX7_house_47 : decode cX7_house 47 = .ok (.ireturn, 1) := by decide +kernel
theorem dX7_house_48 : decode cX7_house 48 = .ok (.aload_n 0, 1) := by decide +kernel
theorem dX7_house_49 : decode cX7_house 49 = .ok (.getfield 33, 3) := by decide +kernel
theorem dX7_house_52 : decode cX7_house 52 = .ok (.iload_n 1, 1) := by decide +kernel
theorem dX7_house_53 : decode cX7_house 53 = .ok (.bipush 16, 2) := by decide +kernel
theorem dX7_house_55 : decode cX7_house 55 = .ok (.iload_n 3, 1) := by decide +kernel
theorem dX7_house_56 : decode cX7_house 56 = .ok (.imul, 1) := by decide +kernel
theorem dX7_house_57 : decode cX7_house 57 = .ok (.iload_n 2, 1) := by decide +kernel
theorem dX7_house_58 : decode cX7_house 58 = .ok (.iadd, 1) := by decide +kernel
theorem dX7_house_59 : decode cX7_house 59 = .ok (.iastore, 1) := by decide +kernel
theorem dX7_house_60 : decode cX7_house 60 = .ok (.iconst 1, 1) := by decide +kernel
theorem dX7_house_61 : decode cX7_house 61 = .ok (.ireturn, 1) := by decide +kernel
theorem dX7_right_0 : decode cX7_right 0 = .ok (.aload_n 0, 1) := by decide +kernel
theorem dX7_right_1 : decode cX7_right 1 = .ok (.iload_n 1, 1) := by decide +kernel
theorem dX7_right_2 : decode cX7_right 2 = .ok (.invokevirtual 147, 3) := by decide +kernel
theorem dX7_right_5 : decode cX7_right 5 = .ok (.ifCond .ne 6, 3) := by decide +kernel
theorem dX7_right_8 : decode cX7_right 8 = .ok (.bipush (-101), 2) := by decide +kernel
theorem dX7_right_10 : decode cX7_right 10 = .ok (.ireturn, 1) := by decide +kernel
theorem dX7_right_11 : decode cX7_right 11 = .ok (.iload_n 2, 1) := by decide +kernel
theorem dX7_right_12 : decode cX7_right 12 = .ok (.i2l, 1) := by decide +kernel
theorem dX7_right_13 : decode cX7_right 13 = .ok (.lconst 1, 1) := by decide +kernel
theorem dX7_right_14 : decode cX7_right 14 = .ok (.ldc2_w 157, 3) := by decide +kernel
theorem dX7_right_17 : decode cX7_right 17 = .ok (.invokestatic 133, 3) := by decide +kernel
theorem dX7_right_20 : decode cX7_right 20 = .ok (.ifCond .eq 26, 3) := by decide +kernel
theorem dX7_right_23 : decode cX7_right 23 = .ok (.iload_n 3, 1) := by decide +kernel
theorem dX7_right_24 : decode cX7_right 24 = .ok (.i2l, 1) := by decide +kernel
theorem dX7_right_25 : decode cX7_right 25 = .ok (.lconst 0, 1) := by decide +kernel
theorem dX7_right_26 : decode cX7_right 26 = .ok (.iload_n 2, 1) := by decide +kernel
theorem dX7_right_27 : decode cX7_right 27 = .ok (.iconst 1, 1) := by decide +kernel
theorem dX7_right_28 : decode cX7_right 28 = .ok (.if_icmp .ne 9, 3) := by decide +kernel
theorem dX7_right_31 : decode cX7_right 31 = .ok (.ldc2_w 159, 3) := by decide +kernel
theorem dX7_right_34 : decode cX7_right 34 = .ok (.goto 6, 3) := by decide +kernel
theorem dX7_right_37 : decode cX7_right 37 = .ok (.ldc2_w 161, 3) := by decide +kernel
theorem dX7_right_40 : decode cX7_right 40 = .ok (.invokestatic 133, 3) := by decide +kernel
theorem dX7_right_43 : decode cX7_right 43 = .ok (.ifCond .ne 6, 3) := by decide +kernel
theorem dX7_right_46 : decode cX7_right 46 = .ok (.bipush (-102), 2) := by decide +kernel
theorem dX7_right_48 : decode cX7_right 48 = .ok (.ireturn, 1) := by decide +kernel
theorem dX7_right_49 : decode cX7_right 49 = .ok (.aload_n 0, 1) := by decide +kernel
theorem dX7_right_50 : decode cX7_right 50 = .ok (.getfield 139, 3) := by decide +kernel
theorem dX7_right_53 : decode cX7_right 53 = .ok (.ifCond .eq 6, 3) := by decide +kernel
theorem dX7_right_56 : decode cX7_right 56 = .ok (.bipush (-103), 2) := by decide +kernel
theorem dX7_right_58 : decode cX7_right 58 = .ok (.ireturn, 1) := by decide +kernel
theorem dX7_right_59 : decode cX7_right 59 = .ok (.aload_n 0, 1) := by decide +kernel
theorem dX7_right_60 : decode cX7_right 60 = .ok (.getfield 36, 3) := by decide +kernel
theorem dX7_right_63 : decode cX7_right 63 = .ok (.iload_n 1, 1) := by decide +kernel
theorem dX7_right_64 : decode cX7_right 64 = .ok (.iaload, 1) := by decide +kernel
theorem dX7_right_65 : decode cX7_right 65 = .ok (.iconst 4, 1) := by decide +kernel
theorem dX7_right_66 : decode cX7_right 66 = .ok (.if_icmp .ne 6, 3) := by decide +kernel
theorem dX7_right_69 : decode cX7_right 69 = .ok (.bipush (-104), 2) := by decide +kernel
theorem dX7_right_71 : decode cX7_right 71 = .ok (.ireturn, 1) := by decide +kernel
theorem dX7_right_72 : decode cX7_right 72 = .ok (.aload_n 0, 1) := by decide +kernel
theorem dX7_right_73 : decode cX7_right 73 = .ok (.getfield 39, 3) := by decide +kernel
theorem dX7_right_76 : decode cX7_right 76 = .ok (.iconst 4, 1) := by decide +kernel
theorem dX7_right_77 : decode cX7_right 77 = .ok (.iload_n 1, 1) := by decide +kernel
theorem dX7_right_78 : decode cX7_right 78 = .ok (.imul, 1) := by decide +kernel
theorem dX7_right_79 : decode cX7_right 79 = .ok (.aload_n 0, 1) := by decide +kernel
theorem dX7_right_80 : decode cX7_right 80 = .ok (.getfield 36, 3) := by decide +kernel
theorem dX7_right_83 : decode cX7_right 83 = .ok (.iload_n 1, 1) := by decide +kernel
theorem dX7_right_84 : decode cX7_right 84 = .ok (.iaload, 1) := by decide +kernel
theorem dX7_right_85 : decode cX7_right 85 = .ok (.iadd, 1) := by decide +kernel
theorem dX7_right_86 : decode cX7_right 86 = .ok (.iload_n 2, 1) := by decide +kernel
theorem dX7_right_87 : decode cX7_right 87 = .ok (.iastore, 1) := by decide +kernel
theorem dX7_right_88 : decode cX7_right 88 = .ok (.aload_n 0, 1) := by decide +kernel
theorem dX7_right_89 : decode cX7_right 89 = .ok (.getfield 42, 3) := by decide +kernel
theorem dX7_right_92 : decode cX7_right 92 = .ok (.iconst 4, 1) := by decide +kernel
theorem dX7_right_93 : decode cX7_right 93 = .ok (.iload_n 1, 1) := by decide +kernel
theorem dX7_right_94 : decode cX7_right 94 = .ok (.imul, 1) := by decide +kernel
theorem dX7_right_95 : decode cX7_right 95 = .ok (.aload_n 0, 1) := by decide +kernel
theorem dX7_right_96 : decode cX7_right 96 = .ok (.getfield 36, 3) := by decide +kernel
theorem dX7_right_99 : decode cX7_right 99 = .ok (.iload_n 1, 1) := by decide +kernel
theorem dX7_right_100 : decode cX7_right 100 = .ok (.iaload, 1) := by decide +kernel
theorem dX7_right_101 : decode cX7_right 101 = .ok (.iadd, 1) := by decide +kernel
theorem dX7_right_102 : decode cX7_right 102 = .ok (.iload_n 3, 1) := by decide +kernel
theorem dX7_right_103 : decode cX7_right 103 = .ok (.iastore, 1) := by decide +kernel
theorem dX7_right_104 : decode cX7_right 104 = .ok (.aload_n 0, 1) := by decide +kernel
theorem dX7_right_105 : decode cX7_right 105 = .ok (.getfield 36, 3) := by decide +kernel
theorem dX7_right_108 : decode cX7_right 108 = .ok (.iload_n 1, 1) := by decide +kernel
theorem dX7_right_109 : decode cX7_right 109 = .ok (.dup2, 1) := by decide +kernel
theorem dX7_right_110 : decode cX7_right 110 = .ok (.iaload, 1) := by decide +kernel
theorem dX7_right_111 : decode cX7_right 111 = .ok (.iconst 1, 1) := by decide +kernel
theorem dX7_right_112 : decode cX7_right 112 = .ok (.iadd, 1) := by decide +kernel
theorem dX7_right_113 : decode cX7_right 113 = .ok (.iastore, 1) := by decide +kernel
theorem dX7_right_114 : decode cX7_right 114 = .ok (.aload_n 0, 1) := by decide +kernel
theorem dX7_right_115 : decode cX7_right 115 = .ok (.getfield 36, 3) := by decide +kernel
theorem dX7_right_118 : decode cX7_right 118 = .ok (.iload_n 1, 1) := by decide +kernel
theorem dX7_right_119 : decode cX7_right 119 = .ok (.iaload, 1) := by decide +kernel
theorem dX7_right_120 : decode cX7_right 120 = .ok (.ireturn, 1) := by decide +kernel
theorem dX7_price_0 : decode cX7_price 0 = .ok (.iload_n 1, 1) := by decide +kernel
theorem dX7_price_1 : decode cX7_price 1 = .ok (.i2l, 1) := by decide +kernel
theorem dX7_price_2 : decode cX7_price 2 = .ok (.lconst 0, 1) := by decide +kernel
theorem dX7_price_3 : decode cX7_price 3 = .ok (.ldc2_w 151, 3) := by decide +kernel
theorem dX7_price_6 : decode cX7_price 6 = .ok (.invokestatic 133, 3) := by decide +kernel
theorem dX7_price_9 : decode cX7_price 9 = .ok (.ifCond .ne 6, 3) := by decide +kernel
theorem dX7_price_12 : decode cX7_price 12 = .ok (.bipush (-101), 2) := by decide +kernel
theorem dX7_price_14 : decode cX7_price 14 = .ok (.ireturn, 1) := by decide +kernel
theorem dX7_price_15 : decode cX7_price 15 = .ok (.iload_n 2, 1) := by decide +kernel
theorem dX7_price_16 : decode cX7_price 16 = .ok (.i2l, 1) := by decide +kernel
theorem dX7_price_17 : decode cX7_price 17 = .ok (.lconst 0, 1) := by decide +kernel
theorem dX7_price_18 : decode cX7_price 18 = .ok (.ldc2_w 163, 3) := by decide +kernel
theorem dX7_price_21 : decode cX7_price 21 = .ok (.invokestatic 133, 3) := by decide +kernel
theorem dX7_price_24 : decode cX7_price 24 = .ok (.ifCond .eq 15, 3) := by decide +kernel
theorem dX7_price_27 : decode cX7_price 27 = .ok (.iload_n 3, 1) := by decide +kernel
theorem dX7_price_28 : decode cX7_price 28 = .ok (.i2l, 1) := by decide +kernel
theorem dX7_price_29 : decode cX7_price 29 = .ok (.lconst 0, 1) := by decide +kernel
theorem dX7_price_30 : decode cX7_price 30 = .ok (.ldc2_w 165, 3) := by decide +kernel
theorem dX7_price_33 : decode cX7_price 33 = .ok (.invokestatic 133, 3) := by decide +kernel
theorem dX7_price_36 : decode cX7_price 36 = .ok (.ifCond .ne 6, 3) := by decide +kernel
theorem dX7_price_39 : decode cX7_price 39 = .ok (.bipush (-102), 2) := by decide +kernel
theorem dX7_price_41 : decode cX7_price 41 = .ok (.ireturn, 1) := by decide +kernel
theorem dX7_price_42 : decode cX7_price 42 = .ok (.iconst 0, 1) := by decide +kernel
theorem dX7_price_43 : decode cX7_price 43 = .ok (.istore 4, 2) := by decide +kernel
theorem dX7_price_45 : decode cX7_price 45 = .ok (.iload 4, 2) := by decide +kernel
theorem dX7_price_47 : decode cX7_price 47 = .ok (.aload_n 0, 1) := by decide +kernel
theorem dX7_price_48 : decode cX7_price 48 = .ok (.getfield 45, 3) := by decide +kernel
theorem dX7_price_51 : decode cX7_price 51 = .ok (.iload_n 1, 1) := by decide +kernel
theorem dX7_price_52 : decode cX7_price 52 = .ok (.iaload, 1) := by decide +kernel
theorem dX7_price_53 : decode cX7_price 53 = .ok (.if_icmp .ge 25, 3) := by decide +kernel
theorem dX7_price_56 : decode cX7_price 56 = .ok (.aload_n 0, 1) := by decide +kernel
theorem dX7_price_57 : decode cX7_price 57 = .ok (.getfield 48, 3) := by decide +kernel
theorem dX7_price_60 : decode cX7_price 60 = .ok (.bipush 20, 2) := by decide +kernel
theorem dX7_price_62 : decode cX7_price 62 = .ok (.iload_n 1, 1) := by decide +kernel
theorem dX7_price_63 : decode cX7_price 63 = .ok (.imul, 1) := by decide +kernel
theorem dX7_price_64 : decode cX7_price 64 = .ok (.iload 4, 2) := by decide +kernel
theorem dX7_price_66 : decode cX7_price 66 = .ok (.iadd, 1) := by decide +kernel
theorem dX7_price_67 : decode cX7_price 67 = .ok (.iaload, 1) := by decide +kernel
theorem dX7_price_68 : decode cX7_price 68 = .ok (.iload_n 2, 1) := by decide +kernel
theorem dX7_price_69 : decode cX7_price 69 = .ok (.if_icmp .eq 9, 3) := by decide +kernel
theorem dX7_price_72 : decode cX7_price 72 = .ok (.iinc 4 1, 3) := by decide +kernel
theorem dX7_price_75 : decode cX7_price 75 = .ok (.goto (-30), 3) := by decide +kernel
theorem dX7_price_78 : decode cX7_price 78 = .ok (.iload 4, 2) := by decide +kernel
theorem dX7_price_80 : decode cX7_price 80 = .ok (.bipush 20, 2) := by decide +kernel
theorem dX7_price_82 : decode cX7_price 82 = .ok (.if_icmp .ne 6, 3) := by decide +kernel
theorem dX7_price_85 : decode cX7_price 85 = .ok (.bipush (-104), 2) := by decide +kernel
theorem dX7_price_87 : decode cX7_price 87 = .ok (.ireturn, 1) := by decide +kernel
theorem dX7_price_88 : decode cX7_price 88 = .ok (.iload 4, 2) := by decide +kernel
theorem dX7_price_90 : decode cX7_price 90 = .ok (.aload_n 0, 1) := by decide +kernel
theorem dX7_price_91 : decode cX7_price 91 = .ok (.getfield 45, 3) := by decide +kernel
theorem dX7_price_94 : decode cX7_price 94 = .ok (.iload_n 1, 1) := by decide +kernel
theorem dX7_price_95 : decode cX7_price 95 = .ok (.iaload, 1) := by decide +kernel
theorem dX7_price_96 : decode cX7_price 96 = .ok (.if_icmp .ne 13, 3) := by decide +kernel
theorem dX7_price_99 : decode cX7_price 99 = .ok (.aload_n 0, 1) := by decide +kernel
theorem dX7_price_100 : decode cX7_price 100 = .ok (.getfield 45, 3) := by decide +kernel
theorem dX7_price_103 : decode cX7_price 103 = .ok (.iload_n 1, 1) := by decide +kernel
theorem dX7_price_104 : decode cX7_price 104 = .ok (.dup2, 1) := by decide +kernel
theorem dX7_price_105 : decode cX7_price 105 = .ok (.iaload, 1) := by decide +kernel
theorem dX7_price_106 : decode cX7_price 106 = .ok (.iconst 1, 1) := by decide +kernel
theorem dX7_price_107 : decode cX7_price 107 = .ok (.iadd, 1) := by decide +kernel
theorem dX7_price_108 : decode cX7_price 108 = .ok (.iastore, 1) := by decide +kernel
theorem dX7_price_109 : decode cX7_price 109 = .ok (.aload_n 0, 1) := by decide +kernel
theorem dX7_price_110 : decode cX7_price 110 = .ok (.getfield 48, 3) := by decide +kernel
theorem dX7_price_113 : decode cX7_price 113 = .ok (.bipush 20, 2) := by decide +kernel
theorem dX7_price_115 : decode cX7_price 115 = .ok (.iload_n 1, 1) := by decide +kernel
theorem dX7_price_116 : decode cX7_price 116 = .ok (.imul, 1) := by decide +kernel
theorem dX7_price_117 : decode cX7_price 117 = .ok (.iload 4, 2) := by decide +kernel
theorem dX7_price_119 : decode cX7_price 119 = .ok (.iadd, 1) := by decide +kernel
theorem dX7_price_120 : decode cX7_price 120 = .ok (.iload_n 2, 1) := by decide +kernel
theorem dX7_price_121 : decode cX7_price 121 = .ok (.iastore, 1) := by decide +kernel
theorem dX7_price_122 : decode cX7_price 122 = .ok (.aload_n 0, 1) := by decide +kernel
theorem dX7_price_123 : decode cX7_price 123 = .ok (.getfield 51, 3) := by decide +kernel
theorem dX7_price_126 : decode cX7_price 126 = .ok (.bipush 20, 2) := by decide +kernel
theorem dX7_price_128 : decode cX7_price 128 = .ok (.iload_n 1, 1) := by decide +kernel
theorem dX7_price_129 : decode cX7_price 129 = .ok (.imul, 1) := by decide +kernel
theorem dX7_price_130 : decode cX7_price 130 = .ok (.iload 4, 2) := by decide +kernel
theorem dX7_price_132 : decode cX7_price 132 = .ok (.iadd, 1) := by decide +kernel
theorem dX7_price_133 : decode cX7_price 133 = .ok (.iload_n 3, 1) := by decide +kernel
theorem dX7_price_134 : decode cX7_price 134 = .ok (.iastore, 1) := by decide +kernel
theorem dX7_price_135 : decode cX7_price 135 = .ok (.aload_n 0, 1) := by decide +kernel
theorem dX7_price_136 : decode cX7_price 136 = .ok (.getfield 45, 3) := by decide +kernel
theorem dX7_price_139 : decode cX7_price 139 = .ok (.iload_n 1, 1) := by decide +kernel
theorem dX7_price_140 : decode cX7_price 140 = .ok (.iaload, 1) := by decide +kernel
theorem dX7_price_141 : decode cX7_price 141 = .ok (.ireturn, 1) := by decide +kernel
theorem dX7_costOf_0 : decode cX7_costOf 0 = .ok (.iconst (-1), 1) := by decide +kernel
theorem dX7_costOf_1 : decode cX7_costOf 1 = .ok (.istore_n 3, 1) := by decide +kernel
theorem dX7_costOf_2 : decode cX7_costOf 2 = .ok (.iconst 0, 1) := by decide +kernel
theorem dX7_costOf_3 : decode cX7_costOf 3 = .ok (.istore 4, 2) := by decide +kernel
theorem dX7_costOf_5 : decode cX7_costOf 5 = .ok (.iload 4, 2) := by decide +kernel
theorem dX7_costOf_7 : decode cX7_costOf 7 = .ok (.aload_n 0, 1) := by decide +kernel
theorem dX7_costOf_8 : decode cX7_costOf 8 = .ok (.getfield 45, 3) := by decide +kernel
theorem dX7_costOf_11 : decode cX7_costOf 11 = .ok (.iload_n 1, 1) := by decide +kernel
theorem dX7_costOf_12 : decode cX7_costOf 12 = .ok (.iaload, 1) := by decide +kernel
theorem dX7_costOf_13 : decode cX7_costOf 13 = .ok (.if_icmp .ge 53, 3) := by decide +kernel
theorem dX7_costOf_16 : decode cX7_costOf 16 = .ok (.aload_n 0, 1) := by decide +kernel
theorem dX7_costOf_17 : decode cX7_costOf 17 = .ok (.getfield 48, 3) := by decide +kernel
theorem dX7_costOf_20 : decode cX7_costOf 20 = .ok (.bipush 20, 2) := by decide +kernel
theorem dX7_costOf_22 : decode cX7_costOf 22 = .ok (.iload_n 1, 1) := by decide +kernel
theorem dX7_costOf_23 : decode cX7_costOf 23 = .ok (.imul, 1) := by decide +kernel
theorem dX7_costOf_24 : decode cX7_costOf 24 = .ok (.iload 4, 2) := by decide +kernel
theorem dX7_costOf_26 : decode cX7_costOf 26 = .ok (.iadd, 1) := by decide +kernel
theorem dX7_costOf_27 : decode cX7_costOf 27 = .ok (.iaload, 1) := by decide +kernel
theorem dX7_costOf_28 : decode cX7_costOf 28 = .ok (.istore 5, 2) := by decide +kernel
theorem dX7_costOf_30 : decode cX7_costOf 30 = .ok (.iload 5, 2) := by decide +kernel
theorem dX7_costOf_32 : decode cX7_costOf 32 = .ok (.iload_n 2, 1) := by decide +kernel
theorem dX7_costOf_33 : decode cX7_costOf 33 = .ok (.if_icmp .gt 27, 3) := by decide +kernel
theorem dX7_costOf_36 : decode cX7_costOf 36 = .ok (.iload_n 3, 1) := by decide +kernel
theorem dX7_costOf_37 : decode cX7_costOf 37 = .ok (.iconst (-1), 1) := by decide +kernel
theorem dX7_costOf_38 : decode cX7_costOf 38 = .ok (.if_icmp .eq 19, 3) := by decide +kernel
theorem dX7_costOf_41 : decode cX7_costOf 41 = .ok (.iload 5, 2) := by decide +kernel
theorem dX7_costOf_43 : decode cX7_costOf 43 = .ok (.aload_n 0, 1) := by decide +kernel
theorem dX7_costOf_44 : decode cX7_costOf 44 = .ok (.getfield 48, 3) := by decide +kernel
theorem dX7_costOf_47 : decode cX7_costOf 47 = .ok (.bipush 20, 2) := by decide +kernel
theorem dX7_costOf_49 : decode cX7_costOf 49 = .ok (.iload_n 1, 1) := by decide +kernel
theorem dX7_costOf_50 : decode cX7_costOf 50 = .ok (.imul, 1) := by decide +kernel
theorem dX7_costOf_51 : decode cX7_costOf 51 = .ok (.iload_n 3, 1) := by decide +kernel
theorem dX7_costOf_52 : decode cX7_costOf 52 = .ok (.iadd, 1) := by decide +kernel
theorem dX7_costOf_53 : decode cX7_costOf 53 = .ok (.iaload, 1) := by decide +kernel
theorem dX7_costOf_54 : decode cX7_costOf 54 = .ok (.if_icmp .le 6, 3) := by decide +kernel
theorem dX7_costOf_57 : decode cX7_costOf 57 = .ok (.iload 4, 2) := by decide +kernel
theorem dX7_costOf_59 : decode cX7_costOf 59 = .ok (.istore_n 3, 1) := by decide +kernel
theorem dX7_costOf_60 : decode cX7_costOf 60 = .ok (.iinc 4 1, 3) := by decide +kernel
theorem dX7_costOf_63 : decode cX7_costOf 63 = .ok (.goto (-58), 3) := by decide +kernel
theorem dX7_costOf_66 : decode cX7_costOf 66 = .ok (.iload_n 3, 1) := by decide +kernel
theorem dX7_costOf_67 : decode cX7_costOf 67 = .ok (.iconst (-1), 1) := by decide +kernel
theorem dX7_costOf_68 : decode cX7_costOf 68 = .ok (.if_icmp .ne 7, 3) := by decide +kernel
theorem dX7_costOf_71 : decode cX7_costOf 71 = .ok (.iconst 0, 1) := by decide +kernel
theorem dX7_costOf_72 : decode cX7_costOf 72 = .ok (.goto 14, 3) := by decide +kernel
theorem dX7_costOf_75 : decode cX7_costOf 75 = .ok (.aload_n 0, 1) := by decide +kernel
theorem dX7_costOf_76 : decode cX7_costOf 76 = .ok (.getfield 51, 3) := by decide +kernel
theorem dX7_costOf_79 : decode cX7_costOf 79 = .ok (.bipush 20, 2) := by decide +kernel
theorem dX7_costOf_81 : decode cX7_costOf 81 = .ok (.iload_n 1, 1) := by decide +kernel
theorem dX7_costOf_82 : decode cX7_costOf 82 = .ok (.imul, 1) := by decide +kernel
theorem dX7_costOf_83 : decode cX7_costOf 83 = .ok (.iload_n 3, 1) := by decide +kernel
theorem dX7_costOf_84 : decode cX7_costOf 84 = .ok (.iadd, 1) := by decide +kernel
theorem dX7_costOf_85 : decode cX7_costOf 85 = .ok (.iaload, 1) := by decide +kernel
theorem dX7_costOf_86 : decode cX7_costOf 86 = .ok (.ireturn, 1) := by decide +kernel
theorem dX7_costs_0 : decode cX7_costs 0 = .ok (.iload_n 1, 1) := by decide +kernel
theorem dX7_costs_1 : decode cX7_costs 1 = .ok (.i2l, 1) := by decide +kernel
theorem dX7_costs_2 : decode cX7_costs 2 = .ok (.lconst 0, 1) := by decide +kernel
theorem dX7_costs_3 : decode cX7_costs 3 = .ok (.ldc2_w 151, 3) := by decide +kernel
theorem dX7_costs_6 : decode cX7_costs 6 = .ok (.invokestatic 133, 3) := by decide +kernel
theorem dX7_costs_9 : decode cX7_costs 9 = .ok (.ifCond .ne 6, 3) := by decide +kernel
theorem dX7_costs_12 : decode cX7_costs 12 = .ok (.bipush (-101), 2) := by decide +kernel
theorem dX7_costs_14 : decode cX7_costs 14 = .ok (.ireturn, 1) := by decide +kernel
theorem dX7_costs_15 : decode cX7_costs 15 = .ok (.iload_n 2, 1) := by decide +kernel
theorem dX7_costs_16 : decode cX7_costs 16 = .ok (.i2l, 1) := by decide +kernel
theorem dX7_costs_17 : decode cX7_costs 17 = .ok (.lconst 0, 1) := by decide +kernel
theorem dX7_costs_18 : decode cX7_costs 18 = .ok (.ldc2_w 163, 3) := by decide +kernel
theorem dX7_costs_21 : decode cX7_costs 21 = .ok (.invokestatic 133, 3) := by decide +kernel
theorem dX7_costs_24 : decode cX7_costs 24 = .ok (.ifCond .eq 12, 3) := by decide +kernel
theorem dX7_costs_27 : decode cX7_costs 27 = .ok (.aload_n 0, 1) := by decide +kernel
theorem dX7_costs_28 : decode cX7_costs 28 = .ok (.iload_n 1, 1) := by decide +kernel
theorem dX7_costs_29 : decode cX7_costs 29 = .ok (.iload_n 2, 1) := by decide +kernel
theorem dX7_costs_30 : decode cX7_costs 30 = .ok (.invokevirtual 167, 3) := by decide +kernel
theorem dX7_costs_33 : decode cX7_costs 33 = .ok (.goto 5, 3) := by decide +kernel
theorem dX7_costs_36 : decode cX7_costs 36 = .ok (.bipush (-102), 2) := by decide +kernel
theorem dX7_costs_38 : decode cX7_costs 38 = .ok (.ireturn, 1) := by decide +kernel
theorem dX7_rate_0 : decode cX7_rate 0 = .ok (.iload_n 1, 1) := by decide +kernel
theorem dX7_rate_1 : decode cX7_rate 1 = .ok (.i2l, 1) := by decide +kernel
theorem dX7_rate_2 : decode cX7_rate 2 = .ok (.lconst 0, 1) := by decide +kernel
theorem dX7_rate_3 : decode cX7_rate 3 = .ok (.ldc2_w 171, 3) := by decide +kernel
theorem dX7_rate_6 : decode cX7_rate 6 = .ok (.invokestatic 133, 3) := by decide +kernel
theorem dX7_rate_9 : decode cX7_rate 9 = .ok (.ifCond .ne 6, 3) := by decide +kernel
theorem dX7_rate_12 : decode cX7_rate 12 = .ok (.bipush (-101), 2) := by decide +kernel
theorem dX7_rate_14 : decode cX7_rate 14 = .ok (.ireturn, 1) := by decide +kernel
theorem dX7_rate_15 : decode cX7_rate 15 = .ok (.iload_n 1, 1) := by decide +kernel
theorem dX7_rate_16 : decode cX7_rate 16 = .ok (.ifCond .eq 13, 3) := by decide +kernel
theorem dX7_rate_19 : decode cX7_rate 19 = .ok (.iload_n 1, 1) := by decide +kernel
theorem dX7_rate_20 : decode cX7_rate 20 = .ok (.iconst 2, 1) := by decide +kernel
theorem dX7_rate_21 : decode cX7_rate 21 = .ok (.if_icmp .eq 8, 3) := by decide +kernel
theorem dX7_rate_24 : decode cX7_rate 24 = .ok (.iload_n 1, 1) := by decide +kernel
theorem dX7_rate_25 : decode cX7_rate 25 = .ok (.iconst 4, 1) := by decide +kernel
theorem dX7_rate_26 : decode cX7_rate 26 = .ok (.if_icmp .ne 9, 3) := by decide +kernel
theorem dX7_rate_29 : decode cX7_rate 29 = .ok (.sipush 1000, 3) := by decide +kernel
theorem dX7_rate_32 : decode cX7_rate 32 = .ok (.goto 16, 3) := by decide +kernel
theorem dX7_rate_35 : decode cX7_rate 35 = .ok (.iload_n 1, 1) := by decide +kernel
theorem dX7_rate_36 : decode cX7_rate 36 = .ok (.iconst 1, 1) := by decide +kernel
theorem dX7_rate_37 : decode cX7_rate 37 = .ok (.if_icmp .ne 8, 3) := by decide +kernel
theorem dX7_rate_40 : decode cX7_rate 40 = .ok (.ldc 173, 2) := by decide +kernel
theorem dX7_rate_42 : decode cX7_rate 42 = .ok (.goto 6, 3) := by decide +kernel
theorem dX7_rate_45 : decode cX7_rate 45 = .ok (.sipush 10000, 3) := by decide +kernel
theorem dX7_rate_48 : decode cX7_rate 48 = .ok (.istore_n 3, 1) := by decide +kernel
theorem dX7_rate_49 : decode cX7_rate 49 = .ok (.iload_n 2, 1) := by decide +kernel
theorem dX7_rate_50 : decode cX7_rate 50 = .ok (.i2l, 1) := by decide +kernel
theorem dX7_rate_51 : decode cX7_rate 51 = .ok (.lconst 0, 1) := by decide +kernel
theorem dX7_rate_52 : decode cX7_rate 52 = .ok (.iload_n 3, 1) := by decide +kernel
theorem dX7_rate_53 : decode cX7_rate 53 = .ok (.i2l, 1) := by decide +kernel
theorem dX7_rate_54 : decode cX7_rate 54 = .ok (.invokestatic 133, 3) := by decide +kernel
theorem dX7_rate_57 : decode cX7_rate 57 = .ok (.ifCond .ne 6, 3) := by decide +kernel
theorem dX7_rate_60 : decode cX7_rate 60 = .ok (.bipush (-102), 2) := by decide +kernel
theorem dX7_rate_62 : decode cX7_rate 62 = .ok (.ireturn, 1) := by decide +kernel
theorem dX7_rate_63 : decode cX7_rate 63 = .ok (.aload_n 0, 1) := by decide +kernel
theorem dX7_rate_64 : decode cX7_rate 64 = .ok (.getfield 54, 3) := by decide +kernel
theorem dX7_rate_67 : decode cX7_rate 67 = .ok (.iload_n 1, 1) := by decide +kernel
theorem dX7_rate_68 : decode cX7_rate 68 = .ok (.iaload, 1) := by decide +kernel
theorem dX7_rate_69 : decode cX7_rate 69 = .ok (.istore 4, 2) := by decide +kernel
theorem dX7_rate_71 : decode cX7_rate 71 = .ok (.aload_n 0, 1) := by decide +kernel
theorem dX7_rate_72 : decode cX7_rate 72 = .ok (.getfield 54, 3) := by decide +kernel
theorem dX7_rate_75 : decode cX7_rate 75 = .ok (.iload_n 1, 1) := by decide +kernel
theorem dX7_rate_76 : decode cX7_rate 76 = .ok (.iload_n 2, 1) := by decide +kernel
theorem dX7_rate_77 : decode cX7_rate 77 = .ok (.iastore, 1) := by decide +kernel
theorem dX7_rate_78 : decode cX7_rate 78 = .ok (.iload 4, 2) := by decide +kernel
theorem dX7_rate_80 : decode cX7_rate 80 = .ok (.ireturn, 1) := by decide +kernel
theorem dX7_days_0 : decode cX7_days 0 = .ok (.iload_n 1, 1) := by decide +kernel
theorem dX7_days_1 : decode cX7_days 1 = .ok (.i2l, 1) := by decide +kernel
theorem dX7_days_2 : decode cX7_days 2 = .ok (.lconst 1, 1) := by decide +kernel
theorem dX7_days_3 : decode cX7_days 3 = .ok (.ldc2_w 161, 3) := by decide +kernel
theorem dX7_days_6 : decode cX7_days 6 = .ok (.invokestatic 133, 3) := by decide +kernel
theorem dX7_days_9 : decode cX7_days 9 = .ok (.ifCond .eq 15, 3) := by decide +kernel
theorem dX7_days_12 : decode cX7_days 12 = .ok (.aload_n 0, 1) := by decide +kernel
theorem dX7_days_13 : decode cX7_days 13 = .ok (.getfield 174, 3) := by decide +kernel
theorem dX7_days_16 : decode cX7_days 16 = .ok (.iload_n 1, 1) := by decide +kernel
theorem dX7_days_17 : decode cX7_days 17 = .ok (.iadd, 1) := by decide +kernel
theorem dX7_days_18 : decode cX7_days 18 = .ok (.sipush 10000, 3) := by decide +kernel
theorem dX7_days_21 : decode cX7_days 21 = .ok (.if_icmp .le 6, 3) := by decide +kernel
theorem dX7_days_24 : decode cX7_days 24 = .ok (.bipush (-102), 2) := by decide +kernel
theorem dX7_days_26 : decode cX7_days 26 = .ok (.ireturn, 1) := by decide +kernel
theorem dX7_days_27 : decode cX7_days 27 = .ok (.aload_n 0, 1) := by decide +kernel
theorem dX7_days_28 : decode cX7_days 28 = .ok (.dup, 1) := by decide +kernel
theorem dX7_days_29 : decode cX7_days 29 = .ok (.getfield 174, 3) := by decide +kernel
theorem dX7_days_32 : decode cX7_days 32 = .ok (.iload_n 1, 1) := by decide +kernel
theorem dX7_days_33 : decode cX7_days 33 = .ok (.iadd, 1) := by decide +kernel
theorem dX7_days_34 : decode cX7_days 34 = .ok (.putfield 174, 3) := by decide +kernel
theorem dX7_days_37 : decode cX7_days 37 = .ok (.aload_n 0, 1) := by decide +kernel
theorem dX7_days_38 : decode cX7_days 38 = .ok (.getfield 174, 3) := by decide +kernel
theorem dX7_days_41 : decode cX7_days 41 = .ok (.ireturn, 1) := by decide +kernel
theorem dX7_overX_0 : decode cX7_overX 0 = .ok (.iload_n 0, 1) := by decide +kernel
theorem dX7_overX_1 : decode cX7_overX 1 = .ok (.ifCond .ne 7, 3) := by decide +kernel
theorem dX7_overX_4 : decode cX7_overX 4 = .ok (.iconst (-1), 1) := by decide +kernel
theorem dX7_overX_5 : decode cX7_overX 5 = .ok (.goto 13, 3) := by decide +kernel
theorem dX7_overX_8 : decode cX7_overX 8 = .ok (.iload_n 0, 1) := by decide +kernel
theorem dX7_overX_9 : decode cX7_overX 9 = .ok (.iconst 1, 1) := by decide +kernel
theorem dX7_overX_10 : decode cX7_overX 10 = .ok (.if_icmp .ne 7, 3) := by decide +kernel
theorem dX7_overX_13 : decode cX7_overX 13 = .ok (.iconst 1, 1) := by decide +kernel
theorem dX7_overX_14 : decode cX7_overX 14 = .ok (.goto 4, 3) := by decide +kernel
theorem dX7_overX_17 : decode cX7_overX 17 = .ok (.iconst 0, 1) := by decide +kernel
theorem dX7_overX_18 : decode cX7_overX 18 = .ok (.ireturn, 1) := by decide +kernel
theorem dX7_overY_0 : decode cX7_overY 0 = .ok (.iload_n 0, 1) := by decide +kernel
theorem dX7_overY_1 : decode cX7_overY 1 = .ok (.iconst 2, 1) := by decide +kernel
theorem dX7_overY_2 : decode cX7_overY 2 = .ok (.if_icmp .ne 7, 3) := by decide +kernel
theorem dX7_overY_5 : decode cX7_overY 5 = .ok (.iconst (-1), 1) := by decide +kernel
theorem dX7_overY_6 : decode cX7_overY 6 = .ok (.goto 13, 3) := by decide +kernel
theorem dX7_overY_9 : decode cX7_overY 9 = .ok (.iload_n 0, 1) := by decide +kernel
theorem dX7_overY_10 : decode cX7_overY 10 = .ok (.iconst 3, 1) := by decide +kernel
theorem dX7_overY_11 : decode cX7_overY 11 = .ok (.if_icmp .ne 7, 3) := by decide +kernel
theorem dX7_overY_14 : decode cX7_overY 14 = .ok (.iconst 1, 1) := by decide +kernel
theorem dX7_overY_15 : decode cX7_overY 15 = .ok (.goto 4, 3) := by decide +kernel
theorem dX7_overY_18 : decode cX7_overY 18 = .ok (.iconst 0, 1) := by decide +kernel
theorem dX7_overY_19 : decode cX7_overY 19 = .ok (.ireturn, 1) := by decide +kernel
theorem dX7_beside_0 : decode cX7_beside 0 = .ok (.iload_n 1, 1) := by decide +kernel
theorem dX7_beside_1 : decode cX7_beside 1 = .ok (.bipush 16, 2) := by decide +kernel
theorem dX7_beside_3 : decode cX7_beside 3 = .ok (.irem, 1) := by decide +kernel
theorem dX7_beside_4 : decode cX7_beside 4 = .ok (.iload_n 2, 1) := by decide +kernel
theorem dX7_beside_5 : decode cX7_beside 5 = .ok (.invokestatic 177, 3) := by decide +kernel
theorem dX7_beside_8 : decode cX7_beside 8 = .ok (.iadd, 1) := by decide +kernel
theorem dX7_beside_9 : decode cX7_beside 9 = .ok (.istore_n 3, 1) := by decide +kernel
theorem dX7_beside_10 : decode cX7_beside 10 = .ok (.iload_n 1, 1) := by decide +kernel
theorem dX7_beside_11 : decode cX7_beside 11 = .ok (.bipush 16, 2) := by decide +kernel
theorem dX7_beside_13 : decode cX7_beside 13 = .ok (.idiv, 1) := by decide +kernel
theorem dX7_beside_14 : decode cX7_beside 14 = .ok (.iload_n 2, 1) := by decide +kernel
theorem dX7_beside_15 : decode cX7_beside 15 = .ok (.invokestatic 181, 3) := by decide +kernel
theorem dX7_beside_18 : decode cX7_beside 18 = .ok (.iadd, 1) := by decide +kernel
theorem dX7_beside_19 : decode cX7_beside 19 = .ok (.istore 4, 2) := by decide +kernel
theorem dX7_beside_21 : decode cX7_beside 21 = .ok (.aload_n 0, 1) := by decide +kernel
theorem dX7_beside_22 : decode cX7_beside 22 = .ok (.iload_n 3, 1) := by decide +kernel
theorem dX7_beside_23 : decode cX7_beside 23 = .ok (.iload 4, 2) := by decide +kernel
theorem dX7_beside_25 : decode cX7_beside 25 = .ok (.invokevirtual 143, 3) := by decide +kernel
theorem dX7_beside_28 : decode cX7_beside 28 = .ok (.ifCond .eq 13, 3) := by decide +kernel
theorem dX7_beside_31 : decode cX7_beside 31 = .ok (.bipush 16, 2) := by decide +kernel
theorem dX7_beside_33 : decode cX7_beside 33 = .ok (.iload 4, 2) := by decide +kernel
theorem dX7_beside_35 : decode cX7_beside 35 = .ok (.imul, 1) := by decide +kernel
theorem dX7_beside_36 : decode cX7_beside 36 = .ok (.iload_n 3, 1) := by decide +kernel
theorem dX7_beside_37 : decode cX7_beside 37 = .ok (.iadd, 1) := by decide +kernel
theorem dX7_beside_38 : decode cX7_beside 38 = .ok (.goto 4, 3) := by decide +kernel
theorem dX7_beside_41 : decode cX7_beside 41 = .ok (.iconst (-1), 1) := by decide +kernel
theorem dX7_beside_42 : decode cX7_beside 42 = .ok (.ireturn, 1) := by decide +kernel
theorem dX7_isLeft_0 : decode cX7_isLeft 0 = .ok (.aload_n 0, 1) := by decide +kernel
theorem dX7_isLeft_1 : decode cX7_isLeft 1 = .ok (.getfield 16, 3) := by decide +kernel
theorem dX7_isLeft_4 : decode cX7_isLeft 4 = .ok (.iload_n 1, 1) := by decide +kernel
theorem dX7_isLeft_5 : decode cX7_isLeft 5 = .ok (.iaload, 1) := by decide +kernel
theorem dX7_isLeft_6 : decode cX7_isLeft 6 = .ok (.iload_n 2, 1) := by decide +kernel
theorem dX7_isLeft_7 : decode cX7_isLeft 7 = .ok (.if_icmp .ne 16, 3) := by decide +kernel
theorem dX7_isLeft_10 : decode cX7_isLeft 10 = .ok (.aload_n 0, 1) := by decide +kernel
theorem dX7_isLeft_11 : decode cX7_isLeft 11 = .ok (.getfield 30, 3) := by decide +kernel
theorem dX7_isLeft_14 : decode cX7_isLeft 14 = .ok (.iload_n 1, 1) := by decide +kernel
theorem dX7_isLeft_15 : decode cX7_isLeft 15 = .ok (.iaload, 1) := by decide +kernel
theorem dX7_isLeft_16 : decode cX7_isLeft 16 = .ok (.ifCond .ne 7, 3) := by decide +kernel
theorem dX7_isLeft_19 : decode cX7_isLeft 19 = .ok (.iconst 1, 1) := by decide +kernel
theorem dX7_isLeft_20 : decode cX7_isLeft 20 = .ok (.goto 4, 3) := by decide +kernel
theorem dX7_isLeft_23 : decode cX7_isLeft 23 = .ok (.iconst 0, 1) := by decide +kernel
theorem dX7_isLeft_24 : decode cX7_isLeft 24 = .ok (.ireturn, 1) := by decide +kernel
theorem dX7_spread_0 : decode cX7_spread 0 = .ok (.iconst 1, 1) := by decide +kernel
theorem dX7_spread_1 : decode cX7_spread 1 = .ok (.istore_n 3, 1) := by decide +kernel
theorem dX7_spread_2 : decode cX7_spread 2 = .ok (.aload_n 0, 1) := by decide +kernel
theorem dX7_spread_3 : decode cX7_spread 3 = .ok (.getfield 115, 3) := by decide +kernel
theorem dX7_spread_6 : decode cX7_spread 6 = .ok (.iconst 0, 1) := by decide +kernel
theorem dX7_spread_7 : decode cX7_spread 7 = .ok (.iload_n 1, 1) := by decide +kernel
theorem dX7_spread_8 : decode cX7_spread 8 = .ok (.iastore, 1) := by decide +kernel
theorem dX7_spread_9 : decode cX7_spread 9 = .ok (.aload_n 0, 1) := by decide +kernel
theorem dX7_spread_10 : decode cX7_spread 10 = .ok (.getfield 112, 3) := by decide +kernel
theorem dX7_spread_13 : decode cX7_spread 13 = .ok (.iload_n 1, 1) := by decide +kernel
theorem dX7_spread_14 : decode cX7_spread 14 = .ok (.aload_n 0, 1) := by decide +kernel
theorem dX7_spread_15 : decode cX7_spread 15 = .ok (.getfield 184, 3) := by decide +kernel
theorem dX7_spread_18 : decode cX7_spread 18 = .ok (.iastore, 1) := by decide +kernel
theorem dX7_spread_19 : decode cX7_spread 19 = .ok (.iconst 0, 1) := by decide +kernel
theorem dX7_spread_20 : decode cX7_spread 20 = .ok (.istore 4, 2) := by decide +kernel
theorem dX7_spread_22 : decode cX7_spread 22 = .ok (.iload 4, 2) := by decide +kernel
theorem dX7_spread_24 : decode cX7_spread 24 = .ok (.iload_n 3, 1) := by decide +kernel
theorem dX7_spread_25 : decode cX7_spread 25 = .ok (.if_icmp .ge 87, 3) := by decide +kernel
theorem dX7_spread_28 : decode cX7_spread 28 = .ok (.iconst 0, 1) := by decide +kernel
theorem dX7_spread_29 : decode cX7_spread 29 = .ok (.istore 5, 2) := by decide +kernel
theorem dX7_spread_31 : decode cX7_spread 31 = .ok (.iload 5, 2) := by decide +kernel
theorem dX7_spread_33 : decode cX7_spread 33 = .ok (.iconst 4, 1) := by decide +kernel
theorem dX7_spread_34 : decode cX7_spread 34 = .ok (.if_icmp .ge 72, 3) := by decide +kernel
theorem dX7_spread_37 : decode cX7_spread 37 = .ok (.aload_n 0, 1) := by decide +kernel
theorem dX7_spread_38 : decode cX7_spread 38 = .ok (.aload_n 0, 1) := by decide +kernel
theorem dX7_spread_39 : decode cX7_spread 39 = .ok (.getfield 115, 3) := by decide +kernel
theorem dX7_spread_42 : decode cX7_spread 42 = .ok (.iload 4, 2) := by decide +kernel
theorem dX7_spread_44 : decode cX7_spread 44 = .ok (.iaload, 1) := by decide +kernel
theorem dX7_spread_45 : decode cX7_spread 45 = .ok (.iload 5, 2) := by decide +kernel
theorem dX7_spread_47 : decode cX7_spread 47 = .ok (.invokevirtual 187, 3) := by decide +kernel
theorem dX7_spread_50 : decode cX7_spread 50 = .ok (.istore 6, 2) := by decide +kernel
theorem dX7_spread_52 : decode cX7_spread 52 = .ok (.iload 6, 2) := by decide +kernel
theorem dX7_spread_54 : decode cX7_spread 54 = .ok (.iconst (-1), 1) := by decide +kernel
theorem dX7_spread_55 : decode cX7_spread 55 = .ok (.if_icmp .eq 45, 3) := by decide +kernel
theorem dX7_spread_58 : decode cX7_spread 58 = .ok (.aload_n 0, 1) := by decide +kernel
theorem dX7_spread_59 : decode cX7_spread 59 = .ok (.iload 6, 2) := by decide +kernel
theorem dX7_spread_61 : decode cX7_spread 61 = .ok (.iload_n 2, 1) := by decide +kernel
theorem dX7_spread_62 : decode cX7_spread 62 = .ok (.invokevirtual 190, 3) := by decide +kernel
theorem dX7_spread_65 : decode cX7_spread 65 = .ok (.ifCond .eq 35, 3) := by decide +kernel
theorem dX7_spread_68 : decode cX7_spread 68 = .ok (.aload_n 0, 1) := by decide +kernel
theorem dX7_spread_69 : decode cX7_spread 69 = .ok (.getfield 112, 3) := by decide +kernel
theorem dX7_spread_72 : decode cX7_spread 72 = .ok (.iload 6, 2) := by decide +kernel
theorem dX7_spread_74 : decode cX7_spread 74 = .ok (.iaload, 1) := by decide +kernel
theorem dX7_spread_75 : decode cX7_spread 75 = .ok (.ifCond .ne 25, 3) := by decide +kernel
theorem dX7_spread_78 : decode cX7_spread 78 = .ok (.aload_n 0, 1) := by decide +kernel
theorem dX7_spread_79 : decode cX7_spread 79 = .ok (.getfield 112, 3) := by decide +kernel
theorem dX7_spread_82 : decode cX7_spread 82 = .ok (.iload 6, 2) := by decide +kernel
theorem dX7_spread_84 : decode cX7_spread 84 = .ok (.aload_n 0, 1) := by decide +kernel
theorem dX7_spread_85 : decode cX7_spread 85 = .ok (.getfield 184, 3) := by decide +kernel
theorem dX7_spread_88 : decode cX7_spread 88 = .ok (.iastore, 1) := by decide +kernel
theorem dX7_spread_89 : decode cX7_spread 89 = .ok (.aload_n 0, 1) := by decide +kernel
theorem dX7_spread_90 : decode cX7_spread 90 = .ok (.getfield 115, 3) := by decide +kernel
theorem dX7_spread_93 : decode cX7_spread 93 = .ok (.iload_n 3, 1) := by decide +kernel
theorem dX7_spread_94 : decode cX7_spread 94 = .ok (.iload 6, 2) := by decide +kernel
theorem dX7_spread_96 : decode cX7_spread 96 = .ok (.iastore, 1) := by decide +kernel
theorem dX7_spread_97 : decode cX7_spread 97 = .ok (.iinc 3 1, 3) := by decide +kernel
theorem dX7_spread_100 : decode cX7_spread 100 = .ok (.iinc 5 1, 3) := by decide +kernel
theorem dX7_spread_103 : decode cX7_spread 103 = .ok (.goto (-72), 3) := by decide +kernel
theorem dX7_spread_106 : decode cX7_spread 106 = .ok (.iinc 4 1, 3) := by decide +kernel
theorem dX7_spread_109 : decode cX7_spread 109 = .ok (.goto (-87), 3) := by decide +kernel
theorem dX7_spread_112 : decode cX7_spread 112 = .ok (.aload_n 0, 1) := by decide +kernel
theorem dX7_spread_113 : decode cX7_spread 113 = .ok (.getfield 121, 3) := by decide +kernel
theorem dX7_spread_116 : decode cX7_spread 116 = .ok (.aload_n 0, 1) := by decide +kernel
theorem dX7_spread_117 : decode cX7_spread 117 = .ok (.getfield 184, 3) := by decide +kernel
theorem dX7_spread_120 : decode cX7_spread 120 = .ok (.iconst 1, 1) := by decide +kernel
theorem dX7_spread_121 : decode cX7_spread 121 = .ok (.isub, 1) := by decide +kernel
theorem dX7_spread_122 : decode cX7_spread 122 = .ok (.iload_n 3, 1) := by decide +kernel
theorem dX7_spread_123 : decode cX7_spread 123 = .ok (.iastore, 1) := by decide +kernel
theorem dX7_spread_124 : decode cX7_spread 124 = .ok (.return_, 1) := by decide +kernel
theorem dX7_divide_0 : decode cX7_divide 0 = .ok (.aload_n 0, 1) := by decide +kernel
theorem dX7_divide_1 : decode cX7_divide 1 = .ok (.iconst 0, 1) := by decide +kernel
theorem dX7_divide_2 : decode cX7_divide 2 = .ok (.putfield 184, 3) := by decide +kernel
theorem dX7_divide_5 : decode cX7_divide 5 = .ok (.iconst 0, 1) := by decide +kernel
theorem dX7_divide_6 : decode cX7_divide 6 = .ok (.istore_n 2, 1) := by decide +kernel
theorem dX7_divide_7 : decode cX7_divide 7 = .ok (.iload_n 2, 1) := by decide +kernel
theorem dX7_divide_8 : decode cX7_divide 8 = .ok (.sipush 256, 3) := by decide +kernel
theorem dX7_divide_11 : decode cX7_divide 11 = .ok (.if_icmp .ge 16, 3) := by decide +kernel
theorem dX7_divide_14 : decode cX7_divide 14 = .ok (.aload_n 0, 1) := by decide +kernel
theorem dX7_divide_15 : decode cX7_divide 15 = .ok (.getfield 112, 3) := by decide +kernel
theorem dX7_divide_18 : decode cX7_divide 18 = .ok (.iload_n 2, 1) := by decide +kernel
theorem dX7_divide_19 : decode cX7_divide 19 = .ok (.iconst 0, 1) := by decide +kernel
theorem dX7_divide_20 : decode cX7_divide 20 = .ok (.iastore, 1) := by decide +kernel
theorem dX7_divide_21 : decode cX7_divide 21 = .ok (.iinc 2 1, 3) := by decide +kernel
theorem dX7_divide_24 : decode cX7_divide 24 = .ok (.goto (-17), 3) := by decide +kernel
theorem dX7_divide_27 : decode cX7_divide 27 = .ok (.iconst 0, 1) := by decide +kernel
theorem dX7_divide_28 : decode cX7_divide 28 = .ok (.istore_n 2, 1) := by decide +kernel
theorem dX7_divide_29 : decode cX7_divide 29 = .ok (.iload_n 2, 1) := by decide +kernel
theorem dX7_divide_30 : decode cX7_divide 30 = .ok (.aload_n 0, 1) := by decide +kernel
theorem dX7_divide_31 : decode cX7_divide 31 = .ok (.getfield 13, 3) := by decide +kernel
theorem dX7_divide_34 : decode cX7_divide 34 = .ok (.if_icmp .ge 81, 3) := by decide +kernel
theorem dX7_divide_37 : decode cX7_divide 37 = .ok (.iconst 0, 1) := by decide +kernel
theorem dX7_divide_38 : decode cX7_divide 38 = .ok (.istore_n 3, 1) := by decide +kernel
theorem dX7_divide_39 : decode cX7_divide 39 = .ok (.iload_n 3, 1) := by decide +kernel
theorem dX7_divide_40 : decode cX7_divide 40 = .ok (.aload_n 0, 1) := by decide +kernel
theorem dX7_divide_41 : decode cX7_divide 41 = .ok (.getfield 7, 3) := by decide +kernel
theorem dX7_divide_44 : decode cX7_divide 44 = .ok (.if_icmp .ge 65, 3) := by decide +kernel
theorem dX7_divide_47 : decode cX7_divide 47 = .ok (.bipush 16, 2) := by decide +kernel
theorem dX7_divide_49 : decode cX7_divide 49 = .ok (.iload_n 2, 1) := by decide +kernel
theorem dX7_divide_50 : decode cX7_divide 50 = .ok (.imul, 1) := by decide +kernel
theorem dX7_divide_51 : decode cX7_divide 51 = .ok (.iload_n 3, 1) := by decide +kernel
theorem dX7_divide_52 : decode cX7_divide 52 = .ok (.iadd, 1) := by decide +kernel
theorem dX7_divide_53 : decode cX7_divide 53 = .ok (.istore 4, 2) := by decide +kernel
theorem dX7_divide_55 : decode cX7_divide 55 = .ok (.aload_n 0, 1) := by decide +kernel
theorem dX7_divide_56 : decode cX7_divide 56 = .ok (.iload 4, 2) := by decide +kernel
theorem dX7_divide_58 : decode cX7_divide 58 = .ok (.iload_n 1, 1) := by decide +kernel
theorem dX7_divide_59 : decode cX7_divide 59 = .ok (.invokevirtual 190, 3) := by decide +kernel
theorem dX7_divide_62 : decode cX7_divide 62 = .ok (.ifCond .eq 41, 3) := by decide +kernel
theorem dX7_divide_65 : decode cX7_divide 65 = .ok (.aload_n 0, 1) := by decide +kernel
theorem dX7_divide_66 : decode cX7_divide 66 = .ok (.getfield 112, 3) := by decide +kernel
theorem dX7_divide_69 : decode cX7_divide 69 = .ok (.iload 4, 2) := by decide +kernel
theorem dX7_divide_71 : decode cX7_divide 71 = .ok (.iaload, 1) := by decide +kernel
theorem dX7_divide_72 : decode cX7_divide 72 = .ok (.ifCond .ne 31, 3) := by decide +kernel
theorem dX7_divide_75 : decode cX7_divide 75 = .ok (.aload_n 0, 1) := by decide +kernel
theorem dX7_divide_76 : decode cX7_divide 76 = .ok (.getfield 118, 3) := by decide +kernel
theorem dX7_divide_79 : decode cX7_divide 79 = .ok (.aload_n 0, 1) := by decide +kernel
theorem dX7_divide_80 : decode cX7_divide 80 = .ok (.getfield 184, 3) := by decide +kernel
theorem dX7_divide_83 : decode cX7_divide 83 = .ok (.iload 4, 2) := by decide +kernel
theorem dX7_divide_85 : decode cX7_divide 85 = .ok (.iastore, 1) := by decide +kernel
theorem dX7_divide_86 : decode cX7_divide 86 = .ok (.aload_n 0, 1) := by decide +kernel
theorem dX7_divide_87 : decode cX7_divide 87 = .ok (.dup, 1) := by decide +kernel
theorem dX7_divide_88 : decode cX7_divide 88 = .ok (.getfield 184, 3) := by decide +kernel
theorem dX7_divide_91 : decode cX7_divide 91 = .ok (.iconst 1, 1) := by decide +kernel
theorem dX7_divide_92 : decode cX7_divide 92 = .ok (.iadd, 1) := by decide +kernel
theorem dX7_divide_93 : decode cX7_divide 93 = .ok (.putfield 184, 3) := by decide +kernel
theorem dX7_divide_96 : decode cX7_divide 96 = .ok (.aload_n 0, 1) := by decide +kernel
theorem dX7_divide_97 : decode cX7_divide 97 = .ok (.iload 4, 2) := by decide +kernel
theorem dX7_divide_99 : decode cX7_divide 99 = .ok (.iload_n 1, 1) := by decide +kernel
theorem dX7_divide_100 : decode cX7_divide 100 = .ok (.invokevirtual 193, 3) := by decide +kernel
theorem dX7_divide_103 : decode cX7_divide 103 = .ok (.iinc 3 1, 3) := by decide +kernel
theorem dX7_divide_106 : decode cX7_divide 106 = .ok (.goto (-67), 3) := by decide +kernel
theorem dX7_divide_109 : decode cX7_divide 109 = .ok (.iinc 2 1, 3) := by decide +kernel
theorem dX7_divide_112 : decode cX7_divide 112 = .ok (.goto (-83), 3) := by decide +kernel
theorem dX7_divide_115 : decode cX7_divide 115 = .ok (.return_, 1) := by decide +kernel
theorem dX7_mainOf_0 : decode cX7_mainOf 0 = .ok (.aload_n 0, 1) := by decide +kernel
theorem dX7_mainOf_1 : decode cX7_mainOf 1 = .ok (.getfield 33, 3) := by decide +kernel
theorem dX7_mainOf_4 : decode cX7_mainOf 4 = .ok (.iload_n 1, 1) := by decide +kernel
theorem dX7_mainOf_5 : decode cX7_mainOf 5 = .ok (.iaload, 1) := by decide +kernel
theorem dX7_mainOf_6 : decode cX7_mainOf 6 = .ok (.istore_n 2, 1) := by decide +kernel
theorem dX7_mainOf_7 : decode cX7_mainOf 7 = .ok (.iload_n 2, 1) := by decide +kernel
theorem dX7_mainOf_8 : decode cX7_mainOf 8 = .ok (.iconst (-1), 1) := by decide +kernel
theorem dX7_mainOf_9 : decode cX7_mainOf 9 = .ok (.if_icmp .eq 21, 3) := by decide +kernel
theorem dX7_mainOf_12 : decode cX7_mainOf 12 = .ok (.aload_n 0, 1) := by decide +kernel
theorem dX7_mainOf_13 : decode cX7_mainOf 13 = .ok (.getfield 112, 3) := by decide +kernel
theorem dX7_mainOf_16 : decode cX7_mainOf 16 = .ok (.iload_n 2, 1) := by decide +kernel
theorem dX7_mainOf_17 : decode cX7_mainOf 17 = .ok (.iaload, 1) := by decide +kernel
theorem dX7_mainOf_18 : decode cX7_mainOf 18 = .ok (.ifCond .le 12, 3) := by decide +kernel
theorem dX7_mainOf_21 : decode cX7_mainOf 21 = .ok (.aload_n 0, 1) := by decide +kernel
theorem dX7_mainOf_22 : decode cX7_mainOf 22 = .ok (.getfield 112, 3) := by decide +kernel
theorem dX7_mainOf_25 : decode cX7_mainOf 25 = .ok (.iload_n 2, 1) := by decide +kernel
theorem dX7_mainOf_26 : decode cX7_mainOf 26 = .ok (.iaload, 1) := by decide +kernel
theorem dX7_mainOf_27 : decode cX7_mainOf 27 = .ok (.iconst 1, 1) := by decide +kernel
theorem dX7_mainOf_28 : decode cX7_mainOf 28 = .ok (.isub, 1) := by decide +kernel
theorem dX7_mainOf_29 : decode cX7_mainOf 29 = .ok (.ireturn, 1) := by decide +kernel
theorem dX7_mainOf_30 : decode cX7_mainOf 30 = .ok (.iconst (-1), 1) := by decide +kernel
theorem dX7_mainOf_31 : decode cX7_mainOf 31 = .ok (.istore_n 3, 1) := by decide +kernel
theorem dX7_mainOf_32 : decode cX7_mainOf 32 = .ok (.iconst 0, 1) := by decide +kernel
theorem dX7_mainOf_33 : decode cX7_mainOf 33 = .ok (.istore 4, 2) := by decide +kernel
theorem dX7_mainOf_35 : decode cX7_mainOf 35 = .ok (.iload 4, 2) := by decide +kernel
theorem dX7_mainOf_37 : decode cX7_mainOf 37 = .ok (.aload_n 0, 1) := by decide +kernel
theorem dX7_mainOf_38 : decode cX7_mainOf 38 = .ok (.getfield 184, 3) := by decide +kernel
theorem dX7_mainOf_41 : decode cX7_mainOf 41 = .ok (.if_icmp .ge 37, 3) := by decide +kernel
theorem dX7_mainOf_44 : decode cX7_mainOf 44 = .ok (.iload_n 3, 1) := by decide +kernel
theorem dX7_mainOf_45 : decode cX7_mainOf 45 = .ok (.iconst (-1), 1) := by decide +kernel
theorem dX7_mainOf_46 : decode cX7_mainOf 46 = .ok (.if_icmp .eq 19, 3) := by decide +kernel
theorem dX7_mainOf_49 : decode cX7_mainOf 49 = .ok (.aload_n 0, 1) := by decide +kernel
theorem dX7_mainOf_50 : decode cX7_mainOf 50 = .ok (.getfield 121, 3) := by decide +kernel
theorem dX7_mainOf_53 : decode cX7_mainOf 53 = .ok (.iload 4, 2) := by decide +kernel
theorem dX7_mainOf_55 : decode cX7_mainOf 55 = .ok (.iaload, 1) := by decide +kernel
theorem dX7_mainOf_56 : decode cX7_mainOf 56 = .ok (.aload_n 0, 1) := by decide +kernel
theorem dX7_mainOf_57 : decode cX7_mainOf 57 = .ok (.getfield 121, 3) := by decide +kernel
theorem dX7_mainOf_60 : decode cX7_mainOf 60 = .ok (.iload_n 3, 1) := by decide +kernel
theorem dX7_mainOf_61 : decode cX7_mainOf 61 = .ok (.iaload, 1) := by decide +kernel
theorem dX7_mainOf_62 : decode cX7_mainOf 62 = .ok (.if_icmp .le 8, 3) := by decide +kernel
theorem dX7_mainOf_65 : decode cX7_mainOf 65 = .ok (.iload 4, 2) := by decide +kernel
theorem dX7_mainOf_67 : decode cX7_mainOf 67 = .ok (.goto 4, 3) := by decide +kernel
theorem dX7_mainOf_70 : decode cX7_mainOf 70 = .ok (.iload_n 3, 1) := by decide +kernel
theorem dX7_mainOf_71 : decode cX7_mainOf 71 = .ok (.istore_n 3, 1) := by decide +kernel
theorem dX7_mainOf_72 : decode cX7_mainOf 72 = .ok (.iinc 4 1, 3) := by decide +kernel
theorem dX7_mainOf_75 : decode cX7_mainOf 75 = .ok (.goto (-40), 3) := by decide +kernel
theorem dX7_mainOf_78 : decode cX7_mainOf 78 = .ok (.iload_n 3, 1) := by decide +kernel
theorem dX7_mainOf_79 : decode cX7_mainOf 79 = .ok (.ireturn, 1) := by decide +kernel
theorem dX7_hasWay_0 : decode cX7_hasWay 0 = .ok (.iconst 0, 1) := by decide +kernel
theorem dX7_hasWay_1 : decode cX7_hasWay 1 = .ok (.istore_n 2, 1) := by decide +kernel
theorem dX7_hasWay_2 : decode cX7_hasWay 2 = .ok (.iload_n 2, 1) := by decide +kernel
theorem dX7_hasWay_3 : decode cX7_hasWay 3 = .ok (.sipush 256, 3) := by decide +kernel
theorem dX7_hasWay_6 : decode cX7_hasWay 6 = .ok (.if_icmp .ge 70, 3) := by decide +kernel
theorem dX7_hasWay_9 : decode cX7_hasWay 9 = .ok (.iconst 0, 1) := by decide +kernel
theorem dX7_hasWay_10 : decode cX7_hasWay 10 = .ok (.istore_n 3, 1) := by decide +kernel
theorem dX7_hasWay_11 : decode cX7_hasWay 11 = .ok (.iload_n 3, 1) := by decide +kernel
theorem dX7_hasWay_12 : decode cX7_hasWay 12 = .ok (.iconst 4, 1) := by decide +kernel
theorem dX7_hasWay_13 : decode cX7_hasWay 13 = .ok (.if_icmp .ge 57, 3) := by decide +kernel
theorem dX7_hasWay_16 : decode cX7_hasWay 16 = .ok (.aload_n 0, 1) := by decide +kernel
theorem dX7_hasWay_17 : decode cX7_hasWay 17 = .ok (.getfield 112, 3) := by decide +kernel
theorem dX7_hasWay_20 : decode cX7_hasWay 20 = .ok (.iload_n 2, 1) := by decide +kernel
theorem dX7_hasWay_21 : decode cX7_hasWay 21 = .ok (.iaload, 1) := by decide +kernel
theorem dX7_hasWay_22 : decode cX7_hasWay 22 = .ok (.iload_n 1, 1) := by decide +kernel
theorem dX7_hasWay_23 : decode cX7_hasWay 23 = .ok (.iconst 1, 1) := by decide +kernel
theorem dX7_hasWay_24 : decode cX7_hasWay 24 = .ok (.iadd, 1) := by decide +kernel
theorem dX7_hasWay_25 : decode cX7_hasWay 25 = .ok (.if_icmp .ne 45, 3) := by decide +kernel
theorem dX7_hasWay_28 : decode cX7_hasWay 28 = .ok (.aload_n 0, 1) := by decide +kernel
theorem dX7_hasWay_29 : decode cX7_hasWay 29 = .ok (.iload_n 2, 1) := by decide +kernel
theorem dX7_hasWay_30 : decode cX7_hasWay 30 = .ok (.iload_n 3, 1) := by decide +kernel
theorem dX7_hasWay_31 : decode cX7_hasWay 31 = .ok (.invokevirtual 187, 3) := by decide +kernel
theorem dX7_hasWay_34 : decode cX7_hasWay 34 = .ok (.istore 4, 2) := by decide +kernel
theorem dX7_hasWay_36 : decode cX7_hasWay 36 = .ok (.iload 4, 2) := by decide +kernel
theorem dX7_hasWay_38 : decode cX7_hasWay 38 = .ok (.iconst (-1), 1) := by decide +kernel
theorem dX7_hasWay_39 : decode cX7_hasWay 39 = .ok (.if_icmp .eq 25, 3) := by decide +kernel
theorem dX7_hasWay_42 : decode cX7_hasWay 42 = .ok (.aload_n 0, 1) := by decide +kernel
theorem dX7_hasWay_43 : decode cX7_hasWay 43 = .ok (.getfield 23, 3) := by decide +kernel
theorem dX7_hasWay_46 : decode cX7_hasWay 46 = .ok (.iload 4, 2) := by decide +kernel
theorem dX7_hasWay_48 : decode cX7_hasWay 48 = .ok (.baload, 1) := by decide +kernel
theorem dX7_hasWay_49 : decode cX7_hasWay 49 = .ok (.ifCond .eq 15, 3) := by decide +kernel
theorem dX7_hasWay_52 : decode cX7_hasWay 52 = .ok (.aload_n 0, 1) := by decide +kernel
theorem dX7_hasWay_53 : decode cX7_hasWay 53 = .ok (.getfield 30, 3) := by decide +kernel
theorem dX7_hasWay_56 : decode cX7_hasWay 56 = .ok (.iload 4, 2) := by decide +kernel
theorem dX7_hasWay_58 : decode cX7_hasWay 58 = .ok (.iaload, 1) := by decide +kernel
theorem dX7_hasWay_59 : decode cX7_hasWay 59 = .ok (.ifCond .ne 5, 3) := by decide +kernel
theorem dX7_hasWay_62 : decode cX7_hasWay 62 = .ok (.iconst 1, 1) := by decide +kernel
theorem dX7_hasWay_63 : decode cX7_hasWay 63 = .ok (.ireturn, 1) := by decide +kernel
theorem dX7_hasWay_64 : decode cX7_hasWay 64 = .ok (.iinc 3 1, 3) := by decide +kernel
theorem dX7_hasWay_67 : decode cX7_hasWay 67 = .ok (.goto (-56), 3) := by decide +kernel
theorem dX7_hasWay_70 : decode cX7_hasWay 70 = .ok (.iinc 2 1, 3) := by decide +kernel
theorem dX7_hasWay_73 : decode cX7_hasWay 73 = .ok (.goto (-71), 3) := by decide +kernel
theorem dX7_hasWay_76 : decode cX7_hasWay 76 = .ok (.iconst 0, 1) := by decide +kernel
theorem dX7_hasWay_77 : decode cX7_hasWay 77 = .ok (.ireturn, 1) := by decide +kernel
theorem dX7_pricesOf_0 : decode cX7_pricesOf 0 = .ok (.lconst 0, 1) := by decide +kernel
theorem dX7_pricesOf_1 : decode cX7_pricesOf 1 = .ok (.lstore_n 2, 1) := by decide +kernel
theorem dX7_pricesOf_2 : decode cX7_pricesOf 2 = .ok (.iconst 0, 1) := by decide +kernel
theorem dX7_pricesOf_3 : decode cX7_pricesOf 3 = .ok (.istore 4, 2) := by decide +kernel
theorem dX7_pricesOf_5 : decode cX7_pricesOf 5 = .ok (.iload 4, 2) := by decide +kernel
theorem dX7_pricesOf_7 : decode cX7_pricesOf 7 = .ok (.sipush 256, 3) := by decide +kernel
theorem dX7_pricesOf_10 : decode cX7_pricesOf 10 = .ok (.if_icmp .ge 45, 3) := by decide +kernel
theorem dX7_pricesOf_13 : decode cX7_pricesOf 13 = .ok (.lload_n 2, 1) := by decide +kernel
theorem dX7_pricesOf_14 : decode cX7_pricesOf 14 = .ok (.aload_n 0, 1) := by decide +kernel
theorem dX7_pricesOf_15 : decode cX7_pricesOf 15 = .ok (.getfield 112, 3) := by decide +kernel
theorem dX7_pricesOf_18 : decode cX7_pricesOf 18 = .ok (.iload 4, 2) := by decide +kernel
theorem dX7_pricesOf_20 : decode cX7_pricesOf 20 = .ok (.iaload, 1) := by decide +kernel
theorem dX7_pricesOf_21 : decode cX7_pricesOf 21 = .ok (.iload_n 1, 1) := by decide +kernel
theorem dX7_pricesOf_22 : decode cX7_pricesOf 22 = .ok (.iconst 1, 1) := by decide +kernel
theorem dX7_pricesOf_23 : decode cX7_pricesOf 23 = .ok (.iadd, 1) := by decide +kernel
theorem dX7_pricesOf_24 : decode cX7_pricesOf 24 = .ok (.if_icmp .ne 22, 3) := by decide +kernel
theorem dX7_pricesOf_27 : decode cX7_pricesOf 27 = .ok (.aload_n 0, 1) := by decide +kernel
theorem dX7_pricesOf_28 : decode cX7_pricesOf 28 = .ok (.aload_n 0, 1) := by decide +kernel
theorem dX7_pricesOf_29 : decode cX7_pricesOf 29 = .ok (.getfield 20, 3) := by decide +kernel
theorem dX7_pricesOf_32 : decode cX7_pricesOf 32 = .ok (.iload 4, 2) := by decide +kernel
theorem dX7_pricesOf_34 : decode cX7_pricesOf 34 = .ok (.iaload, 1) := by decide +kernel
theorem dX7_pricesOf_35 : decode cX7_pricesOf 35 = .ok (.aload_n 0, 1) := by decide +kernel
theorem dX7_pricesOf_36 : decode cX7_pricesOf 36 = .ok (.getfield 174, 3) := by decide +kernel
theorem dX7_pricesOf_39 : decode cX7_pricesOf 39 = .ok (.invokevirtual 167, 3) := by decide +kernel
theorem dX7_pricesOf_42 : decode cX7_pricesOf 42 = .ok (.i2l, 1) := by decide +kernel
theorem dX7_pricesOf_43 : decode cX7_pricesOf 43 = .ok (.goto 4, 3) := by decide +kernel
theorem dX7_pricesOf_46 : decode cX7_pricesOf 46 = .ok (.lconst 0, 1) := by decide +kernel
theorem dX7_pricesOf_47 : decode cX7_pricesOf 47 = .ok (.ladd, 1) := by decide +kernel
theorem dX7_pricesOf_48 : decode cX7_pricesOf 48 = .ok (.lstore_n 2, 1) := by decide +kernel
theorem dX7_pricesOf_49 : decode cX7_pricesOf 49 = .ok (.iinc 4 1, 3) := by decide +kernel
theorem dX7_pricesOf_52 : decode cX7_pricesOf 52 = .ok (.goto (-47), 3) := by decide +kernel
theorem dX7_pricesOf_55 : decode cX7_pricesOf 55 = .ok (.lload_n 2, 1) := by decide +kernel
theorem dX7_pricesOf_56 : decode cX7_pricesOf 56 = .ok (.lreturn, 1) := by decide +kernel
theorem dX7_isCase_0 : decode cX7_isCase 0 = .ok (.iload_n 1, 1) := by decide +kernel
theorem dX7_isCase_1 : decode cX7_isCase 1 = .ok (.i2l, 1) := by decide +kernel
theorem dX7_isCase_2 : decode cX7_isCase 2 = .ok (.lconst 0, 1) := by decide +kernel
theorem dX7_isCase_3 : decode cX7_isCase 3 = .ok (.aload_n 0, 1) := by decide +kernel
theorem dX7_isCase_4 : decode cX7_isCase 4 = .ok (.getfield 197, 3) := by decide +kernel
theorem dX7_isCase_7 : decode cX7_isCase 7 = .ok (.iconst 1, 1) := by decide +kernel
theorem dX7_isCase_8 : decode cX7_isCase 8 = .ok (.isub, 1) := by decide +kernel
theorem dX7_isCase_9 : decode cX7_isCase 9 = .ok (.i2l, 1) := by decide +kernel
theorem dX7_isCase_10 : decode cX7_isCase 10 = .ok (.invokestatic 133, 3) := by decide +kernel
theorem dX7_isCase_13 : decode cX7_isCase 13 = .ok (.ifCond .eq 25, 3) := by decide +kernel
theorem dX7_isCase_16 : decode cX7_isCase 16 = .ok (.iload_n 2, 1) := by decide +kernel
theorem dX7_isCase_17 : decode cX7_isCase 17 = .ok (.i2l, 1) := by decide +kernel
theorem dX7_isCase_18 : decode cX7_isCase 18 = .ok (.lconst 0, 1) := by decide +kernel
theorem dX7_isCase_19 : decode cX7_isCase 19 = .ok (.aload_n 0, 1) := by decide +kernel
theorem dX7_isCase_20 : decode cX7_isCase 20 = .ok (.getfield 63, 3) := by decide +kernel
theorem dX7_isCase_23 : decode cX7_isCase 23 = .ok (.iload_n 1, 1) := by decide +kernel
theorem dX7_isCase_24 : decode cX7_isCase 24 = .ok (.iaload, 1) := by decide +kernel
theorem dX7_isCase_25 : decode cX7_isCase 25 = .ok (.iconst 1, 1) := by decide +kernel
theorem dX7_isCase_26 : decode cX7_isCase 26 = .ok (.isub, 1) := by decide +kernel
theorem dX7_isCase_27 : decode cX7_isCase 27 = .ok (.i2l, 1) := by decide +kernel
theorem dX7_isCase_28 : decode cX7_isCase 28 = .ok (.invokestatic 133, 3) := by decide +kernel
theorem dX7_isCase_31 : decode cX7_isCase 31 = .ok (.ifCond .eq 7, 3) := by decide +kernel
theorem dX7_isCase_34 : decode cX7_isCase 34 = .ok (.iconst 1, 1) := by decide +kernel
theorem dX7_isCase_35 : decode cX7_isCase 35 = .ok (.goto 4, 3) := by decide +kernel
theorem dX7_isCase_38 : decode cX7_isCase 38 = .ok (.iconst 0, 1) := by decide +kernel
theorem dX7_isCase_39 : decode cX7_isCase 39 = .ok (.ireturn, 1) := by decide +kernel
theorem dX7_line_0 : decode cX7_line 0 = .ok (.aload_n 0, 1) := by decide +kernel
theorem dX7_line_1 : decode cX7_line 1 = .ok (.iload_n 1, 1) := by decide +kernel
theorem dX7_line_2 : decode cX7_line 2 = .ok (.iload_n 2, 1) := by decide +kernel
theorem dX7_line_3 : decode cX7_line 3 = .ok (.invokevirtual 143, 3) := by decide +kernel
theorem dX7_line_6 : decode cX7_line 6 = .ok (.ifCond .ne 6, 3) := by decide +kernel
theorem dX7_line_9 : decode cX7_line 9 = .ok (.bipush (-101), 2) := by decide +kernel
theorem dX7_line_11 : decode cX7_line 11 = .ok (.ireturn, 1) := by decide +kernel
theorem dX7_line_12 : decode cX7_line 12 = .ok (.bipush 16, 2) := by decide +kernel
theorem dX7_line_14 : decode cX7_line 14 = .ok (.iload_n 2, 1) := by decide +kernel
theorem dX7_line_15 : decode cX7_line 15 = .ok (.imul, 1) := by decide +kernel
theorem dX7_line_16 : decode cX7_line 16 = .ok (.iload_n 1, 1) := by decide +kernel
theorem dX7_line_17 : decode cX7_line 17 = .ok (.iadd, 1) := by decide +kernel
theorem dX7_line_18 : decode cX7_line 18 = .ok (.istore 4, 2) := by decide +kernel
theorem dX7_line_20 : decode cX7_line 20 = .ok (.aload_n 0, 1) := by decide +kernel
theorem dX7_line_21 : decode cX7_line 21 = .ok (.getfield 200, 3) := by decide +kernel
theorem dX7_line_24 : decode cX7_line 24 = .ok (.ifCond .ne 13, 3) := by decide +kernel
theorem dX7_line_27 : decode cX7_line 27 = .ok (.aload_n 0, 1) := by decide +kernel
theorem dX7_line_28 : decode cX7_line 28 = .ok (.getfield 30, 3) := by decide +kernel
theorem dX7_line_31 : decode cX7_line 31 = .ok (.iload 4, 2) := by decide +kernel
theorem dX7_line_33 : decode cX7_line 33 = .ok (.iaload, 1) := by decide +kernel
theorem dX7_line_34 : decode cX7_line 34 = .ok (.ifCond .le 6, 3) := by decide +kernel
theorem dX7_line_37 : decode cX7_line 37 = .ok (.bipush (-103), 2) := by decide +kernel
theorem dX7_line_39 : decode cX7_line 39 = .ok (.ireturn, 1) := by decide +kernel
theorem dX7_line_40 : decode cX7_line 40 = .ok (.aload_n 0, 1) := by decide +kernel
theorem dX7_line_41 : decode cX7_line 41 = .ok (.getfield 27, 3) := by decide +kernel
theorem dX7_line_44 : decode cX7_line 44 = .ok (.iload 4, 2) := by decide +kernel
theorem dX7_line_46 : decode cX7_line 46 = .ok (.baload, 1) := by decide +kernel
theorem dX7_line_47 : decode cX7_line 47 = .ok (.ifCond .eq 7, 3) := by decide +kernel
theorem dX7_line_50 : decode cX7_line 50 = .ok (.iconst 1, 1) := by decide +kernel
theorem dX7_line_51 : decode cX7_line 51 = .ok (.goto 4, 3) := by decide +kernel
theorem dX7_line_54 : decode cX7_line 54 = .ok (.iconst 0, 1) := by decide +kernel
theorem dX7_line_55 : decode cX7_line 55 = .ok (.istore 5, 2) := by decide +kernel
theorem dX7_line_57 : decode cX7_line 57 = .ok (.aload_n 0, 1) := by decide +kernel
theorem dX7_line_58 : decode cX7_line 58 = .ok (.getfield 27, 3) := by decide +kernel
theorem dX7_line_61 : decode cX7_line 61 = .ok (.iload 4, 2) := by decide +kernel
theorem dX7_line_63 : decode cX7_line 63 = .ok (.iload_n 3, 1) := by decide +kernel
theorem dX7_line_64 : decode cX7_line 64 = .ok (.bastore, 1) := by decide +kernel
theorem dX7_line_65 : decode cX7_line 65 = .ok (.iload 5, 2) := by decide +kernel
theorem dX7_line_67 : decode cX7_line 67 = .ok (.ireturn, 1) := by decide +kernel
theorem dX7_wanted_0 : decode cX7_wanted 0 = .ok (.iconst 0, 1) := by decide +kernel
theorem dX7_wanted_1 : decode cX7_wanted 1 = .ok (.istore_n 2, 1) := by decide +kernel
theorem dX7_wanted_2 : decode cX7_wanted 2 = .ok (.iconst 0, 1) := by decide +kernel
theorem dX7_wanted_3 : decode cX7_wanted 3 = .ok (.istore_n 3, 1) := by decide +kernel
theorem dX7_wanted_4 : decode cX7_wanted 4 = .ok (.iload_n 3, 1) := by decide +kernel
theorem dX7_wanted_5 : decode cX7_wanted 5 = .ok (.sipush 256, 3) := by decide +kernel
theorem dX7_wanted_8 : decode cX7_wanted 8 = .ok (.if_icmp .ge 35, 3) := by decide +kernel
theorem dX7_wanted_11 : decode cX7_wanted 11 = .ok (.iload_n 2, 1) := by decide +kernel
theorem dX7_wanted_12 : decode cX7_wanted 12 = .ok (.aload_n 0, 1) := by decide +kernel
theorem dX7_wanted_13 : decode cX7_wanted 13 = .ok (.getfield 27, 3) := by decide +kernel
theorem dX7_wanted_16 : decode cX7_wanted 16 = .ok (.iload_n 3, 1) := by decide +kernel
theorem dX7_wanted_17 : decode cX7_wanted 17 = .ok (.baload, 1) := by decide +kernel
theorem dX7_wanted_18 : decode cX7_wanted 18 = .ok (.ifCond .eq 16, 3) := by decide +kernel
theorem dX7_wanted_21 : decode cX7_wanted 21 = .ok (.aload_n 0, 1) := by decide +kernel
theorem dX7_wanted_22 : decode cX7_wanted 22 = .ok (.iload_n 3, 1) := by decide +kernel
theorem dX7_wanted_23 : decode cX7_wanted 23 = .ok (.iload_n 1, 1) := by decide +kernel
theorem dX7_wanted_24 : decode cX7_wanted 24 = .ok (.invokevirtual 190, 3) := by decide +kernel
theorem dX7_wanted_27 : decode cX7_wanted 27 = .ok (.ifCond .eq 7, 3) := by decide +kernel
theorem dX7_wanted_30 : decode cX7_wanted 30 = .ok (.iconst 1, 1) := by decide +kernel
theorem dX7_wanted_31 : decode cX7_wanted 31 = .ok (.goto 4, 3) := by decide +kernel
theorem dX7_wanted_34 : decode cX7_wanted 34 = .ok (.iconst 0, 1) := by decide +kernel
theorem dX7_wanted_35 : decode cX7_wanted 35 = .ok (.iadd, 1) := by decide +kernel
theorem dX7_wanted_36 : decode cX7_wanted 36 = .ok (.istore_n 2, 1) := by decide +kernel
theorem dX7_wanted_37 : decode cX7_wanted 37 = .ok (.iinc 3 1, 3) := by decide +kernel
theorem dX7_wanted_40 : decode cX7_wanted 40 = .ok (.goto (-36), 3) := by decide +kernel
theorem dX7_wanted_43 : decode cX7_wanted 43 = .ok (.iload_n 2, 1) := by decide +kernel
theorem dX7_wanted_44 : decode cX7_wanted 44 = .ok (.ireturn, 1) := by decide +kernel
theorem dX7_make_0 : decode cX7_make 0 = .ok (.aload_n 0, 1) := by decide +kernel
theorem dX7_make_1 : decode cX7_make 1 = .ok (.getfield 200, 3) := by decide +kernel
theorem dX7_make_4 : decode cX7_make 4 = .ok (.ifCond .eq 6, 3) := by decide +kernel
theorem dX7_make_7 : decode cX7_make 7 = .ok (.bipush (-103), 2) := by decide +kernel
theorem dX7_make_9 : decode cX7_make 9 = .ok (.ireturn, 1) := by decide +kernel
theorem dX7_make_10 : decode cX7_make 10 = .ok (.iconst 0, 1) := by decide +kernel
theorem dX7_make_11 : decode cX7_make 11 = .ok (.istore_n 1, 1) := by decide +kernel
theorem dX7_make_12 : decode cX7_make 12 = .ok (.iconst 0, 1) := by decide +kernel
theorem dX7_make_13 : decode cX7_make 13 = .ok (.istore_n 2, 1) := by decide +kernel
theorem dX7_make_14 : decode cX7_make 14 = .ok (.iload_n 2, 1) := by decide +kernel
theorem dX7_make_15 : decode cX7_make 15 = .ok (.aload_n 0, 1) := by decide +kernel
theorem dX7_make_16 : decode cX7_make 16 = .ok (.getfield 130, 3) := by decide +kernel
theorem dX7_make_19 : decode cX7_make 19 = .ok (.if_icmp .ge 25, 3) := by decide +kernel
theorem dX7_make_22 : decode cX7_make 22 = .ok (.iload_n 1, 1) := by decide +kernel
theorem dX7_make_23 : decode cX7_make 23 = .ok (.aload_n 0, 1) := by decide +kernel
theorem dX7_make_24 : decode cX7_make 24 = .ok (.iload_n 2, 1) := by decide +kernel
theorem dX7_make_25 : decode cX7_make 25 = .ok (.invokevirtual 203, 3) := by decide +kernel
theorem dX7_make_28 : decode cX7_make 28 = .ok (.ifCond .le 7, 3) := by decide +kernel
theorem dX7_make_31 : decode cX7_make 31 = .ok (.iconst 1, 1) := by decide +kernel
theorem dX7_make_32 : decode cX7_make 32 = .ok (.goto 4, 3) := by decide +kernel
theorem dX7_make_35 : decode cX7_make 35 = .ok (.iconst 0, 1) := by decide +kernel
theorem dX7_make_36 : decode cX7_make 36 = .ok (.iadd, 1) := by decide +kernel
theorem dX7_make_37 : decode cX7_make 37 = .ok (.istore_n 1, 1) := by decide +kernel
theorem dX7_make_38 : decode cX7_make 38 = .ok (.iinc 2 1, 3) := by decide +kernel
theorem dX7_make_41 : decode cX7_make 41 = .ok (.goto (-27), 3) := by decide +kernel
theorem dX7_make_44 : decode cX7_make 44 = .ok (.iload_n 1, 1) := by decide +kernel
theorem dX7_make_45 : decode cX7_make 45 = .ok (.ifCond .ne 6, 3) := by decide +kernel
theorem dX7_make_48 : decode cX7_make 48 = .ok (.bipush (-102), 2) := by decide +kernel
theorem dX7_make_50 : decode cX7_make 50 = .ok (.ireturn, 1) := by decide +kernel
theorem dX7_make_51 : decode cX7_make 51 = .ok (.aload_n 0, 1) := by decide +kernel
theorem dX7_make_52 : decode cX7_make 52 = .ok (.getfield 197, 3) := by decide +kernel
theorem dX7_make_55 : decode cX7_make 55 = .ok (.bipush 60, 2) := by decide +kernel
theorem dX7_make_57 : decode cX7_make 57 = .ok (.if_icmp .ne 6, 3) := by decide +kernel
theorem dX7_make_60 : decode cX7_make 60 = .ok (.bipush (-104), 2) := by decide +kernel
theorem dX7_make_62 : decode cX7_make 62 = .ok (.ireturn, 1) := by decide +kernel
theorem dX7_make_63 : decode cX7_make 63 = .ok (.aload_n 0, 1) := by decide +kernel
theorem dX7_make_64 : decode cX7_make 64 = .ok (.getfield 197, 3) := by decide +kernel
theorem dX7_make_67 : decode cX7_make 67 = .ok (.istore_n 2, 1) := by decide +kernel
theorem dX7_make_68 : decode cX7_make 68 = .ok (.aload_n 0, 1) := by decide +kernel
theorem dX7_make_69 : decode cX7_make 69 = .ok (.getfield 63, 3) := by decide +kernel
theorem dX7_make_72 : decode cX7_make 72 = .ok (.iload_n 2, 1) := by decide +kernel
theorem dX7_make_73 : decode cX7_make 73 = .ok (.iconst 0, 1) := by decide +kernel
theorem dX7_make_74 : decode cX7_make 74 = .ok (.iastore, 1) := by decide +kernel
theorem dX7_make_75 : decode cX7_make 75 = .ok (.aload_n 0, 1) := by decide +kernel
theorem dX7_make_76 : decode cX7_make 76 = .ok (.getfield 57, 3) := by decide +kernel
theorem dX7_make_79 : decode cX7_make 79 = .ok (.iload_n 2, 1) := by decide +kernel
theorem dX7_make_80 : decode cX7_make 80 = .ok (.aload_n 0, 1) := by decide +kernel
theorem dX7_make_81 : decode cX7_make 81 = .ok (.getfield 174, 3) := by decide +kernel
theorem dX7_make_84 : decode cX7_make 84 = .ok (.iastore, 1) := by decide +kernel
theorem dX7_make_85 : decode cX7_make 85 = .ok (.aload_n 0, 1) := by decide +kernel
theorem dX7_make_86 : decode cX7_make 86 = .ok (.getfield 60, 3) := by decide +kernel
theorem dX7_make_89 : decode cX7_make 89 = .ok (.iload_n 2, 1) := by decide +kernel
theorem dX7_make_90 : decode cX7_make 90 = .ok (.aload_n 0, 1) := by decide +kernel
theorem dX7_make_91 : decode cX7_make 91 = .ok (.getfield 54, 3) := by decide +kernel
theorem dX7_make_94 : decode cX7_make 94 = .ok (.iconst 4, 1) := by decide +kernel
theorem dX7_make_95 : decode cX7_make 95 = .ok (.iaload, 1) := by decide +kernel
theorem dX7_make_96 : decode cX7_make 96 = .ok (.iastore, 1) := by decide +kernel
theorem dX7_make_97 : decode cX7_make 97 = .ok (.aload_n 0, 1) := by decide +kernel
theorem dX7_make_98 : decode cX7_make 98 = .ok (.getfield 66, 3) := by decide +kernel
theorem dX7_make_101 : decode cX7_make 101 = .ok (.iload_n 2, 1) := by decide +kernel
theorem dX7_make_102 : decode cX7_make 102 = .ok (.iconst 0, 1) := by decide +kernel
theorem dX7_make_103 : decode cX7_make 103 = .ok (.bastore, 1) := by decide +kernel
theorem dX7_make_104 : decode cX7_make 104 = .ok (.iconst 0, 1) := by decide +kernel
theorem dX7_make_105 : decode cX7_make 105 = .ok (.istore_n 3, 1) := by decide +kernel
theorem dX7_make_106 : decode cX7_make 106 = .ok (.iload_n 3, 1) := by decide +kernel
theorem dX7_make_107 : decode cX7_make 107 = .ok (.aload_n 0, 1) := by decide +kernel
theorem dX7_make_108 : decode cX7_make 108 = .ok (.getfield 130, 3) := by decide +kernel
theorem dX7_make_111 : decode cX7_make 111 = .ok (.if_icmp .ge 160, 3) := by decide +kernel
theorem dX7_make_114 : decode cX7_make 114 = .ok (.aload_n 0, 1) := by decide +kernel
theorem dX7_make_115 : decode cX7_make 115 = .ok (.iload_n 3, 1) := by decide +kernel
theorem dX7_make_116 : decode cX7_make 116 = .ok (.invokevirtual 203, 3) := by decide +kernel
theorem dX7_make_119 : decode cX7_make 119 = .ok (.ifCond .le 146, 3) := by decide +kernel
theorem dX7_make_122 : decode cX7_make 122 = .ok (.bipush 12, 2) := by decide +kernel
theorem dX7_make_124 : decode cX7_make 124 = .ok (.iload_n 2, 1) := by decide +kernel
theorem dX7_make_125 : decode cX7_make 125 = .ok (.imul, 1) := by decide +kernel
theorem dX7_make_126 : decode cX7_make 126 = .ok (.aload_n 0, 1) := by decide +kernel
theorem dX7_make_127 : decode cX7_make 127 = .ok (.getfield 63, 3) := by decide +kernel
theorem dX7_make_130 : decode cX7_make 130 = .ok (.iload_n 2, 1) := by decide +kernel
theorem dX7_make_131 : decode cX7_make 131 = .ok (.iaload, 1) := by decide +kernel
theorem dX7_make_132 : decode cX7_make 132 = .ok (.iadd, 1) := by decide +kernel
theorem dX7_make_133 : decode cX7_make 133 = .ok (.istore 4, 2) := by decide +kernel
theorem dX7_make_135 : decode cX7_make 135 = .ok (.aload_n 0, 1) := by decide +kernel
theorem dX7_make_136 : decode cX7_make 136 = .ok (.getfield 69, 3) := by decide +kernel
theorem dX7_make_139 : decode cX7_make 139 = .ok (.iload 4, 2) := by decide +kernel
theorem dX7_make_141 : decode cX7_make 141 = .ok (.iload_n 3, 1) := by decide +kernel
theorem dX7_make_142 : decode cX7_make 142 = .ok (.iastore, 1) := by decide +kernel
theorem dX7_make_143 : decode cX7_make 143 = .ok (.aload_n 0, 1) := by decide +kernel
theorem dX7_make_144 : decode cX7_make 144 = .ok (.getfield 72, 3) := by decide +kernel
theorem dX7_make_147 : decode cX7_make 147 = .ok (.iload 4, 2) := by decide +kernel
theorem dX7_make_149 : decode cX7_make 149 = .ok (.iconst 0, 1) := by decide +kernel
theorem dX7_make_150 : decode cX7_make 150 = .ok (.iastore, 1) := by decide +kernel
theorem dX7_make_151 : decode cX7_make 151 = .ok (.aload_n 0, 1) := by decide +kernel
theorem dX7_make_152 : decode cX7_make 152 = .ok (.getfield 75, 3) := by decide +kernel
theorem dX7_make_155 : decode cX7_make 155 = .ok (.iload 4, 2) := by decide +kernel
theorem dX7_make_157 : decode cX7_make 157 = .ok (.aload_n 0, 1) := by decide +kernel
theorem dX7_make_158 : decode cX7_make 158 = .ok (.iload_n 3, 1) := by decide +kernel
theorem dX7_make_159 : decode cX7_make 159 = .ok (.invokevirtual 203, 3) := by decide +kernel
theorem dX7_make_162 : decode cX7_make 162 = .ok (.iastore, 1) := by decide +kernel
theorem dX7_make_163 : decode cX7_make 163 = .ok (.aload_n 0, 1) := by decide +kernel
theorem dX7_make_164 : decode cX7_make 164 = .ok (.getfield 78, 3) := by decide +kernel
theorem dX7_make_167 : decode cX7_make 167 = .ok (.iload 4, 2) := by decide +kernel
theorem dX7_make_169 : decode cX7_make 169 = .ok (.iconst 0, 1) := by decide +kernel
theorem dX7_make_170 : decode cX7_make 170 = .ok (.iastore, 1) := by decide +kernel
theorem dX7_make_171 : decode cX7_make 171 = .ok (.aload_n 0, 1) := by decide +kernel
theorem dX7_make_172 : decode cX7_make 172 = .ok (.getfield 84, 3) := by decide +kernel
theorem dX7_make_175 : decode cX7_make 175 = .ok (.iload 4, 2) := by decide +kernel
theorem dX7_make_177 : decode cX7_make 177 = .ok (.lconst 0, 1) := by decide +kernel
theorem dX7_make_178 : decode cX7_make 178 = .ok (.lastore, 1) := by decide +kernel
theorem dX7_make_179 : decode cX7_make 179 = .ok (.aload_n 0, 1) := by decide +kernel
theorem dX7_make_180 : decode cX7_make 180 = .ok (.getfield 88, 3) := by decide +kernel
theorem dX7_make_183 : decode cX7_make 183 = .ok (.iload 4, 2) := by decide +kernel
theorem dX7_make_185 : decode cX7_make 185 = .ok (.lconst 0, 1) := by decide +kernel
theorem dX7_make_186 : decode cX7_make 186 = .ok (.lastore, 1) := by decide +kernel
theorem dX7_make_187 : decode cX7_make 187 = .ok (.aload_n 0, 1) := by decide +kernel
theorem dX7_make_188 : decode cX7_make 188 = .ok (.getfield 91, 3) := by decide +kernel
theorem dX7_make_191 : decode cX7_make 191 = .ok (.iload 4, 2) := by decide +kernel
theorem dX7_make_193 : decode cX7_make 193 = .ok (.lconst 0, 1) := by decide +kernel
theorem dX7_make_194 : decode cX7_make 194 = .ok (.lastore, 1) := by decide +kernel
theorem dX7_make_195 : decode cX7_make 195 = .ok (.aload_n 0, 1) := by decide +kernel
theorem dX7_make_196 : decode cX7_make 196 = .ok (.getfield 94, 3) := by decide +kernel
theorem dX7_make_199 : decode cX7_make 199 = .ok (.iload 4, 2) := by decide +kernel
theorem dX7_make_201 : decode cX7_make 201 = .ok (.lconst 0, 1) := by decide +kernel
theorem dX7_make_202 : decode cX7_make 202 = .ok (.lastore, 1) := by decide +kernel
theorem dX7_make_203 : decode cX7_make 203 = .ok (.aload_n 0, 1) := by decide +kernel
theorem dX7_make_204 : decode cX7_make 204 = .ok (.getfield 97, 3) := by decide +kernel
theorem dX7_make_207 : decode cX7_make 207 = .ok (.iload 4, 2) := by decide +kernel
theorem dX7_make_209 : decode cX7_make 209 = .ok (.lconst 0, 1) := by decide +kernel
theorem dX7_make_210 : decode cX7_make 210 = .ok (.lastore, 1) := by decide +kernel
theorem dX7_make_211 : decode cX7_make 211 = .ok (.aload_n 0, 1) := by decide +kernel
theorem dX7_make_212 : decode cX7_make 212 = .ok (.getfield 100, 3) := by decide +kernel
theorem dX7_make_215 : decode cX7_make 215 = .ok (.iload 4, 2) := by decide +kernel
theorem dX7_make_217 : decode cX7_make 217 = .ok (.lconst 0, 1) := by decide +kernel
theorem dX7_make_218 : decode cX7_make 218 = .ok (.lastore, 1) := by decide +kernel
theorem dX7_make_219 : decode cX7_make 219 = .ok (.aload_n 0, 1) := by decide +kernel
theorem dX7_make_220 : decode cX7_make 220 = .ok (.getfield 103, 3) := by decide +kernel
theorem dX7_make_223 : decode cX7_make 223 = .ok (.iload 4, 2) := by decide +kernel
theorem dX7_make_225 : decode cX7_make 225 = .ok (.lconst 0, 1) := by decide +kernel
theorem dX7_make_226 : decode cX7_make 226 = .ok (.lastore, 1) := by decide +kernel
theorem dX7_make_227 : decode cX7_make 227 = .ok (.iconst 0, 1) := by decide +kernel
theorem dX7_make_228 : decode cX7_make 228 = .ok (.istore 5, 2) := by decide +kernel
theorem dX7_make_230 : decode cX7_make 230 = .ok (.iload 5, 2) := by decide +kernel
theorem dX7_make_232 : decode cX7_make 232 = .ok (.iconst 4, 1) := by decide +kernel
theorem dX7_make_233 : decode cX7_make 233 = .ok (.if_icmp .ge 22, 3) := by decide +kernel
theorem dX7_make_236 : decode cX7_make 236 = .ok (.aload_n 0, 1) := by decide +kernel
theorem dX7_make_237 : decode cX7_make 237 = .ok (.getfield 109, 3) := by decide +kernel
theorem dX7_make_240 : decode cX7_make 240 = .ok (.iconst 4, 1) := by decide +kernel
theorem dX7_make_241 : decode cX7_make 241 = .ok (.iload 4, 2) := by decide +kernel
theorem dX7_make_243 : decode cX7_make 243 = .ok (.imul, 1) := by decide +kernel
theorem dX7_make_244 : decode cX7_make 244 = .ok (.iload 5, 2) := by decide +kernel
theorem dX7_make_246 : decode cX7_make 246 = .ok (.iadd, 1) := by decide +kernel
theorem dX7_make_247 : decode cX7_make 247 = .ok (.lconst 0, 1) := by decide +kernel
theorem dX7_make_248 : decode cX7_make 248 = .ok (.lastore, 1) := by decide +kernel
theorem dX7_make_249 : decode cX7_make 249 = .ok (.iinc 5 1, 3) := by decide +kernel
theorem dX7_make_252 : decode cX7_make 252 = .ok (.goto (-22), 3) := by decide +kernel
theorem dX7_make_255 : decode cX7_make 255 = .ok (.aload_n 0, 1) := by decide +kernel
theorem dX7_make_256 : decode cX7_make 256 = .ok (.getfield 63, 3) := by decide +kernel
theorem dX7_make_259 : decode cX7_make 259 = .ok (.iload_n 2, 1) := by decide +kernel
theorem dX7_make_260 : decode cX7_make 260 = .ok (.dup2, 1) := by decide +kernel
theorem dX7_make_261 : decode cX7_make 261 = .ok (.iaload, 1) := by decide +kernel
theorem dX7_make_262 : decode cX7_make 262 = .ok (.iconst 1, 1) := by decide +kernel
theorem dX7_make_263 : decode cX7_make 263 = .ok (.iadd, 1) := by decide +kernel
theorem dX7_make_264 : decode cX7_make 264 = .ok (.iastore, 1) := by decide +kernel
theorem dX7_make_265 : decode cX7_make 265 = .ok (.iinc 3 1, 3) := by decide +kernel
theorem dX7_make_268 : decode cX7_make 268 = .ok (.goto (-162), 3) := by decide +kernel
theorem dX7_make_271 : decode cX7_make 271 = .ok (.aload_n 0, 1) := by decide +kernel
theorem dX7_make_272 : decode cX7_make 272 = .ok (.dup, 1) := by decide +kernel
theorem dX7_make_273 : decode cX7_make 273 = .ok (.getfield 197, 3) := by decide +kernel
theorem dX7_make_276 : decode cX7_make 276 = .ok (.iconst 1, 1) := by decide +kernel
theorem dX7_make_277 : decode cX7_make 277 = .ok (.iadd, 1) := by decide +kernel
theorem dX7_make_278 : decode cX7_make 278 = .ok (.putfield 197, 3) := by decide +kernel
theorem dX7_make_281 : decode cX7_make 281 = .ok (.aload_n 0, 1) := by decide +kernel
theorem dX7_make_282 : decode cX7_make 282 = .ok (.iconst 1, 1) := by decide +kernel
theorem dX7_make_283 : decode cX7_make 283 = .ok (.putfield 200, 3) := by decide +kernel
theorem dX7_make_286 : decode cX7_make 286 = .ok (.aload_n 0, 1) := by decide +kernel
theorem dX7_make_287 : decode cX7_make 287 = .ok (.iconst 1, 1) := by decide +kernel
theorem dX7_make_288 : decode cX7_make 288 = .ok (.putfield 139, 3) := by decide +kernel
theorem dX7_make_291 : decode cX7_make 291 = .ok (.iload_n 1, 1) := by decide +kernel
theorem dX7_make_292 : decode cX7_make 292 = .ok (.ireturn, 1) := by decide +kernel
theorem dX7_object_0 : decode cX7_object 0 = .ok (.aload_n 0, 1) := by decide +kernel
theorem dX7_object_1 : decode cX7_object 1 = .ok (.getfield 200, 3) := by decide +kernel
theorem dX7_object_4 : decode cX7_object 4 = .ok (.ifCond .ne 6, 3) := by decide +kernel
theorem dX7_object_7 : decode cX7_object 7 = .ok (.bipush (-103), 2) := by decide +kernel
theorem dX7_object_9 : decode cX7_object 9 = .ok (.ireturn, 1) := by decide +kernel
theorem dX7_object_10 : decode cX7_object 10 = .ok (.aload_n 0, 1) := by decide +kernel
theorem dX7_object_11 : decode cX7_object 11 = .ok (.getfield 197, 3) := by decide +kernel
theorem dX7_object_14 : decode cX7_object 14 = .ok (.iconst 1, 1) := by decide +kernel
theorem dX7_object_15 : decode cX7_object 15 = .ok (.isub, 1) := by decide +kernel
theorem dX7_object_16 : decode cX7_object 16 = .ok (.istore_n 2, 1) := by decide +kernel
theorem dX7_object_17 : decode cX7_object 17 = .ok (.iload_n 1, 1) := by decide +kernel
theorem dX7_object_18 : decode cX7_object 18 = .ok (.i2l, 1) := by decide +kernel
theorem dX7_object_19 : decode cX7_object 19 = .ok (.lconst 0, 1) := by decide +kernel
theorem dX7_object_20 : decode cX7_object 20 = .ok (.aload_n 0, 1) := by decide +kernel
theorem dX7_object_21 : decode cX7_object 21 = .ok (.getfield 63, 3) := by decide +kernel
theorem dX7_object_24 : decode cX7_object 24 = .ok (.iload_n 2, 1) := by decide +kernel
theorem dX7_object_25 : decode cX7_object 25 = .ok (.iaload, 1) := by decide +kernel
theorem dX7_object_26 : decode cX7_object 26 = .ok (.iconst 1, 1) := by decide +kernel
theorem dX7_object_27 : decode cX7_object 27 = .ok (.isub, 1) := by decide +kernel
theorem dX7_object_28 : decode cX7_object 28 = .ok (.i2l, 1) := by decide +kernel
theorem dX7_object_29 : decode cX7_object 29 = .ok (.invokestatic 133, 3) := by decide +kernel
theorem dX7_object_32 : decode cX7_object 32 = .ok (.ifCond .ne 6, 3) := by decide +kernel
theorem dX7_object_35 : decode cX7_object 35 = .ok (.bipush (-101), 2) := by decide +kernel
theorem dX7_object_37 : decode cX7_object 37 = .ok (.ireturn, 1) := by decide +kernel
theorem dX7_object_38 : decode cX7_object 38 = .ok (.aload_n 0, 1) := by decide +kernel
theorem dX7_object_39 : decode cX7_object 39 = .ok (.getfield 72, 3) := by decide +kernel
theorem dX7_object_42 : decode cX7_object 42 = .ok (.bipush 12, 2) := by decide +kernel
theorem dX7_object_44 : decode cX7_object 44 = .ok (.iload_n 2, 1) := by decide +kernel
theorem dX7_object_45 : decode cX7_object 45 = .ok (.imul, 1) := by decide +kernel
theorem dX7_object_46 : decode cX7_object 46 = .ok (.iload_n 1, 1) := by decide +kernel
theorem dX7_object_47 : decode cX7_object 47 = .ok (.iadd, 1) := by decide +kernel
theorem dX7_object_48 : decode cX7_object 48 = .ok (.iaload, 1) := by decide +kernel
theorem dX7_object_49 : decode cX7_object 49 = .ok (.ifCond .ne 23, 3) := by decide +kernel
theorem dX7_object_52 : decode cX7_object 52 = .ok (.aload_n 0, 1) := by decide +kernel
theorem dX7_object_53 : decode cX7_object 53 = .ok (.getfield 174, 3) := by decide +kernel
theorem dX7_object_56 : decode cX7_object 56 = .ok (.aload_n 0, 1) := by decide +kernel
theorem dX7_object_57 : decode cX7_object 57 = .ok (.getfield 57, 3) := by decide +kernel
theorem dX7_object_60 : decode cX7_object 60 = .ok (.iload_n 2, 1) := by decide +kernel
theorem dX7_object_61 : decode cX7_object 61 = .ok (.iaload, 1) := by decide +kernel
theorem dX7_object_62 : decode cX7_object 62 = .ok (.aload_n 0, 1) := by decide +kernel
theorem dX7_object_63 : decode cX7_object 63 = .ok (.getfield 60, 3) := by decide +kernel
theorem dX7_object_66 : decode cX7_object 66 = .ok (.iload_n 2, 1) := by decide +kernel
theorem dX7_object_67 : decode cX7_object 67 = .ok (.iaload, 1) := by decide +kernel
theorem dX7_object_68 : decode cX7_object 68 = .ok (.iadd, 1) := by decide +kernel
theorem dX7_object_69 : decode cX7_object 69 = .ok (.if_icmp .le 6, 3) := by decide +kernel
theorem dX7_object_72 : decode cX7_object 72 = .ok (.bipush (-103), 2) := by decide +kernel
theorem dX7_object_74 : decode cX7_object 74 = .ok (.ireturn, 1) := by decide +kernel
theorem dX7_object_75 : decode cX7_object 75 = .ok (.aload_n 0, 1) := by decide +kernel
theorem dX7_object_76 : decode cX7_object 76 = .ok (.getfield 72, 3) := by decide +kernel
theorem dX7_object_79 : decode cX7_object 79 = .ok (.bipush 12, 2) := by decide +kernel
theorem dX7_object_81 : decode cX7_object 81 = .ok (.iload_n 2, 1) := by decide +kernel
theorem dX7_object_82 : decode cX7_object 82 = .ok (.imul, 1) := by decide +kernel
theorem dX7_object_83 : decode cX7_object 83 = .ok (.iload_n 1, 1) := by decide +kernel
theorem dX7_object_84 : decode cX7_object 84 = .ok (.iadd, 1) := by decide +kernel
theorem dX7_object_85 : decode cX7_object 85 = .ok (.iconst 1, 1) := by decide +kernel
theorem dX7_object_86 : decode cX7_object 86 = .ok (.iastore, 1) := by decide +kernel
theorem dX7_object_87 : decode cX7_object 87 = .ok (.iconst 1, 1) := by decide +kernel
theorem dX7_object_88 : decode cX7_object 88 = .ok (.ireturn, 1) := by decide +kernel
theorem dX7_close_0 : decode cX7_close 0 = .ok (.aload_n 0, 1) := by decide +kernel
theorem dX7_close_1 : decode cX7_close 1 = .ok (.getfield 197, 3) := by decide +kernel
theorem dX7_close_4 : decode cX7_close 4 = .ok (.iconst 1, 1) := by decide +kernel
theorem dX7_close_5 : decode cX7_close 5 = .ok (.isub, 1) := by decide +kernel
theorem dX7_close_6 : decode cX7_close 6 = .ok (.istore_n 1, 1) := by decide +kernel
theorem dX7_close_7 : decode cX7_close 7 = .ok (.iconst 1, 1) := by decide +kernel
theorem dX7_close_8 : decode cX7_close 8 = .ok (.istore_n 2, 1) := by decide +kernel
theorem dX7_close_9 : decode cX7_close 9 = .ok (.iconst 0, 1) := by decide +kernel
theorem dX7_close_10 : decode cX7_close 10 = .ok (.istore_n 3, 1) := by decide +kernel
theorem dX7_close_11 : decode cX7_close 11 = .ok (.iload_n 3, 1) := by decide +kernel
theorem dX7_close_12 : decode cX7_close 12 = .ok (.aload_n 0, 1) := by decide +kernel
theorem dX7_close_13 : decode cX7_close 13 = .ok (.getfield 63, 3) := by decide +kernel
theorem dX7_close_16 : decode cX7_close 16 = .ok (.iload_n 1, 1) := by decide +kernel
theorem dX7_close_17 : decode cX7_close 17 = .ok (.iaload, 1) := by decide +kernel
theorem dX7_close_18 : decode cX7_close 18 = .ok (.if_icmp .ge 44, 3) := by decide +kernel
theorem dX7_close_21 : decode cX7_close 21 = .ok (.aload_n 0, 1) := by decide +kernel
theorem dX7_close_22 : decode cX7_close 22 = .ok (.getfield 72, 3) := by decide +kernel
theorem dX7_close_25 : decode cX7_close 25 = .ok (.bipush 12, 2) := by decide +kernel
theorem dX7_close_27 : decode cX7_close 27 = .ok (.iload_n 1, 1) := by decide +kernel
theorem dX7_close_28 : decode cX7_close 28 = .ok (.imul, 1) := by decide +kernel
theorem dX7_close_29 : decode cX7_close 29 = .ok (.iload_n 3, 1) := by decide +kernel
theorem dX7_close_30 : decode cX7_close 30 = .ok (.iadd, 1) := by decide +kernel
theorem dX7_close_31 : decode cX7_close 31 = .ok (.iaload, 1) := by decide +kernel
theorem dX7_close_32 : decode cX7_close 32 = .ok (.istore 4, 2) := by decide +kernel
theorem dX7_close_34 : decode cX7_close 34 = .ok (.iload_n 2, 1) := by decide +kernel
theorem dX7_close_35 : decode cX7_close 35 = .ok (.ifCond .eq 19, 3) := by decide +kernel
theorem dX7_close_38 : decode cX7_close 38 = .ok (.iload 4, 2) := by decide +kernel
theorem dX7_close_40 : decode cX7_close 40 = .ok (.iconst 3, 1) := by decide +kernel
theorem dX7_close_41 : decode cX7_close 41 = .ok (.if_icmp .eq 9, 3) := by decide +kernel
theorem dX7_close_44 : decode cX7_close 44 = .ok (.iload 4, 2) := by decide +kernel
theorem dX7_close_46 : decode cX7_close 46 = .ok (.iconst 4, 1) := by decide +kernel
theorem dX7_close_47 : decode cX7_close 47 = .ok (.if_icmp .ne 7, 3) := by decide +kernel
theorem dX7_close_50 : decode cX7_close 50 = .ok (.iconst 1, 1) := by decide +kernel
theorem dX7_close_51 : decode cX7_close 51 = .ok (.goto 4, 3) := by decide +kernel
theorem dX7_close_54 : decode cX7_close 54 = .ok (.iconst 0, 1) := by decide +kernel
theorem dX7_close_55 : decode cX7_close 55 = .ok (.istore_n 2, 1) := by decide +kernel
theorem dX7_close_56 : decode cX7_close 56 = .ok (.iinc 3 1, 3) := by decide +kernel
theorem dX7_close_59 : decode cX7_close 59 = .ok (.goto (-48), 3) := by decide +kernel
theorem dX7_close_62 : decode cX7_close 62 = .ok (.iload_n 2, 1) := by decide +kernel
theorem dX7_close_63 : decode cX7_close 63 = .ok (.ifCond .eq 30, 3) := by decide +kernel
theorem dX7_close_66 : decode cX7_close 66 = .ok (.aload_n 0, 1) := by decide +kernel
theorem dX7_close_67 : decode cX7_close 67 = .ok (.iconst 0, 1) := by decide +kernel
theorem dX7_close_68 : decode cX7_close 68 = .ok (.putfield 200, 3) := by decide +kernel
theorem dX7_close_71 : decode cX7_close 71 = .ok (.iconst 0, 1) := by decide +kernel
theorem dX7_close_72 : decode cX7_close 72 = .ok (.istore_n 3, 1) := by decide +kernel
theorem dX7_close_73 : decode cX7_close 73 = .ok (.iload_n 3, 1) := by decide +kernel
theorem dX7_close_74 : decode cX7_close 74 = .ok (.sipush 256, 3) := by decide +kernel
theorem dX7_close_77 : decode cX7_close 77 = .ok (.if_icmp .ge 16, 3) := by decide +kernel
theorem dX7_close_80 : decode cX7_close 80 = .ok (.aload_n 0, 1) := by decide +kernel
theorem dX7_close_81 : decode cX7_close 81 = .ok (.getfield 27, 3) := by decide +kernel
theorem dX7_close_84 : decode cX7_close 84 = .ok (.iload_n 3, 1) := by decide +kernel
theorem dX7_close_85 : decode cX7_close 85 = .ok (.iconst 0, 1) := by decide +kernel
theorem dX7_close_86 : decode cX7_close 86 = .ok (.bastore, 1) := by decide +kernel
theorem dX7_close_87 : decode cX7_close 87 = .ok (.iinc 3 1, 3) := by decide +kernel
theorem dX7_close_90 : decode cX7_close 90 = .ok (.goto (-17), 3) := by decide +kernel
theorem dX7_close_93 : decode cX7_close 93 = .ok (.return_, 1) := by decide +kernel
theorem dX7_hear_0 : decode cX7_hear 0 = .ok (.aload_n 0, 1) := by decide +kernel
theorem dX7_hear_1 : decode cX7_hear 1 = .ok (.getfield 200, 3) := by decide +kernel
theorem dX7_hear_4 : decode cX7_hear 4 = .ok (.ifCond .ne 6, 3) := by decide +kernel
theorem dX7_hear_7 : decode cX7_hear 7 = .ok (.bipush (-103), 2) := by decide +kernel
theorem dX7_hear_9 : decode cX7_hear 9 = .ok (.ireturn, 1) := by decide +kernel
theorem dX7_hear_10 : decode cX7_hear 10 = .ok (.aload_n 0, 1) := by decide +kernel
theorem dX7_hear_11 : decode cX7_hear 11 = .ok (.getfield 197, 3) := by decide +kernel
theorem dX7_hear_14 : decode cX7_hear 14 = .ok (.iconst 1, 1) := by decide +kernel
theorem dX7_hear_15 : decode cX7_hear 15 = .ok (.isub, 1) := by decide +kernel
theorem dX7_hear_16 : decode cX7_hear 16 = .ok (.istore_n 3, 1) := by decide +kernel
theorem dX7_hear_17 : decode cX7_hear 17 = .ok (.iload_n 1, 1) := by decide +kernel
theorem dX7_hear_18 : decode cX7_hear 18 = .ok (.i2l, 1) := by decide +kernel
theorem dX7_hear_19 : decode cX7_hear 19 = .ok (.lconst 0, 1) := by decide +kernel
theorem dX7_hear_20 : decode cX7_hear 20 = .ok (.aload_n 0, 1) := by decide +kernel
theorem dX7_hear_21 : decode cX7_hear 21 = .ok (.getfield 63, 3) := by decide +kernel
theorem dX7_hear_24 : decode cX7_hear 24 = .ok (.iload_n 3, 1) := by decide +kernel
theorem dX7_hear_25 : decode cX7_hear 25 = .ok (.iaload, 1) := by decide +kernel
theorem dX7_hear_26 : decode cX7_hear 26 = .ok (.iconst 1, 1) := by decide +kernel
theorem dX7_hear_27 : decode cX7_hear 27 = .ok (.isub, 1) := by decide +kernel
theorem dX7_hear_28 : decode cX7_hear 28 = .ok (.i2l, 1) := by decide +kernel
theorem dX7_hear_29 : decode cX7_hear 29 = .ok (.invokestatic 133, 3) := by decide +kernel
theorem dX7_hear_32 : decode cX7_hear 32 = .ok (.ifCond .ne 6, 3) := by decide +kernel
theorem dX7_hear_35 : decode cX7_hear 35 = .ok (.bipush (-101), 2) := by decide +kernel
theorem dX7_hear_37 : decode cX7_hear 37 = .ok (.ireturn, 1) := by decide +kernel
theorem dX7_hear_38 : decode cX7_hear 38 = .ok (.aload_n 0, 1) := by decide +kernel
theorem dX7_hear_39 : decode cX7_hear 39 = .ok (.getfield 72, 3) := by decide +kernel
theorem dX7_hear_42 : decode cX7_hear 42 = .ok (.bipush 12, 2) := by decide +kernel
theorem dX7_hear_44 : decode cX7_hear 44 = .ok (.iload_n 3, 1) := by decide +kernel
theorem dX7_hear_45 : decode cX7_hear 45 = .ok (.imul, 1) := by decide +kernel
theorem dX7_hear_46 : decode cX7_hear 46 = .ok (.iload_n 1, 1) := by decide +kernel
theorem dX7_hear_47 : decode cX7_hear 47 = .ok (.iadd, 1) := by decide +kernel
theorem dX7_hear_48 : decode cX7_hear 48 = .ok (.iaload, 1) := by decide +kernel
theorem dX7_hear_49 : decode cX7_hear 49 = .ok (.iconst 1, 1) := by decide +kernel
theorem dX7_hear_50 : decode cX7_hear 50 = .ok (.if_icmp .eq 6, 3) := by decide +kernel
theorem dX7_hear_53 : decode cX7_hear 53 = .ok (.bipush (-103), 2) := by decide +kernel
theorem dX7_hear_55 : decode cX7_hear 55 = .ok (.ireturn, 1) := by decide +kernel
theorem dX7_hear_56 : decode cX7_hear 56 = .ok (.aload_n 0, 1) := by decide +kernel
theorem dX7_hear_57 : decode cX7_hear 57 = .ok (.getfield 72, 3) := by decide +kernel
theorem dX7_hear_60 : decode cX7_hear 60 = .ok (.bipush 12, 2) := by decide +kernel
theorem dX7_hear_62 : decode cX7_hear 62 = .ok (.iload_n 3, 1) := by decide +kernel
theorem dX7_hear_63 : decode cX7_hear 63 = .ok (.imul, 1) := by decide +kernel
theorem dX7_hear_64 : decode cX7_hear 64 = .ok (.iload_n 1, 1) := by decide +kernel
theorem dX7_hear_65 : decode cX7_hear 65 = .ok (.iadd, 1) := by decide +kernel
theorem dX7_hear_66 : decode cX7_hear 66 = .ok (.iload_n 2, 1) := by decide +kernel
theorem dX7_hear_67 : decode cX7_hear 67 = .ok (.ifCond .eq 7, 3) := by decide +kernel
theorem dX7_hear_70 : decode cX7_hear 70 = .ok (.iconst 3, 1) := by decide +kernel
theorem dX7_hear_71 : decode cX7_hear 71 = .ok (.goto 4, 3) := by decide +kernel
theorem dX7_hear_74 : decode cX7_hear 74 = .ok (.iconst 2, 1) := by decide +kernel
theorem dX7_hear_75 : decode cX7_hear 75 = .ok (.iastore, 1) := by decide +kernel
theorem dX7_hear_76 : decode cX7_hear 76 = .ok (.aload_n 0, 1) := by decide +kernel
theorem dX7_hear_77 : decode cX7_hear 77 = .ok (.invokevirtual 206, 3) := by decide +kernel
theorem dX7_hear_80 : decode cX7_hear 80 = .ok (.iconst 1, 1) := by decide +kernel
theorem dX7_hear_81 : decode cX7_hear 81 = .ok (.ireturn, 1) := by decide +kernel
theorem dX7_mayEnter_0 : decode cX7_mayEnter 0 = .ok (.aload_n 0, 1) := by decide +kernel
theorem dX7_mayEnter_1 : decode cX7_mayEnter 1 = .ok (.getfield 72, 3) := by decide +kernel
theorem dX7_mayEnter_4 : decode cX7_mayEnter 4 = .ok (.bipush 12, 2) := by decide +kernel
theorem dX7_mayEnter_6 : decode cX7_mayEnter 6 = .ok (.iload_n 1, 1) := by decide +kernel
theorem dX7_mayEnter_7 : decode cX7_mayEnter 7 = .ok (.imul, 1) := by decide +kernel
theorem dX7_mayEnter_8 : decode cX7_mayEnter 8 = .ok (.iload_n 2, 1) := by decide +kernel
theorem dX7_mayEnter_9 : decode cX7_mayEnter 9 = .ok (.iadd, 1) := by decide +kernel
theorem dX7_mayEnter_10 : decode cX7_mayEnter 10 = .ok (.iaload, 1) := by decide +kernel
theorem dX7_mayEnter_11 : decode cX7_mayEnter 11 = .ok (.ifCond .eq 18, 3) := by decide +kernel
theorem dX7_mayEnter_14 : decode cX7_mayEnter 14 = .ok (.aload_n 0, 1) := by decide +kernel
theorem dX7_mayEnter_15 : decode cX7_mayEnter 15 = .ok (.getfield 72, 3) := by decide +kernel
theorem dX7_mayEnter_18 : decode cX7_mayEnter 18 = .ok (.bipush 12, 2) := by decide +kernel
theorem dX7_mayEnter_20 : decode cX7_mayEnter 20 = .ok (.iload_n 1, 1) := by decide +kernel
theorem dX7_mayEnter_21 : decode cX7_mayEnter 21 = .ok (.imul, 1) := by decide +kernel
theorem dX7_mayEnter_22 : decode cX7_mayEnter 22 = .ok (.iload_n 2, 1) := by decide +kernel
theorem dX7_mayEnter_23 : decode cX7_mayEnter 23 = .ok (.iadd, 1) := by decide +kernel
theorem dX7_mayEnter_24 : decode cX7_mayEnter 24 = .ok (.iaload, 1) := by decide +kernel
theorem dX7_mayEnter_25 : decode cX7_mayEnter 25 = .ok (.iconst 2, 1) := by decide +kernel
theorem dX7_mayEnter_26 : decode cX7_mayEnter 26 = .ok (.if_icmp .ne 7, 3) := by decide +kernel
theorem dX7_mayEnter_29 : decode cX7_mayEnter 29 = .ok (.iconst 1, 1) := by decide +kernel
theorem dX7_mayEnter_30 : decode cX7_mayEnter 30 = .ok (.goto 4, 3) := by decide +kernel
theorem dX7_mayEnter_33 : decode cX7_mayEnter 33 = .ok (.iconst 0, 1) := by decide +kernel
theorem dX7_mayEnter_34 : decode cX7_mayEnter 34 = .ok (.ireturn, 1) := by decide +kernel
theorem dX7_enter_0 : decode cX7_enter 0 = .ok (.aload_n 0, 1) := by decide +kernel
theorem dX7_enter_1 : decode cX7_enter 1 = .ok (.getfield 200, 3) := by decide +kernel
theorem dX7_enter_4 : decode cX7_enter 4 = .ok (.ifCond .ne 6, 3) := by decide +kernel
theorem dX7_enter_7 : decode cX7_enter 7 = .ok (.bipush (-103), 2) := by decide +kernel
theorem dX7_enter_9 : decode cX7_enter 9 = .ok (.ireturn, 1) := by decide +kernel
theorem dX7_enter_10 : decode cX7_enter 10 = .ok (.aload_n 0, 1) := by decide +kernel
theorem dX7_enter_11 : decode cX7_enter 11 = .ok (.getfield 197, 3) := by decide +kernel
theorem dX7_enter_14 : decode cX7_enter 14 = .ok (.iconst 1, 1) := by decide +kernel
theorem dX7_enter_15 : decode cX7_enter 15 = .ok (.isub, 1) := by decide +kernel
theorem dX7_enter_16 : decode cX7_enter 16 = .ok (.istore_n 1, 1) := by decide +kernel
theorem dX7_enter_17 : decode cX7_enter 17 = .ok (.iconst 0, 1) := by decide +kernel
theorem dX7_enter_18 : decode cX7_enter 18 = .ok (.istore_n 2, 1) := by decide +kernel
theorem dX7_enter_19 : decode cX7_enter 19 = .ok (.iconst 0, 1) := by decide +kernel
theorem dX7_enter_20 : decode cX7_enter 20 = .ok (.istore_n 3, 1) := by decide +kernel
theorem dX7_enter_21 : decode cX7_enter 21 = .ok (.iload_n 3, 1) := by decide +kernel
theorem dX7_enter_22 : decode cX7_enter 22 = .ok (.aload_n 0, 1) := by decide +kernel
theorem dX7_enter_23 : decode cX7_enter 23 = .ok (.getfield 63, 3) := by decide +kernel
theorem dX7_enter_26 : decode cX7_enter 26 = .ok (.iload_n 1, 1) := by decide +kernel
theorem dX7_enter_27 : decode cX7_enter 27 = .ok (.iaload, 1) := by decide +kernel
theorem dX7_enter_28 : decode cX7_enter 28 = .ok (.if_icmp .ge 26, 3) := by decide +kernel
theorem dX7_enter_31 : decode cX7_enter 31 = .ok (.iload_n 2, 1) := by decide +kernel
theorem dX7_enter_32 : decode cX7_enter 32 = .ok (.aload_n 0, 1) := by decide +kernel
theorem dX7_enter_33 : decode cX7_enter 33 = .ok (.iload_n 1, 1) := by decide +kernel
theorem dX7_enter_34 : decode cX7_enter 34 = .ok (.iload_n 3, 1) := by decide +kernel
theorem dX7_enter_35 : decode cX7_enter 35 = .ok (.invokevirtual 209, 3) := by decide +kernel
theorem dX7_enter_38 : decode cX7_enter 38 = .ok (.ifCond .eq 7, 3) := by decide +kernel
theorem dX7_enter_41 : decode cX7_enter 41 = .ok (.iconst 1, 1) := by decide +kernel
theorem dX7_enter_42 : decode cX7_enter 42 = .ok (.goto 4, 3) := by decide +kernel
theorem dX7_enter_45 : decode cX7_enter 45 = .ok (.iconst 0, 1) := by decide +kernel
theorem dX7_enter_46 : decode cX7_enter 46 = .ok (.iadd, 1) := by decide +kernel
theorem dX7_enter_47 : decode cX7_enter 47 = .ok (.istore_n 2, 1) := by decide +kernel
theorem dX7_enter_48 : decode cX7_enter 48 = .ok (.iinc 3 1, 3) := by decide +kernel
theorem dX7_enter_51 : decode cX7_enter 51 = .ok (.goto (-30), 3) := by decide +kernel
theorem dX7_enter_54 : decode cX7_enter 54 = .ok (.iload_n 2, 1) := by decide +kernel
theorem dX7_enter_55 : decode cX7_enter 55 = .ok (.ifCond .eq 23, 3) := by decide +kernel
theorem dX7_enter_58 : decode cX7_enter 58 = .ok (.aload_n 0, 1) := by decide +kernel
theorem dX7_enter_59 : decode cX7_enter 59 = .ok (.getfield 174, 3) := by decide +kernel
theorem dX7_enter_62 : decode cX7_enter 62 = .ok (.aload_n 0, 1) := by decide +kernel
theorem dX7_enter_63 : decode cX7_enter 63 = .ok (.getfield 57, 3) := by decide +kernel
theorem dX7_enter_66 : decode cX7_enter 66 = .ok (.iload_n 1, 1) := by decide +kernel
theorem dX7_enter_67 : decode cX7_enter 67 = .ok (.iaload, 1) := by decide +kernel
theorem dX7_enter_68 : decode cX7_enter 68 = .ok (.aload_n 0, 1) := by decide +kernel
theorem dX7_enter_69 : decode cX7_enter 69 = .ok (.getfield 60, 3) := by decide +kernel
theorem dX7_enter_72 : decode cX7_enter 72 = .ok (.iload_n 1, 1) := by decide +kernel
theorem dX7_enter_73 : decode cX7_enter 73 = .ok (.iaload, 1) := by decide +kernel
theorem dX7_enter_74 : decode cX7_enter 74 = .ok (.iadd, 1) := by decide +kernel
theorem dX7_enter_75 : decode cX7_enter 75 = .ok (.if_icmp .ge 6, 3) := by decide +kernel
theorem dX7_enter_78 : decode cX7_enter 78 = .ok (.bipush (-103), 2) := by decide +kernel
theorem dX7_enter_80 : decode cX7_enter 80 = .ok (.ireturn, 1) := by decide +kernel
theorem dX7_enter_81 : decode cX7_enter 81 = .ok (.iconst 0, 1) := by decide +kernel
theorem dX7_enter_82 : decode cX7_enter 82 = .ok (.istore_n 3, 1) := by decide +kernel
theorem dX7_enter_83 : decode cX7_enter 83 = .ok (.iload_n 3, 1) := by decide +kernel
theorem dX7_enter_84 : decode cX7_enter 84 = .ok (.sipush 256, 3) := by decide +kernel
theorem dX7_enter_87 : decode cX7_enter 87 = .ok (.if_icmp .ge 131, 3) := by decide +kernel
theorem dX7_enter_90 : decode cX7_enter 90 = .ok (.aload_n 0, 1) := by decide +kernel
theorem dX7_enter_91 : decode cX7_enter 91 = .ok (.getfield 124, 3) := by decide +kernel
theorem dX7_enter_94 : decode cX7_enter 94 = .ok (.iload_n 3, 1) := by decide +kernel
theorem dX7_enter_95 : decode cX7_enter 95 = .ok (.iconst 0, 1) := by decide +kernel
theorem dX7_enter_96 : decode cX7_enter 96 = .ok (.bastore, 1) := by decide +kernel
theorem dX7_enter_97 : decode cX7_enter 97 = .ok (.aload_n 0, 1) := by decide +kernel
theorem dX7_enter_98 : decode cX7_enter 98 = .ok (.getfield 27, 3) := by decide +kernel
theorem dX7_enter_101 : decode cX7_enter 101 = .ok (.iload_n 3, 1) := by decide +kernel
theorem dX7_enter_102 : decode cX7_enter 102 = .ok (.baload, 1) := by decide +kernel
theorem dX7_enter_103 : decode cX7_enter 103 = .ok (.ifCond .eq 109, 3) := by decide +kernel
theorem dX7_enter_106 : decode cX7_enter 106 = .ok (.aload_n 0, 1) := by decide +kernel
theorem dX7_enter_107 : decode cX7_enter 107 = .ok (.getfield 30, 3) := by decide +kernel
theorem dX7_enter_110 : decode cX7_enter 110 = .ok (.iload_n 3, 1) := by decide +kernel
theorem dX7_enter_111 : decode cX7_enter 111 = .ok (.iaload, 1) := by decide +kernel
theorem dX7_enter_112 : decode cX7_enter 112 = .ok (.ifCond .ne 100, 3) := by decide +kernel
theorem dX7_enter_115 : decode cX7_enter 115 = .ok (.aload_n 0, 1) := by decide +kernel
theorem dX7_enter_116 : decode cX7_enter 116 = .ok (.getfield 16, 3) := by decide +kernel
theorem dX7_enter_119 : decode cX7_enter 119 = .ok (.iload_n 3, 1) := by decide +kernel
theorem dX7_enter_120 : decode cX7_enter 120 = .ok (.iaload, 1) := by decide +kernel
theorem dX7_enter_121 : decode cX7_enter 121 = .ok (.iconst (-1), 1) := by decide +kernel
theorem dX7_enter_122 : decode cX7_enter 122 = .ok (.if_icmp .ne 16, 3) := by decide +kernel
theorem dX7_enter_125 : decode cX7_enter 125 = .ok (.aload_n 0, 1) := by decide +kernel
theorem dX7_enter_126 : decode cX7_enter 126 = .ok (.getfield 66, 3) := by decide +kernel
theorem dX7_enter_129 : decode cX7_enter 129 = .ok (.iload_n 1, 1) := by decide +kernel
end
section
theorem dX7_enter_130 : decode cX7_enter 130 = .ok (.baload, 1) := by decide +kernel
theorem dX7_enter_131 : decode cX7_enter 131 = .ok (.ifCond .ne 7, 3) := by decide +kernel
theorem dX7_enter_134 : decode cX7_enter 134 = .ok (.iconst 1, 1) := by decide +kernel
theorem dX7_enter_135 : decode cX7_enter 135 = .ok (.goto 4, 3) := by decide +kernel
theorem dX7_enter_138 : decode cX7_enter 138 = .ok (.iconst 0, 1) := by decide +kernel
theorem dX7_enter_139 : decode cX7_enter 139 = .ok (.istore 4, 2) := by decide +kernel
theorem dX7_enter_141 : decode cX7_enter 141 = .ok (.iconst 0, 1) := by decide +kernel
theorem dX7_enter_142 : decode cX7_enter 142 = .ok (.istore 5, 2) := by decide +kernel
theorem dX7_enter_144 : decode cX7_enter 144 = .ok (.iload 5, 2) := by decide +kernel
theorem dX7_enter_146 : decode cX7_enter 146 = .ok (.aload_n 0, 1) := by decide +kernel
theorem dX7_enter_147 : decode cX7_enter 147 = .ok (.getfield 63, 3) := by decide +kernel
theorem dX7_enter_150 : decode cX7_enter 150 = .ok (.iload_n 1, 1) := by decide +kernel
theorem dX7_enter_151 : decode cX7_enter 151 = .ok (.iaload, 1) := by decide +kernel
theorem dX7_enter_152 : decode cX7_enter 152 = .ok (.if_icmp .ge 52, 3) := by decide +kernel
theorem dX7_enter_155 : decode cX7_enter 155 = .ok (.iload 4, 2) := by decide +kernel
theorem dX7_enter_157 : decode cX7_enter 157 = .ok (.ifCond .ne 34, 3) := by decide +kernel
theorem dX7_enter_160 : decode cX7_enter 160 = .ok (.aload_n 0, 1) := by decide +kernel
theorem dX7_enter_161 : decode cX7_enter 161 = .ok (.iload_n 1, 1) := by decide +kernel
theorem dX7_enter_162 : decode cX7_enter 162 = .ok (.iload 5, 2) := by decide +kernel
theorem dX7_enter_164 : decode cX7_enter 164 = .ok (.invokevirtual 209, 3) := by decide +kernel
theorem dX7_enter_167 : decode cX7_enter 167 = .ok (.ifCond .eq 28, 3) := by decide +kernel
theorem dX7_enter_170 : decode cX7_enter 170 = .ok (.aload_n 0, 1) := by decide +kernel
theorem dX7_enter_171 : decode cX7_enter 171 = .ok (.getfield 16, 3) := by decide +kernel
theorem dX7_enter_174 : decode cX7_enter 174 = .ok (.iload_n 3, 1) := by decide +kernel
theorem dX7_enter_175 : decode cX7_enter 175 = .ok (.iaload, 1) := by decide +kernel
theorem dX7_enter_176 : decode cX7_enter 176 = .ok (.aload_n 0, 1) := by decide +kernel
theorem dX7_enter_177 : decode cX7_enter 177 = .ok (.getfield 69, 3) := by decide +kernel
theorem dX7_enter_180 : decode cX7_enter 180 = .ok (.bipush 12, 2) := by decide +kernel
theorem dX7_enter_182 : decode cX7_enter 182 = .ok (.iload_n 1, 1) := by decide +kernel
theorem dX7_enter_183 : decode cX7_enter 183 = .ok (.imul, 1) := by decide +kernel
theorem dX7_enter_184 : decode cX7_enter 184 = .ok (.iload 5, 2) := by decide +kernel
theorem dX7_enter_186 : decode cX7_enter 186 = .ok (.iadd, 1) := by decide +kernel
theorem dX7_enter_187 : decode cX7_enter 187 = .ok (.iaload, 1) := by decide +kernel
theorem dX7_enter_188 : decode cX7_enter 188 = .ok (.if_icmp .ne 7, 3) := by decide +kernel
theorem dX7_enter_191 : decode cX7_enter 191 = .ok (.iconst 1, 1) := by decide +kernel
theorem dX7_enter_192 : decode cX7_enter 192 = .ok (.goto 4, 3) := by decide +kernel
theorem dX7_enter_195 : decode cX7_enter 195 = .ok (.iconst 0, 1) := by decide +kernel
theorem dX7_enter_196 : decode cX7_enter 196 = .ok (.istore 4, 2) := by decide +kernel
theorem dX7_enter_198 : decode cX7_enter 198 = .ok (.iinc 5 1, 3) := by decide +kernel
theorem dX7_enter_201 : decode cX7_enter 201 = .ok (.goto (-57), 3) := by decide +kernel
theorem dX7_enter_204 : decode cX7_enter 204 = .ok (.aload_n 0, 1) := by decide +kernel
theorem dX7_enter_205 : decode cX7_enter 205 = .ok (.getfield 124, 3) := by decide +kernel
theorem dX7_enter_208 : decode cX7_enter 208 = .ok (.iload_n 3, 1) := by decide +kernel
theorem dX7_enter_209 : decode cX7_enter 209 = .ok (.iload 4, 2) := by decide +kernel
theorem dX7_enter_211 : decode cX7_enter 211 = .ok (.bastore, 1) := by decide +kernel
theorem dX7_enter_212 : decode cX7_enter 212 = .ok (.iinc 3 1, 3) := by decide +kernel
theorem dX7_enter_215 : decode cX7_enter 215 = .ok (.goto (-132), 3) := by decide +kernel
theorem dX7_enter_218 : decode cX7_enter 218 = .ok (.iconst 0, 1) := by decide +kernel
theorem dX7_enter_219 : decode cX7_enter 219 = .ok (.istore_n 3, 1) := by decide +kernel
theorem dX7_enter_220 : decode cX7_enter 220 = .ok (.iload_n 3, 1) := by decide +kernel
theorem dX7_enter_221 : decode cX7_enter 221 = .ok (.sipush 256, 3) := by decide +kernel
theorem dX7_enter_224 : decode cX7_enter 224 = .ok (.if_icmp .ge 36, 3) := by decide +kernel
theorem dX7_enter_227 : decode cX7_enter 227 = .ok (.aload_n 0, 1) := by decide +kernel
theorem dX7_enter_228 : decode cX7_enter 228 = .ok (.getfield 30, 3) := by decide +kernel
theorem dX7_enter_231 : decode cX7_enter 231 = .ok (.iload_n 3, 1) := by decide +kernel
theorem dX7_enter_232 : decode cX7_enter 232 = .ok (.aload_n 0, 1) := by decide +kernel
theorem dX7_enter_233 : decode cX7_enter 233 = .ok (.getfield 124, 3) := by decide +kernel
theorem dX7_enter_236 : decode cX7_enter 236 = .ok (.iload_n 3, 1) := by decide +kernel
theorem dX7_enter_237 : decode cX7_enter 237 = .ok (.baload, 1) := by decide +kernel
theorem dX7_enter_238 : decode cX7_enter 238 = .ok (.ifCond .eq 9, 3) := by decide +kernel
theorem dX7_enter_241 : decode cX7_enter 241 = .ok (.iload_n 1, 1) := by decide +kernel
theorem dX7_enter_242 : decode cX7_enter 242 = .ok (.iconst 1, 1) := by decide +kernel
theorem dX7_enter_243 : decode cX7_enter 243 = .ok (.iadd, 1) := by decide +kernel
theorem dX7_enter_244 : decode cX7_enter 244 = .ok (.goto 9, 3) := by decide +kernel
theorem dX7_enter_247 : decode cX7_enter 247 = .ok (.aload_n 0, 1) := by decide +kernel
theorem dX7_enter_248 : decode cX7_enter 248 = .ok (.getfield 30, 3) := by decide +kernel
theorem dX7_enter_251 : decode cX7_enter 251 = .ok (.iload_n 3, 1) := by decide +kernel
theorem dX7_enter_252 : decode cX7_enter 252 = .ok (.iaload, 1) := by decide +kernel
theorem dX7_enter_253 : decode cX7_enter 253 = .ok (.iastore, 1) := by decide +kernel
theorem dX7_enter_254 : decode cX7_enter 254 = .ok (.iinc 3 1, 3) := by decide +kernel
theorem dX7_enter_257 : decode cX7_enter 257 = .ok (.goto (-37), 3) := by decide +kernel
theorem dX7_enter_260 : decode cX7_enter 260 = .ok (.aload_n 0, 1) := by decide +kernel
theorem dX7_enter_261 : decode cX7_enter 261 = .ok (.getfield 66, 3) := by decide +kernel
theorem dX7_enter_264 : decode cX7_enter 264 = .ok (.iload_n 1, 1) := by decide +kernel
theorem dX7_enter_265 : decode cX7_enter 265 = .ok (.iconst 1, 1) := by decide +kernel
theorem dX7_enter_266 : decode cX7_enter 266 = .ok (.bastore, 1) := by decide +kernel
theorem dX7_enter_267 : decode cX7_enter 267 = .ok (.iconst 0, 1) := by decide +kernel
theorem dX7_enter_268 : decode cX7_enter 268 = .ok (.istore_n 3, 1) := by decide +kernel
theorem dX7_enter_269 : decode cX7_enter 269 = .ok (.iload_n 3, 1) := by decide +kernel
theorem dX7_enter_270 : decode cX7_enter 270 = .ok (.aload_n 0, 1) := by decide +kernel
theorem dX7_enter_271 : decode cX7_enter 271 = .ok (.getfield 63, 3) := by decide +kernel
theorem dX7_enter_274 : decode cX7_enter 274 = .ok (.iload_n 1, 1) := by decide +kernel
theorem dX7_enter_275 : decode cX7_enter 275 = .ok (.iaload, 1) := by decide +kernel
theorem dX7_enter_276 : decode cX7_enter 276 = .ok (.if_icmp .ge 40, 3) := by decide +kernel
theorem dX7_enter_279 : decode cX7_enter 279 = .ok (.aload_n 0, 1) := by decide +kernel
theorem dX7_enter_280 : decode cX7_enter 280 = .ok (.iload_n 1, 1) := by decide +kernel
theorem dX7_enter_281 : decode cX7_enter 281 = .ok (.iload_n 3, 1) := by decide +kernel
theorem dX7_enter_282 : decode cX7_enter 282 = .ok (.invokevirtual 209, 3) := by decide +kernel
theorem dX7_enter_285 : decode cX7_enter 285 = .ok (.ifCond .eq 25, 3) := by decide +kernel
theorem dX7_enter_288 : decode cX7_enter 288 = .ok (.aload_n 0, 1) := by decide +kernel
theorem dX7_enter_289 : decode cX7_enter 289 = .ok (.getfield 72, 3) := by decide +kernel
theorem dX7_enter_292 : decode cX7_enter 292 = .ok (.bipush 12, 2) := by decide +kernel
theorem dX7_enter_294 : decode cX7_enter 294 = .ok (.iload_n 1, 1) := by decide +kernel
theorem dX7_enter_295 : decode cX7_enter 295 = .ok (.imul, 1) := by decide +kernel
theorem dX7_enter_296 : decode cX7_enter 296 = .ok (.iload_n 3, 1) := by decide +kernel
theorem dX7_enter_297 : decode cX7_enter 297 = .ok (.iadd, 1) := by decide +kernel
theorem dX7_enter_298 : decode cX7_enter 298 = .ok (.iconst 4, 1) := by decide +kernel
theorem dX7_enter_299 : decode cX7_enter 299 = .ok (.iastore, 1) := by decide +kernel
theorem dX7_enter_300 : decode cX7_enter 300 = .ok (.aload_n 0, 1) := by decide +kernel
theorem dX7_enter_301 : decode cX7_enter 301 = .ok (.bipush 12, 2) := by decide +kernel
theorem dX7_enter_303 : decode cX7_enter 303 = .ok (.iload_n 1, 1) := by decide +kernel
theorem dX7_enter_304 : decode cX7_enter 304 = .ok (.imul, 1) := by decide +kernel
theorem dX7_enter_305 : decode cX7_enter 305 = .ok (.iload_n 3, 1) := by decide +kernel
theorem dX7_enter_306 : decode cX7_enter 306 = .ok (.iadd, 1) := by decide +kernel
theorem dX7_enter_307 : decode cX7_enter 307 = .ok (.invokevirtual 212, 3) := by decide +kernel
theorem dX7_enter_310 : decode cX7_enter 310 = .ok (.iinc 3 1, 3) := by decide +kernel
theorem dX7_enter_313 : decode cX7_enter 313 = .ok (.goto (-44), 3) := by decide +kernel
theorem dX7_enter_316 : decode cX7_enter 316 = .ok (.aload_n 0, 1) := by decide +kernel
theorem dX7_enter_317 : decode cX7_enter 317 = .ok (.invokevirtual 206, 3) := by decide +kernel
theorem dX7_enter_320 : decode cX7_enter 320 = .ok (.iload_n 2, 1) := by decide +kernel
theorem dX7_enter_321 : decode cX7_enter 321 = .ok (.ireturn, 1) := by decide +kernel
theorem dX7_work_0 : decode cX7_work 0 = .ok (.aload_n 0, 1) := by decide +kernel
theorem dX7_work_1 : decode cX7_work 1 = .ok (.getfield 69, 3) := by decide +kernel
theorem dX7_work_4 : decode cX7_work 4 = .ok (.iload_n 1, 1) := by decide +kernel
theorem dX7_work_5 : decode cX7_work 5 = .ok (.iaload, 1) := by decide +kernel
theorem dX7_work_6 : decode cX7_work 6 = .ok (.istore_n 2, 1) := by decide +kernel
theorem dX7_work_7 : decode cX7_work 7 = .ok (.aload_n 0, 1) := by decide +kernel
theorem dX7_work_8 : decode cX7_work 8 = .ok (.getfield 78, 3) := by decide +kernel
theorem dX7_work_11 : decode cX7_work 11 = .ok (.iload_n 1, 1) := by decide +kernel
theorem dX7_work_12 : decode cX7_work 12 = .ok (.aload_n 0, 1) := by decide +kernel
theorem dX7_work_13 : decode cX7_work 13 = .ok (.getfield 174, 3) := by decide +kernel
theorem dX7_work_16 : decode cX7_work 16 = .ok (.iastore, 1) := by decide +kernel
theorem dX7_work_17 : decode cX7_work 17 = .ok (.aload_n 0, 1) := by decide +kernel
theorem dX7_work_18 : decode cX7_work 18 = .ok (.getfield 106, 3) := by decide +kernel
theorem dX7_work_21 : decode cX7_work 21 = .ok (.iload_n 1, 1) := by decide +kernel
theorem dX7_work_22 : decode cX7_work 22 = .ok (.aload_n 0, 1) := by decide +kernel
theorem dX7_work_23 : decode cX7_work 23 = .ok (.getfield 174, 3) := by decide +kernel
theorem dX7_work_26 : decode cX7_work 26 = .ok (.iastore, 1) := by decide +kernel
theorem dX7_work_27 : decode cX7_work 27 = .ok (.aload_n 0, 1) := by decide +kernel
theorem dX7_work_28 : decode cX7_work 28 = .ok (.getfield 81, 3) := by decide +kernel
theorem dX7_work_31 : decode cX7_work 31 = .ok (.iload_n 1, 1) := by decide +kernel
theorem dX7_work_32 : decode cX7_work 32 = .ok (.aload_n 0, 1) := by decide +kernel
theorem dX7_work_33 : decode cX7_work 33 = .ok (.getfield 54, 3) := by decide +kernel
theorem dX7_work_36 : decode cX7_work 36 = .ok (.iconst 3, 1) := by decide +kernel
theorem dX7_work_37 : decode cX7_work 37 = .ok (.iaload, 1) := by decide +kernel
theorem dX7_work_38 : decode cX7_work 38 = .ok (.iastore, 1) := by decide +kernel
theorem dX7_work_39 : decode cX7_work 39 = .ok (.iconst 0, 1) := by decide +kernel
theorem dX7_work_40 : decode cX7_work 40 = .ok (.istore_n 3, 1) := by decide +kernel
theorem dX7_work_41 : decode cX7_work 41 = .ok (.iload_n 3, 1) := by decide +kernel
theorem dX7_work_42 : decode cX7_work 42 = .ok (.sipush 256, 3) := by decide +kernel
theorem dX7_work_45 : decode cX7_work 45 = .ok (.if_icmp .ge 112, 3) := by decide +kernel
theorem dX7_work_48 : decode cX7_work 48 = .ok (.aload_n 0, 1) := by decide +kernel
theorem dX7_work_49 : decode cX7_work 49 = .ok (.getfield 124, 3) := by decide +kernel
theorem dX7_work_52 : decode cX7_work 52 = .ok (.iload_n 3, 1) := by decide +kernel
theorem dX7_work_53 : decode cX7_work 53 = .ok (.baload, 1) := by decide +kernel
theorem dX7_work_54 : decode cX7_work 54 = .ok (.ifCond .eq 97, 3) := by decide +kernel
theorem dX7_work_57 : decode cX7_work 57 = .ok (.aload_n 0, 1) := by decide +kernel
theorem dX7_work_58 : decode cX7_work 58 = .ok (.getfield 16, 3) := by decide +kernel
theorem dX7_work_61 : decode cX7_work 61 = .ok (.iload_n 3, 1) := by decide +kernel
theorem dX7_work_62 : decode cX7_work 62 = .ok (.iaload, 1) := by decide +kernel
theorem dX7_work_63 : decode cX7_work 63 = .ok (.iload_n 2, 1) := by decide +kernel
theorem dX7_work_64 : decode cX7_work 64 = .ok (.if_icmp .ne 87, 3) := by decide +kernel
theorem dX7_work_67 : decode cX7_work 67 = .ok (.aload_n 0, 1) := by decide +kernel
theorem dX7_work_68 : decode cX7_work 68 = .ok (.getfield 84, 3) := by decide +kernel
theorem dX7_work_71 : decode cX7_work 71 = .ok (.iload_n 1, 1) := by decide +kernel
theorem dX7_work_72 : decode cX7_work 72 = .ok (.dup2, 1) := by decide +kernel
theorem dX7_work_73 : decode cX7_work 73 = .ok (.laload, 1) := by decide +kernel
theorem dX7_work_74 : decode cX7_work 74 = .ok (.aload_n 0, 1) := by decide +kernel
theorem dX7_work_75 : decode cX7_work 75 = .ok (.aload_n 0, 1) := by decide +kernel
theorem dX7_work_76 : decode cX7_work 76 = .ok (.getfield 20, 3) := by decide +kernel
theorem dX7_work_79 : decode cX7_work 79 = .ok (.iload_n 3, 1) := by decide +kernel
theorem dX7_work_80 : decode cX7_work 80 = .ok (.iaload, 1) := by decide +kernel
theorem dX7_work_81 : decode cX7_work 81 = .ok (.aload_n 0, 1) := by decide +kernel
theorem dX7_work_82 : decode cX7_work 82 = .ok (.getfield 174, 3) := by decide +kernel
theorem dX7_work_85 : decode cX7_work 85 = .ok (.invokevirtual 167, 3) := by decide +kernel
theorem dX7_work_88 : decode cX7_work 88 = .ok (.i2l, 1) := by decide +kernel
theorem dX7_work_89 : decode cX7_work 89 = .ok (.ladd, 1) := by decide +kernel
theorem dX7_work_90 : decode cX7_work 90 = .ok (.lastore, 1) := by decide +kernel
theorem dX7_work_91 : decode cX7_work 91 = .ok (.iconst 0, 1) := by decide +kernel
theorem dX7_work_92 : decode cX7_work 92 = .ok (.istore 4, 2) := by decide +kernel
theorem dX7_work_94 : decode cX7_work 94 = .ok (.iload 4, 2) := by decide +kernel
theorem dX7_work_96 : decode cX7_work 96 = .ok (.iconst 4, 1) := by decide +kernel
theorem dX7_work_97 : decode cX7_work 97 = .ok (.if_icmp .ge 54, 3) := by decide +kernel
theorem dX7_work_100 : decode cX7_work 100 = .ok (.aload_n 0, 1) := by decide +kernel
theorem dX7_work_101 : decode cX7_work 101 = .ok (.iload_n 3, 1) := by decide +kernel
theorem dX7_work_102 : decode cX7_work 102 = .ok (.iload 4, 2) := by decide +kernel
theorem dX7_work_104 : decode cX7_work 104 = .ok (.invokevirtual 187, 3) := by decide +kernel
theorem dX7_work_107 : decode cX7_work 107 = .ok (.istore 5, 2) := by decide +kernel
theorem dX7_work_109 : decode cX7_work 109 = .ok (.aload_n 0, 1) := by decide +kernel
theorem dX7_work_110 : decode cX7_work 110 = .ok (.getfield 91, 3) := by decide +kernel
theorem dX7_work_113 : decode cX7_work 113 = .ok (.iload_n 1, 1) := by decide +kernel
theorem dX7_work_114 : decode cX7_work 114 = .ok (.dup2, 1) := by decide +kernel
theorem dX7_work_115 : decode cX7_work 115 = .ok (.laload, 1) := by decide +kernel
theorem dX7_work_116 : decode cX7_work 116 = .ok (.iload 5, 2) := by decide +kernel
theorem dX7_work_118 : decode cX7_work 118 = .ok (.iconst (-1), 1) := by decide +kernel
theorem dX7_work_119 : decode cX7_work 119 = .ok (.if_icmp .eq 23, 3) := by decide +kernel
theorem dX7_work_122 : decode cX7_work 122 = .ok (.aload_n 0, 1) := by decide +kernel
theorem dX7_work_123 : decode cX7_work 123 = .ok (.iload 5, 2) := by decide +kernel
theorem dX7_work_125 : decode cX7_work 125 = .ok (.iload_n 2, 1) := by decide +kernel
theorem dX7_work_126 : decode cX7_work 126 = .ok (.invokevirtual 190, 3) := by decide +kernel
theorem dX7_work_129 : decode cX7_work 129 = .ok (.ifCond .eq 13, 3) := by decide +kernel
theorem dX7_work_132 : decode cX7_work 132 = .ok (.aload_n 0, 1) := by decide +kernel
theorem dX7_work_133 : decode cX7_work 133 = .ok (.getfield 54, 3) := by decide +kernel
theorem dX7_work_136 : decode cX7_work 136 = .ok (.iconst 1, 1) := by decide +kernel
theorem dX7_work_137 : decode cX7_work 137 = .ok (.iaload, 1) := by decide +kernel
theorem dX7_work_138 : decode cX7_work 138 = .ok (.i2l, 1) := by decide +kernel
theorem dX7_work_139 : decode cX7_work 139 = .ok (.goto 4, 3) := by decide +kernel
theorem dX7_work_142 : decode cX7_work 142 = .ok (.lconst 0, 1) := by decide +kernel
theorem dX7_work_143 : decode cX7_work 143 = .ok (.ladd, 1) := by decide +kernel
theorem dX7_work_144 : decode cX7_work 144 = .ok (.lastore, 1) := by decide +kernel
theorem dX7_work_145 : decode cX7_work 145 = .ok (.iinc 4 1, 3) := by decide +kernel
theorem dX7_work_148 : decode cX7_work 148 = .ok (.goto (-54), 3) := by decide +kernel
theorem dX7_work_151 : decode cX7_work 151 = .ok (.iinc 3 1, 3) := by decide +kernel
theorem dX7_work_154 : decode cX7_work 154 = .ok (.goto (-113), 3) := by decide +kernel
theorem dX7_work_157 : decode cX7_work 157 = .ok (.aload_n 0, 1) := by decide +kernel
theorem dX7_work_158 : decode cX7_work 158 = .ok (.iload_n 2, 1) := by decide +kernel
theorem dX7_work_159 : decode cX7_work 159 = .ok (.invokevirtual 215, 3) := by decide +kernel
theorem dX7_work_162 : decode cX7_work 162 = .ok (.aload_n 0, 1) := by decide +kernel
theorem dX7_work_163 : decode cX7_work 163 = .ok (.iload_n 2, 1) := by decide +kernel
theorem dX7_work_164 : decode cX7_work 164 = .ok (.invokevirtual 218, 3) := by decide +kernel
theorem dX7_work_167 : decode cX7_work 167 = .ok (.istore_n 3, 1) := by decide +kernel
theorem dX7_work_168 : decode cX7_work 168 = .ok (.lconst 0, 1) := by decide +kernel
theorem dX7_work_169 : decode cX7_work 169 = .ok (.lstore 4, 2) := by decide +kernel
theorem dX7_work_171 : decode cX7_work 171 = .ok (.iconst 0, 1) := by decide +kernel
theorem dX7_work_172 : decode cX7_work 172 = .ok (.istore 6, 2) := by decide +kernel
theorem dX7_work_174 : decode cX7_work 174 = .ok (.iload 6, 2) := by decide +kernel
theorem dX7_work_176 : decode cX7_work 176 = .ok (.aload_n 0, 1) := by decide +kernel
theorem dX7_work_177 : decode cX7_work 177 = .ok (.getfield 184, 3) := by decide +kernel
theorem dX7_work_180 : decode cX7_work 180 = .ok (.if_icmp .ge 64, 3) := by decide +kernel
theorem dX7_work_183 : decode cX7_work 183 = .ok (.iload 6, 2) := by decide +kernel
theorem dX7_work_185 : decode cX7_work 185 = .ok (.iload_n 3, 1) := by decide +kernel
theorem dX7_work_186 : decode cX7_work 186 = .ok (.if_icmp .eq 52, 3) := by decide +kernel
theorem dX7_work_189 : decode cX7_work 189 = .ok (.aload_n 0, 1) := by decide +kernel
theorem dX7_work_190 : decode cX7_work 190 = .ok (.iload 6, 2) := by decide +kernel
theorem dX7_work_192 : decode cX7_work 192 = .ok (.invokevirtual 221, 3) := by decide +kernel
theorem dX7_work_195 : decode cX7_work 195 = .ok (.lstore 7, 2) := by decide +kernel
theorem dX7_work_197 : decode cX7_work 197 = .ok (.lload 4, 2) := by decide +kernel
theorem dX7_work_199 : decode cX7_work 199 = .ok (.aload_n 0, 1) := by decide +kernel
theorem dX7_work_200 : decode cX7_work 200 = .ok (.iload 6, 2) := by decide +kernel
theorem dX7_work_202 : decode cX7_work 202 = .ok (.invokevirtual 225, 3) := by decide +kernel
theorem dX7_work_205 : decode cX7_work 205 = .ok (.ifCond .ne 16, 3) := by decide +kernel
theorem dX7_work_208 : decode cX7_work 208 = .ok (.aload_n 0, 1) := by decide +kernel
theorem dX7_work_209 : decode cX7_work 209 = .ok (.iload_n 3, 1) := by decide +kernel
theorem dX7_work_210 : decode cX7_work 210 = .ok (.invokevirtual 225, 3) := by decide +kernel
theorem dX7_work_213 : decode cX7_work 213 = .ok (.ifCond .eq 8, 3) := by decide +kernel
theorem dX7_work_216 : decode cX7_work 216 = .ok (.lload 7, 2) := by decide +kernel
theorem dX7_work_218 : decode cX7_work 218 = .ok (.goto 17, 3) := by decide +kernel
theorem dX7_work_221 : decode cX7_work 221 = .ok (.lload 7, 2) := by decide +kernel
theorem dX7_work_223 : decode cX7_work 223 = .ok (.aload_n 0, 1) := by decide +kernel
theorem dX7_work_224 : decode cX7_work 224 = .ok (.getfield 54, 3) := by decide +kernel
theorem dX7_work_227 : decode cX7_work 227 = .ok (.iconst 0, 1) := by decide +kernel
theorem dX7_work_228 : decode cX7_work 228 = .ok (.iaload, 1) := by decide +kernel
theorem dX7_work_229 : decode cX7_work 229 = .ok (.i2l, 1) := by decide +kernel
theorem dX7_work_230 : decode cX7_work 230 = .ok (.lmul, 1) := by decide +kernel
theorem dX7_work_231 : decode cX7_work 231 = .ok (.ldc2_w 161, 3) := by decide +kernel
theorem dX7_work_234 : decode cX7_work 234 = .ok (.ldiv, 1) := by decide +kernel
theorem dX7_work_235 : decode cX7_work 235 = .ok (.ladd, 1) := by decide +kernel
theorem dX7_work_236 : decode cX7_work 236 = .ok (.lstore 4, 2) := by decide +kernel
theorem dX7_work_238 : decode cX7_work 238 = .ok (.iinc 6 1, 3) := by decide +kernel
theorem dX7_work_241 : decode cX7_work 241 = .ok (.goto (-67), 3) := by decide +kernel
theorem dX7_work_244 : decode cX7_work 244 = .ok (.lload 4, 2) := by decide +kernel
theorem dX7_work_246 : decode cX7_work 246 = .ok (.aload_n 0, 1) := by decide +kernel
theorem dX7_work_247 : decode cX7_work 247 = .ok (.iload_n 1, 1) := by decide +kernel
theorem dX7_work_248 : decode cX7_work 248 = .ok (.invokevirtual 228, 3) := by decide +kernel
theorem dX7_work_251 : decode cX7_work 251 = .ok (.lsub, 1) := by decide +kernel
theorem dX7_work_252 : decode cX7_work 252 = .ok (.lstore 4, 2) := by decide +kernel
theorem dX7_work_254 : decode cX7_work 254 = .ok (.aload_n 0, 1) := by decide +kernel
theorem dX7_work_255 : decode cX7_work 255 = .ok (.getfield 88, 3) := by decide +kernel
theorem dX7_work_258 : decode cX7_work 258 = .ok (.iload_n 1, 1) := by decide +kernel
theorem dX7_work_259 : decode cX7_work 259 = .ok (.lload 4, 2) := by decide +kernel
theorem dX7_work_261 : decode cX7_work 261 = .ok (.lconst 0, 1) := by decide +kernel
theorem dX7_work_262 : decode cX7_work 262 = .ok (.lcmp, 1) := by decide +kernel
theorem dX7_work_263 : decode cX7_work 263 = .ok (.ifCond .ge 7, 3) := by decide +kernel
theorem dX7_work_266 : decode cX7_work 266 = .ok (.lconst 0, 1) := by decide +kernel
theorem dX7_work_267 : decode cX7_work 267 = .ok (.goto 5, 3) := by decide +kernel
theorem dX7_work_270 : decode cX7_work 270 = .ok (.lload 4, 2) := by decide +kernel
theorem dX7_work_272 : decode cX7_work 272 = .ok (.lastore, 1) := by decide +kernel
theorem dX7_work_273 : decode cX7_work 273 = .ok (.aload_n 0, 1) := by decide +kernel
theorem dX7_work_274 : decode cX7_work 274 = .ok (.getfield 84, 3) := by decide +kernel
theorem dX7_work_277 : decode cX7_work 277 = .ok (.iload_n 1, 1) := by decide +kernel
theorem dX7_work_278 : decode cX7_work 278 = .ok (.laload, 1) := by decide +kernel
theorem dX7_work_279 : decode cX7_work 279 = .ok (.aload_n 0, 1) := by decide +kernel
theorem dX7_work_280 : decode cX7_work 280 = .ok (.getfield 88, 3) := by decide +kernel
theorem dX7_work_283 : decode cX7_work 283 = .ok (.iload_n 1, 1) := by decide +kernel
theorem dX7_work_284 : decode cX7_work 284 = .ok (.laload, 1) := by decide +kernel
theorem dX7_work_285 : decode cX7_work 285 = .ok (.ladd, 1) := by decide +kernel
theorem dX7_work_286 : decode cX7_work 286 = .ok (.aload_n 0, 1) := by decide +kernel
theorem dX7_work_287 : decode cX7_work 287 = .ok (.getfield 91, 3) := by decide +kernel
theorem dX7_work_290 : decode cX7_work 290 = .ok (.iload_n 1, 1) := by decide +kernel
theorem dX7_work_291 : decode cX7_work 291 = .ok (.laload, 1) := by decide +kernel
theorem dX7_work_292 : decode cX7_work 292 = .ok (.ladd, 1) := by decide +kernel
theorem dX7_work_293 : decode cX7_work 293 = .ok (.lstore 6, 2) := by decide +kernel
theorem dX7_work_295 : decode cX7_work 295 = .ok (.iload_n 3, 1) := by decide +kernel
theorem dX7_work_296 : decode cX7_work 296 = .ok (.iconst (-1), 1) := by decide +kernel
theorem dX7_work_297 : decode cX7_work 297 = .ok (.if_icmp .ne 7, 3) := by decide +kernel
theorem dX7_work_300 : decode cX7_work 300 = .ok (.lconst 0, 1) := by decide +kernel
theorem dX7_work_301 : decode cX7_work 301 = .ok (.goto 20, 3) := by decide +kernel
theorem dX7_work_304 : decode cX7_work 304 = .ok (.aload_n 0, 1) := by decide +kernel
theorem dX7_work_305 : decode cX7_work 305 = .ok (.iload_n 3, 1) := by decide +kernel
theorem dX7_work_306 : decode cX7_work 306 = .ok (.invokevirtual 221, 3) := by decide +kernel
theorem dX7_work_309 : decode cX7_work 309 = .ok (.aload_n 0, 1) := by decide +kernel
theorem dX7_work_310 : decode cX7_work 310 = .ok (.getfield 54, 3) := by decide +kernel
theorem dX7_work_313 : decode cX7_work 313 = .ok (.iconst 2, 1) := by decide +kernel
theorem dX7_work_314 : decode cX7_work 314 = .ok (.iaload, 1) := by decide +kernel
theorem dX7_work_315 : decode cX7_work 315 = .ok (.i2l, 1) := by decide +kernel
theorem dX7_work_316 : decode cX7_work 316 = .ok (.lmul, 1) := by decide +kernel
theorem dX7_work_317 : decode cX7_work 317 = .ok (.ldc2_w 161, 3) := by decide +kernel
theorem dX7_work_320 : decode cX7_work 320 = .ok (.ldiv, 1) := by decide +kernel
theorem dX7_work_321 : decode cX7_work 321 = .ok (.lstore 8, 2) := by decide +kernel
theorem dX7_work_323 : decode cX7_work 323 = .ok (.aload_n 0, 1) := by decide +kernel
theorem dX7_work_324 : decode cX7_work 324 = .ok (.getfield 94, 3) := by decide +kernel
theorem dX7_work_327 : decode cX7_work 327 = .ok (.iload_n 1, 1) := by decide +kernel
theorem dX7_work_328 : decode cX7_work 328 = .ok (.lload 8, 2) := by decide +kernel
theorem dX7_work_330 : decode cX7_work 330 = .ok (.lload 6, 2) := by decide +kernel
theorem dX7_work_332 : decode cX7_work 332 = .ok (.lcmp, 1) := by decide +kernel
theorem dX7_work_333 : decode cX7_work 333 = .ok (.ifCond .le 8, 3) := by decide +kernel
theorem dX7_work_336 : decode cX7_work 336 = .ok (.lload 6, 2) := by decide +kernel
theorem dX7_work_338 : decode cX7_work 338 = .ok (.goto 5, 3) := by decide +kernel
theorem dX7_work_341 : decode cX7_work 341 = .ok (.lload 8, 2) := by decide +kernel
theorem dX7_work_343 : decode cX7_work 343 = .ok (.lastore, 1) := by decide +kernel
theorem dX7_work_344 : decode cX7_work 344 = .ok (.aload_n 0, 1) := by decide +kernel
theorem dX7_work_345 : decode cX7_work 345 = .ok (.iload_n 1, 1) := by decide +kernel
theorem dX7_work_346 : decode cX7_work 346 = .ok (.invokevirtual 231, 3) := by decide +kernel
theorem dX7_work_349 : decode cX7_work 349 = .ok (.return_, 1) := by decide +kernel
theorem dX7_lossBefore_0 : decode cX7_lossBefore 0 = .ok (.lconst 0, 1) := by decide +kernel
theorem dX7_lossBefore_1 : decode cX7_lossBefore 1 = .ok (.lstore_n 2, 1) := by decide +kernel
theorem dX7_lossBefore_2 : decode cX7_lossBefore 2 = .ok (.iconst 0, 1) := by decide +kernel
theorem dX7_lossBefore_3 : decode cX7_lossBefore 3 = .ok (.istore 4, 2) := by decide +kernel
theorem dX7_lossBefore_5 : decode cX7_lossBefore 5 = .ok (.iload 4, 2) := by decide +kernel
theorem dX7_lossBefore_7 : decode cX7_lossBefore 7 = .ok (.aload_n 0, 1) := by decide +kernel
theorem dX7_lossBefore_8 : decode cX7_lossBefore 8 = .ok (.getfield 197, 3) := by decide +kernel
theorem dX7_lossBefore_11 : decode cX7_lossBefore 11 = .ok (.iconst 1, 1) := by decide +kernel
theorem dX7_lossBefore_12 : decode cX7_lossBefore 12 = .ok (.isub, 1) := by decide +kernel
theorem dX7_lossBefore_13 : decode cX7_lossBefore 13 = .ok (.if_icmp .ge 70, 3) := by decide +kernel
theorem dX7_lossBefore_16 : decode cX7_lossBefore 16 = .ok (.bipush 12, 2) := by decide +kernel
theorem dX7_lossBefore_18 : decode cX7_lossBefore 18 = .ok (.iload 4, 2) := by decide +kernel
theorem dX7_lossBefore_20 : decode cX7_lossBefore 20 = .ok (.imul, 1) := by decide +kernel
theorem dX7_lossBefore_21 : decode cX7_lossBefore 21 = .ok (.istore 5, 2) := by decide +kernel
theorem dX7_lossBefore_23 : decode cX7_lossBefore 23 = .ok (.iload 5, 2) := by decide +kernel
theorem dX7_lossBefore_25 : decode cX7_lossBefore 25 = .ok (.bipush 12, 2) := by decide +kernel
theorem dX7_lossBefore_27 : decode cX7_lossBefore 27 = .ok (.iload 4, 2) := by decide +kernel
theorem dX7_lossBefore_29 : decode cX7_lossBefore 29 = .ok (.imul, 1) := by decide +kernel
theorem dX7_lossBefore_30 : decode cX7_lossBefore 30 = .ok (.aload_n 0, 1) := by decide +kernel
theorem dX7_lossBefore_31 : decode cX7_lossBefore 31 = .ok (.getfield 63, 3) := by decide +kernel
theorem dX7_lossBefore_34 : decode cX7_lossBefore 34 = .ok (.iload 4, 2) := by decide +kernel
theorem dX7_lossBefore_36 : decode cX7_lossBefore 36 = .ok (.iaload, 1) := by decide +kernel
theorem dX7_lossBefore_37 : decode cX7_lossBefore 37 = .ok (.iadd, 1) := by decide +kernel
theorem dX7_lossBefore_38 : decode cX7_lossBefore 38 = .ok (.if_icmp .ge 39, 3) := by decide +kernel
theorem dX7_lossBefore_41 : decode cX7_lossBefore 41 = .ok (.lload_n 2, 1) := by decide +kernel
theorem dX7_lossBefore_42 : decode cX7_lossBefore 42 = .ok (.aload_n 0, 1) := by decide +kernel
theorem dX7_lossBefore_43 : decode cX7_lossBefore 43 = .ok (.getfield 69, 3) := by decide +kernel
theorem dX7_lossBefore_46 : decode cX7_lossBefore 46 = .ok (.iload 5, 2) := by decide +kernel
theorem dX7_lossBefore_48 : decode cX7_lossBefore 48 = .ok (.iaload, 1) := by decide +kernel
theorem dX7_lossBefore_49 : decode cX7_lossBefore 49 = .ok (.aload_n 0, 1) := by decide +kernel
theorem dX7_lossBefore_50 : decode cX7_lossBefore 50 = .ok (.getfield 69, 3) := by decide +kernel
theorem dX7_lossBefore_53 : decode cX7_lossBefore 53 = .ok (.iload_n 1, 1) := by decide +kernel
theorem dX7_lossBefore_54 : decode cX7_lossBefore 54 = .ok (.iaload, 1) := by decide +kernel
theorem dX7_lossBefore_55 : decode cX7_lossBefore 55 = .ok (.if_icmp .ne 13, 3) := by decide +kernel
theorem dX7_lossBefore_58 : decode cX7_lossBefore 58 = .ok (.aload_n 0, 1) := by decide +kernel
theorem dX7_lossBefore_59 : decode cX7_lossBefore 59 = .ok (.getfield 88, 3) := by decide +kernel
theorem dX7_lossBefore_62 : decode cX7_lossBefore 62 = .ok (.iload 5, 2) := by decide +kernel
theorem dX7_lossBefore_64 : decode cX7_lossBefore 64 = .ok (.laload, 1) := by decide +kernel
theorem dX7_lossBefore_65 : decode cX7_lossBefore 65 = .ok (.goto 4, 3) := by decide +kernel
theorem dX7_lossBefore_68 : decode cX7_lossBefore 68 = .ok (.lconst 0, 1) := by decide +kernel
theorem dX7_lossBefore_69 : decode cX7_lossBefore 69 = .ok (.ladd, 1) := by decide +kernel
theorem dX7_lossBefore_70 : decode cX7_lossBefore 70 = .ok (.lstore_n 2, 1) := by decide +kernel
theorem dX7_lossBefore_71 : decode cX7_lossBefore 71 = .ok (.iinc 5 1, 3) := by decide +kernel
theorem dX7_lossBefore_74 : decode cX7_lossBefore 74 = .ok (.goto (-51), 3) := by decide +kernel
theorem dX7_lossBefore_77 : decode cX7_lossBefore 77 = .ok (.iinc 4 1, 3) := by decide +kernel
theorem dX7_lossBefore_80 : decode cX7_lossBefore 80 = .ok (.goto (-75), 3) := by decide +kernel
theorem dX7_lossBefore_83 : decode cX7_lossBefore 83 = .ok (.lload_n 2, 1) := by decide +kernel
theorem dX7_lossBefore_84 : decode cX7_lossBefore 84 = .ok (.lreturn, 1) := by decide +kernel
theorem dX7_debtLeft_0 : decode cX7_debtLeft 0 = .ok (.aload_n 0, 1) := by decide +kernel
theorem dX7_debtLeft_1 : decode cX7_debtLeft 1 = .ok (.getfield 42, 3) := by decide +kernel
theorem dX7_debtLeft_4 : decode cX7_debtLeft 4 = .ok (.iconst 4, 1) := by decide +kernel
theorem dX7_debtLeft_5 : decode cX7_debtLeft 5 = .ok (.iload_n 1, 1) := by decide +kernel
theorem dX7_debtLeft_6 : decode cX7_debtLeft 6 = .ok (.imul, 1) := by decide +kernel
theorem dX7_debtLeft_7 : decode cX7_debtLeft 7 = .ok (.iload_n 2, 1) := by decide +kernel
theorem dX7_debtLeft_8 : decode cX7_debtLeft 8 = .ok (.iadd, 1) := by decide +kernel
theorem dX7_debtLeft_9 : decode cX7_debtLeft 9 = .ok (.iaload, 1) := by decide +kernel
theorem dX7_debtLeft_10 : decode cX7_debtLeft 10 = .ok (.i2l, 1) := by decide +kernel
theorem dX7_debtLeft_11 : decode cX7_debtLeft 11 = .ok (.lstore_n 3, 1) := by decide +kernel
theorem dX7_debtLeft_12 : decode cX7_debtLeft 12 = .ok (.iconst 0, 1) := by decide +kernel
theorem dX7_debtLeft_13 : decode cX7_debtLeft 13 = .ok (.istore 5, 2) := by decide +kernel
theorem dX7_debtLeft_15 : decode cX7_debtLeft 15 = .ok (.iload 5, 2) := by decide +kernel
theorem dX7_debtLeft_17 : decode cX7_debtLeft 17 = .ok (.aload_n 0, 1) := by decide +kernel
theorem dX7_debtLeft_18 : decode cX7_debtLeft 18 = .ok (.getfield 197, 3) := by decide +kernel
theorem dX7_debtLeft_21 : decode cX7_debtLeft 21 = .ok (.if_icmp .ge 69, 3) := by decide +kernel
theorem dX7_debtLeft_24 : decode cX7_debtLeft 24 = .ok (.bipush 12, 2) := by decide +kernel
theorem dX7_debtLeft_26 : decode cX7_debtLeft 26 = .ok (.iload 5, 2) := by decide +kernel
theorem dX7_debtLeft_28 : decode cX7_debtLeft 28 = .ok (.imul, 1) := by decide +kernel
theorem dX7_debtLeft_29 : decode cX7_debtLeft 29 = .ok (.istore 6, 2) := by decide +kernel
theorem dX7_debtLeft_31 : decode cX7_debtLeft 31 = .ok (.iload 6, 2) := by decide +kernel
theorem dX7_debtLeft_33 : decode cX7_debtLeft 33 = .ok (.bipush 12, 2) := by decide +kernel
theorem dX7_debtLeft_35 : decode cX7_debtLeft 35 = .ok (.iload 5, 2) := by decide +kernel
theorem dX7_debtLeft_37 : decode cX7_debtLeft 37 = .ok (.imul, 1) := by decide +kernel
theorem dX7_debtLeft_38 : decode cX7_debtLeft 38 = .ok (.aload_n 0, 1) := by decide +kernel
theorem dX7_debtLeft_39 : decode cX7_debtLeft 39 = .ok (.getfield 63, 3) := by decide +kernel
theorem dX7_debtLeft_42 : decode cX7_debtLeft 42 = .ok (.iload 5, 2) := by decide +kernel
theorem dX7_debtLeft_44 : decode cX7_debtLeft 44 = .ok (.iaload, 1) := by decide +kernel
theorem dX7_debtLeft_45 : decode cX7_debtLeft 45 = .ok (.iadd, 1) := by decide +kernel
theorem dX7_debtLeft_46 : decode cX7_debtLeft 46 = .ok (.if_icmp .ge 38, 3) := by decide +kernel
theorem dX7_debtLeft_49 : decode cX7_debtLeft 49 = .ok (.lload_n 3, 1) := by decide +kernel
theorem dX7_debtLeft_50 : decode cX7_debtLeft 50 = .ok (.aload_n 0, 1) := by decide +kernel
theorem dX7_debtLeft_51 : decode cX7_debtLeft 51 = .ok (.getfield 69, 3) := by decide +kernel
theorem dX7_debtLeft_54 : decode cX7_debtLeft 54 = .ok (.iload 6, 2) := by decide +kernel
theorem dX7_debtLeft_56 : decode cX7_debtLeft 56 = .ok (.iaload, 1) := by decide +kernel
theorem dX7_debtLeft_57 : decode cX7_debtLeft 57 = .ok (.iload_n 1, 1) := by decide +kernel
theorem dX7_debtLeft_58 : decode cX7_debtLeft 58 = .ok (.if_icmp .ne 17, 3) := by decide +kernel
theorem dX7_debtLeft_61 : decode cX7_debtLeft 61 = .ok (.aload_n 0, 1) := by decide +kernel
theorem dX7_debtLeft_62 : decode cX7_debtLeft 62 = .ok (.getfield 109, 3) := by decide +kernel
theorem dX7_debtLeft_65 : decode cX7_debtLeft 65 = .ok (.iconst 4, 1) := by decide +kernel
theorem dX7_debtLeft_66 : decode cX7_debtLeft 66 = .ok (.iload 6, 2) := by decide +kernel
theorem dX7_debtLeft_68 : decode cX7_debtLeft 68 = .ok (.imul, 1) := by decide +kernel
theorem dX7_debtLeft_69 : decode cX7_debtLeft 69 = .ok (.iload_n 2, 1) := by decide +kernel
theorem dX7_debtLeft_70 : decode cX7_debtLeft 70 = .ok (.iadd, 1) := by decide +kernel
theorem dX7_debtLeft_71 : decode cX7_debtLeft 71 = .ok (.laload, 1) := by decide +kernel
theorem dX7_debtLeft_72 : decode cX7_debtLeft 72 = .ok (.goto 4, 3) := by decide +kernel
theorem dX7_debtLeft_75 : decode cX7_debtLeft 75 = .ok (.lconst 0, 1) := by decide +kernel
theorem dX7_debtLeft_76 : decode cX7_debtLeft 76 = .ok (.lsub, 1) := by decide +kernel
theorem dX7_debtLeft_77 : decode cX7_debtLeft 77 = .ok (.lstore_n 3, 1) := by decide +kernel
theorem dX7_debtLeft_78 : decode cX7_debtLeft 78 = .ok (.iinc 6 1, 3) := by decide +kernel
theorem dX7_debtLeft_81 : decode cX7_debtLeft 81 = .ok (.goto (-50), 3) := by decide +kernel
theorem dX7_debtLeft_84 : decode cX7_debtLeft 84 = .ok (.iinc 5 1, 3) := by decide +kernel
theorem dX7_debtLeft_87 : decode cX7_debtLeft 87 = .ok (.goto (-72), 3) := by decide +kernel
theorem dX7_debtLeft_90 : decode cX7_debtLeft 90 = .ok (.lload_n 3, 1) := by decide +kernel
theorem dX7_debtLeft_91 : decode cX7_debtLeft 91 = .ok (.lreturn, 1) := by decide +kernel
theorem dX7_dueOf_0 : decode cX7_dueOf 0 = .ok (.aload_n 0, 1) := by decide +kernel
theorem dX7_dueOf_1 : decode cX7_dueOf 1 = .ok (.getfield 84, 3) := by decide +kernel
theorem dX7_dueOf_4 : decode cX7_dueOf 4 = .ok (.iload_n 1, 1) := by decide +kernel
theorem dX7_dueOf_5 : decode cX7_dueOf 5 = .ok (.laload, 1) := by decide +kernel
theorem dX7_dueOf_6 : decode cX7_dueOf 6 = .ok (.aload_n 0, 1) := by decide +kernel
theorem dX7_dueOf_7 : decode cX7_dueOf 7 = .ok (.getfield 88, 3) := by decide +kernel
theorem dX7_dueOf_10 : decode cX7_dueOf 10 = .ok (.iload_n 1, 1) := by decide +kernel
theorem dX7_dueOf_11 : decode cX7_dueOf 11 = .ok (.laload, 1) := by decide +kernel
theorem dX7_dueOf_12 : decode cX7_dueOf 12 = .ok (.ladd, 1) := by decide +kernel
theorem dX7_dueOf_13 : decode cX7_dueOf 13 = .ok (.aload_n 0, 1) := by decide +kernel
theorem dX7_dueOf_14 : decode cX7_dueOf 14 = .ok (.getfield 91, 3) := by decide +kernel
theorem dX7_dueOf_17 : decode cX7_dueOf 17 = .ok (.iload_n 1, 1) := by decide +kernel
theorem dX7_dueOf_18 : decode cX7_dueOf 18 = .ok (.laload, 1) := by decide +kernel
theorem dX7_dueOf_19 : decode cX7_dueOf 19 = .ok (.ladd, 1) := by decide +kernel
theorem dX7_dueOf_20 : decode cX7_dueOf 20 = .ok (.aload_n 0, 1) := by decide +kernel
theorem dX7_dueOf_21 : decode cX7_dueOf 21 = .ok (.getfield 94, 3) := by decide +kernel
theorem dX7_dueOf_24 : decode cX7_dueOf 24 = .ok (.iload_n 1, 1) := by decide +kernel
theorem dX7_dueOf_25 : decode cX7_dueOf 25 = .ok (.laload, 1) := by decide +kernel
theorem dX7_dueOf_26 : decode cX7_dueOf 26 = .ok (.lsub, 1) := by decide +kernel
theorem dX7_dueOf_27 : decode cX7_dueOf 27 = .ok (.lreturn, 1) := by decide +kernel
theorem dX7_share_0 : decode cX7_share 0 = .ok (.aload_n 0, 1) := by decide +kernel
theorem dX7_share_1 : decode cX7_share 1 = .ok (.getfield 69, 3) := by decide +kernel
theorem dX7_share_4 : decode cX7_share 4 = .ok (.iload_n 1, 1) := by decide +kernel
theorem dX7_share_5 : decode cX7_share 5 = .ok (.iaload, 1) := by decide +kernel
theorem dX7_share_6 : decode cX7_share 6 = .ok (.istore_n 2, 1) := by decide +kernel
theorem dX7_share_7 : decode cX7_share 7 = .ok (.aload_n 0, 1) := by decide +kernel
theorem dX7_share_8 : decode cX7_share 8 = .ok (.iload_n 1, 1) := by decide +kernel
theorem dX7_share_9 : decode cX7_share 9 = .ok (.invokevirtual 234, 3) := by decide +kernel
theorem dX7_share_12 : decode cX7_share 12 = .ok (.lstore_n 3, 1) := by decide +kernel
theorem dX7_share_13 : decode cX7_share 13 = .ok (.lload_n 3, 1) := by decide +kernel
theorem dX7_share_14 : decode cX7_share 14 = .ok (.lstore 5, 2) := by decide +kernel
theorem dX7_share_16 : decode cX7_share 16 = .ok (.iconst 0, 1) := by decide +kernel
theorem dX7_share_17 : decode cX7_share 17 = .ok (.istore 7, 2) := by decide +kernel
theorem dX7_share_19 : decode cX7_share 19 = .ok (.iload 7, 2) := by decide +kernel
theorem dX7_share_21 : decode cX7_share 21 = .ok (.aload_n 0, 1) := by decide +kernel
theorem dX7_share_22 : decode cX7_share 22 = .ok (.getfield 36, 3) := by decide +kernel
theorem dX7_share_25 : decode cX7_share 25 = .ok (.iload_n 2, 1) := by decide +kernel
theorem dX7_share_26 : decode cX7_share 26 = .ok (.iaload, 1) := by decide +kernel
theorem dX7_share_27 : decode cX7_share 27 = .ok (.if_icmp .ge 96, 3) := by decide +kernel
theorem dX7_share_30 : decode cX7_share 30 = .ok (.aload_n 0, 1) := by decide +kernel
theorem dX7_share_31 : decode cX7_share 31 = .ok (.getfield 39, 3) := by decide +kernel
theorem dX7_share_34 : decode cX7_share 34 = .ok (.iconst 4, 1) := by decide +kernel
theorem dX7_share_35 : decode cX7_share 35 = .ok (.iload_n 2, 1) := by decide +kernel
theorem dX7_share_36 : decode cX7_share 36 = .ok (.imul, 1) := by decide +kernel
theorem dX7_share_37 : decode cX7_share 37 = .ok (.iload 7, 2) := by decide +kernel
theorem dX7_share_39 : decode cX7_share 39 = .ok (.iadd, 1) := by decide +kernel
theorem dX7_share_40 : decode cX7_share 40 = .ok (.iaload, 1) := by decide +kernel
theorem dX7_share_41 : decode cX7_share 41 = .ok (.iconst 2, 1) := by decide +kernel
theorem dX7_share_42 : decode cX7_share 42 = .ok (.if_icmp .ne 24, 3) := by decide +kernel
theorem dX7_share_45 : decode cX7_share 45 = .ok (.lload_n 3, 1) := by decide +kernel
theorem dX7_share_46 : decode cX7_share 46 = .ok (.aload_n 0, 1) := by decide +kernel
theorem dX7_share_47 : decode cX7_share 47 = .ok (.getfield 42, 3) := by decide +kernel
theorem dX7_share_50 : decode cX7_share 50 = .ok (.iconst 4, 1) := by decide +kernel
theorem dX7_share_51 : decode cX7_share 51 = .ok (.iload_n 2, 1) := by decide +kernel
theorem dX7_share_52 : decode cX7_share 52 = .ok (.imul, 1) := by decide +kernel
theorem dX7_share_53 : decode cX7_share 53 = .ok (.iload 7, 2) := by decide +kernel
theorem dX7_share_55 : decode cX7_share 55 = .ok (.iadd, 1) := by decide +kernel
theorem dX7_share_56 : decode cX7_share 56 = .ok (.iaload, 1) := by decide +kernel
theorem dX7_share_57 : decode cX7_share 57 = .ok (.i2l, 1) := by decide +kernel
theorem dX7_share_58 : decode cX7_share 58 = .ok (.lmul, 1) := by decide +kernel
theorem dX7_share_59 : decode cX7_share 59 = .ok (.ldc2_w 161, 3) := by decide +kernel
theorem dX7_share_62 : decode cX7_share 62 = .ok (.ldiv, 1) := by decide +kernel
theorem dX7_share_63 : decode cX7_share 63 = .ok (.goto 10, 3) := by decide +kernel
theorem dX7_share_66 : decode cX7_share 66 = .ok (.aload_n 0, 1) := by decide +kernel
theorem dX7_share_67 : decode cX7_share 67 = .ok (.iload_n 2, 1) := by decide +kernel
theorem dX7_share_68 : decode cX7_share 68 = .ok (.iload 7, 2) := by decide +kernel
theorem dX7_share_70 : decode cX7_share 70 = .ok (.invokevirtual 237, 3) := by decide +kernel
theorem dX7_share_73 : decode cX7_share 73 = .ok (.lstore 8, 2) := by decide +kernel
theorem dX7_share_75 : decode cX7_share 75 = .ok (.aload_n 0, 1) := by decide +kernel
theorem dX7_share_76 : decode cX7_share 76 = .ok (.getfield 109, 3) := by decide +kernel
theorem dX7_share_79 : decode cX7_share 79 = .ok (.iconst 4, 1) := by decide +kernel
theorem dX7_share_80 : decode cX7_share 80 = .ok (.iload_n 1, 1) := by decide +kernel
theorem dX7_share_81 : decode cX7_share 81 = .ok (.imul, 1) := by decide +kernel
theorem dX7_share_82 : decode cX7_share 82 = .ok (.iload 7, 2) := by decide +kernel
theorem dX7_share_84 : decode cX7_share 84 = .ok (.iadd, 1) := by decide +kernel
theorem dX7_share_85 : decode cX7_share 85 = .ok (.lload 8, 2) := by decide +kernel
theorem dX7_share_87 : decode cX7_share 87 = .ok (.lload 5, 2) := by decide +kernel
theorem dX7_share_89 : decode cX7_share 89 = .ok (.lcmp, 1) := by decide +kernel
theorem dX7_share_90 : decode cX7_share 90 = .ok (.ifCond .le 8, 3) := by decide +kernel
theorem dX7_share_93 : decode cX7_share 93 = .ok (.lload 5, 2) := by decide +kernel
theorem dX7_share_95 : decode cX7_share 95 = .ok (.goto 5, 3) := by decide +kernel
theorem dX7_share_98 : decode cX7_share 98 = .ok (.lload 8, 2) := by decide +kernel
theorem dX7_share_100 : decode cX7_share 100 = .ok (.lastore, 1) := by decide +kernel
theorem dX7_share_101 : decode cX7_share 101 = .ok (.lload 5, 2) := by decide +kernel
theorem dX7_share_103 : decode cX7_share 103 = .ok (.aload_n 0, 1) := by decide +kernel
theorem dX7_share_104 : decode cX7_share 104 = .ok (.getfield 109, 3) := by decide +kernel
theorem dX7_share_107 : decode cX7_share 107 = .ok (.iconst 4, 1) := by decide +kernel
theorem dX7_share_108 : decode cX7_share 108 = .ok (.iload_n 1, 1) := by decide +kernel
theorem dX7_share_109 : decode cX7_share 109 = .ok (.imul, 1) := by decide +kernel
theorem dX7_share_110 : decode cX7_share 110 = .ok (.iload 7, 2) := by decide +kernel
theorem dX7_share_112 : decode cX7_share 112 = .ok (.iadd, 1) := by decide +kernel
theorem dX7_share_113 : decode cX7_share 113 = .ok (.laload, 1) := by decide +kernel
theorem dX7_share_114 : decode cX7_share 114 = .ok (.lsub, 1) := by decide +kernel
theorem dX7_share_115 : decode cX7_share 115 = .ok (.lstore 5, 2) := by decide +kernel
theorem dX7_share_117 : decode cX7_share 117 = .ok (.iinc 7 1, 3) := by decide +kernel
theorem dX7_share_120 : decode cX7_share 120 = .ok (.goto (-101), 3) := by decide +kernel
theorem dX7_share_123 : decode cX7_share 123 = .ok (.return_, 1) := by decide +kernel
theorem dX7_undo_0 : decode cX7_undo 0 = .ok (.aload_n 0, 1) := by decide +kernel
theorem dX7_undo_1 : decode cX7_undo 1 = .ok (.getfield 197, 3) := by decide +kernel
theorem dX7_undo_4 : decode cX7_undo 4 = .ok (.ifCond .eq 10, 3) := by decide +kernel
theorem dX7_undo_7 : decode cX7_undo 7 = .ok (.aload_n 0, 1) := by decide +kernel
theorem dX7_undo_8 : decode cX7_undo 8 = .ok (.getfield 200, 3) := by decide +kernel
theorem dX7_undo_11 : decode cX7_undo 11 = .ok (.ifCond .eq 7, 3) := by decide +kernel
theorem dX7_undo_14 : decode cX7_undo 14 = .ok (.ldc2_w 241, 3) := by decide +kernel
theorem dX7_undo_17 : decode cX7_undo 17 = .ok (.lreturn, 1) := by decide +kernel
theorem dX7_undo_18 : decode cX7_undo 18 = .ok (.aload_n 0, 1) := by decide +kernel
theorem dX7_undo_19 : decode cX7_undo 19 = .ok (.getfield 197, 3) := by decide +kernel
theorem dX7_undo_22 : decode cX7_undo 22 = .ok (.iconst 1, 1) := by decide +kernel
theorem dX7_undo_23 : decode cX7_undo 23 = .ok (.isub, 1) := by decide +kernel
theorem dX7_undo_24 : decode cX7_undo 24 = .ok (.istore_n 1, 1) := by decide +kernel
theorem dX7_undo_25 : decode cX7_undo 25 = .ok (.lconst 0, 1) := by decide +kernel
theorem dX7_undo_26 : decode cX7_undo 26 = .ok (.lstore_n 2, 1) := by decide +kernel
theorem dX7_undo_27 : decode cX7_undo 27 = .ok (.bipush 12, 2) := by decide +kernel
theorem dX7_undo_29 : decode cX7_undo 29 = .ok (.iload_n 1, 1) := by decide +kernel
theorem dX7_undo_30 : decode cX7_undo 30 = .ok (.imul, 1) := by decide +kernel
theorem dX7_undo_31 : decode cX7_undo 31 = .ok (.istore 4, 2) := by decide +kernel
theorem dX7_undo_33 : decode cX7_undo 33 = .ok (.iload 4, 2) := by decide +kernel
theorem dX7_undo_35 : decode cX7_undo 35 = .ok (.bipush 12, 2) := by decide +kernel
theorem dX7_undo_37 : decode cX7_undo 37 = .ok (.iload_n 1, 1) := by decide +kernel
theorem dX7_undo_38 : decode cX7_undo 38 = .ok (.imul, 1) := by decide +kernel
theorem dX7_undo_39 : decode cX7_undo 39 = .ok (.aload_n 0, 1) := by decide +kernel
theorem dX7_undo_40 : decode cX7_undo 40 = .ok (.getfield 63, 3) := by decide +kernel
theorem dX7_undo_43 : decode cX7_undo 43 = .ok (.iload_n 1, 1) := by decide +kernel
theorem dX7_undo_44 : decode cX7_undo 44 = .ok (.iaload, 1) := by decide +kernel
theorem dX7_undo_45 : decode cX7_undo 45 = .ok (.iadd, 1) := by decide +kernel
theorem dX7_undo_46 : decode cX7_undo 46 = .ok (.if_icmp .ge 27, 3) := by decide +kernel
theorem dX7_undo_49 : decode cX7_undo 49 = .ok (.lload_n 2, 1) := by decide +kernel
theorem dX7_undo_50 : decode cX7_undo 50 = .ok (.aload_n 0, 1) := by decide +kernel
theorem dX7_undo_51 : decode cX7_undo 51 = .ok (.getfield 97, 3) := by decide +kernel
theorem dX7_undo_54 : decode cX7_undo 54 = .ok (.iload 4, 2) := by decide +kernel
theorem dX7_undo_56 : decode cX7_undo 56 = .ok (.laload, 1) := by decide +kernel
theorem dX7_undo_57 : decode cX7_undo 57 = .ok (.aload_n 0, 1) := by decide +kernel
theorem dX7_undo_58 : decode cX7_undo 58 = .ok (.getfield 100, 3) := by decide +kernel
theorem dX7_undo_61 : decode cX7_undo 61 = .ok (.iload 4, 2) := by decide +kernel
theorem dX7_undo_63 : decode cX7_undo 63 = .ok (.laload, 1) := by decide +kernel
theorem dX7_undo_64 : decode cX7_undo 64 = .ok (.ladd, 1) := by decide +kernel
theorem dX7_undo_65 : decode cX7_undo 65 = .ok (.ladd, 1) := by decide +kernel
theorem dX7_undo_66 : decode cX7_undo 66 = .ok (.lstore_n 2, 1) := by decide +kernel
theorem dX7_undo_67 : decode cX7_undo 67 = .ok (.iinc 4 1, 3) := by decide +kernel
theorem dX7_undo_70 : decode cX7_undo 70 = .ok (.goto (-37), 3) := by decide +kernel
theorem dX7_undo_73 : decode cX7_undo 73 = .ok (.iconst 0, 1) := by decide +kernel
theorem dX7_undo_74 : decode cX7_undo 74 = .ok (.istore 4, 2) := by decide +kernel
theorem dX7_undo_76 : decode cX7_undo 76 = .ok (.iload 4, 2) := by decide +kernel
theorem dX7_undo_78 : decode cX7_undo 78 = .ok (.sipush 256, 3) := by decide +kernel
theorem dX7_undo_81 : decode cX7_undo 81 = .ok (.if_icmp .ge 40, 3) := by decide +kernel
theorem dX7_undo_84 : decode cX7_undo 84 = .ok (.aload_n 0, 1) := by decide +kernel
theorem dX7_undo_85 : decode cX7_undo 85 = .ok (.getfield 30, 3) := by decide +kernel
theorem dX7_undo_88 : decode cX7_undo 88 = .ok (.iload 4, 2) := by decide +kernel
theorem dX7_undo_90 : decode cX7_undo 90 = .ok (.aload_n 0, 1) := by decide +kernel
theorem dX7_undo_91 : decode cX7_undo 91 = .ok (.getfield 30, 3) := by decide +kernel
theorem dX7_undo_94 : decode cX7_undo 94 = .ok (.iload 4, 2) := by decide +kernel
theorem dX7_undo_96 : decode cX7_undo 96 = .ok (.iaload, 1) := by decide +kernel
theorem dX7_undo_97 : decode cX7_undo 97 = .ok (.iload_n 1, 1) := by decide +kernel
theorem dX7_undo_98 : decode cX7_undo 98 = .ok (.iconst 1, 1) := by decide +kernel
theorem dX7_undo_99 : decode cX7_undo 99 = .ok (.iadd, 1) := by decide +kernel
theorem dX7_undo_100 : decode cX7_undo 100 = .ok (.if_icmp .ne 7, 3) := by decide +kernel
theorem dX7_undo_103 : decode cX7_undo 103 = .ok (.iconst 0, 1) := by decide +kernel
theorem dX7_undo_104 : decode cX7_undo 104 = .ok (.goto 10, 3) := by decide +kernel
theorem dX7_undo_107 : decode cX7_undo 107 = .ok (.aload_n 0, 1) := by decide +kernel
theorem dX7_undo_108 : decode cX7_undo 108 = .ok (.getfield 30, 3) := by decide +kernel
theorem dX7_undo_111 : decode cX7_undo 111 = .ok (.iload 4, 2) := by decide +kernel
theorem dX7_undo_113 : decode cX7_undo 113 = .ok (.iaload, 1) := by decide +kernel
theorem dX7_undo_114 : decode cX7_undo 114 = .ok (.iastore, 1) := by decide +kernel
theorem dX7_undo_115 : decode cX7_undo 115 = .ok (.iinc 4 1, 3) := by decide +kernel
theorem dX7_undo_118 : decode cX7_undo 118 = .ok (.goto (-42), 3) := by decide +kernel
theorem dX7_undo_121 : decode cX7_undo 121 = .ok (.aload_n 0, 1) := by decide +kernel
theorem dX7_undo_122 : decode cX7_undo 122 = .ok (.dup, 1) := by decide +kernel
theorem dX7_undo_123 : decode cX7_undo 123 = .ok (.getfield 197, 3) := by decide +kernel
theorem dX7_undo_126 : decode cX7_undo 126 = .ok (.iconst 1, 1) := by decide +kernel
theorem dX7_undo_127 : decode cX7_undo 127 = .ok (.isub, 1) := by decide +kernel
theorem dX7_undo_128 : decode cX7_undo 128 = .ok (.putfield 197, 3) := by decide +kernel
theorem dX7_undo_131 : decode cX7_undo 131 = .ok (.aload_n 0, 1) := by decide +kernel
theorem dX7_undo_132 : decode cX7_undo 132 = .ok (.dup, 1) := by decide +kernel
theorem dX7_undo_133 : decode cX7_undo 133 = .ok (.getfield 243, 3) := by decide +kernel
theorem dX7_undo_136 : decode cX7_undo 136 = .ok (.iconst 1, 1) := by decide +kernel
theorem dX7_undo_137 : decode cX7_undo 137 = .ok (.iadd, 1) := by decide +kernel
theorem dX7_undo_138 : decode cX7_undo 138 = .ok (.putfield 243, 3) := by decide +kernel
theorem dX7_undo_141 : decode cX7_undo 141 = .ok (.lload_n 2, 1) := by decide +kernel
theorem dX7_undo_142 : decode cX7_undo 142 = .ok (.lreturn, 1) := by decide +kernel
theorem dX7_owed_0 : decode cX7_owed 0 = .ok (.aload_n 0, 1) := by decide +kernel
theorem dX7_owed_1 : decode cX7_owed 1 = .ok (.iload_n 1, 1) := by decide +kernel
theorem dX7_owed_2 : decode cX7_owed 2 = .ok (.invokevirtual 234, 3) := by decide +kernel
theorem dX7_owed_5 : decode cX7_owed 5 = .ok (.aload_n 0, 1) := by decide +kernel
theorem dX7_owed_6 : decode cX7_owed 6 = .ok (.getfield 97, 3) := by decide +kernel
theorem dX7_owed_9 : decode cX7_owed 9 = .ok (.iload_n 1, 1) := by decide +kernel
theorem dX7_owed_10 : decode cX7_owed 10 = .ok (.laload, 1) := by decide +kernel
theorem dX7_owed_11 : decode cX7_owed 11 = .ok (.lsub, 1) := by decide +kernel
theorem dX7_owed_12 : decode cX7_owed 12 = .ok (.lreturn, 1) := by decide +kernel
theorem dX7_interestOf_0 : decode cX7_interestOf 0 = .ok (.aload_n 0, 1) := by decide +kernel
theorem dX7_interestOf_1 : decode cX7_interestOf 1 = .ok (.getfield 72, 3) := by decide +kernel
theorem dX7_interestOf_4 : decode cX7_interestOf 4 = .ok (.iload_n 1, 1) := by decide +kernel
theorem dX7_interestOf_5 : decode cX7_interestOf 5 = .ok (.iaload, 1) := by decide +kernel
theorem dX7_interestOf_6 : decode cX7_interestOf 6 = .ok (.iconst 4, 1) := by decide +kernel
theorem dX7_interestOf_7 : decode cX7_interestOf 7 = .ok (.if_icmp .eq 5, 3) := by decide +kernel
theorem dX7_interestOf_10 : decode cX7_interestOf 10 = .ok (.lconst 0, 1) := by decide +kernel
theorem dX7_interestOf_11 : decode cX7_interestOf 11 = .ok (.lreturn, 1) := by decide +kernel
theorem dX7_interestOf_12 : decode cX7_interestOf 12 = .ok (.aload_n 0, 1) := by decide +kernel
theorem dX7_interestOf_13 : decode cX7_interestOf 13 = .ok (.getfield 103, 3) := by decide +kernel
theorem dX7_interestOf_16 : decode cX7_interestOf 16 = .ok (.iload_n 1, 1) := by decide +kernel
theorem dX7_interestOf_17 : decode cX7_interestOf 17 = .ok (.laload, 1) := by decide +kernel
theorem dX7_interestOf_18 : decode cX7_interestOf 18 = .ok (.aload_n 0, 1) := by decide +kernel
theorem dX7_interestOf_19 : decode cX7_interestOf 19 = .ok (.iload_n 1, 1) := by decide +kernel
theorem dX7_interestOf_20 : decode cX7_interestOf 20 = .ok (.invokevirtual 246, 3) := by decide +kernel
theorem dX7_interestOf_23 : decode cX7_interestOf 23 = .ok (.aload_n 0, 1) := by decide +kernel
theorem dX7_interestOf_24 : decode cX7_interestOf 24 = .ok (.getfield 81, 3) := by decide +kernel
theorem dX7_interestOf_27 : decode cX7_interestOf 27 = .ok (.iload_n 1, 1) := by decide +kernel
theorem dX7_interestOf_28 : decode cX7_interestOf 28 = .ok (.iaload, 1) := by decide +kernel
theorem dX7_interestOf_29 : decode cX7_interestOf 29 = .ok (.i2l, 1) := by decide +kernel
theorem dX7_interestOf_30 : decode cX7_interestOf 30 = .ok (.lmul, 1) := by decide +kernel
theorem dX7_interestOf_31 : decode cX7_interestOf 31 = .ok (.aload_n 0, 1) := by decide +kernel
theorem dX7_interestOf_32 : decode cX7_interestOf 32 = .ok (.getfield 174, 3) := by decide +kernel
theorem dX7_interestOf_35 : decode cX7_interestOf 35 = .ok (.aload_n 0, 1) := by decide +kernel
theorem dX7_interestOf_36 : decode cX7_interestOf 36 = .ok (.getfield 106, 3) := by decide +kernel
theorem dX7_interestOf_39 : decode cX7_interestOf 39 = .ok (.iload_n 1, 1) := by decide +kernel
theorem dX7_interestOf_40 : decode cX7_interestOf 40 = .ok (.iaload, 1) := by decide +kernel
theorem dX7_interestOf_41 : decode cX7_interestOf 41 = .ok (.isub, 1) := by decide +kernel
theorem dX7_interestOf_42 : decode cX7_interestOf 42 = .ok (.i2l, 1) := by decide +kernel
theorem dX7_interestOf_43 : decode cX7_interestOf 43 = .ok (.lmul, 1) := by decide +kernel
theorem dX7_interestOf_44 : decode cX7_interestOf 44 = .ok (.ldc2_w 159, 3) := by decide +kernel
theorem dX7_interestOf_47 : decode cX7_interestOf 47 = .ok (.ldiv, 1) := by decide +kernel
theorem dX7_interestOf_48 : decode cX7_interestOf 48 = .ok (.ladd, 1) := by decide +kernel
theorem dX7_interestOf_49 : decode cX7_interestOf 49 = .ok (.lreturn, 1) := by decide +kernel
theorem dX7_pay_0 : decode cX7_pay 0 = .ok (.aload_n 0, 1) := by decide +kernel
theorem dX7_pay_1 : decode cX7_pay 1 = .ok (.iload_n 1, 1) := by decide +kernel
theorem dX7_pay_2 : decode cX7_pay 2 = .ok (.iload_n 2, 1) := by decide +kernel
theorem dX7_pay_3 : decode cX7_pay 3 = .ok (.invokevirtual 249, 3) := by decide +kernel
theorem dX7_pay_6 : decode cX7_pay 6 = .ok (.ifCond .ne 7, 3) := by decide +kernel
theorem dX7_pay_9 : decode cX7_pay 9 = .ok (.ldc2_w 252, 3) := by decide +kernel
theorem dX7_pay_12 : decode cX7_pay 12 = .ok (.lreturn, 1) := by decide +kernel
theorem dX7_pay_13 : decode cX7_pay 13 = .ok (.lload_n 3, 1) := by decide +kernel
theorem dX7_pay_14 : decode cX7_pay 14 = .ok (.lconst 1, 1) := by decide +kernel
theorem dX7_pay_15 : decode cX7_pay 15 = .ok (.ldc2_w 254, 3) := by decide +kernel
theorem dX7_pay_18 : decode cX7_pay 18 = .ok (.invokestatic 133, 3) := by decide +kernel
theorem dX7_pay_21 : decode cX7_pay 21 = .ok (.ifCond .ne 7, 3) := by decide +kernel
theorem dX7_pay_24 : decode cX7_pay 24 = .ok (.ldc2_w 256, 3) := by decide +kernel
theorem dX7_pay_27 : decode cX7_pay 27 = .ok (.lreturn, 1) := by decide +kernel
theorem dX7_pay_28 : decode cX7_pay 28 = .ok (.bipush 12, 2) := by decide +kernel
theorem dX7_pay_30 : decode cX7_pay 30 = .ok (.iload_n 1, 1) := by decide +kernel
theorem dX7_pay_31 : decode cX7_pay 31 = .ok (.imul, 1) := by decide +kernel
theorem dX7_pay_32 : decode cX7_pay 32 = .ok (.iload_n 2, 1) := by decide +kernel
theorem dX7_pay_33 : decode cX7_pay 33 = .ok (.iadd, 1) := by decide +kernel
theorem dX7_pay_34 : decode cX7_pay 34 = .ok (.istore 5, 2) := by decide +kernel
theorem dX7_pay_36 : decode cX7_pay 36 = .ok (.aload_n 0, 1) := by decide +kernel
theorem dX7_pay_37 : decode cX7_pay 37 = .ok (.getfield 72, 3) := by decide +kernel
theorem dX7_pay_40 : decode cX7_pay 40 = .ok (.iload 5, 2) := by decide +kernel
theorem dX7_pay_42 : decode cX7_pay 42 = .ok (.iaload, 1) := by decide +kernel
theorem dX7_pay_43 : decode cX7_pay 43 = .ok (.iconst 4, 1) := by decide +kernel
theorem dX7_pay_44 : decode cX7_pay 44 = .ok (.if_icmp .eq 7, 3) := by decide +kernel
theorem dX7_pay_47 : decode cX7_pay 47 = .ok (.ldc2_w 241, 3) := by decide +kernel
theorem dX7_pay_50 : decode cX7_pay 50 = .ok (.lreturn, 1) := by decide +kernel
theorem dX7_pay_51 : decode cX7_pay 51 = .ok (.aload_n 0, 1) := by decide +kernel
theorem dX7_pay_52 : decode cX7_pay 52 = .ok (.getfield 103, 3) := by decide +kernel
theorem dX7_pay_55 : decode cX7_pay 55 = .ok (.iload 5, 2) := by decide +kernel
theorem dX7_pay_57 : decode cX7_pay 57 = .ok (.aload_n 0, 1) := by decide +kernel
theorem dX7_pay_58 : decode cX7_pay 58 = .ok (.iload 5, 2) := by decide +kernel
theorem dX7_pay_60 : decode cX7_pay 60 = .ok (.invokevirtual 258, 3) := by decide +kernel
theorem dX7_pay_63 : decode cX7_pay 63 = .ok (.lastore, 1) := by decide +kernel
theorem dX7_pay_64 : decode cX7_pay 64 = .ok (.aload_n 0, 1) := by decide +kernel
theorem dX7_pay_65 : decode cX7_pay 65 = .ok (.getfield 106, 3) := by decide +kernel
theorem dX7_pay_68 : decode cX7_pay 68 = .ok (.iload 5, 2) := by decide +kernel
theorem dX7_pay_70 : decode cX7_pay 70 = .ok (.aload_n 0, 1) := by decide +kernel
theorem dX7_pay_71 : decode cX7_pay 71 = .ok (.getfield 174, 3) := by decide +kernel
theorem dX7_pay_74 : decode cX7_pay 74 = .ok (.iastore, 1) := by decide +kernel
theorem dX7_pay_75 : decode cX7_pay 75 = .ok (.lload_n 3, 1) := by decide +kernel
theorem dX7_pay_76 : decode cX7_pay 76 = .ok (.aload_n 0, 1) := by decide +kernel
theorem dX7_pay_77 : decode cX7_pay 77 = .ok (.getfield 103, 3) := by decide +kernel
theorem dX7_pay_80 : decode cX7_pay 80 = .ok (.iload 5, 2) := by decide +kernel
theorem dX7_pay_82 : decode cX7_pay 82 = .ok (.laload, 1) := by decide +kernel
theorem dX7_pay_83 : decode cX7_pay 83 = .ok (.lcmp, 1) := by decide +kernel
theorem dX7_pay_84 : decode cX7_pay 84 = .ok (.ifCond .le 13, 3) := by decide +kernel
theorem dX7_pay_87 : decode cX7_pay 87 = .ok (.aload_n 0, 1) := by decide +kernel
theorem dX7_pay_88 : decode cX7_pay 88 = .ok (.getfield 103, 3) := by decide +kernel
theorem dX7_pay_91 : decode cX7_pay 91 = .ok (.iload 5, 2) := by decide +kernel
theorem dX7_pay_93 : decode cX7_pay 93 = .ok (.laload, 1) := by decide +kernel
theorem dX7_pay_94 : decode cX7_pay 94 = .ok (.goto 4, 3) := by decide +kernel
theorem dX7_pay_97 : decode cX7_pay 97 = .ok (.lload_n 3, 1) := by decide +kernel
theorem dX7_pay_98 : decode cX7_pay 98 = .ok (.lstore 6, 2) := by decide +kernel
theorem dX7_pay_100 : decode cX7_pay 100 = .ok (.lload_n 3, 1) := by decide +kernel
theorem dX7_pay_101 : decode cX7_pay 101 = .ok (.lload 6, 2) := by decide +kernel
theorem dX7_pay_103 : decode cX7_pay 103 = .ok (.lsub, 1) := by decide +kernel
theorem dX7_pay_104 : decode cX7_pay 104 = .ok (.aload_n 0, 1) := by decide +kernel
theorem dX7_pay_105 : decode cX7_pay 105 = .ok (.iload 5, 2) := by decide +kernel
theorem dX7_pay_107 : decode cX7_pay 107 = .ok (.invokevirtual 246, 3) := by decide +kernel
theorem dX7_pay_110 : decode cX7_pay 110 = .ok (.lcmp, 1) := by decide +kernel
theorem dX7_pay_111 : decode cX7_pay 111 = .ok (.ifCond .le 12, 3) := by decide +kernel
theorem dX7_pay_114 : decode cX7_pay 114 = .ok (.aload_n 0, 1) := by decide +kernel
theorem dX7_pay_115 : decode cX7_pay 115 = .ok (.iload 5, 2) := by decide +kernel
theorem dX7_pay_117 : decode cX7_pay 117 = .ok (.invokevirtual 246, 3) := by decide +kernel
theorem dX7_pay_120 : decode cX7_pay 120 = .ok (.goto 7, 3) := by decide +kernel
theorem dX7_pay_123 : decode cX7_pay 123 = .ok (.lload_n 3, 1) := by decide +kernel
theorem dX7_pay_124 : decode cX7_pay 124 = .ok (.lload 6, 2) := by decide +kernel
theorem dX7_pay_126 : decode cX7_pay 126 = .ok (.lsub, 1) := by decide +kernel
theorem dX7_pay_127 : decode cX7_pay 127 = .ok (.lstore 8, 2) := by decide +kernel
theorem dX7_pay_129 : decode cX7_pay 129 = .ok (.aload_n 0, 1) := by decide +kernel
theorem dX7_pay_130 : decode cX7_pay 130 = .ok (.getfield 103, 3) := by decide +kernel
theorem dX7_pay_133 : decode cX7_pay 133 = .ok (.iload 5, 2) := by decide +kernel
theorem dX7_pay_135 : decode cX7_pay 135 = .ok (.dup2, 1) := by decide +kernel
theorem dX7_pay_136 : decode cX7_pay 136 = .ok (.laload, 1) := by decide +kernel
theorem dX7_pay_137 : decode cX7_pay 137 = .ok (.lload 6, 2) := by decide +kernel
theorem dX7_pay_139 : decode cX7_pay 139 = .ok (.lsub, 1) := by decide +kernel
theorem dX7_pay_140 : decode cX7_pay 140 = .ok (.lastore, 1) := by decide +kernel
theorem dX7_pay_141 : decode cX7_pay 141 = .ok (.aload_n 0, 1) := by decide +kernel
theorem dX7_pay_142 : decode cX7_pay 142 = .ok (.getfield 100, 3) := by decide +kernel
theorem dX7_pay_145 : decode cX7_pay 145 = .ok (.iload 5, 2) := by decide +kernel
theorem dX7_pay_147 : decode cX7_pay 147 = .ok (.dup2, 1) := by decide +kernel
theorem dX7_pay_148 : decode cX7_pay 148 = .ok (.laload, 1) := by decide +kernel
theorem dX7_pay_149 : decode cX7_pay 149 = .ok (.lload 6, 2) := by decide +kernel
theorem dX7_pay_151 : decode cX7_pay 151 = .ok (.ladd, 1) := by decide +kernel
theorem dX7_pay_152 : decode cX7_pay 152 = .ok (.lastore, 1) := by decide +kernel
theorem dX7_pay_153 : decode cX7_pay 153 = .ok (.aload_n 0, 1) := by decide +kernel
theorem dX7_pay_154 : decode cX7_pay 154 = .ok (.getfield 97, 3) := by decide +kernel
theorem dX7_pay_157 : decode cX7_pay 157 = .ok (.iload 5, 2) := by decide +kernel
theorem dX7_pay_159 : decode cX7_pay 159 = .ok (.dup2, 1) := by decide +kernel
theorem dX7_pay_160 : decode cX7_pay 160 = .ok (.laload, 1) := by decide +kernel
theorem dX7_pay_161 : decode cX7_pay 161 = .ok (.lload 8, 2) := by decide +kernel
theorem dX7_pay_163 : decode cX7_pay 163 = .ok (.ladd, 1) := by decide +kernel
theorem dX7_pay_164 : decode cX7_pay 164 = .ok (.lastore, 1) := by decide +kernel
theorem dX7_pay_165 : decode cX7_pay 165 = .ok (.lload 6, 2) := by decide +kernel
theorem dX7_pay_167 : decode cX7_pay 167 = .ok (.lload 8, 2) := by decide +kernel
theorem dX7_pay_169 : decode cX7_pay 169 = .ok (.ladd, 1) := by decide +kernel
theorem dX7_pay_170 : decode cX7_pay 170 = .ok (.lreturn, 1) := by decide +kernel
theorem dX7_toldOf_0 : decode cX7_toldOf 0 = .ok (.aload_n 0, 1) := by decide +kernel
theorem dX7_toldOf_1 : decode cX7_toldOf 1 = .ok (.getfield 69, 3) := by decide +kernel
theorem dX7_toldOf_4 : decode cX7_toldOf 4 = .ok (.iload_n 1, 1) := by decide +kernel
theorem dX7_toldOf_5 : decode cX7_toldOf 5 = .ok (.iaload, 1) := by decide +kernel
theorem dX7_toldOf_6 : decode cX7_toldOf 6 = .ok (.istore_n 3, 1) := by decide +kernel
theorem dX7_toldOf_7 : decode cX7_toldOf 7 = .ok (.iload_n 2, 1) := by decide +kernel
theorem dX7_toldOf_8 : decode cX7_toldOf 8 = .ok (.tableswitch 155 0 12 #[68, 71, 79, 87, 94, 101, 108, 115, 121, 128, 134, 140, 147], 68) := by decide +kernel
theorem dX7_toldOf_76 : decode cX7_toldOf 76 = .ok (.iload_n 3, 1) := by decide +kernel
theorem dX7_toldOf_77 : decode cX7_toldOf 77 = .ok (.i2l, 1) := by decide +kernel
theorem dX7_toldOf_78 : decode cX7_toldOf 78 = .ok (.lreturn, 1) := by decide +kernel
theorem dX7_toldOf_79 : decode cX7_toldOf 79 = .ok (.aload_n 0, 1) := by decide +kernel
theorem dX7_toldOf_80 : decode cX7_toldOf 80 = .ok (.getfield 72, 3) := by decide +kernel
theorem dX7_toldOf_83 : decode cX7_toldOf 83 = .ok (.iload_n 1, 1) := by decide +kernel
theorem dX7_toldOf_84 : decode cX7_toldOf 84 = .ok (.iaload, 1) := by decide +kernel
theorem dX7_toldOf_85 : decode cX7_toldOf 85 = .ok (.i2l, 1) := by decide +kernel
theorem dX7_toldOf_86 : decode cX7_toldOf 86 = .ok (.lreturn, 1) := by decide +kernel
theorem dX7_toldOf_87 : decode cX7_toldOf 87 = .ok (.aload_n 0, 1) := by decide +kernel
theorem dX7_toldOf_88 : decode cX7_toldOf 88 = .ok (.getfield 78, 3) := by decide +kernel
theorem dX7_toldOf_91 : decode cX7_toldOf 91 = .ok (.iload_n 1, 1) := by decide +kernel
theorem dX7_toldOf_92 : decode cX7_toldOf 92 = .ok (.iaload, 1) := by decide +kernel
theorem dX7_toldOf_93 : decode cX7_toldOf 93 = .ok (.i2l, 1) := by decide +kernel
theorem dX7_toldOf_94 : decode cX7_toldOf 94 = .ok (.lreturn, 1) := by decide +kernel
theorem dX7_toldOf_95 : decode cX7_toldOf 95 = .ok (.aload_n 0, 1) := by decide +kernel
theorem dX7_toldOf_96 : decode cX7_toldOf 96 = .ok (.getfield 84, 3) := by decide +kernel
theorem dX7_toldOf_99 : decode cX7_toldOf 99 = .ok (.iload_n 1, 1) := by decide +kernel
theorem dX7_toldOf_100 : decode cX7_toldOf 100 = .ok (.laload, 1) := by decide +kernel
theorem dX7_toldOf_101 : decode cX7_toldOf 101 = .ok (.lreturn, 1) := by decide +kernel
theorem dX7_toldOf_102 : decode cX7_toldOf 102 = .ok (.aload_n 0, 1) := by decide +kernel
theorem dX7_toldOf_103 : decode cX7_toldOf 103 = .ok (.getfield 88, 3) := by decide +kernel
theorem dX7_toldOf_106 : decode cX7_toldOf 106 = .ok (.iload_n 1, 1) := by decide +kernel
theorem dX7_toldOf_107 : decode cX7_toldOf 107 = .ok (.laload, 1) := by decide +kernel
theorem dX7_toldOf_108 : decode cX7_toldOf 108 = .ok (.lreturn, 1) := by decide +kernel
theorem dX7_toldOf_109 : decode cX7_toldOf 109 = .ok (.aload_n 0, 1) := by decide +kernel
theorem dX7_toldOf_110 : decode cX7_toldOf 110 = .ok (.getfield 91, 3) := by decide +kernel
theorem dX7_toldOf_113 : decode cX7_toldOf 113 = .ok (.iload_n 1, 1) := by decide +kernel
theorem dX7_toldOf_114 : decode cX7_toldOf 114 = .ok (.laload, 1) := by decide +kernel
theorem dX7_toldOf_115 : decode cX7_toldOf 115 = .ok (.lreturn, 1) := by decide +kernel
theorem dX7_toldOf_116 : decode cX7_toldOf 116 = .ok (.aload_n 0, 1) := by decide +kernel
theorem dX7_toldOf_117 : decode cX7_toldOf 117 = .ok (.getfield 94, 3) := by decide +kernel
theorem dX7_toldOf_120 : decode cX7_toldOf 120 = .ok (.iload_n 1, 1) := by decide +kernel
theorem dX7_toldOf_121 : decode cX7_toldOf 121 = .ok (.laload, 1) := by decide +kernel
theorem dX7_toldOf_122 : decode cX7_toldOf 122 = .ok (.lreturn, 1) := by decide +kernel
theorem dX7_toldOf_123 : decode cX7_toldOf 123 = .ok (.aload_n 0, 1) := by decide +kernel
theorem dX7_toldOf_124 : decode cX7_toldOf 124 = .ok (.iload_n 1, 1) := by decide +kernel
theorem dX7_toldOf_125 : decode cX7_toldOf 125 = .ok (.invokevirtual 234, 3) := by decide +kernel
theorem dX7_toldOf_128 : decode cX7_toldOf 128 = .ok (.lreturn, 1) := by decide +kernel
theorem dX7_toldOf_129 : decode cX7_toldOf 129 = .ok (.aload_n 0, 1) := by decide +kernel
theorem dX7_toldOf_130 : decode cX7_toldOf 130 = .ok (.getfield 97, 3) := by decide +kernel
theorem dX7_toldOf_133 : decode cX7_toldOf 133 = .ok (.iload_n 1, 1) := by decide +kernel
theorem dX7_toldOf_134 : decode cX7_toldOf 134 = .ok (.laload, 1) := by decide +kernel
theorem dX7_toldOf_135 : decode cX7_toldOf 135 = .ok (.lreturn, 1) := by decide +kernel
theorem dX7_toldOf_136 : decode cX7_toldOf 136 = .ok (.aload_n 0, 1) := by decide +kernel
theorem dX7_toldOf_137 : decode cX7_toldOf 137 = .ok (.iload_n 1, 1) := by decide +kernel
theorem dX7_toldOf_138 : decode cX7_toldOf 138 = .ok (.invokevirtual 246, 3) := by decide +kernel
theorem dX7_toldOf_141 : decode cX7_toldOf 141 = .ok (.lreturn, 1) := by decide +kernel
theorem dX7_toldOf_142 : decode cX7_toldOf 142 = .ok (.aload_n 0, 1) := by decide +kernel
theorem dX7_toldOf_143 : decode cX7_toldOf 143 = .ok (.iload_n 1, 1) := by decide +kernel
theorem dX7_toldOf_144 : decode cX7_toldOf 144 = .ok (.invokevirtual 258, 3) := by decide +kernel
theorem dX7_toldOf_147 : decode cX7_toldOf 147 = .ok (.lreturn, 1) := by decide +kernel
theorem dX7_toldOf_148 : decode cX7_toldOf 148 = .ok (.aload_n 0, 1) := by decide +kernel
theorem dX7_toldOf_149 : decode cX7_toldOf 149 = .ok (.getfield 100, 3) := by decide +kernel
theorem dX7_toldOf_152 : decode cX7_toldOf 152 = .ok (.iload_n 1, 1) := by decide +kernel
theorem dX7_toldOf_153 : decode cX7_toldOf 153 = .ok (.laload, 1) := by decide +kernel
theorem dX7_toldOf_154 : decode cX7_toldOf 154 = .ok (.lreturn, 1) := by decide +kernel
theorem dX7_toldOf_155 : decode cX7_toldOf 155 = .ok (.aload_n 0, 1) := by decide +kernel
theorem dX7_toldOf_156 : decode cX7_toldOf 156 = .ok (.getfield 75, 3) := by decide +kernel
theorem dX7_toldOf_159 : decode cX7_toldOf 159 = .ok (.iload_n 1, 1) := by decide +kernel
theorem dX7_toldOf_160 : decode cX7_toldOf 160 = .ok (.iaload, 1) := by decide +kernel
theorem dX7_toldOf_161 : decode cX7_toldOf 161 = .ok (.i2l, 1) := by decide +kernel
theorem dX7_toldOf_162 : decode cX7_toldOf 162 = .ok (.lreturn, 1) := by decide +kernel
theorem dX7_toldOf_163 : decode cX7_toldOf 163 = .ok (.aload_n 0, 1) := by decide +kernel
theorem dX7_toldOf_164 : decode cX7_toldOf 164 = .ok (.iload_n 1, 1) := by decide +kernel
theorem dX7_toldOf_165 : decode cX7_toldOf 165 = .ok (.invokevirtual 234, 3) := by decide +kernel
theorem dX7_toldOf_168 : decode cX7_toldOf 168 = .ok (.aload_n 0, 1) := by decide +kernel
theorem dX7_toldOf_169 : decode cX7_toldOf 169 = .ok (.getfield 109, 3) := by decide +kernel
theorem dX7_toldOf_172 : decode cX7_toldOf 172 = .ok (.iconst 4, 1) := by decide +kernel
theorem dX7_toldOf_173 : decode cX7_toldOf 173 = .ok (.iload_n 1, 1) := by decide +kernel
theorem dX7_toldOf_174 : decode cX7_toldOf 174 = .ok (.imul, 1) := by decide +kernel
theorem dX7_toldOf_175 : decode cX7_toldOf 175 = .ok (.laload, 1) := by decide +kernel
theorem dX7_toldOf_176 : decode cX7_toldOf 176 = .ok (.lsub, 1) := by decide +kernel
theorem dX7_toldOf_177 : decode cX7_toldOf 177 = .ok (.aload_n 0, 1) := by decide +kernel
theorem dX7_toldOf_178 : decode cX7_toldOf 178 = .ok (.getfield 109, 3) := by decide +kernel
theorem dX7_toldOf_181 : decode cX7_toldOf 181 = .ok (.iconst 4, 1) := by decide +kernel
theorem dX7_toldOf_182 : decode cX7_toldOf 182 = .ok (.iload_n 1, 1) := by decide +kernel
theorem dX7_toldOf_183 : decode cX7_toldOf 183 = .ok (.imul, 1) := by decide +kernel
theorem dX7_toldOf_184 : decode cX7_toldOf 184 = .ok (.iconst 1, 1) := by decide +kernel
theorem dX7_toldOf_185 : decode cX7_toldOf 185 = .ok (.iadd, 1) := by decide +kernel
theorem dX7_toldOf_186 : decode cX7_toldOf 186 = .ok (.laload, 1) := by decide +kernel
theorem dX7_toldOf_187 : decode cX7_toldOf 187 = .ok (.lsub, 1) := by decide +kernel
theorem dX7_toldOf_188 : decode cX7_toldOf 188 = .ok (.aload_n 0, 1) := by decide +kernel
theorem dX7_toldOf_189 : decode cX7_toldOf 189 = .ok (.getfield 109, 3) := by decide +kernel
theorem dX7_toldOf_192 : decode cX7_toldOf 192 = .ok (.iconst 4, 1) := by decide +kernel
theorem dX7_toldOf_193 : decode cX7_toldOf 193 = .ok (.iload_n 1, 1) := by decide +kernel
theorem dX7_toldOf_194 : decode cX7_toldOf 194 = .ok (.imul, 1) := by decide +kernel
theorem dX7_toldOf_195 : decode cX7_toldOf 195 = .ok (.iconst 2, 1) := by decide +kernel
theorem dX7_toldOf_196 : decode cX7_toldOf 196 = .ok (.iadd, 1) := by decide +kernel
theorem dX7_toldOf_197 : decode cX7_toldOf 197 = .ok (.laload, 1) := by decide +kernel
theorem dX7_toldOf_198 : decode cX7_toldOf 198 = .ok (.lsub, 1) := by decide +kernel
theorem dX7_toldOf_199 : decode cX7_toldOf 199 = .ok (.aload_n 0, 1) := by decide +kernel
theorem dX7_toldOf_200 : decode cX7_toldOf 200 = .ok (.getfield 109, 3) := by decide +kernel
theorem dX7_toldOf_203 : decode cX7_toldOf 203 = .ok (.iconst 4, 1) := by decide +kernel
theorem dX7_toldOf_204 : decode cX7_toldOf 204 = .ok (.iload_n 1, 1) := by decide +kernel
theorem dX7_toldOf_205 : decode cX7_toldOf 205 = .ok (.imul, 1) := by decide +kernel
theorem dX7_toldOf_206 : decode cX7_toldOf 206 = .ok (.iconst 3, 1) := by decide +kernel
theorem dX7_toldOf_207 : decode cX7_toldOf 207 = .ok (.iadd, 1) := by decide +kernel
theorem dX7_toldOf_208 : decode cX7_toldOf 208 = .ok (.laload, 1) := by decide +kernel
theorem dX7_toldOf_209 : decode cX7_toldOf 209 = .ok (.lsub, 1) := by decide +kernel
theorem dX7_toldOf_210 : decode cX7_toldOf 210 = .ok (.lreturn, 1) := by decide +kernel
theorem dX7_told_0 : decode cX7_told 0 = .ok (.aload_n 0, 1) := by decide +kernel
theorem dX7_told_1 : decode cX7_told 1 = .ok (.iload_n 1, 1) := by decide +kernel
theorem dX7_told_2 : decode cX7_told 2 = .ok (.iload_n 2, 1) := by decide +kernel
theorem dX7_told_3 : decode cX7_told 3 = .ok (.invokevirtual 249, 3) := by decide +kernel
theorem dX7_told_6 : decode cX7_told 6 = .ok (.ifCond .ne 7, 3) := by decide +kernel
theorem dX7_told_9 : decode cX7_told 9 = .ok (.ldc2_w 252, 3) := by decide +kernel
theorem dX7_told_12 : decode cX7_told 12 = .ok (.lreturn, 1) := by decide +kernel
theorem dX7_told_13 : decode cX7_told 13 = .ok (.iload_n 3, 1) := by decide +kernel
theorem dX7_told_14 : decode cX7_told 14 = .ok (.i2l, 1) := by decide +kernel
theorem dX7_told_15 : decode cX7_told 15 = .ok (.lconst 0, 1) := by decide +kernel
theorem dX7_told_16 : decode cX7_told 16 = .ok (.ldc2_w 261, 3) := by decide +kernel
theorem dX7_told_19 : decode cX7_told 19 = .ok (.invokestatic 133, 3) := by decide +kernel
theorem dX7_told_22 : decode cX7_told 22 = .ok (.ifCond .eq 17, 3) := by decide +kernel
theorem dX7_told_25 : decode cX7_told 25 = .ok (.aload_n 0, 1) := by decide +kernel
theorem dX7_told_26 : decode cX7_told 26 = .ok (.bipush 12, 2) := by decide +kernel
theorem dX7_told_28 : decode cX7_told 28 = .ok (.iload_n 1, 1) := by decide +kernel
theorem dX7_told_29 : decode cX7_told 29 = .ok (.imul, 1) := by decide +kernel
theorem dX7_told_30 : decode cX7_told 30 = .ok (.iload_n 2, 1) := by decide +kernel
theorem dX7_told_31 : decode cX7_told 31 = .ok (.iadd, 1) := by decide +kernel
theorem dX7_told_32 : decode cX7_told 32 = .ok (.iload_n 3, 1) := by decide +kernel
theorem dX7_told_33 : decode cX7_told 33 = .ok (.invokevirtual 263, 3) := by decide +kernel
theorem dX7_told_36 : decode cX7_told 36 = .ok (.goto 6, 3) := by decide +kernel
theorem dX7_told_39 : decode cX7_told 39 = .ok (.ldc2_w 256, 3) := by decide +kernel
theorem dX7_told_42 : decode cX7_told 42 = .ok (.lreturn, 1) := by decide +kernel
theorem dX7_gets_0 : decode cX7_gets 0 = .ok (.aload_n 0, 1) := by decide +kernel
theorem dX7_gets_1 : decode cX7_gets 1 = .ok (.iload_n 1, 1) := by decide +kernel
theorem dX7_gets_2 : decode cX7_gets 2 = .ok (.iload_n 2, 1) := by decide +kernel
theorem dX7_gets_3 : decode cX7_gets 3 = .ok (.invokevirtual 249, 3) := by decide +kernel
theorem dX7_gets_6 : decode cX7_gets 6 = .ok (.ifCond .eq 31, 3) := by decide +kernel
theorem dX7_gets_9 : decode cX7_gets 9 = .ok (.iload_n 3, 1) := by decide +kernel
theorem dX7_gets_10 : decode cX7_gets 10 = .ok (.i2l, 1) := by decide +kernel
theorem dX7_gets_11 : decode cX7_gets 11 = .ok (.lconst 0, 1) := by decide +kernel
theorem dX7_gets_12 : decode cX7_gets 12 = .ok (.aload_n 0, 1) := by decide +kernel
theorem dX7_gets_13 : decode cX7_gets 13 = .ok (.getfield 36, 3) := by decide +kernel
theorem dX7_gets_16 : decode cX7_gets 16 = .ok (.aload_n 0, 1) := by decide +kernel
theorem dX7_gets_17 : decode cX7_gets 17 = .ok (.getfield 69, 3) := by decide +kernel
theorem dX7_gets_20 : decode cX7_gets 20 = .ok (.bipush 12, 2) := by decide +kernel
theorem dX7_gets_22 : decode cX7_gets 22 = .ok (.iload_n 1, 1) := by decide +kernel
theorem dX7_gets_23 : decode cX7_gets 23 = .ok (.imul, 1) := by decide +kernel
theorem dX7_gets_24 : decode cX7_gets 24 = .ok (.iload_n 2, 1) := by decide +kernel
theorem dX7_gets_25 : decode cX7_gets 25 = .ok (.iadd, 1) := by decide +kernel
theorem dX7_gets_26 : decode cX7_gets 26 = .ok (.iaload, 1) := by decide +kernel
theorem dX7_gets_27 : decode cX7_gets 27 = .ok (.iaload, 1) := by decide +kernel
theorem dX7_gets_28 : decode cX7_gets 28 = .ok (.iconst 1, 1) := by decide +kernel
theorem dX7_gets_29 : decode cX7_gets 29 = .ok (.isub, 1) := by decide +kernel
theorem dX7_gets_30 : decode cX7_gets 30 = .ok (.i2l, 1) := by decide +kernel
theorem dX7_gets_31 : decode cX7_gets 31 = .ok (.invokestatic 133, 3) := by decide +kernel
theorem dX7_gets_34 : decode cX7_gets 34 = .ok (.ifCond .ne 7, 3) := by decide +kernel
theorem dX7_gets_37 : decode cX7_gets 37 = .ok (.ldc2_w 252, 3) := by decide +kernel
theorem dX7_gets_40 : decode cX7_gets 40 = .ok (.lreturn, 1) := by decide +kernel
theorem dX7_gets_41 : decode cX7_gets 41 = .ok (.aload_n 0, 1) := by decide +kernel
theorem dX7_gets_42 : decode cX7_gets 42 = .ok (.getfield 109, 3) := by decide +kernel
theorem dX7_gets_45 : decode cX7_gets 45 = .ok (.iconst 4, 1) := by decide +kernel
theorem dX7_gets_46 : decode cX7_gets 46 = .ok (.bipush 12, 2) := by decide +kernel
theorem dX7_gets_48 : decode cX7_gets 48 = .ok (.iload_n 1, 1) := by decide +kernel
theorem dX7_gets_49 : decode cX7_gets 49 = .ok (.imul, 1) := by decide +kernel
theorem dX7_gets_50 : decode cX7_gets 50 = .ok (.iload_n 2, 1) := by decide +kernel
theorem dX7_gets_51 : decode cX7_gets 51 = .ok (.iadd, 1) := by decide +kernel
theorem dX7_gets_52 : decode cX7_gets 52 = .ok (.imul, 1) := by decide +kernel
theorem dX7_gets_53 : decode cX7_gets 53 = .ok (.iload_n 3, 1) := by decide +kernel
theorem dX7_gets_54 : decode cX7_gets 54 = .ok (.iadd, 1) := by decide +kernel
theorem dX7_gets_55 : decode cX7_gets 55 = .ok (.laload, 1) := by decide +kernel
theorem dX7_gets_56 : decode cX7_gets 56 = .ok (.lreturn, 1) := by decide +kernel
theorem dX7_lookOf_0 : decode cX7_lookOf 0 = .ok (.iload_n 2, 1) := by decide +kernel
theorem dX7_lookOf_1 : decode cX7_lookOf 1 = .ok (.tableswitch 75 0 3 #[31, 38, 45, 60], 31) := by decide +kernel
theorem dX7_lookOf_32 : decode cX7_lookOf 32 = .ok (.aload_n 0, 1) := by decide +kernel
theorem dX7_lookOf_33 : decode cX7_lookOf 33 = .ok (.getfield 16, 3) := by decide +kernel
theorem dX7_lookOf_36 : decode cX7_lookOf 36 = .ok (.iload_n 1, 1) := by decide +kernel
theorem dX7_lookOf_37 : decode cX7_lookOf 37 = .ok (.iaload, 1) := by decide +kernel
theorem dX7_lookOf_38 : decode cX7_lookOf 38 = .ok (.ireturn, 1) := by decide +kernel
theorem dX7_lookOf_39 : decode cX7_lookOf 39 = .ok (.aload_n 0, 1) := by decide +kernel
theorem dX7_lookOf_40 : decode cX7_lookOf 40 = .ok (.getfield 20, 3) := by decide +kernel
theorem dX7_lookOf_43 : decode cX7_lookOf 43 = .ok (.iload_n 1, 1) := by decide +kernel
theorem dX7_lookOf_44 : decode cX7_lookOf 44 = .ok (.iaload, 1) := by decide +kernel
theorem dX7_lookOf_45 : decode cX7_lookOf 45 = .ok (.ireturn, 1) := by decide +kernel
theorem dX7_lookOf_46 : decode cX7_lookOf 46 = .ok (.aload_n 0, 1) := by decide +kernel
theorem dX7_lookOf_47 : decode cX7_lookOf 47 = .ok (.getfield 23, 3) := by decide +kernel
theorem dX7_lookOf_50 : decode cX7_lookOf 50 = .ok (.iload_n 1, 1) := by decide +kernel
theorem dX7_lookOf_51 : decode cX7_lookOf 51 = .ok (.baload, 1) := by decide +kernel
theorem dX7_lookOf_52 : decode cX7_lookOf 52 = .ok (.ifCond .eq 7, 3) := by decide +kernel
theorem dX7_lookOf_55 : decode cX7_lookOf 55 = .ok (.iconst 1, 1) := by decide +kernel
theorem dX7_lookOf_56 : decode cX7_lookOf 56 = .ok (.goto 4, 3) := by decide +kernel
theorem dX7_lookOf_59 : decode cX7_lookOf 59 = .ok (.iconst 0, 1) := by decide +kernel
theorem dX7_lookOf_60 : decode cX7_lookOf 60 = .ok (.ireturn, 1) := by decide +kernel
theorem dX7_lookOf_61 : decode cX7_lookOf 61 = .ok (.aload_n 0, 1) := by decide +kernel
theorem dX7_lookOf_62 : decode cX7_lookOf 62 = .ok (.getfield 30, 3) := by decide +kernel
theorem dX7_lookOf_65 : decode cX7_lookOf 65 = .ok (.iload_n 1, 1) := by decide +kernel
theorem dX7_lookOf_66 : decode cX7_lookOf 66 = .ok (.iaload, 1) := by decide +kernel
theorem dX7_lookOf_67 : decode cX7_lookOf 67 = .ok (.ifCond .le 7, 3) := by decide +kernel
theorem dX7_lookOf_70 : decode cX7_lookOf 70 = .ok (.iconst 1, 1) := by decide +kernel
theorem dX7_lookOf_71 : decode cX7_lookOf 71 = .ok (.goto 4, 3) := by decide +kernel
theorem dX7_lookOf_74 : decode cX7_lookOf 74 = .ok (.iconst 0, 1) := by decide +kernel
theorem dX7_lookOf_75 : decode cX7_lookOf 75 = .ok (.ireturn, 1) := by decide +kernel
theorem dX7_lookOf_76 : decode cX7_lookOf 76 = .ok (.aload_n 0, 1) := by decide +kernel
theorem dX7_lookOf_77 : decode cX7_lookOf 77 = .ok (.getfield 27, 3) := by decide +kernel
theorem dX7_lookOf_80 : decode cX7_lookOf 80 = .ok (.iload_n 1, 1) := by decide +kernel
theorem dX7_lookOf_81 : decode cX7_lookOf 81 = .ok (.baload, 1) := by decide +kernel
theorem dX7_lookOf_82 : decode cX7_lookOf 82 = .ok (.ifCond .eq 7, 3) := by decide +kernel
theorem dX7_lookOf_85 : decode cX7_lookOf 85 = .ok (.iconst 1, 1) := by decide +kernel
theorem dX7_lookOf_86 : decode cX7_lookOf 86 = .ok (.goto 4, 3) := by decide +kernel
theorem dX7_lookOf_89 : decode cX7_lookOf 89 = .ok (.iconst 0, 1) := by decide +kernel
theorem dX7_lookOf_90 : decode cX7_lookOf 90 = .ok (.ireturn, 1) := by decide +kernel
theorem dX7_look_0 : decode cX7_look 0 = .ok (.aload_n 0, 1) := by decide +kernel
theorem dX7_look_1 : decode cX7_look 1 = .ok (.iload_n 1, 1) := by decide +kernel
theorem dX7_look_2 : decode cX7_look 2 = .ok (.iload_n 2, 1) := by decide +kernel
theorem dX7_look_3 : decode cX7_look 3 = .ok (.invokevirtual 143, 3) := by decide +kernel
theorem dX7_look_6 : decode cX7_look 6 = .ok (.ifCond .ne 6, 3) := by decide +kernel
theorem dX7_look_9 : decode cX7_look 9 = .ok (.bipush (-101), 2) := by decide +kernel
theorem dX7_look_11 : decode cX7_look 11 = .ok (.ireturn, 1) := by decide +kernel
theorem dX7_look_12 : decode cX7_look 12 = .ok (.iload_n 3, 1) := by decide +kernel
theorem dX7_look_13 : decode cX7_look 13 = .ok (.i2l, 1) := by decide +kernel
theorem dX7_look_14 : decode cX7_look 14 = .ok (.lconst 0, 1) := by decide +kernel
theorem dX7_look_15 : decode cX7_look 15 = .ok (.ldc2_w 171, 3) := by decide +kernel
theorem dX7_look_18 : decode cX7_look 18 = .ok (.invokestatic 133, 3) := by decide +kernel
theorem dX7_look_21 : decode cX7_look 21 = .ok (.ifCond .eq 17, 3) := by decide +kernel
theorem dX7_look_24 : decode cX7_look 24 = .ok (.aload_n 0, 1) := by decide +kernel
theorem dX7_look_25 : decode cX7_look 25 = .ok (.bipush 16, 2) := by decide +kernel
theorem dX7_look_27 : decode cX7_look 27 = .ok (.iload_n 2, 1) := by decide +kernel
theorem dX7_look_28 : decode cX7_look 28 = .ok (.imul, 1) := by decide +kernel
theorem dX7_look_29 : decode cX7_look 29 = .ok (.iload_n 1, 1) := by decide +kernel
theorem dX7_look_30 : decode cX7_look 30 = .ok (.iadd, 1) := by decide +kernel
theorem dX7_look_31 : decode cX7_look 31 = .ok (.iload_n 3, 1) := by decide +kernel
theorem dX7_look_32 : decode cX7_look 32 = .ok (.invokevirtual 266, 3) := by decide +kernel
theorem dX7_look_35 : decode cX7_look 35 = .ok (.goto 5, 3) := by decide +kernel
theorem dX7_look_38 : decode cX7_look 38 = .ok (.bipush (-102), 2) := by decide +kernel
theorem dX7_look_40 : decode cX7_look 40 = .ok (.ireturn, 1) := by decide +kernel
theorem dX7_pieces_0 : decode cX7_pieces 0 = .ok (.aload_n 0, 1) := by decide +kernel
theorem dX7_pieces_1 : decode cX7_pieces 1 = .ok (.iload_n 1, 1) := by decide +kernel
theorem dX7_pieces_2 : decode cX7_pieces 2 = .ok (.invokevirtual 147, 3) := by decide +kernel
theorem dX7_pieces_5 : decode cX7_pieces 5 = .ok (.ifCond .ne 6, 3) := by decide +kernel
theorem dX7_pieces_8 : decode cX7_pieces 8 = .ok (.bipush (-101), 2) := by decide +kernel
theorem dX7_pieces_10 : decode cX7_pieces 10 = .ok (.ireturn, 1) := by decide +kernel
theorem dX7_pieces_11 : decode cX7_pieces 11 = .ok (.aload_n 0, 1) := by decide +kernel
theorem dX7_pieces_12 : decode cX7_pieces 12 = .ok (.iload_n 1, 1) := by decide +kernel
theorem dX7_pieces_13 : decode cX7_pieces 13 = .ok (.invokevirtual 215, 3) := by decide +kernel
theorem dX7_pieces_16 : decode cX7_pieces 16 = .ok (.aload_n 0, 1) := by decide +kernel
theorem dX7_pieces_17 : decode cX7_pieces 17 = .ok (.getfield 184, 3) := by decide +kernel
theorem dX7_pieces_20 : decode cX7_pieces 20 = .ok (.ireturn, 1) := by decide +kernel
theorem dX7_piece_0 : decode cX7_piece 0 = .ok (.aload_n 0, 1) := by decide +kernel
theorem dX7_piece_1 : decode cX7_piece 1 = .ok (.iload_n 1, 1) := by decide +kernel
theorem dX7_piece_2 : decode cX7_piece 2 = .ok (.invokevirtual 147, 3) := by decide +kernel
theorem dX7_piece_5 : decode cX7_piece 5 = .ok (.ifCond .ne 6, 3) := by decide +kernel
theorem dX7_piece_8 : decode cX7_piece 8 = .ok (.bipush (-101), 2) := by decide +kernel
theorem dX7_piece_10 : decode cX7_piece 10 = .ok (.ireturn, 1) := by decide +kernel
theorem dX7_piece_11 : decode cX7_piece 11 = .ok (.aload_n 0, 1) := by decide +kernel
theorem dX7_piece_12 : decode cX7_piece 12 = .ok (.iload_n 1, 1) := by decide +kernel
theorem dX7_piece_13 : decode cX7_piece 13 = .ok (.invokevirtual 215, 3) := by decide +kernel
theorem dX7_piece_16 : decode cX7_piece 16 = .ok (.iload_n 2, 1) := by decide +kernel
theorem dX7_piece_17 : decode cX7_piece 17 = .ok (.i2l, 1) := by decide +kernel
theorem dX7_piece_18 : decode cX7_piece 18 = .ok (.lconst 0, 1) := by decide +kernel
theorem dX7_piece_19 : decode cX7_piece 19 = .ok (.aload_n 0, 1) := by decide +kernel
theorem dX7_piece_20 : decode cX7_piece 20 = .ok (.getfield 184, 3) := by decide +kernel
theorem dX7_piece_23 : decode cX7_piece 23 = .ok (.iconst 1, 1) := by decide +kernel
theorem dX7_piece_24 : decode cX7_piece 24 = .ok (.isub, 1) := by decide +kernel
theorem dX7_piece_25 : decode cX7_piece 25 = .ok (.i2l, 1) := by decide +kernel
theorem dX7_piece_26 : decode cX7_piece 26 = .ok (.invokestatic 133, 3) := by decide +kernel
theorem dX7_piece_29 : decode cX7_piece 29 = .ok (.ifCond .ne 6, 3) := by decide +kernel
theorem dX7_piece_32 : decode cX7_piece 32 = .ok (.bipush (-101), 2) := by decide +kernel
theorem dX7_piece_34 : decode cX7_piece 34 = .ok (.ireturn, 1) := by decide +kernel
theorem dX7_piece_35 : decode cX7_piece 35 = .ok (.iload_n 3, 1) := by decide +kernel
theorem dX7_piece_36 : decode cX7_piece 36 = .ok (.tableswitch 75 0 3 #[32, 39, 46, 61], 32) := by decide +kernel
theorem dX7_piece_68 : decode cX7_piece 68 = .ok (.aload_n 0, 1) := by decide +kernel
theorem dX7_piece_69 : decode cX7_piece 69 = .ok (.getfield 121, 3) := by decide +kernel
theorem dX7_piece_72 : decode cX7_piece 72 = .ok (.iload_n 2, 1) := by decide +kernel
theorem dX7_piece_73 : decode cX7_piece 73 = .ok (.iaload, 1) := by decide +kernel
theorem dX7_piece_74 : decode cX7_piece 74 = .ok (.ireturn, 1) := by decide +kernel
theorem dX7_piece_75 : decode cX7_piece 75 = .ok (.aload_n 0, 1) := by decide +kernel
theorem dX7_piece_76 : decode cX7_piece 76 = .ok (.getfield 118, 3) := by decide +kernel
theorem dX7_piece_79 : decode cX7_piece 79 = .ok (.iload_n 2, 1) := by decide +kernel
theorem dX7_piece_80 : decode cX7_piece 80 = .ok (.iaload, 1) := by decide +kernel
theorem dX7_piece_81 : decode cX7_piece 81 = .ok (.ireturn, 1) := by decide +kernel
theorem dX7_piece_82 : decode cX7_piece 82 = .ok (.aload_n 0, 1) := by decide +kernel
theorem dX7_piece_83 : decode cX7_piece 83 = .ok (.iload_n 1, 1) := by decide +kernel
theorem dX7_piece_84 : decode cX7_piece 84 = .ok (.invokevirtual 218, 3) := by decide +kernel
theorem dX7_piece_87 : decode cX7_piece 87 = .ok (.iload_n 2, 1) := by decide +kernel
theorem dX7_piece_88 : decode cX7_piece 88 = .ok (.if_icmp .ne 7, 3) := by decide +kernel
theorem dX7_piece_91 : decode cX7_piece 91 = .ok (.iconst 1, 1) := by decide +kernel
theorem dX7_piece_92 : decode cX7_piece 92 = .ok (.goto 4, 3) := by decide +kernel
theorem dX7_piece_95 : decode cX7_piece 95 = .ok (.iconst 0, 1) := by decide +kernel
theorem dX7_piece_96 : decode cX7_piece 96 = .ok (.ireturn, 1) := by decide +kernel
theorem dX7_piece_97 : decode cX7_piece 97 = .ok (.aload_n 0, 1) := by decide +kernel
theorem dX7_piece_98 : decode cX7_piece 98 = .ok (.iload_n 2, 1) := by decide +kernel
theorem dX7_piece_99 : decode cX7_piece 99 = .ok (.invokevirtual 225, 3) := by decide +kernel
theorem dX7_piece_102 : decode cX7_piece 102 = .ok (.ifCond .eq 7, 3) := by decide +kernel
theorem dX7_piece_105 : decode cX7_piece 105 = .ok (.iconst 1, 1) := by decide +kernel
theorem dX7_piece_106 : decode cX7_piece 106 = .ok (.goto 4, 3) := by decide +kernel
theorem dX7_piece_109 : decode cX7_piece 109 = .ok (.iconst 0, 1) := by decide +kernel
theorem dX7_piece_110 : decode cX7_piece 110 = .ok (.ireturn, 1) := by decide +kernel
theorem dX7_piece_111 : decode cX7_piece 111 = .ok (.bipush (-102), 2) := by decide +kernel
theorem dX7_piece_113 : decode cX7_piece 113 = .ok (.ireturn, 1) := by decide +kernel
theorem dX7_count_0 : decode cX7_count 0 = .ok (.iconst 0, 1) := by decide +kernel
theorem dX7_count_1 : decode cX7_count 1 = .ok (.istore_n 2, 1) := by decide +kernel
theorem dX7_count_2 : decode cX7_count 2 = .ok (.iconst 0, 1) := by decide +kernel
theorem dX7_count_3 : decode cX7_count 3 = .ok (.istore_n 3, 1) := by decide +kernel
theorem dX7_count_4 : decode cX7_count 4 = .ok (.iload_n 3, 1) := by decide +kernel
theorem dX7_count_5 : decode cX7_count 5 = .ok (.sipush 256, 3) := by decide +kernel
theorem dX7_count_8 : decode cX7_count 8 = .ok (.if_icmp .ge 48, 3) := by decide +kernel
theorem dX7_count_11 : decode cX7_count 11 = .ok (.iload_n 2, 1) := by decide +kernel
theorem dX7_count_12 : decode cX7_count 12 = .ok (.iload_n 1, 1) := by decide +kernel
theorem dX7_count_13 : decode cX7_count 13 = .ok (.iconst 1, 1) := by decide +kernel
theorem dX7_count_14 : decode cX7_count 14 = .ok (.if_icmp .ne 20, 3) := by decide +kernel
theorem dX7_count_17 : decode cX7_count 17 = .ok (.aload_n 0, 1) := by decide +kernel
theorem dX7_count_18 : decode cX7_count 18 = .ok (.getfield 30, 3) := by decide +kernel
theorem dX7_count_21 : decode cX7_count 21 = .ok (.iload_n 3, 1) := by decide +kernel
theorem dX7_count_22 : decode cX7_count 22 = .ok (.iaload, 1) := by decide +kernel
theorem dX7_count_23 : decode cX7_count 23 = .ok (.ifCond .le 7, 3) := by decide +kernel
theorem dX7_count_26 : decode cX7_count 26 = .ok (.iconst 1, 1) := by decide +kernel
theorem dX7_count_27 : decode cX7_count 27 = .ok (.goto 21, 3) := by decide +kernel
theorem dX7_count_30 : decode cX7_count 30 = .ok (.iconst 0, 1) := by decide +kernel
theorem dX7_count_31 : decode cX7_count 31 = .ok (.goto 17, 3) := by decide +kernel
theorem dX7_count_34 : decode cX7_count 34 = .ok (.aload_n 0, 1) := by decide +kernel
theorem dX7_count_35 : decode cX7_count 35 = .ok (.getfield 27, 3) := by decide +kernel
theorem dX7_count_38 : decode cX7_count 38 = .ok (.iload_n 3, 1) := by decide +kernel
theorem dX7_count_39 : decode cX7_count 39 = .ok (.baload, 1) := by decide +kernel
theorem dX7_count_40 : decode cX7_count 40 = .ok (.ifCond .eq 7, 3) := by decide +kernel
theorem dX7_count_43 : decode cX7_count 43 = .ok (.iconst 1, 1) := by decide +kernel
theorem dX7_count_44 : decode cX7_count 44 = .ok (.goto 4, 3) := by decide +kernel
theorem dX7_count_47 : decode cX7_count 47 = .ok (.iconst 0, 1) := by decide +kernel
theorem dX7_count_48 : decode cX7_count 48 = .ok (.iadd, 1) := by decide +kernel
theorem dX7_count_49 : decode cX7_count 49 = .ok (.istore_n 2, 1) := by decide +kernel
theorem dX7_count_50 : decode cX7_count 50 = .ok (.iinc 3 1, 3) := by decide +kernel
theorem dX7_count_53 : decode cX7_count 53 = .ok (.goto (-49), 3) := by decide +kernel
theorem dX7_count_56 : decode cX7_count 56 = .ok (.iload_n 1, 1) := by decide +kernel
theorem dX7_count_57 : decode cX7_count 57 = .ok (.tableswitch 105 0 7 #[47, 52, 52, 54, 59, 82, 87, 100], 47) := by decide +kernel
theorem dX7_count_104 : decode cX7_count 104 = .ok (.aload_n 0, 1) := by decide +kernel
theorem dX7_count_105 : decode cX7_count 105 = .ok (.getfield 130, 3) := by decide +kernel
theorem dX7_count_108 : decode cX7_count 108 = .ok (.ireturn, 1) := by decide +kernel
theorem dX7_count_109 : decode cX7_count 109 = .ok (.iload_n 2, 1) := by decide +kernel
theorem dX7_count_110 : decode cX7_count 110 = .ok (.ireturn, 1) := by decide +kernel
theorem dX7_count_111 : decode cX7_count 111 = .ok (.aload_n 0, 1) := by decide +kernel
theorem dX7_count_112 : decode cX7_count 112 = .ok (.getfield 197, 3) := by decide +kernel
theorem dX7_count_115 : decode cX7_count 115 = .ok (.ireturn, 1) := by decide +kernel
theorem dX7_count_116 : decode cX7_count 116 = .ok (.aload_n 0, 1) := by decide +kernel
theorem dX7_count_117 : decode cX7_count 117 = .ok (.getfield 197, 3) := by decide +kernel
theorem dX7_count_120 : decode cX7_count 120 = .ok (.ifCond .ne 7, 3) := by decide +kernel
theorem dX7_count_123 : decode cX7_count 123 = .ok (.iconst 0, 1) := by decide +kernel
theorem dX7_count_124 : decode cX7_count 124 = .ok (.goto 14, 3) := by decide +kernel
theorem dX7_count_127 : decode cX7_count 127 = .ok (.aload_n 0, 1) := by decide +kernel
theorem dX7_count_128 : decode cX7_count 128 = .ok (.getfield 63, 3) := by decide +kernel
theorem dX7_count_131 : decode cX7_count 131 = .ok (.aload_n 0, 1) := by decide +kernel
theorem dX7_count_132 : decode cX7_count 132 = .ok (.getfield 197, 3) := by decide +kernel
theorem dX7_count_135 : decode cX7_count 135 = .ok (.iconst 1, 1) := by decide +kernel
theorem dX7_count_136 : decode cX7_count 136 = .ok (.isub, 1) := by decide +kernel
theorem dX7_count_137 : decode cX7_count 137 = .ok (.iaload, 1) := by decide +kernel
theorem dX7_count_138 : decode cX7_count 138 = .ok (.ireturn, 1) := by decide +kernel
theorem dX7_count_139 : decode cX7_count 139 = .ok (.aload_n 0, 1) := by decide +kernel
theorem dX7_count_140 : decode cX7_count 140 = .ok (.getfield 174, 3) := by decide +kernel
theorem dX7_count_143 : decode cX7_count 143 = .ok (.ireturn, 1) := by decide +kernel
theorem dX7_count_144 : decode cX7_count 144 = .ok (.aload_n 0, 1) := by decide +kernel
theorem dX7_count_145 : decode cX7_count 145 = .ok (.getfield 200, 3) := by decide +kernel
theorem dX7_count_148 : decode cX7_count 148 = .ok (.ifCond .eq 7, 3) := by decide +kernel
theorem dX7_count_151 : decode cX7_count 151 = .ok (.iconst 1, 1) := by decide +kernel
theorem dX7_count_152 : decode cX7_count 152 = .ok (.goto 4, 3) := by decide +kernel
theorem dX7_count_155 : decode cX7_count 155 = .ok (.iconst 0, 1) := by decide +kernel
theorem dX7_count_156 : decode cX7_count 156 = .ok (.ireturn, 1) := by decide +kernel
theorem dX7_count_157 : decode cX7_count 157 = .ok (.aload_n 0, 1) := by decide +kernel
theorem dX7_count_158 : decode cX7_count 158 = .ok (.getfield 243, 3) := by decide +kernel
theorem dX7_count_161 : decode cX7_count 161 = .ok (.ireturn, 1) := by decide +kernel
theorem dX7_count_162 : decode cX7_count 162 = .ok (.bipush (-102), 2) := by decide +kernel
theorem dX7_count_164 : decode cX7_count 164 = .ok (.ireturn, 1) := by decide +kernel
theorem dX7_mix_0 : decode cX7_mix 0 = .ok (.aload_n 0, 1) := by decide +kernel
theorem dX7_mix_1 : decode cX7_mix 1 = .ok (.ldc2_w 269, 3) := by decide +kernel
theorem dX7_mix_4 : decode cX7_mix 4 = .ok (.aload_n 0, 1) := by decide +kernel
theorem dX7_mix_5 : decode cX7_mix 5 = .ok (.getfield 271, 3) := by decide +kernel
theorem dX7_mix_8 : decode cX7_mix 8 = .ok (.lmul, 1) := by decide +kernel
theorem dX7_mix_9 : decode cX7_mix 9 = .ok (.lload_n 1, 1) := by decide +kernel
theorem dX7_mix_10 : decode cX7_mix 10 = .ok (.ladd, 1) := by decide +kernel
theorem dX7_mix_11 : decode cX7_mix 11 = .ok (.putfield 271, 3) := by decide +kernel
theorem dX7_mix_14 : decode cX7_mix 14 = .ok (.return_, 1) := by decide +kernel
theorem dX7_digest_0 : decode cX7_digest 0 = .ok (.aload_n 0, 1) := by decide +kernel
theorem dX7_digest_1 : decode cX7_digest 1 = .ok (.ldc2_w 275, 3) := by decide +kernel
theorem dX7_digest_4 : decode cX7_digest 4 = .ok (.putfield 271, 3) := by decide +kernel
theorem dX7_digest_7 : decode cX7_digest 7 = .ok (.aload_n 0, 1) := by decide +kernel
theorem dX7_digest_8 : decode cX7_digest 8 = .ok (.aload_n 0, 1) := by decide +kernel
theorem dX7_digest_9 : decode cX7_digest 9 = .ok (.getfield 7, 3) := by decide +kernel
theorem dX7_digest_12 : decode cX7_digest 12 = .ok (.i2l, 1) := by decide +kernel
theorem dX7_digest_13 : decode cX7_digest 13 = .ok (.invokevirtual 277, 3) := by decide +kernel
theorem dX7_digest_16 : decode cX7_digest 16 = .ok (.aload_n 0, 1) := by decide +kernel
theorem dX7_digest_17 : decode cX7_digest 17 = .ok (.aload_n 0, 1) := by decide +kernel
theorem dX7_digest_18 : decode cX7_digest 18 = .ok (.getfield 13, 3) := by decide +kernel
theorem dX7_digest_21 : decode cX7_digest 21 = .ok (.i2l, 1) := by decide +kernel
theorem dX7_digest_22 : decode cX7_digest 22 = .ok (.invokevirtual 277, 3) := by decide +kernel
theorem dX7_digest_25 : decode cX7_digest 25 = .ok (.iconst 0, 1) := by decide +kernel
theorem dX7_digest_26 : decode cX7_digest 26 = .ok (.istore_n 1, 1) := by decide +kernel
theorem dX7_digest_27 : decode cX7_digest 27 = .ok (.iload_n 1, 1) := by decide +kernel
theorem dX7_digest_28 : decode cX7_digest 28 = .ok (.aload_n 0, 1) := by decide +kernel
theorem dX7_digest_29 : decode cX7_digest 29 = .ok (.getfield 13, 3) := by decide +kernel
theorem dX7_digest_32 : decode cX7_digest 32 = .ok (.if_icmp .ge 54, 3) := by decide +kernel
theorem dX7_digest_35 : decode cX7_digest 35 = .ok (.iconst 0, 1) := by decide +kernel
theorem dX7_digest_36 : decode cX7_digest 36 = .ok (.istore_n 2, 1) := by decide +kernel
theorem dX7_digest_37 : decode cX7_digest 37 = .ok (.iload_n 2, 1) := by decide +kernel
theorem dX7_digest_38 : decode cX7_digest 38 = .ok (.aload_n 0, 1) := by decide +kernel
theorem dX7_digest_39 : decode cX7_digest 39 = .ok (.getfield 7, 3) := by decide +kernel
theorem dX7_digest_42 : decode cX7_digest 42 = .ok (.if_icmp .ge 38, 3) := by decide +kernel
theorem dX7_digest_45 : decode cX7_digest 45 = .ok (.iconst 0, 1) := by decide +kernel
theorem dX7_digest_46 : decode cX7_digest 46 = .ok (.istore_n 3, 1) := by decide +kernel
theorem dX7_digest_47 : decode cX7_digest 47 = .ok (.iload_n 3, 1) := by decide +kernel
theorem dX7_digest_48 : decode cX7_digest 48 = .ok (.iconst 5, 1) := by decide +kernel
theorem dX7_digest_49 : decode cX7_digest 49 = .ok (.if_icmp .ge 25, 3) := by decide +kernel
theorem dX7_digest_52 : decode cX7_digest 52 = .ok (.aload_n 0, 1) := by decide +kernel
theorem dX7_digest_53 : decode cX7_digest 53 = .ok (.aload_n 0, 1) := by decide +kernel
theorem dX7_digest_54 : decode cX7_digest 54 = .ok (.bipush 16, 2) := by decide +kernel
theorem dX7_digest_56 : decode cX7_digest 56 = .ok (.iload_n 1, 1) := by decide +kernel
theorem dX7_digest_57 : decode cX7_digest 57 = .ok (.imul, 1) := by decide +kernel
theorem dX7_digest_58 : decode cX7_digest 58 = .ok (.iload_n 2, 1) := by decide +kernel
theorem dX7_digest_59 : decode cX7_digest 59 = .ok (.iadd, 1) := by decide +kernel
theorem dX7_digest_60 : decode cX7_digest 60 = .ok (.iload_n 3, 1) := by decide +kernel
theorem dX7_digest_61 : decode cX7_digest 61 = .ok (.invokevirtual 266, 3) := by decide +kernel
theorem dX7_digest_64 : decode cX7_digest 64 = .ok (.i2l, 1) := by decide +kernel
theorem dX7_digest_65 : decode cX7_digest 65 = .ok (.invokevirtual 277, 3) := by decide +kernel
theorem dX7_digest_68 : decode cX7_digest 68 = .ok (.iinc 3 1, 3) := by decide +kernel
theorem dX7_digest_71 : decode cX7_digest 71 = .ok (.goto (-24), 3) := by decide +kernel
theorem dX7_digest_74 : decode cX7_digest 74 = .ok (.iinc 2 1, 3) := by decide +kernel
theorem dX7_digest_77 : decode cX7_digest 77 = .ok (.goto (-40), 3) := by decide +kernel
theorem dX7_digest_80 : decode cX7_digest 80 = .ok (.iinc 1 1, 3) := by decide +kernel
theorem dX7_digest_83 : decode cX7_digest 83 = .ok (.goto (-56), 3) := by decide +kernel
theorem dX7_digest_86 : decode cX7_digest 86 = .ok (.iconst 0, 1) := by decide +kernel
theorem dX7_digest_87 : decode cX7_digest 87 = .ok (.istore_n 1, 1) := by decide +kernel
theorem dX7_digest_88 : decode cX7_digest 88 = .ok (.iload_n 1, 1) := by decide +kernel
theorem dX7_digest_89 : decode cX7_digest 89 = .ok (.aload_n 0, 1) := by decide +kernel
theorem dX7_digest_90 : decode cX7_digest 90 = .ok (.getfield 130, 3) := by decide +kernel
theorem dX7_digest_93 : decode cX7_digest 93 = .ok (.if_icmp .ge 68, 3) := by decide +kernel
theorem dX7_digest_96 : decode cX7_digest 96 = .ok (.aload_n 0, 1) := by decide +kernel
theorem dX7_digest_97 : decode cX7_digest 97 = .ok (.aload_n 0, 1) := by decide +kernel
theorem dX7_digest_98 : decode cX7_digest 98 = .ok (.getfield 33, 3) := by decide +kernel
theorem dX7_digest_101 : decode cX7_digest 101 = .ok (.iload_n 1, 1) := by decide +kernel
theorem dX7_digest_102 : decode cX7_digest 102 = .ok (.iaload, 1) := by decide +kernel
theorem dX7_digest_103 : decode cX7_digest 103 = .ok (.i2l, 1) := by decide +kernel
theorem dX7_digest_104 : decode cX7_digest 104 = .ok (.invokevirtual 277, 3) := by decide +kernel
theorem dX7_digest_107 : decode cX7_digest 107 = .ok (.iconst 0, 1) := by decide +kernel
theorem dX7_digest_108 : decode cX7_digest 108 = .ok (.istore_n 2, 1) := by decide +kernel
theorem dX7_digest_109 : decode cX7_digest 109 = .ok (.iload_n 2, 1) := by decide +kernel
theorem dX7_digest_110 : decode cX7_digest 110 = .ok (.aload_n 0, 1) := by decide +kernel
theorem dX7_digest_111 : decode cX7_digest 111 = .ok (.getfield 36, 3) := by decide +kernel
theorem dX7_digest_114 : decode cX7_digest 114 = .ok (.iload_n 1, 1) := by decide +kernel
theorem dX7_digest_115 : decode cX7_digest 115 = .ok (.iaload, 1) := by decide +kernel
theorem dX7_digest_116 : decode cX7_digest 116 = .ok (.if_icmp .ge 39, 3) := by decide +kernel
theorem dX7_digest_119 : decode cX7_digest 119 = .ok (.aload_n 0, 1) := by decide +kernel
theorem dX7_digest_120 : decode cX7_digest 120 = .ok (.aload_n 0, 1) := by decide +kernel
theorem dX7_digest_121 : decode cX7_digest 121 = .ok (.getfield 39, 3) := by decide +kernel
theorem dX7_digest_124 : decode cX7_digest 124 = .ok (.iconst 4, 1) := by decide +kernel
theorem dX7_digest_125 : decode cX7_digest 125 = .ok (.iload_n 1, 1) := by decide +kernel
theorem dX7_digest_126 : decode cX7_digest 126 = .ok (.imul, 1) := by decide +kernel
theorem dX7_digest_127 : decode cX7_digest 127 = .ok (.iload_n 2, 1) := by decide +kernel
theorem dX7_digest_128 : decode cX7_digest 128 = .ok (.iadd, 1) := by decide +kernel
theorem dX7_digest_129 : decode cX7_digest 129 = .ok (.iaload, 1) := by decide +kernel
theorem dX7_digest_130 : decode cX7_digest 130 = .ok (.i2l, 1) := by decide +kernel
theorem dX7_digest_131 : decode cX7_digest 131 = .ok (.invokevirtual 277, 3) := by decide +kernel
theorem dX7_digest_134 : decode cX7_digest 134 = .ok (.aload_n 0, 1) := by decide +kernel
theorem dX7_digest_135 : decode cX7_digest 135 = .ok (.aload_n 0, 1) := by decide +kernel
theorem dX7_digest_136 : decode cX7_digest 136 = .ok (.getfield 42, 3) := by decide +kernel
theorem dX7_digest_139 : decode cX7_digest 139 = .ok (.iconst 4, 1) := by decide +kernel
theorem dX7_digest_140 : decode cX7_digest 140 = .ok (.iload_n 1, 1) := by decide +kernel
theorem dX7_digest_141 : decode cX7_digest 141 = .ok (.imul, 1) := by decide +kernel
theorem dX7_digest_142 : decode cX7_digest 142 = .ok (.iload_n 2, 1) := by decide +kernel
theorem dX7_digest_143 : decode cX7_digest 143 = .ok (.iadd, 1) := by decide +kernel
theorem dX7_digest_144 : decode cX7_digest 144 = .ok (.iaload, 1) := by decide +kernel
theorem dX7_digest_145 : decode cX7_digest 145 = .ok (.i2l, 1) := by decide +kernel
theorem dX7_digest_146 : decode cX7_digest 146 = .ok (.invokevirtual 277, 3) := by decide +kernel
theorem dX7_digest_149 : decode cX7_digest 149 = .ok (.iinc 2 1, 3) := by decide +kernel
theorem dX7_digest_152 : decode cX7_digest 152 = .ok (.goto (-43), 3) := by decide +kernel
theorem dX7_digest_155 : decode cX7_digest 155 = .ok (.iinc 1 1, 3) := by decide +kernel
theorem dX7_digest_158 : decode cX7_digest 158 = .ok (.goto (-70), 3) := by decide +kernel
theorem dX7_digest_161 : decode cX7_digest 161 = .ok (.iconst 0, 1) := by decide +kernel
theorem dX7_digest_162 : decode cX7_digest 162 = .ok (.istore_n 1, 1) := by decide +kernel
theorem dX7_digest_163 : decode cX7_digest 163 = .ok (.iload_n 1, 1) := by decide +kernel
theorem dX7_digest_164 : decode cX7_digest 164 = .ok (.aload_n 0, 1) := by decide +kernel
theorem dX7_digest_165 : decode cX7_digest 165 = .ok (.getfield 197, 3) := by decide +kernel
theorem dX7_digest_168 : decode cX7_digest 168 = .ok (.if_icmp .ge 70, 3) := by decide +kernel
theorem dX7_digest_171 : decode cX7_digest 171 = .ok (.aload_n 0, 1) := by decide +kernel
theorem dX7_digest_172 : decode cX7_digest 172 = .ok (.aload_n 0, 1) := by decide +kernel
theorem dX7_digest_173 : decode cX7_digest 173 = .ok (.getfield 57, 3) := by decide +kernel
theorem dX7_digest_176 : decode cX7_digest 176 = .ok (.iload_n 1, 1) := by decide +kernel
theorem dX7_digest_177 : decode cX7_digest 177 = .ok (.iaload, 1) := by decide +kernel
theorem dX7_digest_178 : decode cX7_digest 178 = .ok (.i2l, 1) := by decide +kernel
theorem dX7_digest_179 : decode cX7_digest 179 = .ok (.invokevirtual 277, 3) := by decide +kernel
theorem dX7_digest_182 : decode cX7_digest 182 = .ok (.bipush 12, 2) := by decide +kernel
theorem dX7_digest_184 : decode cX7_digest 184 = .ok (.iload_n 1, 1) := by decide +kernel
theorem dX7_digest_185 : decode cX7_digest 185 = .ok (.imul, 1) := by decide +kernel
theorem dX7_digest_186 : decode cX7_digest 186 = .ok (.istore_n 2, 1) := by decide +kernel
theorem dX7_digest_187 : decode cX7_digest 187 = .ok (.iload_n 2, 1) := by decide +kernel
theorem dX7_digest_188 : decode cX7_digest 188 = .ok (.bipush 12, 2) := by decide +kernel
theorem dX7_digest_190 : decode cX7_digest 190 = .ok (.iload_n 1, 1) := by decide +kernel
theorem dX7_digest_191 : decode cX7_digest 191 = .ok (.imul, 1) := by decide +kernel
theorem dX7_digest_192 : decode cX7_digest 192 = .ok (.aload_n 0, 1) := by decide +kernel
theorem dX7_digest_193 : decode cX7_digest 193 = .ok (.getfield 63, 3) := by decide +kernel
theorem dX7_digest_196 : decode cX7_digest 196 = .ok (.iload_n 1, 1) := by decide +kernel
theorem dX7_digest_197 : decode cX7_digest 197 = .ok (.iaload, 1) := by decide +kernel
theorem dX7_digest_198 : decode cX7_digest 198 = .ok (.iadd, 1) := by decide +kernel
theorem dX7_digest_199 : decode cX7_digest 199 = .ok (.if_icmp .ge 33, 3) := by decide +kernel
theorem dX7_digest_202 : decode cX7_digest 202 = .ok (.iconst 0, 1) := by decide +kernel
theorem dX7_digest_203 : decode cX7_digest 203 = .ok (.istore_n 3, 1) := by decide +kernel
theorem dX7_digest_204 : decode cX7_digest 204 = .ok (.iload_n 3, 1) := by decide +kernel
theorem dX7_digest_205 : decode cX7_digest 205 = .ok (.bipush 14, 2) := by decide +kernel
theorem dX7_digest_207 : decode cX7_digest 207 = .ok (.if_icmp .ge 19, 3) := by decide +kernel
theorem dX7_digest_210 : decode cX7_digest 210 = .ok (.aload_n 0, 1) := by decide +kernel
theorem dX7_digest_211 : decode cX7_digest 211 = .ok (.aload_n 0, 1) := by decide +kernel
theorem dX7_digest_212 : decode cX7_digest 212 = .ok (.iload_n 2, 1) := by decide +kernel
theorem dX7_digest_213 : decode cX7_digest 213 = .ok (.iload_n 3, 1) := by decide +kernel
theorem dX7_digest_214 : decode cX7_digest 214 = .ok (.invokevirtual 263, 3) := by decide +kernel
theorem dX7_digest_217 : decode cX7_digest 217 = .ok (.invokevirtual 277, 3) := by decide +kernel
theorem dX7_digest_220 : decode cX7_digest 220 = .ok (.iinc 3 1, 3) := by decide +kernel
theorem dX7_digest_223 : decode cX7_digest 223 = .ok (.goto (-19), 3) := by decide +kernel
theorem dX7_digest_226 : decode cX7_digest 226 = .ok (.iinc 2 1, 3) := by decide +kernel
theorem dX7_digest_229 : decode cX7_digest 229 = .ok (.goto (-42), 3) := by decide +kernel
theorem dX7_digest_232 : decode cX7_digest 232 = .ok (.iinc 1 1, 3) := by decide +kernel
theorem dX7_digest_235 : decode cX7_digest 235 = .ok (.goto (-72), 3) := by decide +kernel
theorem dX7_digest_238 : decode cX7_digest 238 = .ok (.iconst 0, 1) := by decide +kernel
theorem dX7_digest_239 : decode cX7_digest 239 = .ok (.istore_n 1, 1) := by decide +kernel
theorem dX7_digest_240 : decode cX7_digest 240 = .ok (.iload_n 1, 1) := by decide +kernel
theorem dX7_digest_241 : decode cX7_digest 241 = .ok (.iconst 5, 1) := by decide +kernel
theorem dX7_digest_242 : decode cX7_digest 242 = .ok (.if_icmp .ge 20, 3) := by decide +kernel
theorem dX7_digest_245 : decode cX7_digest 245 = .ok (.aload_n 0, 1) := by decide +kernel
theorem dX7_digest_246 : decode cX7_digest 246 = .ok (.aload_n 0, 1) := by decide +kernel
theorem dX7_digest_247 : decode cX7_digest 247 = .ok (.getfield 54, 3) := by decide +kernel
theorem dX7_digest_250 : decode cX7_digest 250 = .ok (.iload_n 1, 1) := by decide +kernel
theorem dX7_digest_251 : decode cX7_digest 251 = .ok (.iaload, 1) := by decide +kernel
theorem dX7_digest_252 : decode cX7_digest 252 = .ok (.i2l, 1) := by decide +kernel
theorem dX7_digest_253 : decode cX7_digest 253 = .ok (.invokevirtual 277, 3) := by decide +kernel
theorem dX7_digest_256 : decode cX7_digest 256 = .ok (.iinc 1 1, 3) := by decide +kernel
theorem dX7_digest_259 : decode cX7_digest 259 = .ok (.goto (-19), 3) := by decide +kernel
theorem dX7_digest_262 : decode cX7_digest 262 = .ok (.iconst 5, 1) := by decide +kernel
theorem dX7_digest_263 : decode cX7_digest 263 = .ok (.istore_n 1, 1) := by decide +kernel
theorem dX7_digest_264 : decode cX7_digest 264 = .ok (.iload_n 1, 1) := by decide +kernel
theorem dX7_digest_265 : decode cX7_digest 265 = .ok (.bipush 8, 2) := by decide +kernel
theorem dX7_digest_267 : decode cX7_digest 267 = .ok (.if_icmp .ge 19, 3) := by decide +kernel
theorem dX7_digest_270 : decode cX7_digest 270 = .ok (.aload_n 0, 1) := by decide +kernel
theorem dX7_digest_271 : decode cX7_digest 271 = .ok (.aload_n 0, 1) := by decide +kernel
theorem dX7_digest_272 : decode cX7_digest 272 = .ok (.iload_n 1, 1) := by decide +kernel
theorem dX7_digest_273 : decode cX7_digest 273 = .ok (.invokevirtual 281, 3) := by decide +kernel
theorem dX7_digest_276 : decode cX7_digest 276 = .ok (.i2l, 1) := by decide +kernel
theorem dX7_digest_277 : decode cX7_digest 277 = .ok (.invokevirtual 277, 3) := by decide +kernel
theorem dX7_digest_280 : decode cX7_digest 280 = .ok (.iinc 1 1, 3) := by decide +kernel
theorem dX7_digest_283 : decode cX7_digest 283 = .ok (.goto (-19), 3) := by decide +kernel
theorem dX7_digest_286 : decode cX7_digest 286 = .ok (.aload_n 0, 1) := by decide +kernel
theorem dX7_digest_287 : decode cX7_digest 287 = .ok (.getfield 271, 3) := by decide +kernel
theorem dX7_digest_290 : decode cX7_digest 290 = .ok (.lreturn, 1) := by decide +kernel
theorem dJ9_max_f86c9_0 : decode cJ9_max_f86c9 0 = .ok (.lload_n 0, 1) := by decide +kernel
theorem dJ9_max_f86c9_1 : decode cJ9_max_f86c9 1 = .ok (.lload_n 2, 1) := by decide +kernel
theorem dJ9_max_f86c9_2 : decode cJ9_max_f86c9 2 = .ok (.lcmp, 1) := by decide +kernel
theorem dJ9_max_f86c9_3 : decode cJ9_max_f86c9 3 = .ok (.ifCond .lt 7, 3) := by decide +kernel
theorem dJ9_max_f86c9_6 : decode cJ9_max_f86c9 6 = .ok (.lload_n 0, 1) := by decide +kernel
theorem dJ9_max_f86c9_7 : decode cJ9_max_f86c9 7 = .ok (.goto 4, 3) := by decide +kernel
theorem dJ9_max_f86c9_10 : decode cJ9_max_f86c9 10 = .ok (.lload_n 2, 1) := by decide +kernel
theorem dJ9_max_f86c9_11 : decode cJ9_max_f86c9 11 = .ok (.lreturn, 1) := by decide +kernel
theorem dJ9_min_f86c9_0 : decode cJ9_min_f86c9 0 = .ok (.lload_n 0, 1) := by decide +kernel
theorem dJ9_min_f86c9_1 : decode cJ9_min_f86c9 1 = .ok (.lload_n 2, 1) := by decide +kernel
theorem dJ9_min_f86c9_2 : decode cJ9_min_f86c9 2 = .ok (.lcmp, 1) := by decide +kernel
theorem dJ9_min_f86c9_3 : decode cJ9_min_f86c9 3 = .ok (.ifCond .gt 7, 3) := by decide +kernel
theorem dJ9_min_f86c9_6 : decode cJ9_min_f86c9 6 = .ok (.lload_n 0, 1) := by decide +kernel
theorem dJ9_min_f86c9_7 : decode cJ9_min_f86c9 7 = .ok (.goto 4, 3) := by decide +kernel
theorem dJ9_min_f86c9_10 : decode cJ9_min_f86c9 10 = .ok (.lload_n 2, 1) := by decide +kernel
theorem dJ9_min_f86c9_11 : decode cJ9_min_f86c9 11 = .ok (.lreturn, 1) := by decide +kernel
theorem dL_law_0 : decode cL_law 0 = .ok (.new 7, 3) := by decide +kernel
theorem dL_law_3 : decode cL_law 3 = .ok (.dup, 1) := by decide +kernel
theorem dL_law_4 : decode cL_law 4 = .ok (.invokespecial 9, 3) := by decide +kernel
theorem dL_law_7 : decode cL_law 7 = .ok (.astore_n 1, 1) := by decide +kernel
theorem dL_law_8 : decode cL_law 8 = .ok (.new 10, 3) := by decide +kernel
theorem dL_law_11 : decode cL_law 11 = .ok (.dup, 1) := by decide +kernel
theorem dL_law_12 : decode cL_law 12 = .ok (.invokespecial 12, 3) := by decide +kernel
theorem dL_law_15 : decode cL_law 15 = .ok (.astore_n 2, 1) := by decide +kernel
theorem dL_law_16 : decode cL_law 16 = .ok (.iconst 0, 1) := by decide +kernel
theorem dL_law_17 : decode cL_law 17 = .ok (.istore_n 3, 1) := by decide +kernel
theorem dL_law_18 : decode cL_law 18 = .ok (.iload_n 3, 1) := by decide +kernel
theorem dL_law_19 : decode cL_law 19 = .ok (.aload_n 0, 1) := by decide +kernel
theorem dL_law_20 : decode cL_law 20 = .ok (.arraylength, 1) := by decide +kernel
theorem dL_law_21 : decode cL_law 21 = .ok (.iconst 5, 1) := by decide +kernel
theorem dL_law_22 : decode cL_law 22 = .ok (.isub, 1) := by decide +kernel
theorem dL_law_23 : decode cL_law 23 = .ok (.if_icmp .gt 956, 3) := by decide +kernel
theorem dL_law_26 : decode cL_law 26 = .ok (.aload_n 0, 1) := by decide +kernel
theorem dL_law_27 : decode cL_law 27 = .ok (.iload_n 3, 1) := by decide +kernel
theorem dL_law_28 : decode cL_law 28 = .ok (.iaload, 1) := by decide +kernel
theorem dL_law_29 : decode cL_law 29 = .ok (.bipush 31, 2) := by decide +kernel
theorem dL_law_31 : decode cL_law 31 = .ok (.iand, 1) := by decide +kernel
theorem dL_law_32 : decode cL_law 32 = .ok (.tableswitch 941 0 23 #[112, 145, 158, 211, 244, 287, 330, 373, 406, 439, 462, 521, 534, 557, 606, 619, 633, 707, 751, 795, 838, 861, 904, 927], 112) := by decide +kernel
theorem dL_law_144 : decode cL_law 144 = .ok (.aload_n 1, 1) := by decide +kernel
theorem dL_law_145 : decode cL_law 145 = .ok (.aload_n 0, 1) := by decide +kernel
theorem dL_law_146 : decode cL_law 146 = .ok (.iload_n 3, 1) := by decide +kernel
theorem dL_law_147 : decode cL_law 147 = .ok (.iconst 1, 1) := by decide +kernel
theorem dL_law_148 : decode cL_law 148 = .ok (.iadd, 1) := by decide +kernel
theorem dL_law_149 : decode cL_law 149 = .ok (.iaload, 1) := by decide +kernel
theorem dL_law_150 : decode cL_law 150 = .ok (.aload_n 0, 1) := by decide +kernel
theorem dL_law_151 : decode cL_law 151 = .ok (.iload_n 3, 1) := by decide +kernel
theorem dL_law_152 : decode cL_law 152 = .ok (.iconst 2, 1) := by decide +kernel
theorem dL_law_153 : decode cL_law 153 = .ok (.iadd, 1) := by decide +kernel
theorem dL_law_154 : decode cL_law 154 = .ok (.iaload, 1) := by decide +kernel
theorem dL_law_155 : decode cL_law 155 = .ok (.invokevirtual 13, 3) := by decide +kernel
theorem dL_law_158 : decode cL_law 158 = .ok (.aload_n 2, 1) := by decide +kernel
theorem dL_law_159 : decode cL_law 159 = .ok (.aload_n 0, 1) := by decide +kernel
theorem dL_law_160 : decode cL_law 160 = .ok (.iload_n 3, 1) := by decide +kernel
theorem dL_law_161 : decode cL_law 161 = .ok (.iconst 1, 1) := by decide +kernel
theorem dL_law_162 : decode cL_law 162 = .ok (.iadd, 1) := by decide +kernel
theorem dL_law_163 : decode cL_law 163 = .ok (.iaload, 1) := by decide +kernel
theorem dL_law_164 : decode cL_law 164 = .ok (.aload_n 0, 1) := by decide +kernel
theorem dL_law_165 : decode cL_law 165 = .ok (.iload_n 3, 1) := by decide +kernel
theorem dL_law_166 : decode cL_law 166 = .ok (.iconst 2, 1) := by decide +kernel
theorem dL_law_167 : decode cL_law 167 = .ok (.iadd, 1) := by decide +kernel
theorem dL_law_168 : decode cL_law 168 = .ok (.iaload, 1) := by decide +kernel
theorem dL_law_169 : decode cL_law 169 = .ok (.invokevirtual 17, 3) := by decide +kernel
theorem dL_law_172 : decode cL_law 172 = .ok (.if_icmp .eq 801, 3) := by decide +kernel
theorem dL_law_175 : decode cL_law 175 = .ok (.iconst 0, 1) := by decide +kernel
theorem dL_law_176 : decode cL_law 176 = .ok (.ireturn, 1) := by decide +kernel
theorem dL_law_177 : decode cL_law 177 = .ok (.aload_n 1, 1) := by decide +kernel
theorem dL_law_178 : decode cL_law 178 = .ok (.invokevirtual 18, 3) := by decide +kernel
theorem dL_law_181 : decode cL_law 181 = .ok (.aload_n 2, 1) := by decide +kernel
theorem dL_law_182 : decode cL_law 182 = .ok (.invokevirtual 22, 3) := by decide +kernel
theorem dL_law_185 : decode cL_law 185 = .ok (.if_icmp .eq 788, 3) := by decide +kernel
theorem dL_law_188 : decode cL_law 188 = .ok (.iconst 0, 1) := by decide +kernel
theorem dL_law_189 : decode cL_law 189 = .ok (.ireturn, 1) := by decide +kernel
theorem dL_law_190 : decode cL_law 190 = .ok (.aload_n 1, 1) := by decide +kernel
theorem dL_law_191 : decode cL_law 191 = .ok (.aload_n 0, 1) := by decide +kernel
theorem dL_law_192 : decode cL_law 192 = .ok (.iload_n 3, 1) := by decide +kernel
theorem dL_law_193 : decode cL_law 193 = .ok (.iconst 1, 1) := by decide +kernel
theorem dL_law_194 : decode cL_law 194 = .ok (.iadd, 1) := by decide +kernel
theorem dL_law_195 : decode cL_law 195 = .ok (.iaload, 1) := by decide +kernel
theorem dL_law_196 : decode cL_law 196 = .ok (.aload_n 0, 1) := by decide +kernel
theorem dL_law_197 : decode cL_law 197 = .ok (.iload_n 3, 1) := by decide +kernel
theorem dL_law_198 : decode cL_law 198 = .ok (.iconst 2, 1) := by decide +kernel
theorem dL_law_199 : decode cL_law 199 = .ok (.iadd, 1) := by decide +kernel
theorem dL_law_200 : decode cL_law 200 = .ok (.iaload, 1) := by decide +kernel
theorem dL_law_201 : decode cL_law 201 = .ok (.aload_n 0, 1) := by decide +kernel
theorem dL_law_202 : decode cL_law 202 = .ok (.iload_n 3, 1) := by decide +kernel
theorem dL_law_203 : decode cL_law 203 = .ok (.iconst 3, 1) := by decide +kernel
theorem dL_law_204 : decode cL_law 204 = .ok (.iadd, 1) := by decide +kernel
theorem dL_law_205 : decode cL_law 205 = .ok (.iaload, 1) := by decide +kernel
theorem dL_law_206 : decode cL_law 206 = .ok (.aload_n 0, 1) := by decide +kernel
theorem dL_law_207 : decode cL_law 207 = .ok (.iload_n 3, 1) := by decide +kernel
theorem dL_law_208 : decode cL_law 208 = .ok (.iconst 4, 1) := by decide +kernel
theorem dL_law_209 : decode cL_law 209 = .ok (.iadd, 1) := by decide +kernel
theorem dL_law_210 : decode cL_law 210 = .ok (.iaload, 1) := by decide +kernel
theorem dL_law_211 : decode cL_law 211 = .ok (.invokevirtual 23, 3) := by decide +kernel
theorem dL_law_214 : decode cL_law 214 = .ok (.aload_n 2, 1) := by decide +kernel
theorem dL_law_215 : decode cL_law 215 = .ok (.aload_n 0, 1) := by decide +kernel
theorem dL_law_216 : decode cL_law 216 = .ok (.iload_n 3, 1) := by decide +kernel
theorem dL_law_217 : decode cL_law 217 = .ok (.iconst 1, 1) := by decide +kernel
theorem dL_law_218 : decode cL_law 218 = .ok (.iadd, 1) := by decide +kernel
theorem dL_law_219 : decode cL_law 219 = .ok (.iaload, 1) := by decide +kernel
theorem dL_law_220 : decode cL_law 220 = .ok (.aload_n 0, 1) := by decide +kernel
theorem dL_law_221 : decode cL_law 221 = .ok (.iload_n 3, 1) := by decide +kernel
theorem dL_law_222 : decode cL_law 222 = .ok (.iconst 2, 1) := by decide +kernel
theorem dL_law_223 : decode cL_law 223 = .ok (.iadd, 1) := by decide +kernel
theorem dL_law_224 : decode cL_law 224 = .ok (.iaload, 1) := by decide +kernel
theorem dL_law_225 : decode cL_law 225 = .ok (.aload_n 0, 1) := by decide +kernel
theorem dL_law_226 : decode cL_law 226 = .ok (.iload_n 3, 1) := by decide +kernel
theorem dL_law_227 : decode cL_law 227 = .ok (.iconst 3, 1) := by decide +kernel
theorem dL_law_228 : decode cL_law 228 = .ok (.iadd, 1) := by decide +kernel
theorem dL_law_229 : decode cL_law 229 = .ok (.iaload, 1) := by decide +kernel
theorem dL_law_230 : decode cL_law 230 = .ok (.aload_n 0, 1) := by decide +kernel
theorem dL_law_231 : decode cL_law 231 = .ok (.iload_n 3, 1) := by decide +kernel
theorem dL_law_232 : decode cL_law 232 = .ok (.iconst 4, 1) := by decide +kernel
theorem dL_law_233 : decode cL_law 233 = .ok (.iadd, 1) := by decide +kernel
theorem dL_law_234 : decode cL_law 234 = .ok (.iaload, 1) := by decide +kernel
theorem dL_law_235 : decode cL_law 235 = .ok (.invokevirtual 27, 3) := by decide +kernel
theorem dL_law_238 : decode cL_law 238 = .ok (.if_icmp .eq 735, 3) := by decide +kernel
theorem dL_law_241 : decode cL_law 241 = .ok (.iconst 0, 1) := by decide +kernel
theorem dL_law_242 : decode cL_law 242 = .ok (.ireturn, 1) := by decide +kernel
theorem dL_law_243 : decode cL_law 243 = .ok (.aload_n 1, 1) := by decide +kernel
theorem dL_law_244 : decode cL_law 244 = .ok (.aload_n 0, 1) := by decide +kernel
theorem dL_law_245 : decode cL_law 245 = .ok (.iload_n 3, 1) := by decide +kernel
theorem dL_law_246 : decode cL_law 246 = .ok (.iconst 1, 1) := by decide +kernel
theorem dL_law_247 : decode cL_law 247 = .ok (.iadd, 1) := by decide +kernel
theorem dL_law_248 : decode cL_law 248 = .ok (.iaload, 1) := by decide +kernel
theorem dL_law_249 : decode cL_law 249 = .ok (.aload_n 0, 1) := by decide +kernel
theorem dL_law_250 : decode cL_law 250 = .ok (.iload_n 3, 1) := by decide +kernel
theorem dL_law_251 : decode cL_law 251 = .ok (.iconst 2, 1) := by decide +kernel
theorem dL_law_252 : decode cL_law 252 = .ok (.iadd, 1) := by decide +kernel
theorem dL_law_253 : decode cL_law 253 = .ok (.iaload, 1) := by decide +kernel
theorem dL_law_254 : decode cL_law 254 = .ok (.invokevirtual 28, 3) := by decide +kernel
theorem dL_law_257 : decode cL_law 257 = .ok (.aload_n 2, 1) := by decide +kernel
theorem dL_law_258 : decode cL_law 258 = .ok (.aload_n 0, 1) := by decide +kernel
theorem dL_law_259 : decode cL_law 259 = .ok (.iload_n 3, 1) := by decide +kernel
theorem dL_law_260 : decode cL_law 260 = .ok (.iconst 1, 1) := by decide +kernel
theorem dL_law_261 : decode cL_law 261 = .ok (.iadd, 1) := by decide +kernel
theorem dL_law_262 : decode cL_law 262 = .ok (.iaload, 1) := by decide +kernel
theorem dL_law_263 : decode cL_law 263 = .ok (.aload_n 0, 1) := by decide +kernel
theorem dL_law_264 : decode cL_law 264 = .ok (.iload_n 3, 1) := by decide +kernel
theorem dL_law_265 : decode cL_law 265 = .ok (.iconst 2, 1) := by decide +kernel
theorem dL_law_266 : decode cL_law 266 = .ok (.iadd, 1) := by decide +kernel
theorem dL_law_267 : decode cL_law 267 = .ok (.iaload, 1) := by decide +kernel
theorem dL_law_268 : decode cL_law 268 = .ok (.invokevirtual 31, 3) := by decide +kernel
theorem dL_law_271 : decode cL_law 271 = .ok (.if_icmp .eq 702, 3) := by decide +kernel
theorem dL_law_274 : decode cL_law 274 = .ok (.iconst 0, 1) := by decide +kernel
theorem dL_law_275 : decode cL_law 275 = .ok (.ireturn, 1) := by decide +kernel
theorem dL_law_276 : decode cL_law 276 = .ok (.aload_n 1, 1) := by decide +kernel
theorem dL_law_277 : decode cL_law 277 = .ok (.aload_n 0, 1) := by decide +kernel
theorem dL_law_278 : decode cL_law 278 = .ok (.iload_n 3, 1) := by decide +kernel
theorem dL_law_279 : decode cL_law 279 = .ok (.iconst 1, 1) := by decide +kernel
theorem dL_law_280 : decode cL_law 280 = .ok (.iadd, 1) := by decide +kernel
theorem dL_law_281 : decode cL_law 281 = .ok (.iaload, 1) := by decide +kernel
theorem dL_law_282 : decode cL_law 282 = .ok (.aload_n 0, 1) := by decide +kernel
theorem dL_law_283 : decode cL_law 283 = .ok (.iload_n 3, 1) := by decide +kernel
theorem dL_law_284 : decode cL_law 284 = .ok (.iconst 2, 1) := by decide +kernel
theorem dL_law_285 : decode cL_law 285 = .ok (.iadd, 1) := by decide +kernel
theorem dL_law_286 : decode cL_law 286 = .ok (.iaload, 1) := by decide +kernel
theorem dL_law_287 : decode cL_law 287 = .ok (.aload_n 0, 1) := by decide +kernel
theorem dL_law_288 : decode cL_law 288 = .ok (.iload_n 3, 1) := by decide +kernel
theorem dL_law_289 : decode cL_law 289 = .ok (.iconst 3, 1) := by decide +kernel
theorem dL_law_290 : decode cL_law 290 = .ok (.iadd, 1) := by decide +kernel
theorem dL_law_291 : decode cL_law 291 = .ok (.iaload, 1) := by decide +kernel
theorem dL_law_292 : decode cL_law 292 = .ok (.invokevirtual 32, 3) := by decide +kernel
theorem dL_law_295 : decode cL_law 295 = .ok (.aload_n 2, 1) := by decide +kernel
theorem dL_law_296 : decode cL_law 296 = .ok (.aload_n 0, 1) := by decide +kernel
theorem dL_law_297 : decode cL_law 297 = .ok (.iload_n 3, 1) := by decide +kernel
theorem dL_law_298 : decode cL_law 298 = .ok (.iconst 1, 1) := by decide +kernel
theorem dL_law_299 : decode cL_law 299 = .ok (.iadd, 1) := by decide +kernel
theorem dL_law_300 : decode cL_law 300 = .ok (.iaload, 1) := by decide +kernel
theorem dL_law_301 : decode cL_law 301 = .ok (.aload_n 0, 1) := by decide +kernel
theorem dL_law_302 : decode cL_law 302 = .ok (.iload_n 3, 1) := by decide +kernel
theorem dL_law_303 : decode cL_law 303 = .ok (.iconst 2, 1) := by decide +kernel
theorem dL_law_304 : decode cL_law 304 = .ok (.iadd, 1) := by decide +kernel
theorem dL_law_305 : decode cL_law 305 = .ok (.iaload, 1) := by decide +kernel
theorem dL_law_306 : decode cL_law 306 = .ok (.aload_n 0, 1) := by decide +kernel
theorem dL_law_307 : decode cL_law 307 = .ok (.iload_n 3, 1) := by decide +kernel
theorem dL_law_308 : decode cL_law 308 = .ok (.iconst 3, 1) := by decide +kernel
theorem dL_law_309 : decode cL_law 309 = .ok (.iadd, 1) := by decide +kernel
theorem dL_law_310 : decode cL_law 310 = .ok (.iaload, 1) := by decide +kernel
theorem dL_law_311 : decode cL_law 311 = .ok (.invokevirtual 36, 3) := by decide +kernel
theorem dL_law_314 : decode cL_law 314 = .ok (.if_icmp .eq 659, 3) := by decide +kernel
theorem dL_law_317 : decode cL_law 317 = .ok (.iconst 0, 1) := by decide +kernel
theorem dL_law_318 : decode cL_law 318 = .ok (.ireturn, 1) := by decide +kernel
theorem dL_law_319 : decode cL_law 319 = .ok (.aload_n 1, 1) := by decide +kernel
theorem dL_law_320 : decode cL_law 320 = .ok (.aload_n 0, 1) := by decide +kernel
theorem dL_law_321 : decode cL_law 321 = .ok (.iload_n 3, 1) := by decide +kernel
theorem dL_law_322 : decode cL_law 322 = .ok (.iconst 1, 1) := by decide +kernel
theorem dL_law_323 : decode cL_law 323 = .ok (.iadd, 1) := by decide +kernel
theorem dL_law_324 : decode cL_law 324 = .ok (.iaload, 1) := by decide +kernel
theorem dL_law_325 : decode cL_law 325 = .ok (.aload_n 0, 1) := by decide +kernel
theorem dL_law_326 : decode cL_law 326 = .ok (.iload_n 3, 1) := by decide +kernel
theorem dL_law_327 : decode cL_law 327 = .ok (.iconst 2, 1) := by decide +kernel
theorem dL_law_328 : decode cL_law 328 = .ok (.iadd, 1) := by decide +kernel
theorem dL_law_329 : decode cL_law 329 = .ok (.iaload, 1) := by decide +kernel
theorem dL_law_330 : decode cL_law 330 = .ok (.aload_n 0, 1) := by decide +kernel
theorem dL_law_331 : decode cL_law 331 = .ok (.iload_n 3, 1) := by decide +kernel
theorem dL_law_332 : decode cL_law 332 = .ok (.iconst 3, 1) := by decide +kernel
theorem dL_law_333 : decode cL_law 333 = .ok (.iadd, 1) := by decide +kernel
theorem dL_law_334 : decode cL_law 334 = .ok (.iaload, 1) := by decide +kernel
theorem dL_law_335 : decode cL_law 335 = .ok (.invokevirtual 37, 3) := by decide +kernel
theorem dL_law_338 : decode cL_law 338 = .ok (.aload_n 2, 1) := by decide +kernel
theorem dL_law_339 : decode cL_law 339 = .ok (.aload_n 0, 1) := by decide +kernel
theorem dL_law_340 : decode cL_law 340 = .ok (.iload_n 3, 1) := by decide +kernel
theorem dL_law_341 : decode cL_law 341 = .ok (.iconst 1, 1) := by decide +kernel
theorem dL_law_342 : decode cL_law 342 = .ok (.iadd, 1) := by decide +kernel
theorem dL_law_343 : decode cL_law 343 = .ok (.iaload, 1) := by decide +kernel
theorem dL_law_344 : decode cL_law 344 = .ok (.aload_n 0, 1) := by decide +kernel
theorem dL_law_345 : decode cL_law 345 = .ok (.iload_n 3, 1) := by decide +kernel
theorem dL_law_346 : decode cL_law 346 = .ok (.iconst 2, 1) := by decide +kernel
theorem dL_law_347 : decode cL_law 347 = .ok (.iadd, 1) := by decide +kernel
theorem dL_law_348 : decode cL_law 348 = .ok (.iaload, 1) := by decide +kernel
theorem dL_law_349 : decode cL_law 349 = .ok (.aload_n 0, 1) := by decide +kernel
theorem dL_law_350 : decode cL_law 350 = .ok (.iload_n 3, 1) := by decide +kernel
theorem dL_law_351 : decode cL_law 351 = .ok (.iconst 3, 1) := by decide +kernel
theorem dL_law_352 : decode cL_law 352 = .ok (.iadd, 1) := by decide +kernel
theorem dL_law_353 : decode cL_law 353 = .ok (.iaload, 1) := by decide +kernel
theorem dL_law_354 : decode cL_law 354 = .ok (.invokevirtual 40, 3) := by decide +kernel
theorem dL_law_357 : decode cL_law 357 = .ok (.if_icmp .eq 616, 3) := by decide +kernel
theorem dL_law_360 : decode cL_law 360 = .ok (.iconst 0, 1) := by decide +kernel
theorem dL_law_361 : decode cL_law 361 = .ok (.ireturn, 1) := by decide +kernel
theorem dL_law_362 : decode cL_law 362 = .ok (.aload_n 1, 1) := by decide +kernel
theorem dL_law_363 : decode cL_law 363 = .ok (.aload_n 0, 1) := by decide +kernel
theorem dL_law_364 : decode cL_law 364 = .ok (.iload_n 3, 1) := by decide +kernel
theorem dL_law_365 : decode cL_law 365 = .ok (.iconst 1, 1) := by decide +kernel
theorem dL_law_366 : decode cL_law 366 = .ok (.iadd, 1) := by decide +kernel
theorem dL_law_367 : decode cL_law 367 = .ok (.iaload, 1) := by decide +kernel
theorem dL_law_368 : decode cL_law 368 = .ok (.aload_n 0, 1) := by decide +kernel
theorem dL_law_369 : decode cL_law 369 = .ok (.iload_n 3, 1) := by decide +kernel
theorem dL_law_370 : decode cL_law 370 = .ok (.iconst 2, 1) := by decide +kernel
theorem dL_law_371 : decode cL_law 371 = .ok (.iadd, 1) := by decide +kernel
theorem dL_law_372 : decode cL_law 372 = .ok (.iaload, 1) := by decide +kernel
theorem dL_law_373 : decode cL_law 373 = .ok (.aload_n 0, 1) := by decide +kernel
theorem dL_law_374 : decode cL_law 374 = .ok (.iload_n 3, 1) := by decide +kernel
theorem dL_law_375 : decode cL_law 375 = .ok (.iconst 3, 1) := by decide +kernel
theorem dL_law_376 : decode cL_law 376 = .ok (.iadd, 1) := by decide +kernel
theorem dL_law_377 : decode cL_law 377 = .ok (.iaload, 1) := by decide +kernel
theorem dL_law_378 : decode cL_law 378 = .ok (.invokevirtual 41, 3) := by decide +kernel
theorem dL_law_381 : decode cL_law 381 = .ok (.aload_n 2, 1) := by decide +kernel
theorem dL_law_382 : decode cL_law 382 = .ok (.aload_n 0, 1) := by decide +kernel
theorem dL_law_383 : decode cL_law 383 = .ok (.iload_n 3, 1) := by decide +kernel
theorem dL_law_384 : decode cL_law 384 = .ok (.iconst 1, 1) := by decide +kernel
theorem dL_law_385 : decode cL_law 385 = .ok (.iadd, 1) := by decide +kernel
theorem dL_law_386 : decode cL_law 386 = .ok (.iaload, 1) := by decide +kernel
theorem dL_law_387 : decode cL_law 387 = .ok (.aload_n 0, 1) := by decide +kernel
theorem dL_law_388 : decode cL_law 388 = .ok (.iload_n 3, 1) := by decide +kernel
theorem dL_law_389 : decode cL_law 389 = .ok (.iconst 2, 1) := by decide +kernel
theorem dL_law_390 : decode cL_law 390 = .ok (.iadd, 1) := by decide +kernel
theorem dL_law_391 : decode cL_law 391 = .ok (.iaload, 1) := by decide +kernel
theorem dL_law_392 : decode cL_law 392 = .ok (.aload_n 0, 1) := by decide +kernel
theorem dL_law_393 : decode cL_law 393 = .ok (.iload_n 3, 1) := by decide +kernel
theorem dL_law_394 : decode cL_law 394 = .ok (.iconst 3, 1) := by decide +kernel
theorem dL_law_395 : decode cL_law 395 = .ok (.iadd, 1) := by decide +kernel
theorem dL_law_396 : decode cL_law 396 = .ok (.iaload, 1) := by decide +kernel
theorem dL_law_397 : decode cL_law 397 = .ok (.invokevirtual 44, 3) := by decide +kernel
theorem dL_law_400 : decode cL_law 400 = .ok (.if_icmp .eq 573, 3) := by decide +kernel
theorem dL_law_403 : decode cL_law 403 = .ok (.iconst 0, 1) := by decide +kernel
theorem dL_law_404 : decode cL_law 404 = .ok (.ireturn, 1) := by decide +kernel
theorem dL_law_405 : decode cL_law 405 = .ok (.aload_n 1, 1) := by decide +kernel
theorem dL_law_406 : decode cL_law 406 = .ok (.aload_n 0, 1) := by decide +kernel
theorem dL_law_407 : decode cL_law 407 = .ok (.iload_n 3, 1) := by decide +kernel
theorem dL_law_408 : decode cL_law 408 = .ok (.iconst 1, 1) := by decide +kernel
theorem dL_law_409 : decode cL_law 409 = .ok (.iadd, 1) := by decide +kernel
theorem dL_law_410 : decode cL_law 410 = .ok (.iaload, 1) := by decide +kernel
theorem dL_law_411 : decode cL_law 411 = .ok (.aload_n 0, 1) := by decide +kernel
theorem dL_law_412 : decode cL_law 412 = .ok (.iload_n 3, 1) := by decide +kernel
theorem dL_law_413 : decode cL_law 413 = .ok (.iconst 2, 1) := by decide +kernel
theorem dL_law_414 : decode cL_law 414 = .ok (.iadd, 1) := by decide +kernel
theorem dL_law_415 : decode cL_law 415 = .ok (.iaload, 1) := by decide +kernel
theorem dL_law_416 : decode cL_law 416 = .ok (.invokevirtual 45, 3) := by decide +kernel
theorem dL_law_419 : decode cL_law 419 = .ok (.aload_n 2, 1) := by decide +kernel
theorem dL_law_420 : decode cL_law 420 = .ok (.aload_n 0, 1) := by decide +kernel
theorem dL_law_421 : decode cL_law 421 = .ok (.iload_n 3, 1) := by decide +kernel
theorem dL_law_422 : decode cL_law 422 = .ok (.iconst 1, 1) := by decide +kernel
theorem dL_law_423 : decode cL_law 423 = .ok (.iadd, 1) := by decide +kernel
theorem dL_law_424 : decode cL_law 424 = .ok (.iaload, 1) := by decide +kernel
theorem dL_law_425 : decode cL_law 425 = .ok (.aload_n 0, 1) := by decide +kernel
theorem dL_law_426 : decode cL_law 426 = .ok (.iload_n 3, 1) := by decide +kernel
theorem dL_law_427 : decode cL_law 427 = .ok (.iconst 2, 1) := by decide +kernel
theorem dL_law_428 : decode cL_law 428 = .ok (.iadd, 1) := by decide +kernel
theorem dL_law_429 : decode cL_law 429 = .ok (.iaload, 1) := by decide +kernel
theorem dL_law_430 : decode cL_law 430 = .ok (.invokevirtual 48, 3) := by decide +kernel
theorem dL_law_433 : decode cL_law 433 = .ok (.if_icmp .eq 540, 3) := by decide +kernel
theorem dL_law_436 : decode cL_law 436 = .ok (.iconst 0, 1) := by decide +kernel
theorem dL_law_437 : decode cL_law 437 = .ok (.ireturn, 1) := by decide +kernel
theorem dL_law_438 : decode cL_law 438 = .ok (.aload_n 1, 1) := by decide +kernel
theorem dL_law_439 : decode cL_law 439 = .ok (.aload_n 0, 1) := by decide +kernel
theorem dL_law_440 : decode cL_law 440 = .ok (.iload_n 3, 1) := by decide +kernel
theorem dL_law_441 : decode cL_law 441 = .ok (.iconst 1, 1) := by decide +kernel
theorem dL_law_442 : decode cL_law 442 = .ok (.iadd, 1) := by decide +kernel
theorem dL_law_443 : decode cL_law 443 = .ok (.iaload, 1) := by decide +kernel
theorem dL_law_444 : decode cL_law 444 = .ok (.aload_n 0, 1) := by decide +kernel
theorem dL_law_445 : decode cL_law 445 = .ok (.iload_n 3, 1) := by decide +kernel
theorem dL_law_446 : decode cL_law 446 = .ok (.iconst 2, 1) := by decide +kernel
theorem dL_law_447 : decode cL_law 447 = .ok (.iadd, 1) := by decide +kernel
theorem dL_law_448 : decode cL_law 448 = .ok (.iaload, 1) := by decide +kernel
theorem dL_law_449 : decode cL_law 449 = .ok (.invokevirtual 49, 3) := by decide +kernel
theorem dL_law_452 : decode cL_law 452 = .ok (.aload_n 2, 1) := by decide +kernel
theorem dL_law_453 : decode cL_law 453 = .ok (.aload_n 0, 1) := by decide +kernel
theorem dL_law_454 : decode cL_law 454 = .ok (.iload_n 3, 1) := by decide +kernel
theorem dL_law_455 : decode cL_law 455 = .ok (.iconst 1, 1) := by decide +kernel
theorem dL_law_456 : decode cL_law 456 = .ok (.iadd, 1) := by decide +kernel
theorem dL_law_457 : decode cL_law 457 = .ok (.iaload, 1) := by decide +kernel
theorem dL_law_458 : decode cL_law 458 = .ok (.aload_n 0, 1) := by decide +kernel
theorem dL_law_459 : decode cL_law 459 = .ok (.iload_n 3, 1) := by decide +kernel
theorem dL_law_460 : decode cL_law 460 = .ok (.iconst 2, 1) := by decide +kernel
theorem dL_law_461 : decode cL_law 461 = .ok (.iadd, 1) := by decide +kernel
theorem dL_law_462 : decode cL_law 462 = .ok (.iaload, 1) := by decide +kernel
theorem dL_law_463 : decode cL_law 463 = .ok (.invokevirtual 52, 3) := by decide +kernel
theorem dL_law_466 : decode cL_law 466 = .ok (.if_icmp .eq 507, 3) := by decide +kernel
theorem dL_law_469 : decode cL_law 469 = .ok (.iconst 0, 1) := by decide +kernel
theorem dL_law_470 : decode cL_law 470 = .ok (.ireturn, 1) := by decide +kernel
theorem dL_law_471 : decode cL_law 471 = .ok (.aload_n 1, 1) := by decide +kernel
theorem dL_law_472 : decode cL_law 472 = .ok (.aload_n 0, 1) := by decide +kernel
theorem dL_law_473 : decode cL_law 473 = .ok (.iload_n 3, 1) := by decide +kernel
theorem dL_law_474 : decode cL_law 474 = .ok (.iconst 1, 1) := by decide +kernel
theorem dL_law_475 : decode cL_law 475 = .ok (.iadd, 1) := by decide +kernel
theorem dL_law_476 : decode cL_law 476 = .ok (.iaload, 1) := by decide +kernel
theorem dL_law_477 : decode cL_law 477 = .ok (.invokevirtual 53, 3) := by decide +kernel
theorem dL_law_480 : decode cL_law 480 = .ok (.aload_n 2, 1) := by decide +kernel
theorem dL_law_481 : decode cL_law 481 = .ok (.aload_n 0, 1) := by decide +kernel
theorem dL_law_482 : decode cL_law 482 = .ok (.iload_n 3, 1) := by decide +kernel
theorem dL_law_483 : decode cL_law 483 = .ok (.iconst 1, 1) := by decide +kernel
theorem dL_law_484 : decode cL_law 484 = .ok (.iadd, 1) := by decide +kernel
theorem dL_law_485 : decode cL_law 485 = .ok (.iaload, 1) := by decide +kernel
theorem dL_law_486 : decode cL_law 486 = .ok (.invokevirtual 57, 3) := by decide +kernel
theorem dL_law_489 : decode cL_law 489 = .ok (.if_icmp .eq 484, 3) := by decide +kernel
theorem dL_law_492 : decode cL_law 492 = .ok (.iconst 0, 1) := by decide +kernel
theorem dL_law_493 : decode cL_law 493 = .ok (.ireturn, 1) := by decide +kernel
theorem dL_law_494 : decode cL_law 494 = .ok (.aload_n 1, 1) := by decide +kernel
theorem dL_law_495 : decode cL_law 495 = .ok (.aload_n 0, 1) := by decide +kernel
theorem dL_law_496 : decode cL_law 496 = .ok (.iload_n 3, 1) := by decide +kernel
theorem dL_law_497 : decode cL_law 497 = .ok (.iconst 1, 1) := by decide +kernel
theorem dL_law_498 : decode cL_law 498 = .ok (.iadd, 1) := by decide +kernel
theorem dL_law_499 : decode cL_law 499 = .ok (.iaload, 1) := by decide +kernel
theorem dL_law_500 : decode cL_law 500 = .ok (.aload_n 0, 1) := by decide +kernel
theorem dL_law_501 : decode cL_law 501 = .ok (.iload_n 3, 1) := by decide +kernel
theorem dL_law_502 : decode cL_law 502 = .ok (.iconst 2, 1) := by decide +kernel
theorem dL_law_503 : decode cL_law 503 = .ok (.iadd, 1) := by decide +kernel
theorem dL_law_504 : decode cL_law 504 = .ok (.iaload, 1) := by decide +kernel
theorem dL_law_505 : decode cL_law 505 = .ok (.aload_n 0, 1) := by decide +kernel
theorem dL_law_506 : decode cL_law 506 = .ok (.iload_n 3, 1) := by decide +kernel
theorem dL_law_507 : decode cL_law 507 = .ok (.iconst 3, 1) := by decide +kernel
theorem dL_law_508 : decode cL_law 508 = .ok (.iadd, 1) := by decide +kernel
theorem dL_law_509 : decode cL_law 509 = .ok (.iaload, 1) := by decide +kernel
theorem dL_law_510 : decode cL_law 510 = .ok (.ifCond .eq 7, 3) := by decide +kernel
theorem dL_law_513 : decode cL_law 513 = .ok (.iconst 1, 1) := by decide +kernel
theorem dL_law_514 : decode cL_law 514 = .ok (.goto 4, 3) := by decide +kernel
theorem dL_law_517 : decode cL_law 517 = .ok (.iconst 0, 1) := by decide +kernel
theorem dL_law_518 : decode cL_law 518 = .ok (.invokevirtual 58, 3) := by decide +kernel
theorem dL_law_521 : decode cL_law 521 = .ok (.aload_n 2, 1) := by decide +kernel
theorem dL_law_522 : decode cL_law 522 = .ok (.aload_n 0, 1) := by decide +kernel
theorem dL_law_523 : decode cL_law 523 = .ok (.iload_n 3, 1) := by decide +kernel
theorem dL_law_524 : decode cL_law 524 = .ok (.iconst 1, 1) := by decide +kernel
theorem dL_law_525 : decode cL_law 525 = .ok (.iadd, 1) := by decide +kernel
theorem dL_law_526 : decode cL_law 526 = .ok (.iaload, 1) := by decide +kernel
theorem dL_law_527 : decode cL_law 527 = .ok (.aload_n 0, 1) := by decide +kernel
theorem dL_law_528 : decode cL_law 528 = .ok (.iload_n 3, 1) := by decide +kernel
theorem dL_law_529 : decode cL_law 529 = .ok (.iconst 2, 1) := by decide +kernel
theorem dL_law_530 : decode cL_law 530 = .ok (.iadd, 1) := by decide +kernel
theorem dL_law_531 : decode cL_law 531 = .ok (.iaload, 1) := by decide +kernel
theorem dL_law_532 : decode cL_law 532 = .ok (.aload_n 0, 1) := by decide +kernel
theorem dL_law_533 : decode cL_law 533 = .ok (.iload_n 3, 1) := by decide +kernel
theorem dL_law_534 : decode cL_law 534 = .ok (.iconst 3, 1) := by decide +kernel
theorem dL_law_535 : decode cL_law 535 = .ok (.iadd, 1) := by decide +kernel
theorem dL_law_536 : decode cL_law 536 = .ok (.iaload, 1) := by decide +kernel
theorem dL_law_537 : decode cL_law 537 = .ok (.ifCond .eq 7, 3) := by decide +kernel
theorem dL_law_540 : decode cL_law 540 = .ok (.iconst 1, 1) := by decide +kernel
theorem dL_law_541 : decode cL_law 541 = .ok (.goto 4, 3) := by decide +kernel
theorem dL_law_544 : decode cL_law 544 = .ok (.iconst 0, 1) := by decide +kernel
theorem dL_law_545 : decode cL_law 545 = .ok (.invokevirtual 62, 3) := by decide +kernel
theorem dL_law_548 : decode cL_law 548 = .ok (.if_icmp .eq 425, 3) := by decide +kernel
theorem dL_law_551 : decode cL_law 551 = .ok (.iconst 0, 1) := by decide +kernel
theorem dL_law_552 : decode cL_law 552 = .ok (.ireturn, 1) := by decide +kernel
theorem dL_law_553 : decode cL_law 553 = .ok (.aload_n 1, 1) := by decide +kernel
theorem dL_law_554 : decode cL_law 554 = .ok (.invokevirtual 63, 3) := by decide +kernel
theorem dL_law_557 : decode cL_law 557 = .ok (.aload_n 2, 1) := by decide +kernel
theorem dL_law_558 : decode cL_law 558 = .ok (.invokevirtual 66, 3) := by decide +kernel
theorem dL_law_561 : decode cL_law 561 = .ok (.if_icmp .eq 412, 3) := by decide +kernel
theorem dL_law_564 : decode cL_law 564 = .ok (.iconst 0, 1) := by decide +kernel
theorem dL_law_565 : decode cL_law 565 = .ok (.ireturn, 1) := by decide +kernel
theorem dL_law_566 : decode cL_law 566 = .ok (.aload_n 1, 1) := by decide +kernel
theorem dL_law_567 : decode cL_law 567 = .ok (.aload_n 0, 1) := by decide +kernel
theorem dL_law_568 : decode cL_law 568 = .ok (.iload_n 3, 1) := by decide +kernel
theorem dL_law_569 : decode cL_law 569 = .ok (.iconst 1, 1) := by decide +kernel
theorem dL_law_570 : decode cL_law 570 = .ok (.iadd, 1) := by decide +kernel
theorem dL_law_571 : decode cL_law 571 = .ok (.iaload, 1) := by decide +kernel
theorem dL_law_572 : decode cL_law 572 = .ok (.invokevirtual 67, 3) := by decide +kernel
theorem dL_law_575 : decode cL_law 575 = .ok (.aload_n 2, 1) := by decide +kernel
theorem dL_law_576 : decode cL_law 576 = .ok (.aload_n 0, 1) := by decide +kernel
theorem dL_law_577 : decode cL_law 577 = .ok (.iload_n 3, 1) := by decide +kernel
theorem dL_law_578 : decode cL_law 578 = .ok (.iconst 1, 1) := by decide +kernel
theorem dL_law_579 : decode cL_law 579 = .ok (.iadd, 1) := by decide +kernel
theorem dL_law_580 : decode cL_law 580 = .ok (.iaload, 1) := by decide +kernel
theorem dL_law_581 : decode cL_law 581 = .ok (.invokevirtual 70, 3) := by decide +kernel
theorem dL_law_584 : decode cL_law 584 = .ok (.if_icmp .eq 389, 3) := by decide +kernel
theorem dL_law_587 : decode cL_law 587 = .ok (.iconst 0, 1) := by decide +kernel
theorem dL_law_588 : decode cL_law 588 = .ok (.ireturn, 1) := by decide +kernel
theorem dL_law_589 : decode cL_law 589 = .ok (.aload_n 1, 1) := by decide +kernel
theorem dL_law_590 : decode cL_law 590 = .ok (.aload_n 0, 1) := by decide +kernel
theorem dL_law_591 : decode cL_law 591 = .ok (.iload_n 3, 1) := by decide +kernel
theorem dL_law_592 : decode cL_law 592 = .ok (.iconst 1, 1) := by decide +kernel
theorem dL_law_593 : decode cL_law 593 = .ok (.iadd, 1) := by decide +kernel
theorem dL_law_594 : decode cL_law 594 = .ok (.iaload, 1) := by decide +kernel
theorem dL_law_595 : decode cL_law 595 = .ok (.aload_n 0, 1) := by decide +kernel
theorem dL_law_596 : decode cL_law 596 = .ok (.iload_n 3, 1) := by decide +kernel
theorem dL_law_597 : decode cL_law 597 = .ok (.iconst 2, 1) := by decide +kernel
theorem dL_law_598 : decode cL_law 598 = .ok (.iadd, 1) := by decide +kernel
theorem dL_law_599 : decode cL_law 599 = .ok (.iaload, 1) := by decide +kernel
theorem dL_law_600 : decode cL_law 600 = .ok (.ifCond .eq 7, 3) := by decide +kernel
theorem dL_law_603 : decode cL_law 603 = .ok (.iconst 1, 1) := by decide +kernel
theorem dL_law_604 : decode cL_law 604 = .ok (.goto 4, 3) := by decide +kernel
theorem dL_law_607 : decode cL_law 607 = .ok (.iconst 0, 1) := by decide +kernel
theorem dL_law_608 : decode cL_law 608 = .ok (.invokevirtual 71, 3) := by decide +kernel
theorem dL_law_611 : decode cL_law 611 = .ok (.aload_n 2, 1) := by decide +kernel
theorem dL_law_612 : decode cL_law 612 = .ok (.aload_n 0, 1) := by decide +kernel
theorem dL_law_613 : decode cL_law 613 = .ok (.iload_n 3, 1) := by decide +kernel
theorem dL_law_614 : decode cL_law 614 = .ok (.iconst 1, 1) := by decide +kernel
theorem dL_law_615 : decode cL_law 615 = .ok (.iadd, 1) := by decide +kernel
theorem dL_law_616 : decode cL_law 616 = .ok (.iaload, 1) := by decide +kernel
theorem dL_law_617 : decode cL_law 617 = .ok (.aload_n 0, 1) := by decide +kernel
theorem dL_law_618 : decode cL_law 618 = .ok (.iload_n 3, 1) := by decide +kernel
theorem dL_law_619 : decode cL_law 619 = .ok (.iconst 2, 1) := by decide +kernel
theorem dL_law_620 : decode cL_law 620 = .ok (.iadd, 1) := by decide +kernel
theorem dL_law_621 : decode cL_law 621 = .ok (.iaload, 1) := by decide +kernel
theorem dL_law_622 : decode cL_law 622 = .ok (.ifCond .eq 7, 3) := by decide +kernel
theorem dL_law_625 : decode cL_law 625 = .ok (.iconst 1, 1) := by decide +kernel
theorem dL_law_626 : decode cL_law 626 = .ok (.goto 4, 3) := by decide +kernel
theorem dL_law_629 : decode cL_law 629 = .ok (.iconst 0, 1) := by decide +kernel
theorem dL_law_630 : decode cL_law 630 = .ok (.invokevirtual 75, 3) := by decide +kernel
theorem dL_law_633 : decode cL_law 633 = .ok (.if_icmp .eq 340, 3) := by decide +kernel
theorem dL_law_636 : decode cL_law 636 = .ok (.iconst 0, 1) := by decide +kernel
theorem dL_law_637 : decode cL_law 637 = .ok (.ireturn, 1) := by decide +kernel
theorem dL_law_638 : decode cL_law 638 = .ok (.aload_n 1, 1) := by decide +kernel
theorem dL_law_639 : decode cL_law 639 = .ok (.invokevirtual 76, 3) := by decide +kernel
theorem dL_law_642 : decode cL_law 642 = .ok (.aload_n 2, 1) := by decide +kernel
theorem dL_law_643 : decode cL_law 643 = .ok (.invokevirtual 79, 3) := by decide +kernel
theorem dL_law_646 : decode cL_law 646 = .ok (.if_icmp .eq 327, 3) := by decide +kernel
theorem dL_law_649 : decode cL_law 649 = .ok (.iconst 0, 1) := by decide +kernel
theorem dL_law_650 : decode cL_law 650 = .ok (.ireturn, 1) := by decide +kernel
theorem dL_law_651 : decode cL_law 651 = .ok (.aload_n 1, 1) := by decide +kernel
theorem dL_law_652 : decode cL_law 652 = .ok (.invokevirtual 80, 3) := by decide +kernel
theorem dL_law_655 : decode cL_law 655 = .ok (.aload_n 2, 1) := by decide +kernel
theorem dL_law_656 : decode cL_law 656 = .ok (.invokevirtual 84, 3) := by decide +kernel
theorem dL_law_659 : decode cL_law 659 = .ok (.lcmp, 1) := by decide +kernel
theorem dL_law_660 : decode cL_law 660 = .ok (.ifCond .eq 313, 3) := by decide +kernel
theorem dL_law_663 : decode cL_law 663 = .ok (.iconst 0, 1) := by decide +kernel
theorem dL_law_664 : decode cL_law 664 = .ok (.ireturn, 1) := by decide +kernel
theorem dL_law_665 : decode cL_law 665 = .ok (.aload_n 1, 1) := by decide +kernel
theorem dL_law_666 : decode cL_law 666 = .ok (.aload_n 0, 1) := by decide +kernel
theorem dL_law_667 : decode cL_law 667 = .ok (.iload_n 3, 1) := by decide +kernel
theorem dL_law_668 : decode cL_law 668 = .ok (.iconst 1, 1) := by decide +kernel
theorem dL_law_669 : decode cL_law 669 = .ok (.iadd, 1) := by decide +kernel
theorem dL_law_670 : decode cL_law 670 = .ok (.iaload, 1) := by decide +kernel
theorem dL_law_671 : decode cL_law 671 = .ok (.aload_n 0, 1) := by decide +kernel
theorem dL_law_672 : decode cL_law 672 = .ok (.iload_n 3, 1) := by decide +kernel
theorem dL_law_673 : decode cL_law 673 = .ok (.iconst 2, 1) := by decide +kernel
theorem dL_law_674 : decode cL_law 674 = .ok (.iadd, 1) := by decide +kernel
theorem dL_law_675 : decode cL_law 675 = .ok (.iaload, 1) := by decide +kernel
theorem dL_law_676 : decode cL_law 676 = .ok (.aload_n 0, 1) := by decide +kernel
theorem dL_law_677 : decode cL_law 677 = .ok (.iload_n 3, 1) := by decide +kernel
theorem dL_law_678 : decode cL_law 678 = .ok (.iconst 3, 1) := by decide +kernel
theorem dL_law_679 : decode cL_law 679 = .ok (.iadd, 1) := by decide +kernel
theorem dL_law_680 : decode cL_law 680 = .ok (.iaload, 1) := by decide +kernel
theorem dL_law_681 : decode cL_law 681 = .ok (.i2l, 1) := by decide +kernel
theorem dL_law_682 : decode cL_law 682 = .ok (.bipush 32, 2) := by decide +kernel
theorem dL_law_684 : decode cL_law 684 = .ok (.lshl, 1) := by decide +kernel
theorem dL_law_685 : decode cL_law 685 = .ok (.aload_n 0, 1) := by decide +kernel
theorem dL_law_686 : decode cL_law 686 = .ok (.iload_n 3, 1) := by decide +kernel
theorem dL_law_687 : decode cL_law 687 = .ok (.iconst 4, 1) := by decide +kernel
theorem dL_law_688 : decode cL_law 688 = .ok (.iadd, 1) := by decide +kernel
theorem dL_law_689 : decode cL_law 689 = .ok (.iaload, 1) := by decide +kernel
theorem dL_law_690 : decode cL_law 690 = .ok (.i2l, 1) := by decide +kernel
theorem dL_law_691 : decode cL_law 691 = .ok (.ldc2_w 85, 3) := by decide +kernel
theorem dL_law_694 : decode cL_law 694 = .ok (.land, 1) := by decide +kernel
theorem dL_law_695 : decode cL_law 695 = .ok (.lor, 1) := by decide +kernel
theorem dL_law_696 : decode cL_law 696 = .ok (.invokevirtual 87, 3) := by decide +kernel
theorem dL_law_699 : decode cL_law 699 = .ok (.aload_n 2, 1) := by decide +kernel
theorem dL_law_700 : decode cL_law 700 = .ok (.aload_n 0, 1) := by decide +kernel
theorem dL_law_701 : decode cL_law 701 = .ok (.iload_n 3, 1) := by decide +kernel
theorem dL_law_702 : decode cL_law 702 = .ok (.iconst 1, 1) := by decide +kernel
theorem dL_law_703 : decode cL_law 703 = .ok (.iadd, 1) := by decide +kernel
theorem dL_law_704 : decode cL_law 704 = .ok (.iaload, 1) := by decide +kernel
theorem dL_law_705 : decode cL_law 705 = .ok (.aload_n 0, 1) := by decide +kernel
theorem dL_law_706 : decode cL_law 706 = .ok (.iload_n 3, 1) := by decide +kernel
theorem dL_law_707 : decode cL_law 707 = .ok (.iconst 2, 1) := by decide +kernel
theorem dL_law_708 : decode cL_law 708 = .ok (.iadd, 1) := by decide +kernel
theorem dL_law_709 : decode cL_law 709 = .ok (.iaload, 1) := by decide +kernel
theorem dL_law_710 : decode cL_law 710 = .ok (.aload_n 0, 1) := by decide +kernel
theorem dL_law_711 : decode cL_law 711 = .ok (.iload_n 3, 1) := by decide +kernel
theorem dL_law_712 : decode cL_law 712 = .ok (.iconst 3, 1) := by decide +kernel
theorem dL_law_713 : decode cL_law 713 = .ok (.iadd, 1) := by decide +kernel
theorem dL_law_714 : decode cL_law 714 = .ok (.iaload, 1) := by decide +kernel
theorem dL_law_715 : decode cL_law 715 = .ok (.i2l, 1) := by decide +kernel
theorem dL_law_716 : decode cL_law 716 = .ok (.bipush 32, 2) := by decide +kernel
theorem dL_law_718 : decode cL_law 718 = .ok (.lshl, 1) := by decide +kernel
theorem dL_law_719 : decode cL_law 719 = .ok (.aload_n 0, 1) := by decide +kernel
theorem dL_law_720 : decode cL_law 720 = .ok (.iload_n 3, 1) := by decide +kernel
theorem dL_law_721 : decode cL_law 721 = .ok (.iconst 4, 1) := by decide +kernel
theorem dL_law_722 : decode cL_law 722 = .ok (.iadd, 1) := by decide +kernel
theorem dL_law_723 : decode cL_law 723 = .ok (.iaload, 1) := by decide +kernel
theorem dL_law_724 : decode cL_law 724 = .ok (.i2l, 1) := by decide +kernel
theorem dL_law_725 : decode cL_law 725 = .ok (.ldc2_w 85, 3) := by decide +kernel
theorem dL_law_728 : decode cL_law 728 = .ok (.land, 1) := by decide +kernel
theorem dL_law_729 : decode cL_law 729 = .ok (.lor, 1) := by decide +kernel
theorem dL_law_730 : decode cL_law 730 = .ok (.invokevirtual 91, 3) := by decide +kernel
theorem dL_law_733 : decode cL_law 733 = .ok (.lcmp, 1) := by decide +kernel
theorem dL_law_734 : decode cL_law 734 = .ok (.ifCond .eq 239, 3) := by decide +kernel
theorem dL_law_737 : decode cL_law 737 = .ok (.iconst 0, 1) := by decide +kernel
theorem dL_law_738 : decode cL_law 738 = .ok (.ireturn, 1) := by decide +kernel
theorem dL_law_739 : decode cL_law 739 = .ok (.aload_n 1, 1) := by decide +kernel
theorem dL_law_740 : decode cL_law 740 = .ok (.aload_n 0, 1) := by decide +kernel
theorem dL_law_741 : decode cL_law 741 = .ok (.iload_n 3, 1) := by decide +kernel
theorem dL_law_742 : decode cL_law 742 = .ok (.iconst 1, 1) := by decide +kernel
theorem dL_law_743 : decode cL_law 743 = .ok (.iadd, 1) := by decide +kernel
theorem dL_law_744 : decode cL_law 744 = .ok (.iaload, 1) := by decide +kernel
theorem dL_law_745 : decode cL_law 745 = .ok (.aload_n 0, 1) := by decide +kernel
theorem dL_law_746 : decode cL_law 746 = .ok (.iload_n 3, 1) := by decide +kernel
theorem dL_law_747 : decode cL_law 747 = .ok (.iconst 2, 1) := by decide +kernel
theorem dL_law_748 : decode cL_law 748 = .ok (.iadd, 1) := by decide +kernel
theorem dL_law_749 : decode cL_law 749 = .ok (.iaload, 1) := by decide +kernel
theorem dL_law_750 : decode cL_law 750 = .ok (.aload_n 0, 1) := by decide +kernel
theorem dL_law_751 : decode cL_law 751 = .ok (.iload_n 3, 1) := by decide +kernel
theorem dL_law_752 : decode cL_law 752 = .ok (.iconst 3, 1) := by decide +kernel
theorem dL_law_753 : decode cL_law 753 = .ok (.iadd, 1) := by decide +kernel
theorem dL_law_754 : decode cL_law 754 = .ok (.iaload, 1) := by decide +kernel
theorem dL_law_755 : decode cL_law 755 = .ok (.invokevirtual 92, 3) := by decide +kernel
theorem dL_law_758 : decode cL_law 758 = .ok (.aload_n 2, 1) := by decide +kernel
theorem dL_law_759 : decode cL_law 759 = .ok (.aload_n 0, 1) := by decide +kernel
theorem dL_law_760 : decode cL_law 760 = .ok (.iload_n 3, 1) := by decide +kernel
theorem dL_law_761 : decode cL_law 761 = .ok (.iconst 1, 1) := by decide +kernel
theorem dL_law_762 : decode cL_law 762 = .ok (.iadd, 1) := by decide +kernel
theorem dL_law_763 : decode cL_law 763 = .ok (.iaload, 1) := by decide +kernel
theorem dL_law_764 : decode cL_law 764 = .ok (.aload_n 0, 1) := by decide +kernel
theorem dL_law_765 : decode cL_law 765 = .ok (.iload_n 3, 1) := by decide +kernel
theorem dL_law_766 : decode cL_law 766 = .ok (.iconst 2, 1) := by decide +kernel
theorem dL_law_767 : decode cL_law 767 = .ok (.iadd, 1) := by decide +kernel
theorem dL_law_768 : decode cL_law 768 = .ok (.iaload, 1) := by decide +kernel
theorem dL_law_769 : decode cL_law 769 = .ok (.aload_n 0, 1) := by decide +kernel
theorem dL_law_770 : decode cL_law 770 = .ok (.iload_n 3, 1) := by decide +kernel
theorem dL_law_771 : decode cL_law 771 = .ok (.iconst 3, 1) := by decide +kernel
theorem dL_law_772 : decode cL_law 772 = .ok (.iadd, 1) := by decide +kernel
theorem dL_law_773 : decode cL_law 773 = .ok (.iaload, 1) := by decide +kernel
theorem dL_law_774 : decode cL_law 774 = .ok (.invokevirtual 96, 3) := by decide +kernel
theorem dL_law_777 : decode cL_law 777 = .ok (.lcmp, 1) := by decide +kernel
theorem dL_law_778 : decode cL_law 778 = .ok (.ifCond .eq 195, 3) := by decide +kernel
theorem dL_law_781 : decode cL_law 781 = .ok (.iconst 0, 1) := by decide +kernel
theorem dL_law_782 : decode cL_law 782 = .ok (.ireturn, 1) := by decide +kernel
theorem dL_law_783 : decode cL_law 783 = .ok (.aload_n 1, 1) := by decide +kernel
theorem dL_law_784 : decode cL_law 784 = .ok (.aload_n 0, 1) := by decide +kernel
theorem dL_law_785 : decode cL_law 785 = .ok (.iload_n 3, 1) := by decide +kernel
theorem dL_law_786 : decode cL_law 786 = .ok (.iconst 1, 1) := by decide +kernel
theorem dL_law_787 : decode cL_law 787 = .ok (.iadd, 1) := by decide +kernel
theorem dL_law_788 : decode cL_law 788 = .ok (.iaload, 1) := by decide +kernel
theorem dL_law_789 : decode cL_law 789 = .ok (.aload_n 0, 1) := by decide +kernel
theorem dL_law_790 : decode cL_law 790 = .ok (.iload_n 3, 1) := by decide +kernel
theorem dL_law_791 : decode cL_law 791 = .ok (.iconst 2, 1) := by decide +kernel
theorem dL_law_792 : decode cL_law 792 = .ok (.iadd, 1) := by decide +kernel
theorem dL_law_793 : decode cL_law 793 = .ok (.iaload, 1) := by decide +kernel
theorem dL_law_794 : decode cL_law 794 = .ok (.aload_n 0, 1) := by decide +kernel
theorem dL_law_795 : decode cL_law 795 = .ok (.iload_n 3, 1) := by decide +kernel
theorem dL_law_796 : decode cL_law 796 = .ok (.iconst 3, 1) := by decide +kernel
theorem dL_law_797 : decode cL_law 797 = .ok (.iadd, 1) := by decide +kernel
theorem dL_law_798 : decode cL_law 798 = .ok (.iaload, 1) := by decide +kernel
theorem dL_law_799 : decode cL_law 799 = .ok (.invokevirtual 97, 3) := by decide +kernel
theorem dL_law_802 : decode cL_law 802 = .ok (.aload_n 2, 1) := by decide +kernel
theorem dL_law_803 : decode cL_law 803 = .ok (.aload_n 0, 1) := by decide +kernel
theorem dL_law_804 : decode cL_law 804 = .ok (.iload_n 3, 1) := by decide +kernel
theorem dL_law_805 : decode cL_law 805 = .ok (.iconst 1, 1) := by decide +kernel
theorem dL_law_806 : decode cL_law 806 = .ok (.iadd, 1) := by decide +kernel
theorem dL_law_807 : decode cL_law 807 = .ok (.iaload, 1) := by decide +kernel
theorem dL_law_808 : decode cL_law 808 = .ok (.aload_n 0, 1) := by decide +kernel
theorem dL_law_809 : decode cL_law 809 = .ok (.iload_n 3, 1) := by decide +kernel
theorem dL_law_810 : decode cL_law 810 = .ok (.iconst 2, 1) := by decide +kernel
theorem dL_law_811 : decode cL_law 811 = .ok (.iadd, 1) := by decide +kernel
theorem dL_law_812 : decode cL_law 812 = .ok (.iaload, 1) := by decide +kernel
theorem dL_law_813 : decode cL_law 813 = .ok (.aload_n 0, 1) := by decide +kernel
theorem dL_law_814 : decode cL_law 814 = .ok (.iload_n 3, 1) := by decide +kernel
theorem dL_law_815 : decode cL_law 815 = .ok (.iconst 3, 1) := by decide +kernel
theorem dL_law_816 : decode cL_law 816 = .ok (.iadd, 1) := by decide +kernel
theorem dL_law_817 : decode cL_law 817 = .ok (.iaload, 1) := by decide +kernel
theorem dL_law_818 : decode cL_law 818 = .ok (.invokevirtual 100, 3) := by decide +kernel
theorem dL_law_821 : decode cL_law 821 = .ok (.lcmp, 1) := by decide +kernel
theorem dL_law_822 : decode cL_law 822 = .ok (.ifCond .eq 151, 3) := by decide +kernel
theorem dL_law_825 : decode cL_law 825 = .ok (.iconst 0, 1) := by decide +kernel
theorem dL_law_826 : decode cL_law 826 = .ok (.ireturn, 1) := by decide +kernel
theorem dL_law_827 : decode cL_law 827 = .ok (.aload_n 1, 1) := by decide +kernel
theorem dL_law_828 : decode cL_law 828 = .ok (.aload_n 0, 1) := by decide +kernel
theorem dL_law_829 : decode cL_law 829 = .ok (.iload_n 3, 1) := by decide +kernel
theorem dL_law_830 : decode cL_law 830 = .ok (.iconst 1, 1) := by decide +kernel
theorem dL_law_831 : decode cL_law 831 = .ok (.iadd, 1) := by decide +kernel
theorem dL_law_832 : decode cL_law 832 = .ok (.iaload, 1) := by decide +kernel
theorem dL_law_833 : decode cL_law 833 = .ok (.aload_n 0, 1) := by decide +kernel
theorem dL_law_834 : decode cL_law 834 = .ok (.iload_n 3, 1) := by decide +kernel
theorem dL_law_835 : decode cL_law 835 = .ok (.iconst 2, 1) := by decide +kernel
theorem dL_law_836 : decode cL_law 836 = .ok (.iadd, 1) := by decide +kernel
theorem dL_law_837 : decode cL_law 837 = .ok (.iaload, 1) := by decide +kernel
theorem dL_law_838 : decode cL_law 838 = .ok (.aload_n 0, 1) := by decide +kernel
theorem dL_law_839 : decode cL_law 839 = .ok (.iload_n 3, 1) := by decide +kernel
theorem dL_law_840 : decode cL_law 840 = .ok (.iconst 3, 1) := by decide +kernel
theorem dL_law_841 : decode cL_law 841 = .ok (.iadd, 1) := by decide +kernel
theorem dL_law_842 : decode cL_law 842 = .ok (.iaload, 1) := by decide +kernel
theorem dL_law_843 : decode cL_law 843 = .ok (.invokevirtual 101, 3) := by decide +kernel
theorem dL_law_846 : decode cL_law 846 = .ok (.aload_n 2, 1) := by decide +kernel
theorem dL_law_847 : decode cL_law 847 = .ok (.aload_n 0, 1) := by decide +kernel
theorem dL_law_848 : decode cL_law 848 = .ok (.iload_n 3, 1) := by decide +kernel
theorem dL_law_849 : decode cL_law 849 = .ok (.iconst 1, 1) := by decide +kernel
theorem dL_law_850 : decode cL_law 850 = .ok (.iadd, 1) := by decide +kernel
theorem dL_law_851 : decode cL_law 851 = .ok (.iaload, 1) := by decide +kernel
theorem dL_law_852 : decode cL_law 852 = .ok (.aload_n 0, 1) := by decide +kernel
theorem dL_law_853 : decode cL_law 853 = .ok (.iload_n 3, 1) := by decide +kernel
theorem dL_law_854 : decode cL_law 854 = .ok (.iconst 2, 1) := by decide +kernel
theorem dL_law_855 : decode cL_law 855 = .ok (.iadd, 1) := by decide +kernel
theorem dL_law_856 : decode cL_law 856 = .ok (.iaload, 1) := by decide +kernel
theorem dL_law_857 : decode cL_law 857 = .ok (.aload_n 0, 1) := by decide +kernel
theorem dL_law_858 : decode cL_law 858 = .ok (.iload_n 3, 1) := by decide +kernel
theorem dL_law_859 : decode cL_law 859 = .ok (.iconst 3, 1) := by decide +kernel
theorem dL_law_860 : decode cL_law 860 = .ok (.iadd, 1) := by decide +kernel
theorem dL_law_861 : decode cL_law 861 = .ok (.iaload, 1) := by decide +kernel
theorem dL_law_862 : decode cL_law 862 = .ok (.invokevirtual 104, 3) := by decide +kernel
theorem dL_law_865 : decode cL_law 865 = .ok (.if_icmp .eq 108, 3) := by decide +kernel
theorem dL_law_868 : decode cL_law 868 = .ok (.iconst 0, 1) := by decide +kernel
theorem dL_law_869 : decode cL_law 869 = .ok (.ireturn, 1) := by decide +kernel
theorem dL_law_870 : decode cL_law 870 = .ok (.aload_n 1, 1) := by decide +kernel
theorem dL_law_871 : decode cL_law 871 = .ok (.aload_n 0, 1) := by decide +kernel
theorem dL_law_872 : decode cL_law 872 = .ok (.iload_n 3, 1) := by decide +kernel
theorem dL_law_873 : decode cL_law 873 = .ok (.iconst 1, 1) := by decide +kernel
theorem dL_law_874 : decode cL_law 874 = .ok (.iadd, 1) := by decide +kernel
theorem dL_law_875 : decode cL_law 875 = .ok (.iaload, 1) := by decide +kernel
theorem dL_law_876 : decode cL_law 876 = .ok (.invokevirtual 105, 3) := by decide +kernel
theorem dL_law_879 : decode cL_law 879 = .ok (.aload_n 2, 1) := by decide +kernel
theorem dL_law_880 : decode cL_law 880 = .ok (.aload_n 0, 1) := by decide +kernel
theorem dL_law_881 : decode cL_law 881 = .ok (.iload_n 3, 1) := by decide +kernel
theorem dL_law_882 : decode cL_law 882 = .ok (.iconst 1, 1) := by decide +kernel
theorem dL_law_883 : decode cL_law 883 = .ok (.iadd, 1) := by decide +kernel
theorem dL_law_884 : decode cL_law 884 = .ok (.iaload, 1) := by decide +kernel
theorem dL_law_885 : decode cL_law 885 = .ok (.invokevirtual 108, 3) := by decide +kernel
theorem dL_law_888 : decode cL_law 888 = .ok (.if_icmp .eq 85, 3) := by decide +kernel
theorem dL_law_891 : decode cL_law 891 = .ok (.iconst 0, 1) := by decide +kernel
theorem dL_law_892 : decode cL_law 892 = .ok (.ireturn, 1) := by decide +kernel
theorem dL_law_893 : decode cL_law 893 = .ok (.aload_n 1, 1) := by decide +kernel
theorem dL_law_894 : decode cL_law 894 = .ok (.aload_n 0, 1) := by decide +kernel
theorem dL_law_895 : decode cL_law 895 = .ok (.iload_n 3, 1) := by decide +kernel
theorem dL_law_896 : decode cL_law 896 = .ok (.iconst 1, 1) := by decide +kernel
theorem dL_law_897 : decode cL_law 897 = .ok (.iadd, 1) := by decide +kernel
theorem dL_law_898 : decode cL_law 898 = .ok (.iaload, 1) := by decide +kernel
theorem dL_law_899 : decode cL_law 899 = .ok (.aload_n 0, 1) := by decide +kernel
theorem dL_law_900 : decode cL_law 900 = .ok (.iload_n 3, 1) := by decide +kernel
theorem dL_law_901 : decode cL_law 901 = .ok (.iconst 2, 1) := by decide +kernel
theorem dL_law_902 : decode cL_law 902 = .ok (.iadd, 1) := by decide +kernel
theorem dL_law_903 : decode cL_law 903 = .ok (.iaload, 1) := by decide +kernel
theorem dL_law_904 : decode cL_law 904 = .ok (.aload_n 0, 1) := by decide +kernel
theorem dL_law_905 : decode cL_law 905 = .ok (.iload_n 3, 1) := by decide +kernel
theorem dL_law_906 : decode cL_law 906 = .ok (.iconst 3, 1) := by decide +kernel
theorem dL_law_907 : decode cL_law 907 = .ok (.iadd, 1) := by decide +kernel
theorem dL_law_908 : decode cL_law 908 = .ok (.iaload, 1) := by decide +kernel
theorem dL_law_909 : decode cL_law 909 = .ok (.invokevirtual 109, 3) := by decide +kernel
theorem dL_law_912 : decode cL_law 912 = .ok (.aload_n 2, 1) := by decide +kernel
theorem dL_law_913 : decode cL_law 913 = .ok (.aload_n 0, 1) := by decide +kernel
theorem dL_law_914 : decode cL_law 914 = .ok (.iload_n 3, 1) := by decide +kernel
theorem dL_law_915 : decode cL_law 915 = .ok (.iconst 1, 1) := by decide +kernel
theorem dL_law_916 : decode cL_law 916 = .ok (.iadd, 1) := by decide +kernel
theorem dL_law_917 : decode cL_law 917 = .ok (.iaload, 1) := by decide +kernel
theorem dL_law_918 : decode cL_law 918 = .ok (.aload_n 0, 1) := by decide +kernel
theorem dL_law_919 : decode cL_law 919 = .ok (.iload_n 3, 1) := by decide +kernel
theorem dL_law_920 : decode cL_law 920 = .ok (.iconst 2, 1) := by decide +kernel
theorem dL_law_921 : decode cL_law 921 = .ok (.iadd, 1) := by decide +kernel
theorem dL_law_922 : decode cL_law 922 = .ok (.iaload, 1) := by decide +kernel
theorem dL_law_923 : decode cL_law 923 = .ok (.aload_n 0, 1) := by decide +kernel
theorem dL_law_924 : decode cL_law 924 = .ok (.iload_n 3, 1) := by decide +kernel
theorem dL_law_925 : decode cL_law 925 = .ok (.iconst 3, 1) := by decide +kernel
theorem dL_law_926 : decode cL_law 926 = .ok (.iadd, 1) := by decide +kernel
theorem dL_law_927 : decode cL_law 927 = .ok (.iaload, 1) := by decide +kernel
theorem dL_law_928 : decode cL_law 928 = .ok (.invokevirtual 112, 3) := by decide +kernel
theorem dL_law_931 : decode cL_law 931 = .ok (.if_icmp .eq 42, 3) := by decide +kernel
theorem dL_law_934 : decode cL_law 934 = .ok (.iconst 0, 1) := by decide +kernel
theorem dL_law_935 : decode cL_law 935 = .ok (.ireturn, 1) := by decide +kernel
theorem dL_law_936 : decode cL_law 936 = .ok (.aload_n 1, 1) := by decide +kernel
theorem dL_law_937 : decode cL_law 937 = .ok (.aload_n 0, 1) := by decide +kernel
theorem dL_law_938 : decode cL_law 938 = .ok (.iload_n 3, 1) := by decide +kernel
theorem dL_law_939 : decode cL_law 939 = .ok (.iconst 1, 1) := by decide +kernel
theorem dL_law_940 : decode cL_law 940 = .ok (.iadd, 1) := by decide +kernel
theorem dL_law_941 : decode cL_law 941 = .ok (.iaload, 1) := by decide +kernel
theorem dL_law_942 : decode cL_law 942 = .ok (.invokevirtual 113, 3) := by decide +kernel
theorem dL_law_945 : decode cL_law 945 = .ok (.aload_n 2, 1) := by decide +kernel
theorem dL_law_946 : decode cL_law 946 = .ok (.aload_n 0, 1) := by decide +kernel
theorem dL_law_947 : decode cL_law 947 = .ok (.iload_n 3, 1) := by decide +kernel
theorem dL_law_948 : decode cL_law 948 = .ok (.iconst 1, 1) := by decide +kernel
theorem dL_law_949 : decode cL_law 949 = .ok (.iadd, 1) := by decide +kernel
theorem dL_law_950 : decode cL_law 950 = .ok (.iaload, 1) := by decide +kernel
theorem dL_law_951 : decode cL_law 951 = .ok (.invokevirtual 116, 3) := by decide +kernel
theorem dL_law_954 : decode cL_law 954 = .ok (.if_icmp .eq 19, 3) := by decide +kernel
theorem dL_law_957 : decode cL_law 957 = .ok (.iconst 0, 1) := by decide +kernel
theorem dL_law_958 : decode cL_law 958 = .ok (.ireturn, 1) := by decide +kernel
theorem dL_law_959 : decode cL_law 959 = .ok (.aload_n 1, 1) := by decide +kernel
theorem dL_law_960 : decode cL_law 960 = .ok (.invokevirtual 117, 3) := by decide +kernel
theorem dL_law_963 : decode cL_law 963 = .ok (.aload_n 2, 1) := by decide +kernel
theorem dL_law_964 : decode cL_law 964 = .ok (.invokevirtual 120, 3) := by decide +kernel
theorem dL_law_967 : decode cL_law 967 = .ok (.lcmp, 1) := by decide +kernel
theorem dL_law_968 : decode cL_law 968 = .ok (.ifCond .eq 5, 3) := by decide +kernel
theorem dL_law_971 : decode cL_law 971 = .ok (.iconst 0, 1) := by decide +kernel
theorem dL_law_972 : decode cL_law 972 = .ok (.ireturn, 1) := by decide +kernel
theorem dL_law_973 : decode cL_law 973 = .ok (.iinc 3 5, 3) := by decide +kernel
theorem dL_law_976 : decode cL_law 976 = .ok (.goto (-958), 3) := by decide +kernel
theorem dL_law_979 : decode cL_law 979 = .ok (.iconst 1, 1) := by decide +kernel
theorem dL_law_980 : decode cL_law 980 = .ok (.ireturn, 1) := by decide +kernel
end
section
/-! abstract cells: numbers from the base on; a reference in an abstract value is the number of a cell -/
abbrev HE : Type := (Nat × vp_A) ⊕ (Nat × List Value)
abbrev HP : Type := Nat → Option HE
abbrev CX : Type := Program × Launch × Env × Room × State × MethodId × Array Value × List Frame × Method × Code × va_G × Nat × (Nat → ClassId)
abbrev QT : Type := Option Value → Nat → HP → Prop
def tv (B : Nat) (v : Value) : Value := match v with
  | .ref a => .ref (B + a)
  | v => v
def ta (B : Nat) (a : vp_A) : vp_A := match a with
  | (n, .inr (.inr (.inr (.inr f)))) => (n, .inr (.inr (.inr (.inr (fun j => (f j).map (fun a => B + a))))))
  | a => a
def te (B : Nat) (ac : Nat → ClassId) (e : HE) : va_E := match e with
  | .inl (t, a) => .inl (ac t, ta B a)
  | .inr (c, fs) => .inr (c, fs.map (tv B))
def tyl (ac : Nat → ClassId) : List (ClassId × FieldType) := [(ac 0, .int), (ac 1, .long), (ac 2, .boolean), (ac 3, .object RX1), (ac 4, .object RX4), (ac 5, .object RX3), (ac 6, .object RX0)]
def hR (D : va_G) (B : Nat) (ac : Nat → ClassId) (n : Nat) (h : HP) (H : Heap) : Prop := H.size = B + n ∧ ∀ (i : Nat) (e : HE), h i = some e → i < n ∧ va_at D vwCl (B + i, te B ac e) H
def hset (h : HP) (a : Nat) (e : HE) : HP := fun i => if i = a then some e else h i
def LV (B nL : Nat) (ls : Array Slot) (lv : List (Option Value)) : Prop := ls.size = nL ∧ lv_wf ls ∧ ∀ (i : Nat) (v : Value), lv[i]? = some (some v) → ls[i]? = some (.val (tv B v))
def kill (lv : List (Option Value)) (i : Nat) : List (Option Value) := match i with
  | 0 => lv
  | j + 1 => match lv[j]? with
    | some (some w) => if w.category = 2 then lv.set j none else lv
    | _ => lv
def sv1 (lv : List (Option Value)) (i : Nat) (v : Value) : List (Option Value) := (kill lv i).set i (some v)
def sv2 (lv : List (Option Value)) (i : Nat) (v : Value) : List (Option Value) := ((kill lv i).set i (some v)).set (i + 1) none
def xsR : Nat → Int32 := fun j => match j with
  | 0 => 1000
  | 1 => 100000
  | 2 => 1000
  | 3 => 10000
  | _ => 1000
def xsX : Nat → Int32 := fun j => match j with
  | 0 => 0
  | 1 => 1
  | 2 => 0
  | _ => -1
def xsY : Nat → Int32 := fun j => match j with
  | 0 => -1
  | 1 => 0
  | 2 => 1
  | _ => 0
def okw (w : Cond) : Bool := match w with
  | .arrayOver (.object _) => true
  | .fieldLinkNest _ _ _ _ _ _ => true
  | .methodLinkNest _ _ _ _ => true
  | w => goodWord w
def w_tbl : List Cond := lw_tbl.filter okw
def TB (U : State) : Prop := ∀ (A : Array Value), ∀ w ∈ w_tbl, w.before A U = true
def SA (f : String) (L : Nat) (xs : Nat → Int32) (B : Nat) (U : State) (H : Heap) : Prop := ∃ b : Nat, b < B ∧ va_Z "LandTaken" f "[I" (.ref b) (fun q => B ≤ q) U H ∧ va_X b L xs U H
def ENV (D : va_G) (B : Nat) (ac : Nat → ClassId) (U : State) : Prop := TB U ∧ va_K D vwCl (tyl ac) U ∧ B ≤ U.heap.size ∧ SA "MOST_RATE" 5 xsR B U U.heap ∧ SA "STEP_X" 4 xsX B U U.heap ∧ SA "STEP_Y" 4 xsY B U U.heap
def QcA (D : va_G) (B : Nat) (ac : Nat → ClassId) (Q : QT) : Array Value → State → Outcome → State → Prop := fun _ st oc t => (∃ (r : Option Value) (n : Nat) (h : HP), oc = .returned (r.map (tv B)) ∧ Q r n h ∧ hR D B ac n h t.heap) ∧ va_F (fun q => B ≤ q) st t
def AW (K : CX) (Q : QT) (cs sl pc : Nat) (lv : List (Option Value)) (st : List Value) (n : Nat) (h : HP) : Prop := match K with
  | (p, l, e, R, s, m, args, below, meth, c, D, B, ac) => ∀ (H : Heap) (locs : List Loc) (ls : Array Slot), hR D B ac n h H → va_S (fun q => B ≤ q) s.heap H locs → LV B c.maxLocals ls lv → W p l e R s m args below meth c H locs cs sl (MQ below (QcA D B ac Q) args s R.cells R.slots (fun q => B ≤ q)) (F0 m pc ls (st.map (tv B)))
def OK (K : CX) (y : MethodName) (cc : ByteArray) (nL : Nat) (rt : Option FieldType) (rm : Room) : Prop := match K with
  | (p, l, e, R, s, m, args, below, meth, c, D, B, ac) => p.tables.exec = Jvm.exec ∧ c.code = cc ∧ c.maxLocals = nL ∧ s.vm.findClass y.cls = some m.cls ∧ meth.sig.returnType = rt ∧ meth.name = y.name ∧ meth.locks = false ∧ R = rm ∧ ENV D B ac s
def Calls (y : MethodName) (cc : ByteArray) (nL : Nat) (rt : Option FieldType) (rm : Room) (av : List Value) (n : Nat) (h : HP) (Q : QT) : Prop := ∀ (l : Launch) (D : va_G) (B : Nat) (ac : Nat → ClassId), Met l y [.code y cc nL rt] rm (va_Pc (av.map (tv B)) (fun U => hR D B ac n h U.heap ∧ ENV D B ac U)) (QcA D B ac Q) rm.cells rm.slots (fun q => B ≤ q)
/-! words: they hold along a warmed machine -/
theorem w_in {w : Cond} (h : w ∈ lw_tbl) (ho : okw w = true) : w ∈ w_tbl := List.mem_filter.mpr ⟨h, ho⟩
theorem okw_warm {w : Cond} (ho : okw w = true) {A A' : Array Value} {s U : State} (hW : s.WarmedH U.vm) (h : w.before A s = true) : w.before A' U = true := by
  unfold okw at ho
  split at ho
  · exact va_AO.use (va_AO.moved hW.alike (va_AO.of h))
  · exact va_Nw.use rfl (va_Nw.warmF hW (va_Nw.of rfl h))
  · exact va_Nw.use rfl (va_Nw.warmM hW (va_Nw.of rfl h))
  · exact word_at hW (good_of_word ho) h
theorem TB.warm {s U : State} (hW : s.WarmedH U.vm) {A : Array Value} (h : ∀ w ∈ w_tbl, w.before A s = true) : TB U := fun A' w hw => okw_warm (List.mem_filter.mp hw).2 hW (h w hw)
theorem SA.to {f : String} {L : Nat} {xs : Nat → Int32} {B : Nat} {s U : State} (hB : B ≤ s.heap.size) (hvm : s.vm.Alike U.vm) (h : SA f L xs B s s.heap) (hq : ∀ a : Nat, a < s.heap.size → ¬ B ≤ a → U.heap[a]? = s.heap[a]?) : SA f L xs B U U.heap := by
  obtain ⟨b, h1, h2, h3⟩ := h
  exact ⟨b, h1, (h2.moved hvm).kept hq, (h3.moved hvm).kept (hq b (by omega) (by omega))⟩
theorem ENV.to {D : va_G} {B : Nat} {ac : Nat → ClassId} {s U : State} (hE : ENV D B ac s) (hW : s.WarmedH U.vm) {H : Heap} {locs : List Loc} (hU : U.heap = H) (hS : va_S (fun q => B ≤ q) s.heap H locs) : ENV D B ac U := by
  obtain ⟨h1, h2, h3, h4, h5, h6⟩ := hE
  subst hU
  exact ⟨TB.warm hW (h1 #[]), h2.moved hW.alike, Nat.le_trans h3 hS.1, h4.to h3 hW.alike hS.2.1, h5.to h3 hW.alike hS.2.1, h6.to h3 hW.alike hS.2.1⟩
theorem ENV.blind {D : va_G} {B : Nat} {ac : Nat → ClassId} {U : State} {g : JFrame} {mk : MethodId} {a : Array Value} (h : ENV D B ac U) : ENV D B ac (U.calling g mk a) := by
  obtain ⟨h1, h2, h3, h4, h5, h6⟩ := h
  have hs : ∀ {f : String} {L : Nat} {xs : Nat → Int32}, SA f L xs B U U.heap → SA f L xs B (U.calling g mk a) (U.calling g mk a).heap := fun h => SA.to h3 (Vm.Alike.refl U.vm) h (fun _ _ _ => rfl)
  exact ⟨TB.warm (U := U.calling g mk a) (State.WarmedH.refl U) (h1 #[]), va_K.moved (u := U) (U := U.calling g mk a) (Vm.Alike.refl U.vm) h2, h3, hs h4, hs h5, hs h6⟩
theorem tv_cat (B : Nat) (v : Value) : (tv B v).category = v.category := by cases v <;> rfl
/-! locals -/
def lvE : List Value → List (Option Value)
  | [] => []
  | v :: vs => if v.category = 2 then some v :: none :: lvE vs else some v :: lvE vs
theorem lvE_mem (B : Nat) : ∀ (vs : List Value) (k i : Nat) (v : Value), (lvE vs)[i]? = some (some v) → (k + i, tv B v) ∈ lv_args k (vs.map (tv B)) := by
  intro vs
  induction vs with
  | nil => intro k i v h; simp [lvE] at h
  | cons w vs ih =>
    intro k i v h
    unfold lvE at h
    show (k + i, tv B v) ∈ lv_args k (tv B w :: vs.map (tv B))
    unfold lv_args
    rw [tv_cat]
    split at h
    · rename_i hc
      match i, h with
      | 0, h => simp at h; subst h; exact List.mem_cons_self
      | 1, h => simp at h
      | i + 2, h =>
        simp only [List.getElem?_cons_succ] at h
        refine List.mem_cons_of_mem _ ?_
        have := ih (k + 2) i v h
        simpa [hc, Nat.add_assoc, Nat.add_comm 2 i] using this
    · rename_i hc
      match i, h with
      | 0, h => simp at h; subst h; exact List.mem_cons_self
      | i + 1, h =>
        simp only [List.getElem?_cons_succ] at h
        refine List.mem_cons_of_mem _ ?_
        have := ih (k + 1) i v h
        have hc1 : w.category = 1 := (lv_cat w).resolve_right hc
        simpa [hc, hc1, Nat.add_assoc, Nat.add_comm 1 i] using this
def padL (n : Nat) (l : List (Option Value)) : List (Option Value) := l ++ List.replicate (n - l.length) none
theorem padL_get {n : Nat} {l : List (Option Value)} {i : Nat} {v : Value} (h : (padL n l)[i]? = some (some v)) : l[i]? = some (some v) := by
  unfold padL at h
  by_cases hl : i < l.length
  · rwa [List.getElem?_append_left hl] at h
  · rw [List.getElem?_append_right (by omega), List.getElem?_replicate] at h
    split at h <;> simp at h
/-! stores into locals -/
theorem LV.pick {B nL : Nat} {ls : Array Slot} {lv : List (Option Value)} (hl : LV B nL ls lv) : ∀ (l : List (Nat × Value)), (∀ q ∈ l, ∃ v, q.2 = tv B v ∧ lv[q.1]? = some (some v)) → lv_has ls nL l := fun l h => ⟨hl.1, hl.2.1, fun q hq => by
  obtain ⟨v, h1, h2⟩ := h q hq
  rw [h1]
  exact hl.2.2 _ _ h2⟩
def prs (B : Nat) (lv : List (Option Value)) : List (Nat × Value) := (List.range lv.length).filterMap (fun i => match lv[i]? with
  | some (some v) => some (i, tv B v)
  | _ => none)
theorem prs_mem {B : Nat} {lv : List (Option Value)} {i : Nat} {v : Value} (h : lv[i]? = some (some v)) : (i, tv B v) ∈ prs B lv := by
  refine List.mem_filterMap.mpr ⟨i, List.mem_range.mpr (List.getElem?_eq_some_iff.mp h).1, ?_⟩
  rw [h]
theorem prs_of {B : Nat} {lv : List (Option Value)} {q : Nat × Value} (h : q ∈ prs B lv) : ∃ v, q.2 = tv B v ∧ lv[q.1]? = some (some v) := by
  obtain ⟨i, -, hi⟩ := List.mem_filterMap.mp h
  split at hi
  · rename_i v hv
    cases hi
    exact ⟨v, rfl, hv⟩
  · cases hi
theorem LV.pairs {B nL : Nat} {ls : Array Slot} {lv : List (Option Value)} (hl : LV B nL ls lv) : lv_has ls nL (prs B lv) := hl.pick _ (fun _ h => prs_of h)
theorem kill_get {lv : List (Option Value)} {i j : Nat} {w : Value} (h : (kill lv i)[j]? = some (some w)) : lv[j]? = some (some w) ∧ ¬ (j + 1 = i ∧ w.category = 2) := by
  unfold kill at h
  split at h
  · exact ⟨h, by omega⟩
  · rename_i k
    split at h
    · rename_i x hx
      split at h
      · rename_i hc
        by_cases hjk : k = j
        · subst hjk
          rw [List.getElem?_set] at h
          simp at h
        · rw [List.getElem?_set_ne hjk] at h
          exact ⟨h, by omega⟩
      · rename_i hc
        refine ⟨h, fun ⟨e1, e2⟩ => ?_⟩
        have : j = k := by omega
        subst this
        rw [hx] at h
        cases h
        exact hc e2
    · rename_i hx
      refine ⟨h, fun ⟨e1, e2⟩ => ?_⟩
      have : j = k := by omega
      subst this
      exact hx _ h
theorem LV.st1 {B nL : Nat} {ls' : Array Slot} {lv : List (Option Value)} {i : Nat} {v : Value} (h : lv_has ls' nL ((i, tv B v) :: (prs B lv).filter (fun q => !(q.1 == i) && !(q.1 + 1 == i && q.2.category == 2)))) : LV B nL ls' (sv1 lv i v) := by
  refine ⟨h.1, h.2.1, fun j w hj => ?_⟩
  unfold sv1 at hj
  by_cases hji : i = j
  · subst hji
    rw [List.getElem?_set] at hj
    simp at hj
    obtain ⟨-, rfl⟩ := hj
    exact h.2.2 (i, tv B v) List.mem_cons_self
  · rw [List.getElem?_set_ne hji] at hj
    obtain ⟨h1, h2⟩ := kill_get hj
    refine h.2.2 (j, tv B w) (List.mem_cons_of_mem _ (List.mem_filter.mpr ⟨prs_mem h1, ?_⟩))
    have e1 : (j == i) = false := by simp; omega
    simp only [e1, Bool.not_false, Bool.true_and, Bool.not_eq_true', Bool.and_eq_false_iff, beq_eq_false_iff_ne, ne_eq]
    rw [tv_cat]
    by_cases q : j + 1 = i
    · exact Or.inr (fun c => h2 ⟨q, c⟩)
    · exact Or.inl q
theorem LV.st2 {B nL : Nat} {ls' : Array Slot} {lv : List (Option Value)} {i : Nat} {v : Value} (h : lv_has ls' nL ((i, tv B v) :: (prs B lv).filter (fun q => !(q.1 == i) && (!(q.1 == i + 1) && !(q.1 + 1 == i && q.2.category == 2))))) : LV B nL ls' (sv2 lv i v) := by
  refine ⟨h.1, h.2.1, fun j w hj => ?_⟩
  unfold sv2 at hj
  by_cases hj1 : i + 1 = j
  · subst hj1
    rw [List.getElem?_set] at hj
    simp at hj
  rw [List.getElem?_set_ne hj1] at hj
  by_cases hji : i = j
  · subst hji
    rw [List.getElem?_set] at hj
    simp at hj
    obtain ⟨-, rfl⟩ := hj
    exact h.2.2 (i, tv B v) List.mem_cons_self
  · rw [List.getElem?_set_ne hji] at hj
    obtain ⟨h1, h2⟩ := kill_get hj
    refine h.2.2 (j, tv B w) (List.mem_cons_of_mem _ (List.mem_filter.mpr ⟨prs_mem h1, ?_⟩))
    have e1 : (j == i) = false := by simp; omega
    have e2 : (j == i + 1) = false := by simp; omega
    simp only [e1, e2, Bool.not_false, Bool.true_and, Bool.not_eq_true', Bool.and_eq_false_iff, beq_eq_false_iff_ne, ne_eq]
    rw [tv_cat]
    by_cases q : j + 1 = i
    · exact Or.inr (fun c => h2 ⟨q, c⟩)
    · exact Or.inl q
/-! the heap relation -/
theorem hR.sing {D : va_G} {B : Nat} {ac : Nat → ClassId} {n : Nat} {h : HP} {H : Heap} (hr : hR D B ac n h H) {a : Nat} {e : HE} (ha : h a = some e) : va_P D vwCl [(B + a, te B ac e)] H := by
  intro k q hk
  match k, hk with
  | 0, hk => cases hk; exact (hr.2 a e ha).2
  | k + 1, hk => simp at hk
theorem hR.lt {D : va_G} {B : Nat} {ac : Nat → ClassId} {n : Nat} {h : HP} {H : Heap} (hr : hR D B ac n h H) {a : Nat} {e : HE} (ha : h a = some e) : a < n := (hr.2 a e ha).1
theorem hR.set {D : va_G} {B : Nat} {ac : Nat → ClassId} {n : Nat} {h : HP} {H H1 : Heap} (hr : hR D B ac n h H) {a : Nat} {e0 e : HE} (ha : h a = some e0) (z : H1.size = H.size) (he : va_at D vwCl (B + a, te B ac e) H1) (oq : ∀ q : Nat, q ≠ B + a → H1[q]? = H[q]?) : hR D B ac n (hset h a e) H1 := by
  refine ⟨z.trans hr.1, fun i x hi => ?_⟩
  unfold hset at hi
  split at hi
  · rename_i hia
    subst hia
    cases hi
    exact ⟨hr.lt ha, he⟩
  · rename_i hia
    obtain ⟨h1, h2⟩ := hr.2 i x hi
    exact ⟨h1, h2.kept (oq _ (by show B + i ≠ B + a; omega))⟩
theorem hR.push {D : va_G} {B : Nat} {ac : Nat → ClassId} {n : Nat} {h : HP} {H H1 : Heap} (hr : hR D B ac n h H) {e : HE} (z : H1.size = H.size + 1) (he : va_at D vwCl (B + n, te B ac e) H1) (oq : ∀ q : Nat, q < H.size → H1[q]? = H[q]?) : hR D B ac (n + 1) (hset h n e) H1 := by
  refine ⟨by rw [z, hr.1]; omega, fun i x hi => ?_⟩
  unfold hset at hi
  split at hi
  · rename_i hia
    subst hia
    cases hi
    exact ⟨by omega, he⟩
  · obtain ⟨h1, h2⟩ := hr.2 i x hi
    exact ⟨by omega, h2.kept (oq _ (by show B + i < H.size; rw [hr.1]; omega))⟩
theorem vpV_map (B : Nat) (fs : List Value) (k : Nat) (v : Value) (h : fs[k]? = some v) : (fs.map (tv B))[k]? = some (tv B v) := by rw [List.getElem?_map, h]; rfl

section AWR
variable {K : CX} {Q : QT} {cs sl pc pc2 n : Nat} {lv : List (Option Value)} {st : List Value} {h : HP} {y0 : MethodName} {cc : ByteArray} {nL : Nat} {rt : Option FieldType} {rm : Room}
theorem aw_iadd (hk : OK K y0 cc nL rt rm) {x y : Int32} (hd : decode cc pc = .ok (.iadd, 1)) (hp : pc + 1 = pc2)  (kk : AW K Q cs sl pc2 lv (.int (x + y) :: st) n h) : AW K Q cs sl pc lv (.int y :: .int x :: st) n h := by
  obtain ⟨p, l, e, R, s, m, args, below, meth, c, D, B, ac⟩ := K
  obtain ⟨hx, hb, hml, hown, hr, hnm, hlk, hRm, hE⟩ := hk
  subst hp
  intro H locs ls hh hS hl
  exact lv_iadd hx hb hd  (kk H locs ls hh hS hl)
theorem aw_isub (hk : OK K y0 cc nL rt rm) {x y : Int32} (hd : decode cc pc = .ok (.isub, 1)) (hp : pc + 1 = pc2)  (kk : AW K Q cs sl pc2 lv (.int (x - y) :: st) n h) : AW K Q cs sl pc lv (.int y :: .int x :: st) n h := by
  obtain ⟨p, l, e, R, s, m, args, below, meth, c, D, B, ac⟩ := K
  obtain ⟨hx, hb, hml, hown, hr, hnm, hlk, hRm, hE⟩ := hk
  subst hp
  intro H locs ls hh hS hl
  exact lv_isub hx hb hd  (kk H locs ls hh hS hl)
theorem aw_imul (hk : OK K y0 cc nL rt rm) {x y : Int32} (hd : decode cc pc = .ok (.imul, 1)) (hp : pc + 1 = pc2)  (kk : AW K Q cs sl pc2 lv (.int (x * y) :: st) n h) : AW K Q cs sl pc lv (.int y :: .int x :: st) n h := by
  obtain ⟨p, l, e, R, s, m, args, below, meth, c, D, B, ac⟩ := K
  obtain ⟨hx, hb, hml, hown, hr, hnm, hlk, hRm, hE⟩ := hk
  subst hp
  intro H locs ls hh hS hl
  exact lv_imul hx hb hd  (kk H locs ls hh hS hl)
theorem aw_iand (hk : OK K y0 cc nL rt rm) {x y : Int32} (hd : decode cc pc = .ok (.iand, 1)) (hp : pc + 1 = pc2)  (kk : AW K Q cs sl pc2 lv (.int (x &&& y) :: st) n h) : AW K Q cs sl pc lv (.int y :: .int x :: st) n h := by
  obtain ⟨p, l, e, R, s, m, args, below, meth, c, D, B, ac⟩ := K
  obtain ⟨hx, hb, hml, hown, hr, hnm, hlk, hRm, hE⟩ := hk
  subst hp
  intro H locs ls hh hS hl
  exact lv_iand hx hb hd  (kk H locs ls hh hS hl)
theorem aw_idiv (hk : OK K y0 cc nL rt rm) {x y : Int32} (hd : decode cc pc = .ok (.idiv, 1)) (hp : pc + 1 = pc2) (hne : ¬ y = 0) (kk : AW K Q cs sl pc2 lv (.int (x / y) :: st) n h) : AW K Q cs sl pc lv (.int y :: .int x :: st) n h := by
  obtain ⟨p, l, e, R, s, m, args, below, meth, c, D, B, ac⟩ := K
  obtain ⟨hx, hb, hml, hown, hr, hnm, hlk, hRm, hE⟩ := hk
  subst hp
  intro H locs ls hh hS hl
  exact lv_idiv hx hb hd hne (kk H locs ls hh hS hl)
theorem aw_irem (hk : OK K y0 cc nL rt rm) {x y : Int32} (hd : decode cc pc = .ok (.irem, 1)) (hp : pc + 1 = pc2) (hne : ¬ y = 0) (kk : AW K Q cs sl pc2 lv (.int (x - x / y * y) :: st) n h) : AW K Q cs sl pc lv (.int y :: .int x :: st) n h := by
  obtain ⟨p, l, e, R, s, m, args, below, meth, c, D, B, ac⟩ := K
  obtain ⟨hx, hb, hml, hown, hr, hnm, hlk, hRm, hE⟩ := hk
  subst hp
  intro H locs ls hh hS hl
  exact lv_irem hx hb hd hne (kk H locs ls hh hS hl)
theorem aw_ladd (hk : OK K y0 cc nL rt rm) {x y : Int64} (hd : decode cc pc = .ok (.ladd, 1)) (hp : pc + 1 = pc2)  (kk : AW K Q cs sl pc2 lv (.long (x + y) :: st) n h) : AW K Q cs sl pc lv (.long y :: .long x :: st) n h := by
  obtain ⟨p, l, e, R, s, m, args, below, meth, c, D, B, ac⟩ := K
  obtain ⟨hx, hb, hml, hown, hr, hnm, hlk, hRm, hE⟩ := hk
  subst hp
  intro H locs ls hh hS hl
  exact lv_ladd hx hb hd  (kk H locs ls hh hS hl)
theorem aw_lsub (hk : OK K y0 cc nL rt rm) {x y : Int64} (hd : decode cc pc = .ok (.lsub, 1)) (hp : pc + 1 = pc2)  (kk : AW K Q cs sl pc2 lv (.long (x - y) :: st) n h) : AW K Q cs sl pc lv (.long y :: .long x :: st) n h := by
  obtain ⟨p, l, e, R, s, m, args, below, meth, c, D, B, ac⟩ := K
  obtain ⟨hx, hb, hml, hown, hr, hnm, hlk, hRm, hE⟩ := hk
  subst hp
  intro H locs ls hh hS hl
  exact lv_lsub hx hb hd  (kk H locs ls hh hS hl)
theorem aw_lmul (hk : OK K y0 cc nL rt rm) {x y : Int64} (hd : decode cc pc = .ok (.lmul, 1)) (hp : pc + 1 = pc2)  (kk : AW K Q cs sl pc2 lv (.long (x * y) :: st) n h) : AW K Q cs sl pc lv (.long y :: .long x :: st) n h := by
  obtain ⟨p, l, e, R, s, m, args, below, meth, c, D, B, ac⟩ := K
  obtain ⟨hx, hb, hml, hown, hr, hnm, hlk, hRm, hE⟩ := hk
  subst hp
  intro H locs ls hh hS hl
  exact lv_lmul hx hb hd  (kk H locs ls hh hS hl)
theorem aw_land (hk : OK K y0 cc nL rt rm) {x y : Int64} (hd : decode cc pc = .ok (.land, 1)) (hp : pc + 1 = pc2)  (kk : AW K Q cs sl pc2 lv (.long (x &&& y) :: st) n h) : AW K Q cs sl pc lv (.long y :: .long x :: st) n h := by
  obtain ⟨p, l, e, R, s, m, args, below, meth, c, D, B, ac⟩ := K
  obtain ⟨hx, hb, hml, hown, hr, hnm, hlk, hRm, hE⟩ := hk
  subst hp
  intro H locs ls hh hS hl
  exact lv_land hx hb hd  (kk H locs ls hh hS hl)
theorem aw_lor (hk : OK K y0 cc nL rt rm) {x y : Int64} (hd : decode cc pc = .ok (.lor, 1)) (hp : pc + 1 = pc2)  (kk : AW K Q cs sl pc2 lv (.long (x ||| y) :: st) n h) : AW K Q cs sl pc lv (.long y :: .long x :: st) n h := by
  obtain ⟨p, l, e, R, s, m, args, below, meth, c, D, B, ac⟩ := K
  obtain ⟨hx, hb, hml, hown, hr, hnm, hlk, hRm, hE⟩ := hk
  subst hp
  intro H locs ls hh hS hl
  exact lv_lor hx hb hd  (kk H locs ls hh hS hl)
theorem aw_ldiv (hk : OK K y0 cc nL rt rm) {x y : Int64} (hd : decode cc pc = .ok (.ldiv, 1)) (hp : pc + 1 = pc2) (hne : ¬ y = 0) (kk : AW K Q cs sl pc2 lv (.long (x / y) :: st) n h) : AW K Q cs sl pc lv (.long y :: .long x :: st) n h := by
  obtain ⟨p, l, e, R, s, m, args, below, meth, c, D, B, ac⟩ := K
  obtain ⟨hx, hb, hml, hown, hr, hnm, hlk, hRm, hE⟩ := hk
  subst hp
  intro H locs ls hh hS hl
  exact lv_ldiv hx hb hd hne (kk H locs ls hh hS hl)
theorem aw_i2l (hk : OK K y0 cc nL rt rm) {x : Int32} (hd : decode cc pc = .ok (.i2l, 1)) (hp : pc + 1 = pc2)  (kk : AW K Q cs sl pc2 lv (.long x.toInt64 :: st) n h) : AW K Q cs sl pc lv (.int x :: st) n h := by
  obtain ⟨p, l, e, R, s, m, args, below, meth, c, D, B, ac⟩ := K
  obtain ⟨hx, hb, hml, hown, hr, hnm, hlk, hRm, hE⟩ := hk
  subst hp
  intro H locs ls hh hS hl
  exact lv_i2l hx hb hd rfl (kk H locs ls hh hS hl)
theorem aw_lshl (hk : OK K y0 cc nL rt rm) {x : Int64} {y : Int32} (hd : decode cc pc = .ok (.lshl, 1)) (hp : pc + 1 = pc2)  (kk : AW K Q cs sl pc2 lv (.long (x <<< (y.toInt64 &&& 63)) :: st) n h) : AW K Q cs sl pc lv (.int y :: .long x :: st) n h := by
  obtain ⟨p, l, e, R, s, m, args, below, meth, c, D, B, ac⟩ := K
  obtain ⟨hx, hb, hml, hown, hr, hnm, hlk, hRm, hE⟩ := hk
  subst hp
  intro H locs ls hh hS hl
  exact lv_lshl hx hb hd rfl (kk H locs ls hh hS hl)
theorem aw_lcmp (hk : OK K y0 cc nL rt rm) {x y : Int64} (hd : decode cc pc = .ok (.lcmp, 1)) (hp : pc + 1 = pc2)  (kk : AW K Q cs sl pc2 lv (.int (lg_cmp x y) :: st) n h) : AW K Q cs sl pc lv (.long y :: .long x :: st) n h := by
  obtain ⟨p, l, e, R, s, m, args, below, meth, c, D, B, ac⟩ := K
  obtain ⟨hx, hb, hml, hown, hr, hnm, hlk, hRm, hE⟩ := hk
  subst hp
  intro H locs ls hh hS hl
  exact W.lcmp hx hb hd  (kk H locs ls hh hS hl)
theorem aw_dup_r (hk : OK K y0 cc nL rt rm) {x : Nat} (hd : decode cc pc = .ok (.dup, 1)) (hp : pc + 1 = pc2)  (kk : AW K Q cs sl pc2 lv (.ref x :: .ref x :: st) n h) : AW K Q cs sl pc lv (.ref x :: st) n h := by
  obtain ⟨p, l, e, R, s, m, args, below, meth, c, D, B, ac⟩ := K
  obtain ⟨hx, hb, hml, hown, hr, hnm, hlk, hRm, hE⟩ := hk
  subst hp
  intro H locs ls hh hS hl
  exact lv_dup hx hb hd rfl (kk H locs ls hh hS hl)
theorem aw_dup_i (hk : OK K y0 cc nL rt rm) {x : Int32} (hd : decode cc pc = .ok (.dup, 1)) (hp : pc + 1 = pc2)  (kk : AW K Q cs sl pc2 lv (.int x :: .int x :: st) n h) : AW K Q cs sl pc lv (.int x :: st) n h := by
  obtain ⟨p, l, e, R, s, m, args, below, meth, c, D, B, ac⟩ := K
  obtain ⟨hx, hb, hml, hown, hr, hnm, hlk, hRm, hE⟩ := hk
  subst hp
  intro H locs ls hh hS hl
  exact lv_dup hx hb hd rfl (kk H locs ls hh hS hl)
theorem aw_dup2_ir (hk : OK K y0 cc nL rt rm) {x : Int32} {a : Nat} (hd : decode cc pc = .ok (.dup2, 1)) (hp : pc + 1 = pc2)  (kk : AW K Q cs sl pc2 lv (.int x :: .ref a :: .int x :: .ref a :: st) n h) : AW K Q cs sl pc lv (.int x :: .ref a :: st) n h := by
  obtain ⟨p, l, e, R, s, m, args, below, meth, c, D, B, ac⟩ := K
  obtain ⟨hx, hb, hml, hown, hr, hnm, hlk, hRm, hE⟩ := hk
  subst hp
  intro H locs ls hh hS hl
  exact lv_dup2_11 hx hb hd rfl rfl (kk H locs ls hh hS hl)
theorem aw_iconst (hk : OK K y0 cc nL rt rm) {k : Int} {v : Int32} (hd : decode cc pc = .ok (.iconst k, 1)) (hp : pc + 1 = pc2) (hv : Int32.ofInt k = v) (kk : AW K Q cs sl pc2 lv (.int v :: st) n h) : AW K Q cs sl pc lv (st) n h := by
  obtain ⟨p, l, e, R, s, m, args, below, meth, c, D, B, ac⟩ := K
  obtain ⟨hx, hb, hml, hown, hr, hnm, hlk, hRm, hE⟩ := hk
  subst hp
  intro H locs ls hh hS hl
  exact lv_iconst hx hb hd hv (kk H locs ls hh hS hl)
theorem aw_bipush (hk : OK K y0 cc nL rt rm) {k : Int} {v : Int32} (hd : decode cc pc = .ok (.bipush k, 2)) (hp : pc + 2 = pc2) (hv : (Int8.ofInt k).toInt32 = v) (kk : AW K Q cs sl pc2 lv (.int v :: st) n h) : AW K Q cs sl pc lv (st) n h := by
  obtain ⟨p, l, e, R, s, m, args, below, meth, c, D, B, ac⟩ := K
  obtain ⟨hx, hb, hml, hown, hr, hnm, hlk, hRm, hE⟩ := hk
  subst hp
  intro H locs ls hh hS hl
  exact lv_bipush hx hb hd hv (kk H locs ls hh hS hl)
theorem aw_sipush (hk : OK K y0 cc nL rt rm) {k : Int} {v : Int32} (hd : decode cc pc = .ok (.sipush k, 3)) (hp : pc + 3 = pc2) (hv : (Int16.ofInt k).toInt32 = v) (kk : AW K Q cs sl pc2 lv (.int v :: st) n h) : AW K Q cs sl pc lv (st) n h := by
  obtain ⟨p, l, e, R, s, m, args, below, meth, c, D, B, ac⟩ := K
  obtain ⟨hx, hb, hml, hown, hr, hnm, hlk, hRm, hE⟩ := hk
  subst hp
  intro H locs ls hh hS hl
  exact lv_sipush hx hb hd hv (kk H locs ls hh hS hl)
theorem aw_lconst (hk : OK K y0 cc nL rt rm) {k : Fin 2} {v : Int64} (hd : decode cc pc = .ok (.lconst k, 1)) (hp : pc + 1 = pc2) (hv : Int64.ofNat (k : Nat) = v) (kk : AW K Q cs sl pc2 lv (.long v :: st) n h) : AW K Q cs sl pc lv (st) n h := by
  obtain ⟨p, l, e, R, s, m, args, below, meth, c, D, B, ac⟩ := K
  obtain ⟨hx, hb, hml, hown, hr, hnm, hlk, hRm, hE⟩ := hk
  subst hp
  intro H locs ls hh hS hl
  exact lv_lconst hx hb hd hv (kk H locs ls hh hS hl)
theorem aw_null (hk : OK K y0 cc nL rt rm)  (hd : decode cc pc = .ok (.aconst_null, 1)) (hp : pc + 1 = pc2)  (kk : AW K Q cs sl pc2 lv (.null :: st) n h) : AW K Q cs sl pc lv (st) n h := by
  obtain ⟨p, l, e, R, s, m, args, below, meth, c, D, B, ac⟩ := K
  obtain ⟨hx, hb, hml, hown, hr, hnm, hlk, hRm, hE⟩ := hk
  subst hp
  intro H locs ls hh hS hl
  exact lv_null hx hb hd  (kk H locs ls hh hS hl)
theorem aw_ldc (hk : OK K y0 cc nL rt rm) {ix : Nat} {v : Int32} (hd : decode cc pc = .ok (.ldc ix, 2)) (hp : pc + 2 = pc2) (hc : Cond.constant y0.cls ix v ∈ w_tbl) (kk : AW K Q cs sl pc2 lv (.int v :: st) n h) : AW K Q cs sl pc lv st n h := by
  obtain ⟨p, l, e, R, s, m, args, below, meth, c, D, B, ac⟩ := K
  obtain ⟨hx, hb, hml, hown, hr, hnm, hlk, hRm, hE⟩ := hk
  subst hp
  intro H locs ls hh hS hl
  exact lv_ldc hx hb hown (hE.1 args _ hc) hd (kk H locs ls hh hS hl)
theorem aw_ldc2 (hk : OK K y0 cc nL rt rm) {ix : Nat} {v : Int64} (hd : decode cc pc = .ok (.ldc2_w ix, 3)) (hp : pc + 3 = pc2) (hc : Cond.constantLong y0.cls ix v ∈ w_tbl) (kk : AW K Q cs sl pc2 lv (.long v :: st) n h) : AW K Q cs sl pc lv st n h := by
  obtain ⟨p, l, e, R, s, m, args, below, meth, c, D, B, ac⟩ := K
  obtain ⟨hx, hb, hml, hown, hr, hnm, hlk, hRm, hE⟩ := hk
  subst hp
  intro H locs ls hh hS hl
  exact lv_ldc2 hx hb hown (hE.1 args _ hc) hd (kk H locs ls hh hS hl)
theorem aw_iload_n (hk : OK K y0 cc nL rt rm) {k : Fin 4} {x : Int32} (hd : decode cc pc = .ok (.iload_n k, 1)) (hp : pc + 1 = pc2) (hv : lv[(k : Nat)]? = some (some (.int x))) (kk : AW K Q cs sl pc2 lv (.int x :: st) n h) : AW K Q cs sl pc lv st n h := by
  obtain ⟨p, l, e, R, s, m, args, below, meth, c, D, B, ac⟩ := K
  obtain ⟨hx, hb, hml, hown, hr, hnm, hlk, hRm, hE⟩ := hk
  subst hp
  intro H locs ls hh hS hl
  exact lv_iload_n hx hb hd rfl (hl.2.2 _ _ hv) (kk H locs ls hh hS hl)
theorem aw_iload (hk : OK K y0 cc nL rt rm) {k : Nat} {x : Int32} (hd : decode cc pc = .ok (.iload k, 2)) (hp : pc + 2 = pc2) (hv : lv[k]? = some (some (.int x))) (kk : AW K Q cs sl pc2 lv (.int x :: st) n h) : AW K Q cs sl pc lv st n h := by
  obtain ⟨p, l, e, R, s, m, args, below, meth, c, D, B, ac⟩ := K
  obtain ⟨hx, hb, hml, hown, hr, hnm, hlk, hRm, hE⟩ := hk
  subst hp
  intro H locs ls hh hS hl
  exact lv_iload hx hb hd (hl.2.2 _ _ hv) (kk H locs ls hh hS hl)
theorem aw_lload_n (hk : OK K y0 cc nL rt rm) {k : Fin 4} {x : Int64} (hd : decode cc pc = .ok (.lload_n k, 1)) (hp : pc + 1 = pc2) (hv : lv[(k : Nat)]? = some (some (.long x))) (kk : AW K Q cs sl pc2 lv (.long x :: st) n h) : AW K Q cs sl pc lv st n h := by
  obtain ⟨p, l, e, R, s, m, args, below, meth, c, D, B, ac⟩ := K
  obtain ⟨hx, hb, hml, hown, hr, hnm, hlk, hRm, hE⟩ := hk
  subst hp
  intro H locs ls hh hS hl
  exact lv_lload_n hx hb hd rfl (hl.2.2 _ _ hv) (kk H locs ls hh hS hl)
theorem aw_lload (hk : OK K y0 cc nL rt rm) {k : Nat} {x : Int64} (hd : decode cc pc = .ok (.lload k, 2)) (hp : pc + 2 = pc2) (hv : lv[k]? = some (some (.long x))) (kk : AW K Q cs sl pc2 lv (.long x :: st) n h) : AW K Q cs sl pc lv st n h := by
  obtain ⟨p, l, e, R, s, m, args, below, meth, c, D, B, ac⟩ := K
  obtain ⟨hx, hb, hml, hown, hr, hnm, hlk, hRm, hE⟩ := hk
  subst hp
  intro H locs ls hh hS hl
  exact lv_lload hx hb hd (hl.2.2 _ _ hv) (kk H locs ls hh hS hl)
theorem aw_aload_n (hk : OK K y0 cc nL rt rm) {k : Fin 4} {x : Nat} (hd : decode cc pc = .ok (.aload_n k, 1)) (hp : pc + 1 = pc2) (hv : lv[(k : Nat)]? = some (some (.ref x))) (kk : AW K Q cs sl pc2 lv (.ref x :: st) n h) : AW K Q cs sl pc lv st n h := by
  obtain ⟨p, l, e, R, s, m, args, below, meth, c, D, B, ac⟩ := K
  obtain ⟨hx, hb, hml, hown, hr, hnm, hlk, hRm, hE⟩ := hk
  subst hp
  intro H locs ls hh hS hl
  exact lv_aload_n hx hb hd rfl (hl.2.2 _ _ hv) (kk H locs ls hh hS hl)
theorem aw_aload (hk : OK K y0 cc nL rt rm) {k : Nat} {x : Nat} (hd : decode cc pc = .ok (.aload k, 2)) (hp : pc + 2 = pc2) (hv : lv[k]? = some (some (.ref x))) (kk : AW K Q cs sl pc2 lv (.ref x :: st) n h) : AW K Q cs sl pc lv st n h := by
  obtain ⟨p, l, e, R, s, m, args, below, meth, c, D, B, ac⟩ := K
  obtain ⟨hx, hb, hml, hown, hr, hnm, hlk, hRm, hE⟩ := hk
  subst hp
  intro H locs ls hh hS hl
  exact lv_aload hx hb hd (hl.2.2 _ _ hv) (kk H locs ls hh hS hl)
theorem aw_aload_nN (hk : OK K y0 cc nL rt rm) {k : Fin 4} (hd : decode cc pc = .ok (.aload_n k, 1)) (hp : pc + 1 = pc2) (hv : lv[(k : Nat)]? = some (some .null)) (kk : AW K Q cs sl pc2 lv (.null :: st) n h) : AW K Q cs sl pc lv st n h := by
  obtain ⟨p, l, e, R, s, m, args, below, meth, c, D, B, ac⟩ := K
  obtain ⟨hx, hb, hml, hown, hr, hnm, hlk, hRm, hE⟩ := hk
  subst hp
  intro H locs ls hh hS hl
  exact lv_aload_nN hx hb hd rfl (hl.2.2 _ _ hv) (kk H locs ls hh hS hl)
theorem aw_aloadN (hk : OK K y0 cc nL rt rm) {k : Nat} (hd : decode cc pc = .ok (.aload k, 2)) (hp : pc + 2 = pc2) (hv : lv[k]? = some (some .null)) (kk : AW K Q cs sl pc2 lv (.null :: st) n h) : AW K Q cs sl pc lv st n h := by
  obtain ⟨p, l, e, R, s, m, args, below, meth, c, D, B, ac⟩ := K
  obtain ⟨hx, hb, hml, hown, hr, hnm, hlk, hRm, hE⟩ := hk
  subst hp
  intro H locs ls hh hS hl
  exact lv_aloadN hx hb hd (hl.2.2 _ _ hv) (kk H locs ls hh hS hl)
theorem aw_istore_n (hk : OK K y0 cc nL rt rm) {j : Fin 4} {x : Int32} (hd : decode cc pc = .ok (.istore_n j, 1)) (hp : pc + 1 = pc2) (hn : (j : Nat) < nL) (kk : AW K Q cs sl pc2 (sv1 lv (j : Nat) (.int x)) st n h) : AW K Q cs sl pc lv (.int x :: st) n h := by
  obtain ⟨p, l, e, R, s, m, args, below, meth, c, D, B, ac⟩ := K
  obtain ⟨hx, hb, hml, hown, hr, hnm, hlk, hRm, hE⟩ := hk
  subst hp
  intro H locs ls hh hS hl
  subst hml
  exact lv_istore_n hx hb hd rfl hl.pairs hn rfl (fun ls' hl' => kk H locs ls' hh hS (LV.st1 hl'))
theorem aw_istore (hk : OK K y0 cc nL rt rm) {k : Nat} {x : Int32} (hd : decode cc pc = .ok (.istore k, 2)) (hp : pc + 2 = pc2) (hn : k < nL) (kk : AW K Q cs sl pc2 (sv1 lv k (.int x)) st n h) : AW K Q cs sl pc lv (.int x :: st) n h := by
  obtain ⟨p, l, e, R, s, m, args, below, meth, c, D, B, ac⟩ := K
  obtain ⟨hx, hb, hml, hown, hr, hnm, hlk, hRm, hE⟩ := hk
  subst hp
  intro H locs ls hh hS hl
  subst hml
  exact lv_istore hx hb hd hl.pairs hn rfl (fun ls' hl' => kk H locs ls' hh hS (LV.st1 hl'))
theorem aw_lstore_n (hk : OK K y0 cc nL rt rm) {j : Fin 4} {x : Int64} (hd : decode cc pc = .ok (.lstore_n j, 1)) (hp : pc + 1 = pc2) (hn : (j : Nat) + 1 < nL) (kk : AW K Q cs sl pc2 (sv2 lv (j : Nat) (.long x)) st n h) : AW K Q cs sl pc lv (.long x :: st) n h := by
  obtain ⟨p, l, e, R, s, m, args, below, meth, c, D, B, ac⟩ := K
  obtain ⟨hx, hb, hml, hown, hr, hnm, hlk, hRm, hE⟩ := hk
  subst hp
  intro H locs ls hh hS hl
  subst hml
  exact lv_lstore_n hx hb hd rfl hl.pairs hn rfl (fun ls' hl' => kk H locs ls' hh hS (LV.st2 hl'))
theorem aw_lstore (hk : OK K y0 cc nL rt rm) {k : Nat} {x : Int64} (hd : decode cc pc = .ok (.lstore k, 2)) (hp : pc + 2 = pc2) (hn : k + 1 < nL) (kk : AW K Q cs sl pc2 (sv2 lv k (.long x)) st n h) : AW K Q cs sl pc lv (.long x :: st) n h := by
  obtain ⟨p, l, e, R, s, m, args, below, meth, c, D, B, ac⟩ := K
  obtain ⟨hx, hb, hml, hown, hr, hnm, hlk, hRm, hE⟩ := hk
  subst hp
  intro H locs ls hh hS hl
  subst hml
  exact lv_lstore hx hb hd hl.pairs hn rfl (fun ls' hl' => kk H locs ls' hh hS (LV.st2 hl'))
theorem aw_astore_n (hk : OK K y0 cc nL rt rm) {j : Fin 4} {x : Nat} (hd : decode cc pc = .ok (.astore_n j, 1)) (hp : pc + 1 = pc2) (hn : (j : Nat) < nL) (kk : AW K Q cs sl pc2 (sv1 lv (j : Nat) (.ref x)) st n h) : AW K Q cs sl pc lv (.ref x :: st) n h := by
  obtain ⟨p, l, e, R, s, m, args, below, meth, c, D, B, ac⟩ := K
  obtain ⟨hx, hb, hml, hown, hr, hnm, hlk, hRm, hE⟩ := hk
  subst hp
  intro H locs ls hh hS hl
  subst hml
  exact lv_astore_n hx hb hd rfl hl.pairs hn rfl (fun ls' hl' => kk H locs ls' hh hS (LV.st1 hl'))
theorem aw_astore (hk : OK K y0 cc nL rt rm) {k : Nat} {x : Nat} (hd : decode cc pc = .ok (.astore k, 2)) (hp : pc + 2 = pc2) (hn : k < nL) (kk : AW K Q cs sl pc2 (sv1 lv k (.ref x)) st n h) : AW K Q cs sl pc lv (.ref x :: st) n h := by
  obtain ⟨p, l, e, R, s, m, args, below, meth, c, D, B, ac⟩ := K
  obtain ⟨hx, hb, hml, hown, hr, hnm, hlk, hRm, hE⟩ := hk
  subst hp
  intro H locs ls hh hS hl
  subst hml
  exact lv_astore hx hb hd hl.pairs hn rfl (fun ls' hl' => kk H locs ls' hh hS (LV.st1 hl'))
theorem aw_astore_nN (hk : OK K y0 cc nL rt rm) {j : Fin 4} (hd : decode cc pc = .ok (.astore_n j, 1)) (hp : pc + 1 = pc2) (hn : (j : Nat) < nL) (kk : AW K Q cs sl pc2 (sv1 lv (j : Nat) .null) st n h) : AW K Q cs sl pc lv (.null :: st) n h := by
  obtain ⟨p, l, e, R, s, m, args, below, meth, c, D, B, ac⟩ := K
  obtain ⟨hx, hb, hml, hown, hr, hnm, hlk, hRm, hE⟩ := hk
  subst hp
  intro H locs ls hh hS hl
  subst hml
  exact lv_astore_nN hx hb hd rfl hl.pairs hn rfl (fun ls' hl' => kk H locs ls' hh hS (LV.st1 (v := .null) hl'))
theorem aw_astoreN (hk : OK K y0 cc nL rt rm) {k : Nat} (hd : decode cc pc = .ok (.astore k, 2)) (hp : pc + 2 = pc2) (hn : k < nL) (kk : AW K Q cs sl pc2 (sv1 lv k .null) st n h) : AW K Q cs sl pc lv (.null :: st) n h := by
  obtain ⟨p, l, e, R, s, m, args, below, meth, c, D, B, ac⟩ := K
  obtain ⟨hx, hb, hml, hown, hr, hnm, hlk, hRm, hE⟩ := hk
  subst hp
  intro H locs ls hh hS hl
  subst hml
  exact lv_astoreN hx hb hd hl.pairs hn rfl (fun ls' hl' => kk H locs ls' hh hS (LV.st1 (v := .null) hl'))
theorem aw_iinc (hk : OK K y0 cc nL rt rm) {k : Nat} {i : Int} {x v : Int32} (hd : decode cc pc = .ok (.iinc k i, 3)) (hp : pc + 3 = pc2) (hx0 : lv[k]? = some (some (.int x))) (hv : x + Int32.ofInt i = v) (hn : k < nL) (kk : AW K Q cs sl pc2 (sv1 lv k (.int v)) st n h) : AW K Q cs sl pc lv st n h := by
  obtain ⟨p, l, e, R, s, m, args, below, meth, c, D, B, ac⟩ := K
  obtain ⟨hx, hb, hml, hown, hr, hnm, hlk, hRm, hE⟩ := hk
  subst hp
  intro H locs ls hh hS hl
  subst hml
  obtain ⟨j, hj⟩ := List.getElem?_of_mem (prs_mem (B := B) hx0)
  exact lv_iinc hx hb hd hl.pairs hj hv hn rfl (fun ls' hl' => kk H locs ls' hh hS (LV.st1 (v := .int v) hl'))
theorem aw_if_eq (hk : OK K y0 cc nL rt rm) {x : Int32} {off : Int} {tgt : Nat} (hd : decode cc pc = .ok (.ifCond .eq off, 3)) (ht : (pc : Int) + off = (tgt : Int)) (hp : pc + 3 = pc2) (kt : x = 0 → AW K Q cs sl tgt lv st n h) (kf : ¬ (x = 0) → AW K Q cs sl pc2 lv st n h) : AW K Q cs sl pc lv (.int x :: st) n h := by
  obtain ⟨p, l, e, R, s, m, args, below, meth, c, D, B, ac⟩ := K
  obtain ⟨hx, hb, hml, hown, hr, hnm, hlk, hRm, hE⟩ := hk
  subst hp
  intro H locs ls hh hS hl
  exact lv_if_eq hx hb hd ht (fun q => kt q H locs ls hh hS hl) (fun q => kf q H locs ls hh hS hl)
theorem aw_if_ne (hk : OK K y0 cc nL rt rm) {x : Int32} {off : Int} {tgt : Nat} (hd : decode cc pc = .ok (.ifCond .ne off, 3)) (ht : (pc : Int) + off = (tgt : Int)) (hp : pc + 3 = pc2) (kt : ¬ x = 0 → AW K Q cs sl tgt lv st n h) (kf : x = 0 → AW K Q cs sl pc2 lv st n h) : AW K Q cs sl pc lv (.int x :: st) n h := by
  obtain ⟨p, l, e, R, s, m, args, below, meth, c, D, B, ac⟩ := K
  obtain ⟨hx, hb, hml, hown, hr, hnm, hlk, hRm, hE⟩ := hk
  subst hp
  intro H locs ls hh hS hl
  exact lv_if_ne hx hb hd ht (fun q => kt q H locs ls hh hS hl) (fun q => kf q H locs ls hh hS hl)
theorem aw_if_lt (hk : OK K y0 cc nL rt rm) {x : Int32} {off : Int} {tgt : Nat} (hd : decode cc pc = .ok (.ifCond .lt off, 3)) (ht : (pc : Int) + off = (tgt : Int)) (hp : pc + 3 = pc2) (kt : x < 0 → AW K Q cs sl tgt lv st n h) (kf : ¬ (x < 0) → AW K Q cs sl pc2 lv st n h) : AW K Q cs sl pc lv (.int x :: st) n h := by
  obtain ⟨p, l, e, R, s, m, args, below, meth, c, D, B, ac⟩ := K
  obtain ⟨hx, hb, hml, hown, hr, hnm, hlk, hRm, hE⟩ := hk
  subst hp
  intro H locs ls hh hS hl
  exact lv_if_lt hx hb hd ht (fun q => kt q H locs ls hh hS hl) (fun q => kf q H locs ls hh hS hl)
theorem aw_if_ge (hk : OK K y0 cc nL rt rm) {x : Int32} {off : Int} {tgt : Nat} (hd : decode cc pc = .ok (.ifCond .ge off, 3)) (ht : (pc : Int) + off = (tgt : Int)) (hp : pc + 3 = pc2) (kt : 0 ≤ x → AW K Q cs sl tgt lv st n h) (kf : ¬ (0 ≤ x) → AW K Q cs sl pc2 lv st n h) : AW K Q cs sl pc lv (.int x :: st) n h := by
  obtain ⟨p, l, e, R, s, m, args, below, meth, c, D, B, ac⟩ := K
  obtain ⟨hx, hb, hml, hown, hr, hnm, hlk, hRm, hE⟩ := hk
  subst hp
  intro H locs ls hh hS hl
  exact lv_if_ge hx hb hd ht (fun q => kt q H locs ls hh hS hl) (fun q => kf q H locs ls hh hS hl)
theorem aw_if_gt (hk : OK K y0 cc nL rt rm) {x : Int32} {off : Int} {tgt : Nat} (hd : decode cc pc = .ok (.ifCond .gt off, 3)) (ht : (pc : Int) + off = (tgt : Int)) (hp : pc + 3 = pc2) (kt : 0 < x → AW K Q cs sl tgt lv st n h) (kf : ¬ (0 < x) → AW K Q cs sl pc2 lv st n h) : AW K Q cs sl pc lv (.int x :: st) n h := by
  obtain ⟨p, l, e, R, s, m, args, below, meth, c, D, B, ac⟩ := K
  obtain ⟨hx, hb, hml, hown, hr, hnm, hlk, hRm, hE⟩ := hk
  subst hp
  intro H locs ls hh hS hl
  exact lv_if_gt hx hb hd ht (fun q => kt q H locs ls hh hS hl) (fun q => kf q H locs ls hh hS hl)
theorem aw_if_le (hk : OK K y0 cc nL rt rm) {x : Int32} {off : Int} {tgt : Nat} (hd : decode cc pc = .ok (.ifCond .le off, 3)) (ht : (pc : Int) + off = (tgt : Int)) (hp : pc + 3 = pc2) (kt : x ≤ 0 → AW K Q cs sl tgt lv st n h) (kf : ¬ (x ≤ 0) → AW K Q cs sl pc2 lv st n h) : AW K Q cs sl pc lv (.int x :: st) n h := by
  obtain ⟨p, l, e, R, s, m, args, below, meth, c, D, B, ac⟩ := K
  obtain ⟨hx, hb, hml, hown, hr, hnm, hlk, hRm, hE⟩ := hk
  subst hp
  intro H locs ls hh hS hl
  exact lv_if_le hx hb hd ht (fun q => kt q H locs ls hh hS hl) (fun q => kf q H locs ls hh hS hl)
theorem aw_icmp_eq (hk : OK K y0 cc nL rt rm) {x y : Int32} {off : Int} {tgt : Nat} (hd : decode cc pc = .ok (.if_icmp .eq off, 3)) (ht : (pc : Int) + off = (tgt : Int)) (hp : pc + 3 = pc2) (kt : x = y → AW K Q cs sl tgt lv st n h) (kf : ¬ (x = y) → AW K Q cs sl pc2 lv st n h) : AW K Q cs sl pc lv (.int y :: .int x :: st) n h := by
  obtain ⟨p, l, e, R, s, m, args, below, meth, c, D, B, ac⟩ := K
  obtain ⟨hx, hb, hml, hown, hr, hnm, hlk, hRm, hE⟩ := hk
  subst hp
  intro H locs ls hh hS hl
  exact lv_icmp_eq hx hb hd ht (fun q => kt q H locs ls hh hS hl) (fun q => kf q H locs ls hh hS hl)
theorem aw_icmp_ne (hk : OK K y0 cc nL rt rm) {x y : Int32} {off : Int} {tgt : Nat} (hd : decode cc pc = .ok (.if_icmp .ne off, 3)) (ht : (pc : Int) + off = (tgt : Int)) (hp : pc + 3 = pc2) (kt : ¬ x = y → AW K Q cs sl tgt lv st n h) (kf : x = y → AW K Q cs sl pc2 lv st n h) : AW K Q cs sl pc lv (.int y :: .int x :: st) n h := by
  obtain ⟨p, l, e, R, s, m, args, below, meth, c, D, B, ac⟩ := K
  obtain ⟨hx, hb, hml, hown, hr, hnm, hlk, hRm, hE⟩ := hk
  subst hp
  intro H locs ls hh hS hl
  exact lv_icmp_ne hx hb hd ht (fun q => kt q H locs ls hh hS hl) (fun q => kf q H locs ls hh hS hl)
theorem aw_icmp_lt (hk : OK K y0 cc nL rt rm) {x y : Int32} {off : Int} {tgt : Nat} (hd : decode cc pc = .ok (.if_icmp .lt off, 3)) (ht : (pc : Int) + off = (tgt : Int)) (hp : pc + 3 = pc2) (kt : x < y → AW K Q cs sl tgt lv st n h) (kf : ¬ (x < y) → AW K Q cs sl pc2 lv st n h) : AW K Q cs sl pc lv (.int y :: .int x :: st) n h := by
  obtain ⟨p, l, e, R, s, m, args, below, meth, c, D, B, ac⟩ := K
  obtain ⟨hx, hb, hml, hown, hr, hnm, hlk, hRm, hE⟩ := hk
  subst hp
  intro H locs ls hh hS hl
  exact lv_icmp_lt hx hb hd ht (fun q => kt q H locs ls hh hS hl) (fun q => kf q H locs ls hh hS hl)
theorem aw_icmp_ge (hk : OK K y0 cc nL rt rm) {x y : Int32} {off : Int} {tgt : Nat} (hd : decode cc pc = .ok (.if_icmp .ge off, 3)) (ht : (pc : Int) + off = (tgt : Int)) (hp : pc + 3 = pc2) (kt : y ≤ x → AW K Q cs sl tgt lv st n h) (kf : ¬ (y ≤ x) → AW K Q cs sl pc2 lv st n h) : AW K Q cs sl pc lv (.int y :: .int x :: st) n h := by
  obtain ⟨p, l, e, R, s, m, args, below, meth, c, D, B, ac⟩ := K
  obtain ⟨hx, hb, hml, hown, hr, hnm, hlk, hRm, hE⟩ := hk
  subst hp
  intro H locs ls hh hS hl
  exact lv_icmp_ge hx hb hd ht (fun q => kt q H locs ls hh hS hl) (fun q => kf q H locs ls hh hS hl)
theorem aw_icmp_gt (hk : OK K y0 cc nL rt rm) {x y : Int32} {off : Int} {tgt : Nat} (hd : decode cc pc = .ok (.if_icmp .gt off, 3)) (ht : (pc : Int) + off = (tgt : Int)) (hp : pc + 3 = pc2) (kt : y < x → AW K Q cs sl tgt lv st n h) (kf : ¬ (y < x) → AW K Q cs sl pc2 lv st n h) : AW K Q cs sl pc lv (.int y :: .int x :: st) n h := by
  obtain ⟨p, l, e, R, s, m, args, below, meth, c, D, B, ac⟩ := K
  obtain ⟨hx, hb, hml, hown, hr, hnm, hlk, hRm, hE⟩ := hk
  subst hp
  intro H locs ls hh hS hl
  exact lv_icmp_gt hx hb hd ht (fun q => kt q H locs ls hh hS hl) (fun q => kf q H locs ls hh hS hl)
theorem aw_icmp_le (hk : OK K y0 cc nL rt rm) {x y : Int32} {off : Int} {tgt : Nat} (hd : decode cc pc = .ok (.if_icmp .le off, 3)) (ht : (pc : Int) + off = (tgt : Int)) (hp : pc + 3 = pc2) (kt : x ≤ y → AW K Q cs sl tgt lv st n h) (kf : ¬ (x ≤ y) → AW K Q cs sl pc2 lv st n h) : AW K Q cs sl pc lv (.int y :: .int x :: st) n h := by
  obtain ⟨p, l, e, R, s, m, args, below, meth, c, D, B, ac⟩ := K
  obtain ⟨hx, hb, hml, hown, hr, hnm, hlk, hRm, hE⟩ := hk
  subst hp
  intro H locs ls hh hS hl
  exact lv_icmp_le hx hb hd ht (fun q => kt q H locs ls hh hS hl) (fun q => kf q H locs ls hh hS hl)
theorem aw_goto (hk : OK K y0 cc nL rt rm) {off : Int} {tgt : Nat} (hd : decode cc pc = .ok (.goto off, 3)) (ht : (pc : Int) + off = (tgt : Int)) (kk : AW K Q cs sl tgt lv st n h) : AW K Q cs sl pc lv st n h := by
  obtain ⟨p, l, e, R, s, m, args, below, meth, c, D, B, ac⟩ := K
  obtain ⟨hx, hb, hml, hown, hr, hnm, hlk, hRm, hE⟩ := hk
  intro H locs ls hh hS hl
  exact lv_goto hx hb hd ht (kk H locs ls hh hS hl)
theorem aw_ifnull_r (hk : OK K y0 cc nL rt rm) {x : Nat} {off : Int} (hd : decode cc pc = .ok (.ifnull off, 3)) (hp : pc + 3 = pc2) (kk : AW K Q cs sl pc2 lv st n h) : AW K Q cs sl pc lv (.ref x :: st) n h := by
  obtain ⟨p, l, e, R, s, m, args, below, meth, c, D, B, ac⟩ := K
  obtain ⟨hx, hb, hml, hown, hr, hnm, hlk, hRm, hE⟩ := hk
  subst hp
  intro H locs ls hh hS hl
  exact lv_ifnull hx hb hd (kk H locs ls hh hS hl)
theorem aw_ifnull_n (hk : OK K y0 cc nL rt rm) {off : Int} {tgt : Nat} (hd : decode cc pc = .ok (.ifnull off, 3)) (ht : (pc : Int) + off = (tgt : Int)) (kk : AW K Q cs sl tgt lv st n h) : AW K Q cs sl pc lv (.null :: st) n h := by
  obtain ⟨p, l, e, R, s, m, args, below, meth, c, D, B, ac⟩ := K
  obtain ⟨hx, hb, hml, hown, hr, hnm, hlk, hRm, hE⟩ := hk
  intro H locs ls hh hS hl
  exact lv_ifnullN hx hb hd ht (kk H locs ls hh hS hl)
theorem aw_ifnonnull_r (hk : OK K y0 cc nL rt rm) {x : Nat} {off : Int} {tgt : Nat} (hd : decode cc pc = .ok (.ifnonnull off, 3)) (ht : (pc : Int) + off = (tgt : Int)) (kk : AW K Q cs sl tgt lv st n h) : AW K Q cs sl pc lv (.ref x :: st) n h := by
  obtain ⟨p, l, e, R, s, m, args, below, meth, c, D, B, ac⟩ := K
  obtain ⟨hx, hb, hml, hown, hr, hnm, hlk, hRm, hE⟩ := hk
  intro H locs ls hh hS hl
  exact lv_ifnonnull hx hb hd ht (kk H locs ls hh hS hl)
theorem aw_ifnonnull_n (hk : OK K y0 cc nL rt rm) {off : Int} (hd : decode cc pc = .ok (.ifnonnull off, 3)) (hp : pc + 3 = pc2) (kk : AW K Q cs sl pc2 lv st n h) : AW K Q cs sl pc lv (.null :: st) n h := by
  obtain ⟨p, l, e, R, s, m, args, below, meth, c, D, B, ac⟩ := K
  obtain ⟨hx, hb, hml, hown, hr, hnm, hlk, hRm, hE⟩ := hk
  subst hp
  intro H locs ls hh hS hl
  exact lv_ifnonnullN hx hb hd (kk H locs ls hh hS hl)
theorem aw_tableIn (hk : OK K y0 cc nL rt rm) {dflt lo hi : Int} {offs : Array Int} {len : Nat} {x : Int32} {off : Int} {tgt : Nat} (hd : decode cc pc = .ok (.tableswitch dflt lo hi offs, len)) (h1 : ¬ x.toInt < lo) (h2 : ¬ hi < x.toInt) (ho : offs[(x.toInt - lo).toNat]? = some off) (ht : (pc : Int) + off = (tgt : Int)) (kk : AW K Q cs sl tgt lv st n h) : AW K Q cs sl pc lv (.int x :: st) n h := by
  obtain ⟨p, l, e, R, s, m, args, below, meth, c, D, B, ac⟩ := K
  obtain ⟨hx, hb, hml, hown, hr, hnm, hlk, hRm, hE⟩ := hk
  intro H locs ls hh hS hl
  exact lv_tableIn hx hb hd h1 h2 ho ht (kk H locs ls hh hS hl)
theorem aw_tableOut (hk : OK K y0 cc nL rt rm) {dflt lo hi : Int} {offs : Array Int} {len : Nat} {x : Int32} {tgt : Nat} (hd : decode cc pc = .ok (.tableswitch dflt lo hi offs, len)) (h0 : x.toInt < lo ∨ hi < x.toInt) (ht : (pc : Int) + dflt = (tgt : Int)) (kk : AW K Q cs sl tgt lv st n h) : AW K Q cs sl pc lv (.int x :: st) n h := by
  obtain ⟨p, l, e, R, s, m, args, below, meth, c, D, B, ac⟩ := K
  obtain ⟨hx, hb, hml, hown, hr, hnm, hlk, hRm, hE⟩ := hk
  intro H locs ls hh hS hl
  exact lv_tableOut hx hb hd h0 ht (kk H locs ls hh hS hl)
theorem aw_sub {lv2 : List (Option Value)} (hs : ∀ (i : Nat) (v : Value), lv2[i]? = some (some v) → lv[i]? = some (some v)) (kk : AW K Q cs sl pc lv2 st n h) : AW K Q cs sl pc lv st n h := by
  obtain ⟨p, l, e, R, s, m, args, below, meth, c, D, B, ac⟩ := K
  intro H locs ls hh hS hl
  exact kk H locs ls hh hS ⟨hl.1, hl.2.1, fun i v hi => hl.2.2 i v (hs i v hi)⟩
theorem aw_widen {cs2 sl2 : Nat} (h1 : cs ≤ cs2) (h2 : sl ≤ sl2) (kk : AW K Q cs2 sl2 pc lv st n h) : AW K Q cs sl pc lv st n h := by
  obtain ⟨p, l, e, R, s, m, args, below, meth, c, D, B, ac⟩ := K
  intro H locs ls hh hS hl
  exact W.widen h1 h2 (kk H locs ls hh hS hl)
theorem aw_iret {v : Int32} (hk : OK K y0 cc nL (some .int) rm) (hd : decode cc pc = .ok (.ireturn, 1)) (h1 : cs ≤ rm.cells) (h2 : sl ≤ rm.slots) (hq : Q (some (.int v)) n h) : AW K Q cs sl pc lv [.int v] n h := by
  obtain ⟨p, l, e, R, s, m, args, below, meth, c, D, B, ac⟩ := K
  obtain ⟨hx, hb, hml, hown, hr, hnm, hlk, hRm, hE⟩ := hk
  intro H locs ls hh hS hl
  subst hRm
  refine W.widen h1 h2 ?_
  exact W.iret hx hb hr  (fun t ht hW => ⟨⟨some (.int v), n, h, rfl, hq, by rw [ht]; exact hh⟩, hS.F ht⟩) hS.2.2 hd hlk
theorem aw_zret {v : Int32} (hz : v = 0 ∨ v = 1) (hk : OK K y0 cc nL (some .boolean) rm) (hd : decode cc pc = .ok (.ireturn, 1)) (h1 : cs ≤ rm.cells) (h2 : sl ≤ rm.slots) (hq : Q (some (.int v)) n h) : AW K Q cs sl pc lv [.int v] n h := by
  obtain ⟨p, l, e, R, s, m, args, below, meth, c, D, B, ac⟩ := K
  obtain ⟨hx, hb, hml, hown, hr, hnm, hlk, hRm, hE⟩ := hk
  intro H locs ls hh hS hl
  subst hRm
  refine W.widen h1 h2 ?_
  exact W.zret hx hb hr (by rcases hz with rfl | rfl <;> rfl) (fun t ht hW => ⟨⟨some (.int v), n, h, rfl, hq, by rw [ht]; exact hh⟩, hS.F ht⟩) hS.2.2 hd hlk
theorem aw_lret {v : Int64} (hk : OK K y0 cc nL (some .long) rm) (hd : decode cc pc = .ok (.lreturn, 1)) (h1 : cs ≤ rm.cells) (h2 : sl ≤ rm.slots) (hq : Q (some (.long v)) n h) : AW K Q cs sl pc lv [.long v] n h := by
  obtain ⟨p, l, e, R, s, m, args, below, meth, c, D, B, ac⟩ := K
  obtain ⟨hx, hb, hml, hown, hr, hnm, hlk, hRm, hE⟩ := hk
  intro H locs ls hh hS hl
  subst hRm
  refine W.widen h1 h2 ?_
  exact W.lret hx hb hr  (fun t ht hW => ⟨⟨some (.long v), n, h, rfl, hq, by rw [ht]; exact hh⟩, hS.F ht⟩) hS.2.2 hd hlk
theorem aw_vret  (hk : OK K y0 cc nL none rm) (hd : decode cc pc = .ok (.return_, 1)) (h1 : cs ≤ rm.cells) (h2 : sl ≤ rm.slots) (hq : Q (none) n h) : AW K Q cs sl pc lv [] n h := by
  obtain ⟨p, l, e, R, s, m, args, below, meth, c, D, B, ac⟩ := K
  obtain ⟨hx, hb, hml, hown, hr, hnm, hlk, hRm, hE⟩ := hk
  intro H locs ls hh hS hl
  subst hRm
  refine W.widen h1 h2 ?_
  exact W.vret hx hb hr  (fun t ht hW => ⟨⟨none, n, h, rfl, hq, by rw [ht]; exact hh⟩, hS.F ht⟩) hS.2.2 hd hlk
theorem aw_aret {oc : String} {v : Nat} (hk : OK K y0 cc nL (some (.object oc)) rm) (hd : decode cc pc = .ok (.areturn, 1)) (h1 : cs ≤ rm.cells) (h2 : sl ≤ rm.slots) (hq : Q (some (.ref v)) n h) : AW K Q cs sl pc lv [.ref v] n h := by
  obtain ⟨p, l, e, R, s, m, args, below, meth, c, D, B, ac⟩ := K
  obtain ⟨hx, hb, hml, hown, hr, hnm, hlk, hRm, hE⟩ := hk
  intro H locs ls hh hS hl
  subst hRm
  refine W.widen h1 h2 ?_
  exact W.aret hx hb hr (Or.inl ⟨_, rfl⟩) (Or.inr ⟨_, rfl⟩) (fun t ht hW => ⟨⟨some (.ref v), n, h, rfl, hq, by rw [ht]; exact hh⟩, hS.F ht⟩) hS.2.2 hd hlk
theorem aw_aretN {oc : String} (hk : OK K y0 cc nL (some (.object oc)) rm) (hd : decode cc pc = .ok (.areturn, 1)) (h1 : cs ≤ rm.cells) (h2 : sl ≤ rm.slots) (hq : Q (some .null) n h) : AW K Q cs sl pc lv [.null] n h := by
  obtain ⟨p, l, e, R, s, m, args, below, meth, c, D, B, ac⟩ := K
  obtain ⟨hx, hb, hml, hown, hr, hnm, hlk, hRm, hE⟩ := hk
  intro H locs ls hh hS hl
  subst hRm
  refine W.widen h1 h2 ?_
  exact W.aret hx hb hr (Or.inl ⟨_, rfl⟩) (Or.inl rfl) (fun t ht hW => ⟨⟨some .null, n, h, rfl, hq, by rw [ht]; exact hh⟩, hS.F ht⟩) hS.2.2 hd hlk
end AWR
end
section
/-- what the rows need of a class: its number, its words, its fields' types, their names apart -/
def CK (ci : Nat) (C : String) (T : u_T) (N : Nat) (ty : Nat → FieldType) : Prop := vwCl[ci]? = some (C, T, N) ∧ (∀ w ∈ u_ws C T N, w ∈ w_tbl) ∧ (∀ k, k < N → parseFieldDescriptor (T k).2.2.1 = some (ty k)) ∧ ∀ a, a < N → ∀ b, b < N → a ≠ b → (T a).2.1 ≠ (T b).2.1
theorem vpV_tv (B : Nat) (fs : List Value) (j : Nat) : vp_V (fs.map (tv B)) j = tv B (vp_V fs j) := by
  unfold vp_V
  rw [List.getD_eq_getElem?_getD, List.getD_eq_getElem?_getD, List.getElem?_map]
  cases fs[j]? <;> rfl
theorem ta_i (B n : Nat) (f : Nat → Int32) : ta B (n, .inl f) = (n, .inl f) := rfl
theorem tv_rf (B : Nat) (o : Option Nat) : tv B (va_rf o) = va_rf (o.map (fun a => B + a)) := by cases o <;> rfl
section AWH
variable {K : CX} {Q : QT} {cs sl pc pc2 n : Nat} {lv : List (Option Value)} {st : List Value} {h : HP} {y0 : MethodName} {cc : ByteArray} {nL : Nat} {rt : Option FieldType} {rm : Room}
theorem aw_get (hk : OK K y0 cc nL rt rm) {ci a ix : Nat} {C : String} {T : u_T} {N : Nat} {ty : Nat → FieldType} (hc : CK ci C T N ty) (k : Nat) (hd : decode cc pc = .ok (.getfield ix, 3)) (hp : pc + 3 = pc2) (hlink : Cond.fieldLink y0.cls ix (T k).1 (T k).2.1 (T k).2.2.1 ∈ w_tbl) (hN : k < N) {fs : List Value} (ha : h a = some (.inr (ci, fs))) {v : Value} (hv : fs[k]? = some v) (kk : AW K Q cs sl pc2 lv (v :: st) n h) : AW K Q cs sl pc lv (.ref a :: st) n h := by
  obtain ⟨p, l, e, R, s, m, args, below, meth, c, D, B, ac⟩ := K
  obtain ⟨hx, hb, hml, hown, hr, hnm, hlk, hRm, hE⟩ := hk
  subst hp
  intro H locs ls hh hS hl
  exact va_get (D := D) (ci := ci) hx hb (hE.1 args) hc.2.1 hown hE.2.1 (hh.sing ha) 0 rfl hc.1 k hN (hE.1 args _ hlink) (fun _ h9 => h9) (vpV_map B fs k v hv) hd (kk H locs ls hh hS hl)
theorem aw_put (hk : OK K y0 cc nL rt rm) {ci a ix : Nat} {C : String} {T : u_T} {N : Nat} {ty : Nat → FieldType} (hc : CK ci C T N ty) (k : Nat) (hd : decode cc pc = .ok (.putfield ix, 3)) (hp : pc + 3 = pc2) (hlink : Cond.fieldLink y0.cls ix (T k).1 (T k).2.1 (T k).2.2.1 ∈ w_tbl) (hN : k < N) (hfin : (T k).2.2.2 = false) {fs : List Value} (ha : h a = some (.inr (ci, fs))) {v : Value} (hnar : ∀ B, narrow (ty k) (tv B v) = tv B v) (hfit : ∀ B, fits (ty k) (tv B v) = true) (hlen : k < fs.length) (kk : AW K Q cs sl pc2 lv st n (hset h a (.inr (ci, fs.set k v)))) : AW K Q cs sl pc lv (v :: .ref a :: st) n h := by
  obtain ⟨p, l, e, R, s, m, args, below, meth, c, D, B, ac⟩ := K
  obtain ⟨hx, hb, hml, hown, hr, hnm, hlk, hRm, hE⟩ := hk
  subst hp
  intro H locs ls hh hS hl
  have hts := hE.1 args
  have hK := hE.2.1
  have hap := va_apart (own := y0.cls) hts hc.2.1 ty hc.2.2.1 hc.2.2.2 hK hc.1
  obtain ⟨r0, h1, cell, q1, q2, q3, q4⟩ := (hh.2 a _ ha).2
  have hr0 : r0 = (C, T, N) := Option.some.inj (h1.symm.trans hc.1)
  subst hr0
  obtain ⟨hSl, hfc, kC, hkC, hkind⟩ := hK.1 ci _ hc.1
  obtain ⟨cf, kf, fi, f, hi, hsl⟩ := hSl k hN
  have hlay := hts _ (hc.2.1 _ (u_in_lay hN))
  unfold u_lay at hlay
  rw [if_neg (by rw [hfin]; decide)] at hlay
  have hst := (u_facts hfc hkC (u_lays hts hc.2.1 hN) hi).1
  have h6 := u_store hfc hkC hkind hlay hi (hc.2.2.1 k hN) (hnar B) (hfit B)
  refine W.putK hx hb (f := f) ⟨hown, hts _ hlink, ⟨_, _, _, hi⟩, hst⟩ (by rw [q2]; exact h6) q1 q3 (by rw [hsl]; exact k2_hasslot (q4 k hN)) rfl rfl hd fun H1 e1 e2 e3 => ?_
  rw [hsl] at e1 ⊢
  refine kk H1 _ ls (hh.set ha e2 ?_ e3) (hS.put e2 e3 (Nat.le_add_right B a)) hl
  refine ⟨_, hc.1, t_OB.to (V := updV (vp_V (fs.map (tv B))) k (tv B v)) ⟨_, e1, q2, q3, t_set q4 hap hN (tv B v)⟩ (fun j _ => ?_)⟩
  rw [vp_updV_set (by rw [List.length_map]; exact hlen), ← List.map_set]
theorem aw_putF (hk : OK K y0 cc nL rt rm) {ci a ix : Nat} {C : String} {T : u_T} {N : Nat} {ty : Nat → FieldType} (hc : CK ci C T N ty) (k : Nat) (hd : decode cc pc = .ok (.putfield ix, 3)) (hp : pc + 3 = pc2) (hlink : Cond.fieldLink y0.cls ix (T k).1 (T k).2.1 (T k).2.2.1 ∈ w_tbl) (hN : k < N) (hfin : (T k).2.2.2 = true) (hini : y0.name = "<init>") (hdecl : (T k).1 = y0.cls) {fs : List Value} (ha : h a = some (.inr (ci, fs))) {v : Value} (hnar : ∀ B, narrow (ty k) (tv B v) = tv B v) (hfit : ∀ B, fits (ty k) (tv B v) = true) (hlen : k < fs.length) (kk : AW K Q cs sl pc2 lv st n (hset h a (.inr (ci, fs.set k v)))) : AW K Q cs sl pc lv (v :: .ref a :: st) n h := by
  obtain ⟨p, l, e, R, s, m, args, below, meth, c, D, B, ac⟩ := K
  obtain ⟨hx, hb, hml, hown, hr, hnm, hlk, hRm, hE⟩ := hk
  subst hp
  intro H locs ls hh hS hl
  have hts := hE.1 args
  have hK := hE.2.1
  have hap := va_apart (own := y0.cls) hts hc.2.1 ty hc.2.2.1 hc.2.2.2 hK hc.1
  obtain ⟨r0, h1, cell, q1, q2, q3, q4⟩ := (hh.2 a _ ha).2
  have hr0 : r0 = (C, T, N) := Option.some.inj (h1.symm.trans hc.1)
  subst hr0
  obtain ⟨hSl, hfc, kC, hkC, hkind⟩ := hK.1 ci _ hc.1
  obtain ⟨cf, kf, fi, f, hi, hsl⟩ := hSl k hN
  have hlay := hts _ (hc.2.1 _ (u_in_lay hN))
  unfold u_lay at hlay
  rw [if_pos hfin] at hlay
  have hst := (u_facts hfc hkC (u_lays hts hc.2.1 hN) hi).1
  have hcf : m.cls = cf := by
    obtain ⟨_, _, c', _, _, _, -, -, hf', -, -, -, hown2, -⟩ := Cond.laysFinal_spec hlay
    have e1 : c' = cf := by have := hi.symm.trans hf'; simp at this; exact this.1.symm
    rw [hdecl] at hown2
    rw [← e1]; exact Option.some.inj (hown.symm.trans hown2)
  have h6 := u_fits hfc hkC hkind (Or.inr hlay) hi (hc.2.2.1 k hN) (hnar B) (hfit B)
  refine W.putFinK hx hb hown (hts _ hlink) hi hst hcf (hnm.trans hini) (by rw [q2]; exact h6) q1 q3 (by rw [hsl]; exact k2_hasslot (q4 k hN)) rfl rfl hd fun H1 e1 e2 e3 => ?_
  rw [hsl] at e1 ⊢
  refine kk H1 _ ls (hh.set ha e2 ?_ e3) (hS.put e2 e3 (Nat.le_add_right B a)) hl
  refine ⟨_, hc.1, t_OB.to (V := updV (vp_V (fs.map (tv B))) k (tv B v)) ⟨_, e1, q2, q3, t_set q4 hap hN (tv B v)⟩ (fun j _ => ?_)⟩
  rw [vp_updV_set (by rw [List.length_map]; exact hlen), ← List.map_set]
theorem aw_iald (hk : OK K y0 cc nL rt rm) {a N : Nat} {f : Nat → Int32} {i : Int32} (hd : decode cc pc = .ok (.iaload, 1)) (hp : pc + 1 = pc2) (ha : h a = some (.inl (0, N, .inl f))) (hin : vp_in i N) (kk : AW K Q cs sl pc2 lv (.int (f i.toNatClampNeg) :: st) n h) : AW K Q cs sl pc lv (.int i :: .ref a :: st) n h := by
  obtain ⟨p, l, e, R, s, m, args, below, meth, c, D, B, ac⟩ := K
  obtain ⟨hx, hb, hml, hown, hr, hnm, hlk, hRm, hE⟩ := hk
  subst hp
  intro H locs ls hh hS hl
  exact va_iald hx hb hE.2.1 (hh.sing ha) 0 0 rfl rfl hin hd (kk H locs ls hh hS hl)
theorem aw_ialdN (hk : OK K y0 cc nL rt rm) {a N j : Nat} {f : Nat → Int32} (hd : decode cc pc = .ok (.iaload, 1)) (hp : pc + 1 = pc2) (ha : h a = some (.inl (0, N, .inl f))) (hj : j < N) (hN : N < 2 ^ 31) (kk : AW K Q cs sl pc2 lv (.int (f j) :: st) n h) : AW K Q cs sl pc lv (.int (nI j) :: .ref a :: st) n h := by
  refine aw_iald hk hd hp ha (vp_in_nI hj hN) ?_
  rw [nI_clamp (by omega)]
  exact kk
theorem aw_zald (hk : OK K y0 cc nL rt rm) {a N : Nat} {f : Nat → Int32} {i : Int32} (hd : decode cc pc = .ok (.baload, 1)) (hp : pc + 1 = pc2) (ha : h a = some (.inl (2, N, .inl f))) (hin : vp_in i N) (kk : AW K Q cs sl pc2 lv (.int (f i.toNatClampNeg) :: st) n h) : AW K Q cs sl pc lv (.int i :: .ref a :: st) n h := by
  obtain ⟨p, l, e, R, s, m, args, below, meth, c, D, B, ac⟩ := K
  obtain ⟨hx, hb, hml, hown, hr, hnm, hlk, hRm, hE⟩ := hk
  subst hp
  intro H locs ls hh hS hl
  exact va_zald hx hb hE.2.1 (hh.sing ha) 0 2 rfl rfl hin hd (kk H locs ls hh hS hl)
theorem aw_zaldN (hk : OK K y0 cc nL rt rm) {a N j : Nat} {f : Nat → Int32} (hd : decode cc pc = .ok (.baload, 1)) (hp : pc + 1 = pc2) (ha : h a = some (.inl (2, N, .inl f))) (hj : j < N) (hN : N < 2 ^ 31) (kk : AW K Q cs sl pc2 lv (.int (f j) :: st) n h) : AW K Q cs sl pc lv (.int (nI j) :: .ref a :: st) n h := by
  refine aw_zald hk hd hp ha (vp_in_nI hj hN) ?_
  rw [nI_clamp (by omega)]
  exact kk
theorem aw_lald (hk : OK K y0 cc nL rt rm) {a N : Nat} {f : Nat → Int64} {i : Int32} (hd : decode cc pc = .ok (.laload, 1)) (hp : pc + 1 = pc2) (ha : h a = some (.inl (1, N, .inr (.inl f)))) (hin : vp_in i N) (kk : AW K Q cs sl pc2 lv (.long (f i.toNatClampNeg) :: st) n h) : AW K Q cs sl pc lv (.int i :: .ref a :: st) n h := by
  obtain ⟨p, l, e, R, s, m, args, below, meth, c, D, B, ac⟩ := K
  obtain ⟨hx, hb, hml, hown, hr, hnm, hlk, hRm, hE⟩ := hk
  subst hp
  intro H locs ls hh hS hl
  exact va_lald hx hb hE.2.1 (hh.sing ha) 0 1 rfl rfl hin hd (kk H locs ls hh hS hl)
theorem aw_laldN (hk : OK K y0 cc nL rt rm) {a N j : Nat} {f : Nat → Int64} (hd : decode cc pc = .ok (.laload, 1)) (hp : pc + 1 = pc2) (ha : h a = some (.inl (1, N, .inr (.inl f)))) (hj : j < N) (hN : N < 2 ^ 31) (kk : AW K Q cs sl pc2 lv (.long (f j) :: st) n h) : AW K Q cs sl pc lv (.int (nI j) :: .ref a :: st) n h := by
  refine aw_lald hk hd hp ha (vp_in_nI hj hN) ?_
  rw [nI_clamp (by omega)]
  exact kk
def isRA (t : Nat) : Prop := t = 3 ∨ t = 4 ∨ t = 5 ∨ t = 6
theorem aw_aald (hk : OK K y0 cc nL rt rm) {a N t : Nat} {f : Nat → Option Nat} {i : Int32} (ht : isRA t) (hd : decode cc pc = .ok (.aaload, 1)) (hp : pc + 1 = pc2) (ha : h a = some (.inl (t, N, .inr (.inr (.inr (.inr f)))))) (hin : vp_in i N) (kk : AW K Q cs sl pc2 lv (va_rf (f i.toNatClampNeg) :: st) n h) : AW K Q cs sl pc lv (.int i :: .ref a :: st) n h := by
  obtain ⟨p, l, e, R, s, m, args, below, meth, c, D, B, ac⟩ := K
  obtain ⟨hx, hb, hml, hown, hr, hnm, hlk, hRm, hE⟩ := hk
  subst hp
  intro H locs ls hh hS hl
  have k2 := kk H locs ls hh hS hl
  rw [List.map_cons, tv_rf] at k2
  rcases ht with rfl | rfl | rfl | rfl
  · exact va_aldq hx hb hE.2.1 (hh.sing ha) 0 3 rfl rfl hin hd k2
  · exact va_aldq hx hb hE.2.1 (hh.sing ha) 0 4 rfl rfl hin hd k2
  · exact va_aldq hx hb hE.2.1 (hh.sing ha) 0 5 rfl rfl hin hd k2
  · exact va_aldq hx hb hE.2.1 (hh.sing ha) 0 6 rfl rfl hin hd k2
theorem aw_aaldN (hk : OK K y0 cc nL rt rm) {a N t j : Nat} {f : Nat → Option Nat} (ht : isRA t) (hd : decode cc pc = .ok (.aaload, 1)) (hp : pc + 1 = pc2) (ha : h a = some (.inl (t, N, .inr (.inr (.inr (.inr f)))))) (hj : j < N) (hN : N < 2 ^ 31) {v : Value} (hv : va_rf (f j) = v) (kk : AW K Q cs sl pc2 lv (v :: st) n h) : AW K Q cs sl pc lv (.int (nI j) :: .ref a :: st) n h := by
  refine aw_aald hk ht hd hp ha (vp_in_nI hj hN) ?_
  rw [nI_clamp (by omega), hv]
  exact kk
theorem aw_iast (hk : OK K y0 cc nL rt rm) {a N : Nat} {f : Nat → Int32} {i : Int32} {x : Int32} (hd : decode cc pc = .ok (.iastore, 1)) (hp : pc + 1 = pc2) (ha : h a = some (.inl (0, N, .inl f))) (hin : vp_in i N) (kk : AW K Q cs sl pc2 lv st n (hset h a (.inl (0, N, .inl (upd f i.toNatClampNeg x))))) : AW K Q cs sl pc lv (.int x :: .int i :: .ref a :: st) n h := by
  obtain ⟨p, l, e, R, s, m, args, below, meth, c, D, B, ac⟩ := K
  obtain ⟨hx, hb, hml, hown, hr, hnm, hlk, hRm, hE⟩ := hk
  subst hp
  intro H locs ls hh hS hl
  refine W.iast hx hb (hh.2 a _ ha).2 ((hE.2.1.2 0 _ rfl).1 N (fun j => .int (f j))) (fun q => by cases q) (by show ¬ (i < 0 ∨ (arrV _ _ _).slots.size ≤ _); rw [arrV_size]; exact hin) rfl rfl hd fun H1 e1 z oq => ?_
  refine kk H1 _ ls (hh.set ha z ?_ oq) (hS.put z oq (Nat.le_add_right B a)) hl
  show H1[B + a]? = some (vp_cell (ac 0) (ta B (N, .inl (upd f i.toNatClampNeg x))))
  rw [e1]
  show some ((vp_cell (ac 0) (N, .inl f)).setSlot _ _) = some (vp_cell (ac 0) (N, .inl (upd f i.toNatClampNeg x)))
  rw [vp_cell_i, vp_cell_i, arrV_store]
  congr 2
  funext q
  by_cases hq : q = i.toNatClampNeg
  · subst hq
    simp [updV, upd]
    try rfl
  · simp [updV, upd, hq]
theorem aw_iastN (hk : OK K y0 cc nL rt rm) {a N j : Nat} {f : Nat → Int32} {x : Int32} (hd : decode cc pc = .ok (.iastore, 1)) (hp : pc + 1 = pc2) (ha : h a = some (.inl (0, N, .inl f))) (hj : j < N) (hN : N < 2 ^ 31) (kk : AW K Q cs sl pc2 lv st n (hset h a (.inl (0, N, .inl (upd f j x))))) : AW K Q cs sl pc lv (.int x :: .int (nI j) :: .ref a :: st) n h := by
  refine aw_iast hk hd hp ha (vp_in_nI hj hN) ?_
  rw [nI_clamp (by omega)]
  exact kk
theorem aw_zast (hk : OK K y0 cc nL rt rm) {a N : Nat} {f : Nat → Int32} {i : Int32} {x : Int32} (hd : decode cc pc = .ok (.bastore, 1)) (hp : pc + 1 = pc2) (ha : h a = some (.inl (2, N, .inl f))) (hin : vp_in i N) (kk : AW K Q cs sl pc2 lv st n (hset h a (.inl (2, N, .inl (upd f i.toNatClampNeg (vp_nar .boolean x)))))) : AW K Q cs sl pc lv (.int x :: .int i :: .ref a :: st) n h := by
  obtain ⟨p, l, e, R, s, m, args, below, meth, c, D, B, ac⟩ := K
  obtain ⟨hx, hb, hml, hown, hr, hnm, hlk, hRm, hE⟩ := hk
  subst hp
  intro H locs ls hh hS hl
  refine W.zast hx hb (hh.2 a _ ha).2 ((hE.2.1.2 2 _ rfl).1 N (fun j => .int (f j))) (fun q => by cases q) (by show ¬ (i < 0 ∨ (arrV _ _ _).slots.size ≤ _); rw [arrV_size]; exact hin) rfl rfl hd fun H1 e1 z oq => ?_
  refine kk H1 _ ls (hh.set ha z ?_ oq) (hS.put z oq (Nat.le_add_right B a)) hl
  show H1[B + a]? = some (vp_cell (ac 2) (ta B (N, .inl (upd f i.toNatClampNeg (vp_nar .boolean x)))))
  rw [e1]
  show some ((vp_cell (ac 2) (N, .inl f)).setSlot _ _) = some (vp_cell (ac 2) (N, .inl (upd f i.toNatClampNeg (vp_nar .boolean x))))
  rw [vp_cell_i, vp_cell_i, arrV_store]
  congr 2
  funext q
  by_cases hq : q = i.toNatClampNeg
  · subst hq
    simp [updV, upd, vp_nar]
    try rfl
  · simp [updV, upd, vp_nar, hq]
theorem aw_zastN (hk : OK K y0 cc nL rt rm) {a N j : Nat} {f : Nat → Int32} {x : Int32} (hd : decode cc pc = .ok (.bastore, 1)) (hp : pc + 1 = pc2) (ha : h a = some (.inl (2, N, .inl f))) (hj : j < N) (hN : N < 2 ^ 31) (kk : AW K Q cs sl pc2 lv st n (hset h a (.inl (2, N, .inl (upd f j (vp_nar .boolean x)))))) : AW K Q cs sl pc lv (.int x :: .int (nI j) :: .ref a :: st) n h := by
  refine aw_zast hk hd hp ha (vp_in_nI hj hN) ?_
  rw [nI_clamp (by omega)]
  exact kk
theorem aw_last (hk : OK K y0 cc nL rt rm) {a N : Nat} {f : Nat → Int64} {i : Int32} {x : Int64} (hd : decode cc pc = .ok (.lastore, 1)) (hp : pc + 1 = pc2) (ha : h a = some (.inl (1, N, .inr (.inl f)))) (hin : vp_in i N) (kk : AW K Q cs sl pc2 lv st n (hset h a (.inl (1, N, .inr (.inl (vp_updL f i.toNatClampNeg x)))))) : AW K Q cs sl pc lv (.long x :: .int i :: .ref a :: st) n h := by
  obtain ⟨p, l, e, R, s, m, args, below, meth, c, D, B, ac⟩ := K
  obtain ⟨hx, hb, hml, hown, hr, hnm, hlk, hRm, hE⟩ := hk
  subst hp
  intro H locs ls hh hS hl
  refine W.last hx hb (hh.2 a _ ha).2 ((hE.2.1.2 1 _ rfl).1 N (fun j => .long (f j))) (fun q => by cases q) (by show ¬ (i < 0 ∨ (arrV _ _ _).slots.size ≤ _); rw [arrV_size]; exact hin) rfl rfl hd fun H1 e1 z oq => ?_
  refine kk H1 _ ls (hh.set ha z ?_ oq) (hS.put z oq (Nat.le_add_right B a)) hl
  show H1[B + a]? = some (vp_cell (ac 1) (ta B (N, .inr (.inl (vp_updL f i.toNatClampNeg x)))))
  rw [e1]
  show some ((vp_cell (ac 1) (N, .inr (.inl f))).setSlot _ _) = some (vp_cell (ac 1) (N, .inr (.inl (vp_updL f i.toNatClampNeg x))))
  rw [vp_cell_l, vp_cell_l, arrV_store]
  congr 2
  funext q
  by_cases hq : q = i.toNatClampNeg
  · subst hq
    simp [updV, vp_updL]
    try rfl
  · simp [updV, vp_updL, hq]
theorem aw_lastN (hk : OK K y0 cc nL rt rm) {a N j : Nat} {f : Nat → Int64} {x : Int64} (hd : decode cc pc = .ok (.lastore, 1)) (hp : pc + 1 = pc2) (ha : h a = some (.inl (1, N, .inr (.inl f)))) (hj : j < N) (hN : N < 2 ^ 31) (kk : AW K Q cs sl pc2 lv st n (hset h a (.inl (1, N, .inr (.inl (vp_updL f j x)))))) : AW K Q cs sl pc lv (.long x :: .int (nI j) :: .ref a :: st) n h := by
  refine aw_last hk hd hp ha (vp_in_nI hj hN) ?_
  rw [nI_clamp (by omega)]
  exact kk
def raC (t : Nat) : Nat := match t with
  | 3 => 1
  | 4 => 4
  | 5 => 3
  | _ => 0
theorem aw_aast (hk : OK K y0 cc nL rt rm) {a N t v : Nat} {f : Nat → Option Nat} {i : Int32} (ht : isRA t) (hd : decode cc pc = .ok (.aastore, 1)) (hp : pc + 1 = pc2) (ha : h a = some (.inl (t, N, .inr (.inr (.inr (.inr f)))))) {vs : List Value} (hv : h v = some (.inr (raC t, vs))) (hin : vp_in i N) (kk : AW K Q cs sl pc2 lv st n (hset h a (.inl (t, N, .inr (.inr (.inr (.inr (va_up f i.toNatClampNeg (some v)))))))) ) : AW K Q cs sl pc lv (.ref v :: .int i :: .ref a :: st) n h := by
  obtain ⟨p, l, e, R, s, m, args, below, meth, c, D, B, ac⟩ := K
  obtain ⟨hx, hb, hml, hown, hr, hnm, hlk, hRm, hE⟩ := hk
  subst hp
  intro H locs ls hh hS hl
  have hlt : i.toNatClampNeg < N := Nat.not_le.mp fun q => hin (Or.inr q)
  have h0 : ¬ i < 0 := fun q => hin (Or.inl q)
  obtain ⟨r', hr', cellV, g1, g2, g3, -⟩ := (hh.2 v _ hv).2
  have hA : ∃ r : vw_C, vwCl[raC t]? = some r ∧ (tyl ac)[t]? = some (ac t, .object r.1) := by
    rcases ht with rfl | rfl | rfl | rfl <;> exact ⟨_, rfl, rfl⟩
  obtain ⟨r, hc, htt⟩ := hA
  have hcls := (hE.2.1.1 (raC t) r hc).2
  obtain ⟨kA, comp, k1, k2, k3, -⟩ := (hE.2.1.2 t _ htt).2
  have hcomp : comp = D.1 (raC t) := Option.some.inj (k3.symm.trans hcls.1)
  subst hcomp
  obtain ⟨kC, hkC, -⟩ := hcls.2
  refine W.aast hx hb (hh.2 a _ ha).2 (fun q h => by cases h) (fun h => by cases h) k1 k2 rfl hkC ⟨h0, by show _ < (arrV _ _ _).slots.size; rw [arrV_size]; exact hlt⟩ g1 (fun q h => by rw [g3] at h; cases h) (by rw [g2]; exact hkC) (by rw [g2]; exact va_assign hcls) rfl rfl hd fun H1 e1 z oq => ?_
  refine kk H1 _ ls (hh.set ha z ?_ oq) (hS.put z oq (Nat.le_add_right B a)) hl
  show H1[B + a]? = some (vp_cell (ac t) (ta B (N, .inr (.inr (.inr (.inr (va_up f i.toNatClampNeg (some v))))))))
  rw [e1]
  show some ((vp_cell (ac t) (N, .inr (.inr (.inr (.inr (fun j => (f j).map (fun a => B + a))))))).setSlot _ _) = some (vp_cell (ac t) (N, .inr (.inr (.inr (.inr (fun j => (va_up f i.toNatClampNeg (some v) j).map (fun a => B + a)))))))
  rw [vp_cell_q, vp_cell_q, arrV_store]
  congr 2
  funext q
  by_cases hq : q = i.toNatClampNeg
  · subst hq
    simp [updV, va_up, va_rf]
  · simp [updV, va_up, hq]
theorem aw_aastN (hk : OK K y0 cc nL rt rm) {a N t v j : Nat} {f : Nat → Option Nat} (ht : isRA t) (hd : decode cc pc = .ok (.aastore, 1)) (hp : pc + 1 = pc2) (ha : h a = some (.inl (t, N, .inr (.inr (.inr (.inr f)))))) {vs : List Value} (hv : h v = some (.inr (raC t, vs))) (hj : j < N) (hN : N < 2 ^ 31) (kk : AW K Q cs sl pc2 lv st n (hset h a (.inl (t, N, .inr (.inr (.inr (.inr (va_up f j (some v)))))))) ) : AW K Q cs sl pc lv (.ref v :: .int (nI j) :: .ref a :: st) n h := by
  refine aw_aast hk ht hd hp ha hv (vp_in_nI hj hN) ?_
  rw [nI_clamp (by omega)]
  exact kk
theorem aw_alen (hk : OK K y0 cc nL rt rm) {a N : Nat} {f : Nat → Int32} (hd : decode cc pc = .ok (.arraylength, 1)) (hp : pc + 1 = pc2) (ha : h a = some (.inl (0, N, .inl f))) (kk : AW K Q cs sl pc2 lv (.int (nI N) :: st) n h) : AW K Q cs sl pc lv (.ref a :: st) n h := by
  obtain ⟨p, l, e, R, s, m, args, below, meth, c, D, B, ac⟩ := K
  obtain ⟨hx, hb, hml, hown, hr, hnm, hlk, hRm, hE⟩ := hk
  subst hp
  intro H locs ls hh hS hl
  exact va_alen hx hb hE.2.1 (hh.sing ha) 0 0 rfl rfl rfl hd (kk H locs ls hh hS hl)
theorem aw_new (hk : OK K y0 cc nL rt rm) {ci ix : Nat} {C : String} {T : u_T} {N : Nat} {ty : Nat → FieldType} (hc : CK ci C T N ty) (fs : List Value) (hd : decode cc pc = .ok (.new ix, 3)) (hp : pc + 3 = pc2) (hl1 : Cond.classLink y0.cls ix C ∈ w_tbl) (hl2 : Cond.instantiable C N ∈ w_tbl) (hl3 : Cond.initialized C ∈ w_tbl) (hfs : ∀ j, j < N → defaultValue (ty j) = vp_V fs j) (hnr : ∀ B j, tv B (vp_V fs j) = vp_V fs j) (hcs : cs + 1 ≤ rm.cells) (hsl : sl + N ≤ rm.slots) (kk : AW K Q (cs + 1) (sl + N) pc2 lv (.ref n :: st) (n + 1) (hset h n (.inr (ci, fs)))) : AW K Q cs sl pc lv st n h := by
  obtain ⟨p, l, e, R, s, m, args, below, meth, c, D, B, ac⟩ := K
  obtain ⟨hx, hb, hml, hown, hr, hnm, hlk, hRm, hE⟩ := hk
  subst hp
  intro H locs ls hh hS hl
  subst hRm
  have hts := hE.1 args
  have hKn := hE.2.1.1 ci _ hc.1
  refine W.newcK hx hb hown (hts _ hl1) (hts _ hl2) (hts _ hl3) rfl hd hcs hsl hKn.2.1 hh.1 fun H1 kC hkC e1 z1 o1 => ?_
  refine kk H1 locs ls (hh.push (by rw [z1, hh.1]) ⟨_, hc.1, (u_born ty hts hc.2.1 hKn hkC e1 hc.2.2.1).to (fun j hj => ?_)⟩ (fun q hq => o1 q (by rw [← hh.1]; exact hq))) ⟨Nat.le_trans hS.1 (by rw [z1, hh.1]; omega), fun x h1 h2 => (o1 x (by have := hS.1; rw [hh.1] at this; omega)).trans (hS.2.1 x h1 h2), hS.2.2⟩ hl
  rw [hfs j hj, vpV_tv, hnr]
theorem aw_newi (hk : OK K y0 cc nL rt rm) {N : Nat} (hd : decode cc pc = .ok (.newarray .int, 2)) (hp : pc + 2 = pc2) (hcl : Cond.arrayClass .int ∈ w_tbl) (hN : N < 4096) (hcs : cs + 1 ≤ rm.cells) (hsl : sl + N ≤ rm.slots) (kk : AW K Q (cs + 1) (sl + N) pc2 lv (.ref n :: st) (n + 1) (hset h n (.inl (0, N, .inl (fun _ => 0))))) : AW K Q cs sl pc lv (.int (nI N) :: st) n h := by
  obtain ⟨p, l, e, R, s, m, args, below, meth, c, D, B, ac⟩ := K
  obtain ⟨hx, hb, hml, hown, hr, hnm, hlk, hRm, hE⟩ := hk
  subst hp
  intro H locs ls hh hS hl
  subst hRm
  have hts := hE.1 args
  refine va_newaK (atype := .int) hx hb (hts _ hcl) rfl hd rfl (nI_pos (by omega)) (nI_clamp (by omega)) (by show N * componentBytes .int ≤ _; simp [componentBytes]; omega) hcs hsl hh.1 fun H1 cA e1 z1 o1 hAr hNm => ?_
  have hcA : cA = ac 0 := by
    have := (hE.2.1.2 0 _ rfl).2
    exact Option.some.inj (hNm.symm.trans this)
  subst hcA
  exact kk H1 locs ls (hh.push (by rw [z1, hh.1]) e1 (fun q hq => o1 q (by rw [← hh.1]; exact hq))) ⟨Nat.le_trans hS.1 (by rw [z1, hh.1]; omega), fun x h1 h2 => (o1 x (by have := hS.1; rw [hh.1] at this; omega)).trans (hS.2.1 x h1 h2), hS.2.2⟩ hl
theorem aw_newl (hk : OK K y0 cc nL rt rm) {N : Nat} (hd : decode cc pc = .ok (.newarray .long, 2)) (hp : pc + 2 = pc2) (hcl : Cond.arrayClass .long ∈ w_tbl) (hN : N < 4096) (hcs : cs + 1 ≤ rm.cells) (hsl : sl + N ≤ rm.slots) (kk : AW K Q (cs + 1) (sl + N) pc2 lv (.ref n :: st) (n + 1) (hset h n (.inl (1, N, .inr (.inl (fun _ => 0)))))) : AW K Q cs sl pc lv (.int (nI N) :: st) n h := by
  obtain ⟨p, l, e, R, s, m, args, below, meth, c, D, B, ac⟩ := K
  obtain ⟨hx, hb, hml, hown, hr, hnm, hlk, hRm, hE⟩ := hk
  subst hp
  intro H locs ls hh hS hl
  subst hRm
  have hts := hE.1 args
  refine va_newaK (atype := .long) hx hb (hts _ hcl) rfl hd rfl (nI_pos (by omega)) (nI_clamp (by omega)) (by show N * componentBytes .long ≤ _; simp [componentBytes]; omega) hcs hsl hh.1 fun H1 cA e1 z1 o1 hAr hNm => ?_
  have hcA : cA = ac 1 := by
    have := (hE.2.1.2 1 _ rfl).2
    exact Option.some.inj (hNm.symm.trans this)
  subst hcA
  exact kk H1 locs ls (hh.push (by rw [z1, hh.1]) e1 (fun q hq => o1 q (by rw [← hh.1]; exact hq))) ⟨Nat.le_trans hS.1 (by rw [z1, hh.1]; omega), fun x h1 h2 => (o1 x (by have := hS.1; rw [hh.1] at this; omega)).trans (hS.2.1 x h1 h2), hS.2.2⟩ hl
theorem aw_newz (hk : OK K y0 cc nL rt rm) {N : Nat} (hd : decode cc pc = .ok (.newarray .boolean, 2)) (hp : pc + 2 = pc2) (hcl : Cond.arrayClass .boolean ∈ w_tbl) (hN : N < 4096) (hcs : cs + 1 ≤ rm.cells) (hsl : sl + N ≤ rm.slots) (kk : AW K Q (cs + 1) (sl + N) pc2 lv (.ref n :: st) (n + 1) (hset h n (.inl (2, N, .inl (fun _ => 0))))) : AW K Q cs sl pc lv (.int (nI N) :: st) n h := by
  obtain ⟨p, l, e, R, s, m, args, below, meth, c, D, B, ac⟩ := K
  obtain ⟨hx, hb, hml, hown, hr, hnm, hlk, hRm, hE⟩ := hk
  subst hp
  intro H locs ls hh hS hl
  subst hRm
  have hts := hE.1 args
  refine va_newaK (atype := .boolean) hx hb (hts _ hcl) rfl hd rfl (nI_pos (by omega)) (nI_clamp (by omega)) (by show N * componentBytes .boolean ≤ _; simp [componentBytes]; omega) hcs hsl hh.1 fun H1 cA e1 z1 o1 hAr hNm => ?_
  have hcA : cA = ac 2 := by
    have := (hE.2.1.2 2 _ rfl).2
    exact Option.some.inj (hNm.symm.trans this)
  subst hcA
  exact kk H1 locs ls (hh.push (by rw [z1, hh.1]) e1 (fun q hq => o1 q (by rw [← hh.1]; exact hq))) ⟨Nat.le_trans hS.1 (by rw [z1, hh.1]; omega), fun x h1 h2 => (o1 x (by have := hS.1; rw [hh.1] at this; omega)).trans (hS.2.1 x h1 h2), hS.2.2⟩ hl
theorem aw_newq (hk : OK K y0 cc nL rt rm) {N ix t : Nat} {C : String} (htt : ∀ ac, (tyl ac)[t]? = some (ac t, .object C)) (hd : decode cc pc = .ok (.anewarray ix, 3)) (hp : pc + 3 = pc2) (hl1 : Cond.classLink y0.cls ix C ∈ w_tbl) (hov : Cond.arrayOver (.object C) ∈ w_tbl) (hN : N < 4096) (hcs : cs + 1 ≤ rm.cells) (hsl : sl + N ≤ rm.slots) (kk : AW K Q (cs + 1) (sl + N) pc2 lv (.ref n :: st) (n + 1) (hset h n (.inl (t, N, .inr (.inr (.inr (.inr (fun _ => none)))))))) : AW K Q cs sl pc lv (.int (nI N) :: st) n h := by
  obtain ⟨p, l, e, R, s, m, args, below, meth, c, D, B, ac⟩ := K
  obtain ⟨hx, hb, hml, hown, hr, hnm, hlk, hRm, hE⟩ := hk
  subst hp
  intro H locs ls hh hS hl
  subst hRm
  have hts := hE.1 args
  have hcl0 : (nI N).toNatClampNeg = N := nI_clamp (by omega)
  refine W.anew hx hb hown (hts _ hl1) (hts _ hov) rfl hd rfl (nI_pos (by omega)) (by rw [hcl0]; omega) hcs (by rw [hcl0]; exact hsl) fun cA kA comp f1 f2 f3 f4 => ?_
  rw [hcl0]
  obtain ⟨kA', comp', g1, g2, g3, g4⟩ := (hE.2.1.2 t _ (htt ac)).2
  have hcA : cA = ac t := Option.some.inj (f1.symm.trans g4)
  subst hcA
  generalize hH1 : H.push ({ cls := ac t, slots := Array.replicate N .null, vm := .none } : Cell) = H1
  have z1 : H1.size = H.size + 1 := by rw [← hH1, Array.size_push]
  have e1 : H1[H.size]? = some (arrV (ac t) N (fun _ => .null)) := by rw [← hH1, Array.getElem?_push_size, ← arrV_new]
  have o1 : ∀ q : Nat, q < H.size → H1[q]? = H[q]? := fun q hq => by rw [← hH1, Array.getElem?_push, if_neg (Nat.ne_of_lt hq)]
  have k2 := kk H1 locs ls (hh.push z1 (by rw [hh.1] at e1; exact e1) o1) ⟨Nat.le_trans hS.1 (by rw [z1]; omega), fun x h1 h2 => (o1 x (Nat.lt_of_lt_of_le h1 hS.1)).trans (hS.2.1 x h1 h2), hS.2.2⟩ hl
  rw [hh.1]
  exact k2
theorem aw_objInit (hk : OK K y0 cc nL rt rm) {ix a : Nat} (hd : decode cc pc = .ok (.invokespecial ix, 3)) (hp : pc + 3 = pc2) (hl1 : Cond.methodLink y0.cls ix Lib.objectInit ∈ w_tbl) (hl2 : Cond.instanceMethod Lib.objectInit ∈ w_tbl) (hl3 : Cond.code Lib.objectInit ⟨#[0xb1]⟩ 1 none ∈ w_tbl) (hf : 1 ≤ rm.frames) (hlo : 12 ≤ rm.locals) (kk : AW K Q cs sl pc2 lv [] n h) : AW K Q cs sl pc lv [.ref a] n h := by
  obtain ⟨p, l, e, R, s, m, args, below, meth, c, D, B, ac⟩ := K
  obtain ⟨hx, hb, hml, hown, hr, hnm, hlk, hRm, hE⟩ := hk
  subst hp
  intro H locs ls hh hS hl
  subst hRm
  exact W.objInit hx hb hown (hE.1 args _ hl1) (hE.1 args _ hl2) (hE.1 args _ hl3) rfl hl.1 rfl hd hf (by show 2 * _ + 0 + 12 ≤ _; simpa [JFrame.monitorRoom] using hlo) (kk H locs ls hh hS hl)
theorem aw_rate (hk : OK K y0 cc nL rt rm) {ix j : Nat} {k : Fin 4} (hd : decode cc pc = .ok (.getstatic ix, 3)) (hd2 : decode cc (pc + 3) = .ok (.iload_n k, 1)) (hd3 : decode cc (pc + 3 + 1) = .ok (.iaload, 1)) (hp : pc + 3 + 1 + 1 = pc2) (hlink : Cond.fieldLink y0.cls ix "LandTaken" "MOST_RATE" "[I" ∈ w_tbl) (hv : lv[(k : Nat)]? = some (some (.int (nI j)))) (hj : j < 5) (kk : AW K Q cs sl pc2 lv (.int (xsR j) :: st) n h) : AW K Q cs sl pc lv st n h := by
  obtain ⟨p, l, e, R, s, m, args, below, meth, c, D, B, ac⟩ := K
  obtain ⟨hx, hb, hml, hown, hr, hnm, hlk, hRm, hE⟩ := hk
  subst hp
  intro H locs ls hh hS hl
  obtain ⟨b, hb1, hZ, hX⟩ := hE.2.2.2.1
  refine va_gets hx hb hZ hS hown (hE.1 args _ hlink) (fun _ h9 => h9) hd ?_
  refine lv_iload_n hx hb hd2 rfl (hl.2.2 _ _ hv) ?_
  refine va_sld hx hb hX (Nat.lt_of_lt_of_le hb1 hE.2.2.1) (by show ¬ B ≤ b; omega) hS (vp_in_nI hj (by decide)) hd3 ?_
  rw [nI_clamp (by omega)]
  exact kk H locs ls hh hS hl
theorem aw_stx (hk : OK K y0 cc nL rt rm) {ix j : Nat} {k : Fin 4} (hd : decode cc pc = .ok (.getstatic ix, 3)) (hd2 : decode cc (pc + 3) = .ok (.iload_n k, 1)) (hd3 : decode cc (pc + 3 + 1) = .ok (.iaload, 1)) (hp : pc + 3 + 1 + 1 = pc2) (hlink : Cond.fieldLinkNest y0.cls ix "LandTaken" "STEP_X" "[I" "LandTaken" ∈ w_tbl) (hv : lv[(k : Nat)]? = some (some (.int (nI j)))) (hj : j < 4) (kk : AW K Q cs sl pc2 lv (.int (xsX j) :: st) n h) : AW K Q cs sl pc lv st n h := by
  obtain ⟨p, l, e, R, s, m, args, below, meth, c, D, B, ac⟩ := K
  obtain ⟨hx, hb, hml, hown, hr, hnm, hlk, hRm, hE⟩ := hk
  subst hp
  intro H locs ls hh hS hl
  obtain ⟨b, hb1, hZ, hX⟩ := hE.2.2.2.2.1
  refine va_getsN hx hb hZ hS hown (hE.1 args _ hlink) (fun _ h9 => h9) hd ?_
  refine lv_iload_n hx hb hd2 rfl (hl.2.2 _ _ hv) ?_
  refine va_sld hx hb hX (Nat.lt_of_lt_of_le hb1 hE.2.2.1) (by show ¬ B ≤ b; omega) hS (vp_in_nI hj (by decide)) hd3 ?_
  rw [nI_clamp (by omega)]
  exact kk H locs ls hh hS hl
theorem aw_sty (hk : OK K y0 cc nL rt rm) {ix j : Nat} {k : Fin 4} (hd : decode cc pc = .ok (.getstatic ix, 3)) (hd2 : decode cc (pc + 3) = .ok (.iload_n k, 1)) (hd3 : decode cc (pc + 3 + 1) = .ok (.iaload, 1)) (hp : pc + 3 + 1 + 1 = pc2) (hlink : Cond.fieldLinkNest y0.cls ix "LandTaken" "STEP_Y" "[I" "LandTaken" ∈ w_tbl) (hv : lv[(k : Nat)]? = some (some (.int (nI j)))) (hj : j < 4) (kk : AW K Q cs sl pc2 lv (.int (xsY j) :: st) n h) : AW K Q cs sl pc lv st n h := by
  obtain ⟨p, l, e, R, s, m, args, below, meth, c, D, B, ac⟩ := K
  obtain ⟨hx, hb, hml, hown, hr, hnm, hlk, hRm, hE⟩ := hk
  subst hp
  intro H locs ls hh hS hl
  obtain ⟨b, hb1, hZ, hX⟩ := hE.2.2.2.2.2
  refine va_getsN hx hb hZ hS hown (hE.1 args _ hlink) (fun _ h9 => h9) hd ?_
  refine lv_iload_n hx hb hd2 rfl (hl.2.2 _ _ hv) ?_
  refine va_sld hx hb hX (Nat.lt_of_lt_of_le hb1 hE.2.2.1) (by show ¬ B ≤ b; omega) hS (vp_in_nI hj (by decide)) hd3 ?_
  rw [nI_clamp (by omega)]
  exact kk H locs ls hh hS hl
end AWH
/-- what a call needs of its callee, apart from the link -/
def CE (y : MethodName) (cc : ByteArray) (nL : Nat) (rt : Option FieldType) (na : Nat) : Prop := Cond.code y cc nL rt ∈ w_tbl ∧ Cond.initialized y.cls ∈ w_tbl ∧ (y.cls ≠ "java/lang/invoke/MethodHandle" ∧ y.cls ≠ "java/lang/invoke/VarHandle" ∧ (parseMethodDescriptor y.desc).map (fun d => d.parameters.length) = some na)
def fitR (rm2 rm : Room) (nL2 : Nat) : Prop := rm2.frames + 1 ≤ rm.frames ∧ 8 + (nL2 + 11) + rm2.locals ≤ rm.locals
theorem ce_ws {y : MethodName} {cc : ByteArray} {nL : Nat} {rt : Option FieldType} {na : Nat} (hc : CE y cc nL rt na) {s : State} (hE : TB s) : ∀ w ∈ [Cond.code y cc nL rt], ∀ (a' : Array Value) (U : State), s.WarmedH U.vm → w.before a' U = true := fun w hw a' U hW => TB.warm hW (hE #[]) a' w (by rw [List.mem_singleton.mp hw]; exact hc.1)
theorem ce_b {y : MethodName} {cc : ByteArray} {nL : Nat} {rt : Option FieldType} {na : Nat} (hc : CE y cc nL rt na) {s : State} (hE : TB s) {args : Array Value} {own : String} {ix : Nat} (hl : Cond.methodLink own ix y ∈ w_tbl) {rm rm2 : Room} (hf : fitR rm2 rm nL) : CallB rm s args own ix y cc nL rt [.code y cc nL rt] rm2 rm2.cells rm2.slots na := by
  refine ⟨rfl, rfl, hf.1, hf.2, ce_ws hc hE, List.mem_cons_self, hE args _ hc.1, hE args _ hc.2.1, ⟨hc.2.2.1, hc.2.2.2.1⟩, fun sig hg => ?_, hE args _ hl⟩
  have h2 := hc.2.2.2.2
  rw [hg] at h2
  exact (Option.some.inj h2).symm
theorem ce_n {y : MethodName} {cc : ByteArray} {nL : Nat} {rt : Option FieldType} {na : Nat} (hc : CE y cc nL rt na) {s : State} (hE : TB s) {args : Array Value} {own host : String} {ix : Nat} (hl : Cond.methodLinkNest own ix y host ∈ w_tbl) {rm rm2 : Room} (hf : fitR rm2 rm nL) : va_CN rm s args own ix y host cc nL rt [.code y cc nL rt] rm2 rm2.cells rm2.slots na := by
  refine ⟨⟨rfl, rfl, hf.1, hf.2, ce_ws hc hE, List.mem_cons_self⟩, hE args _ hc.1, hE args _ hc.2.1, ⟨hc.2.2.1, hc.2.2.2.1⟩, fun sig hg => ?_, hE args _ hl⟩
  have h2 := hc.2.2.2.2
  rw [hg] at h2
  exact (Option.some.inj h2).symm
theorem catL (B : Nat) : ∀ st : List Value, ((st.map (tv B)).map fun v => v.category).sum = (st.map fun v => v.category).sum := by
  intro st
  induction st with
  | nil => rfl
  | cons v st ih => simp only [List.map_cons, List.sum_cons, tv_cat, ih]
section AWC
variable {K : CX} {Q : QT} {cs sl pc pc2 n : Nat} {lv : List (Option Value)} {st : List Value} {h : HP} {y0 : MethodName} {cc : ByteArray} {nL : Nat} {rt : Option FieldType} {rm : Room}
/-- behind a call -/
theorem aw_back {p : Program} {l : Launch} {e : Env} {R : Room} {s : State} {m : MethodId} {args : Array Value} {below : List Frame} {meth : Method} {c : Code} {D : va_G} {B : Nat} {ac : Nat → ClassId} {H : Heap} {locs : List Loc} {ls : Array Slot} {g0 : List Value} {a : Array Value} {mc ms : Nat} (hS : va_S (fun q => B ≤ q) s.heap H locs) (hl : LV B c.maxLocals ls lv)
    (hrun : va_Run p l e R s m args below meth c H locs cs sl mc ms (F0 m pc ls g0) (st.map (tv B)) (QcA D B ac (fun r n2 h2 => AW (p, l, e, R, s, m, args, below, meth, c, D, B, ac) Q (cs + mc) (sl + ms) (pc + 3) lv (r.toList ++ st) n2 h2) a) (fun q => B ≤ q)) : W p l e R s m args below meth c H locs cs sl (MQ below (QcA D B ac Q) args s R.cells R.slots (fun q => B ≤ q)) (F0 m pc ls g0) := by
  intro T hT X
  obtain ⟨v, st0, t, T', L, h0, X', hL, e1, e2, ⟨⟨r, n2, h2, hv, hw, hr2⟩, hz, hkq⟩, stp⟩ := hrun T hT X
  rw [h0] at hz hkq
  have hS2 : va_S (fun q => B ≤ q) s.heap T'.heap (locs ++ L) := ⟨Nat.le_trans hS.1 (by rw [e1]; exact hz), fun q h1 h2 => by rw [e1, hkq q (Nat.lt_of_lt_of_le h1 hS.1) h2]; exact hS.2.1 q h1 h2, fun q hq => by
    rcases List.mem_append.mp hq with h | h
    · exact hS.2.2 q h
    · exact hL q h⟩
  obtain ⟨t2, a1, b1⟩ := hw T'.heap (locs ++ L) ls (by rw [e1]; exact hr2) hS2 hl T' rfl X'
  refine ⟨t2, stp t2 ?_, b1⟩
  have hv' : v = r.map (tv B) := by simpa using hv
  subst hv'
  have : (Option.map (tv B) r).toList ++ st.map (tv B) = (r.toList ++ st).map (tv B) := by cases r <;> simp
  rw [show ({ (F0 m pc ls g0) with pc := (F0 m pc ls g0).pc + 3, stack := (Option.map (tv B) r).toList ++ st.map (tv B) } : JFrame) = F0 m (pc + 3) ls ((r.toList ++ st).map (tv B)) by rw [← this]]
  exact a1
theorem aw_callV (hk : OK K y0 cc nL rt rm) {y : MethodName} {cc2 : ByteArray} {nL2 ix a ci na : Nat} {rt2 : Option FieldType} {rm2 : Room} (hc : CE y cc2 nL2 rt2 na) (hd : decode cc pc = .ok (.invokevirtual ix, 3)) (hp : pc + 3 = pc2) (hl1 : Cond.methodLink y0.cls ix y ∈ w_tbl) (hl2 : Cond.instanceMethod y ∈ w_tbl) (hl3 : Cond.selects y.cls y y ∈ w_tbl) (hf : fitR rm2 rm nL2) (As : List Value) (hna : As.length = na) (hcat : (st.map fun v => v.category).sum ≤ 8) (hcs : cs + rm2.cells ≤ rm.cells) (hsl : sl + rm2.slots ≤ rm.slots) {fs : List Value} (ha : h a = some (.inr (ci, fs))) {T : u_T} {N : Nat} (hci : vwCl[ci]? = some (y.cls, T, N)) (hC : Calls y cc2 nL2 rt2 rm2 (.ref a :: As) n h (fun r n2 h2 => AW K Q (cs + rm2.cells) (sl + rm2.slots) pc2 lv (r.toList ++ st) n2 h2)) {stk : List Value} (hstk : stk = As.reverse ++ .ref a :: st) : AW K Q cs sl pc lv stk n h := by
  obtain ⟨p, l, e, R, s, m, args, below, meth, c, D, B, ac⟩ := K
  obtain ⟨hx, hb, hml, hown, hr, hnm, hlk, hRm, hE⟩ := hk
  subst hp
  intro H locs ls hh hS hl
  subst hRm
  subst hstk
  refine aw_back (st := st) (mc := rm2.cells) (ms := rm2.slots) (a := (Value.ref (B + a) :: As.map (tv B)).toArray) hS hl ?_
  refine va_runV (As := As.map (tv B)) (rest := st.map (tv B)) (C := y.cls) ⟨hx, hb, rfl, hown, hE.1 args⟩ (hC l D B ac) ⟨ce_b hc hE.1 hl1 hf, hE.1 args _ hl2, hE.1 args _ hl3⟩ ⟨fun aa U g mk q => ⟨q.1, q.2.1, q.2.2.blind⟩, va_recv hE.2.1 (hh.sing ha) (ci := ci) (q0 := 0) hci rfl, fun U hU hW => ⟨rfl, by rw [hU]; exact hh, hE.to hW hU hS⟩⟩ rfl (by rw [List.length_map]; exact hna) hl.1 (by simp [tv]) (by rw [catL]; simpa [JFrame.monitorRoom] using hcat) hd ⟨hcs, hsl⟩
theorem aw_callS (hk : OK K y0 cc nL rt rm) {y : MethodName} {cc2 : ByteArray} {nL2 ix na : Nat} {rt2 : Option FieldType} {rm2 : Room} (hc : CE y cc2 nL2 rt2 na) (hd : decode cc pc = .ok (.invokestatic ix, 3)) (hp : pc + 3 = pc2) (hl1 : Cond.methodLink y0.cls ix y ∈ w_tbl) (hl2 : Cond.static y ∈ w_tbl) (hf : fitR rm2 rm nL2) (As : List Value) (hna : As.length = na) (hcat : (st.map fun v => v.category).sum ≤ 8) (hcs : cs + rm2.cells ≤ rm.cells) (hsl : sl + rm2.slots ≤ rm.slots) (hC : Calls y cc2 nL2 rt2 rm2 As n h (fun r n2 h2 => AW K Q (cs + rm2.cells) (sl + rm2.slots) pc2 lv (r.toList ++ st) n2 h2)) {stk : List Value} (hstk : stk = As.reverse ++ st) : AW K Q cs sl pc lv stk n h := by
  obtain ⟨p, l, e, R, s, m, args, below, meth, c, D, B, ac⟩ := K
  obtain ⟨hx, hb, hml, hown, hr, hnm, hlk, hRm, hE⟩ := hk
  subst hp
  intro H locs ls hh hS hl
  subst hRm
  subst hstk
  refine aw_back (st := st) (mc := rm2.cells) (ms := rm2.slots) (a := (As.map (tv B)).toArray) hS hl ?_
  refine va_runS (As := As.map (tv B)) (rest := st.map (tv B)) ⟨hx, hb, rfl, hown, hE.1 args⟩ (hC l D B ac) ⟨ce_b hc hE.1 hl1 hf, hE.1 args _ hl2⟩ ⟨fun aa U g mk q => ⟨q.1, q.2.1, q.2.2.blind⟩, fun U hU hW => ⟨rfl, by rw [hU]; exact hh, hE.to hW hU hS⟩⟩ rfl (by rw [List.length_map]; exact hna) hl.1 (by simp) (by rw [catL]; simpa [JFrame.monitorRoom] using hcat) hd ⟨hcs, hsl⟩
theorem aw_callI (hk : OK K y0 cc nL rt rm) {y : MethodName} {cc2 : ByteArray} {nL2 ix a na : Nat} {rm2 : Room} (hc : CE y cc2 nL2 none na) (hd : decode cc pc = .ok (.invokespecial ix, 3)) (hp : pc + 3 = pc2) (hl1 : Cond.methodLink y0.cls ix y ∈ w_tbl) (hl2 : Cond.instanceMethod y ∈ w_tbl) (hnm2 : y.name = "<init>") (hf : fitR rm2 rm nL2) (As : List Value) (hna : As.length = na) (hcat : (st.map fun v => v.category).sum ≤ 8) (hcs : cs + rm2.cells ≤ rm.cells) (hsl : sl + rm2.slots ≤ rm.slots) (hC : Calls y cc2 nL2 none rm2 (.ref a :: As) n h (fun r n2 h2 => AW K Q (cs + rm2.cells) (sl + rm2.slots) pc2 lv (r.toList ++ st) n2 h2)) {stk : List Value} (hstk : stk = As.reverse ++ .ref a :: st) : AW K Q cs sl pc lv stk n h := by
  obtain ⟨p, l, e, R, s, m, args, below, meth, c, D, B, ac⟩ := K
  obtain ⟨hx, hb, hml, hown, hr, hnm, hlk, hRm, hE⟩ := hk
  subst hp
  intro H locs ls hh hS hl
  subst hRm
  subst hstk
  refine aw_back (st := st) (mc := rm2.cells) (ms := rm2.slots) (a := (Value.ref (B + a) :: As.map (tv B)).toArray) hS hl ?_
  refine va_runI (As := As.map (tv B)) (rest := st.map (tv B)) ⟨hx, hb, rfl, hown, hE.1 args⟩ (hC l D B ac) ⟨ce_b hc hE.1 hl1 hf, hnm2, hE.1 args _ hl2⟩ ⟨fun aa U g mk q => ⟨q.1, q.2.1, q.2.2.blind⟩, fun U hU hW => ⟨rfl, by rw [hU]; exact hh, hE.to hW hU hS⟩⟩ rfl (by rw [List.length_map]; exact hna) hl.1 (by simp [tv]) (by rw [catL]; simpa [JFrame.monitorRoom] using hcat) hd ⟨hcs, hsl⟩
theorem aw_callIN (hk : OK K y0 cc nL rt rm) {y : MethodName} {cc2 : ByteArray} {nL2 ix a na : Nat} {rm2 : Room} {host : String} (hc : CE y cc2 nL2 none na) (hd : decode cc pc = .ok (.invokespecial ix, 3)) (hp : pc + 3 = pc2) (hl1 : Cond.methodLinkNest y0.cls ix y host ∈ w_tbl) (hl2 : Cond.instanceMethod y ∈ w_tbl) (hnm2 : y.name = "<init>") (hf : fitR rm2 rm nL2) (As : List Value) (hna : As.length = na) (hcat : (st.map fun v => v.category).sum ≤ 8) (hcs : cs + rm2.cells ≤ rm.cells) (hsl : sl + rm2.slots ≤ rm.slots) (hC : Calls y cc2 nL2 none rm2 (.ref a :: As) n h (fun r n2 h2 => AW K Q (cs + rm2.cells) (sl + rm2.slots) pc2 lv (r.toList ++ st) n2 h2)) {stk : List Value} (hstk : stk = As.reverse ++ .ref a :: st) : AW K Q cs sl pc lv stk n h := by
  obtain ⟨p, l, e, R, s, m, args, below, meth, c, D, B, ac⟩ := K
  obtain ⟨hx, hb, hml, hown, hr, hnm, hlk, hRm, hE⟩ := hk
  subst hp
  intro H locs ls hh hS hl
  subst hRm
  subst hstk
  refine aw_back (st := st) (mc := rm2.cells) (ms := rm2.slots) (a := (Value.ref (B + a) :: As.map (tv B)).toArray) hS hl ?_
  refine va_runIN (As := As.map (tv B)) (rest := st.map (tv B)) ⟨hx, hb, rfl, hown, hE.1 args⟩ (hC l D B ac) ⟨ce_n hc hE.1 hl1 hf, hnm2, hE.1 args _ hl2⟩ ⟨fun aa U g mk q => ⟨q.1, q.2.1, q.2.2.blind⟩, fun U hU hW => ⟨rfl, by rw [hU]; exact hh, hE.to hW hU hS⟩⟩ rfl (by rw [List.length_map]; exact hna) hl.1 (by simp [tv]) (by rw [catL]; simpa [JFrame.monitorRoom] using hcat) hd ⟨hcs, hsl⟩
end AWC
theorem Calls.of {y : MethodName} {cc : ByteArray} {nL : Nat} {rt : Option FieldType} {rm : Room} {av : List Value} {n : Nat} {h : HP} {Q : QT} (hy : plainName y.cls = true) (hav : (lg_sl av).length ≤ nL) (body : ∀ K : CX, OK K y cc nL rt rm → AW K Q 0 0 0 (padL nL (lvE av)) [] n h) : Calls y cc nL rt rm av n h Q := by
  intro l D B ac
  refine Met.ofW (cc := cc) (maxL := nL) (ret := rt) hy rfl ?_
  intro p e s m args below meth c s₁ X hml hv
  obtain ⟨rfl, hh, hE⟩ := hv
  have hOK : OK (p, l, e, rm, s, m, (av.map (tv B)).toArray, below, meth, c, D, B, ac) y cc nL rt rm := ⟨X.exec, X.bytes, hml, findClass_of_methodNamed X.named, X.returns, (name_of_methodNamed X.named X.method).1, X.notSynchronized, rfl, hE⟩
  have hlen : (lg_sl (av.map (tv B))).length ≤ nL := by
    have : ∀ l : List Value, (lg_sl (l.map (tv B))).length = (lg_sl l).length := by
      intro l
      induction l with
      | nil => rfl
      | cons v l ih =>
        have e1 : lg_sl ((v :: l).map (tv B)) = (if (tv B v).category = 2 then [Slot.val (tv B v), .second] else [.val (tv B v)]) ++ lg_sl (l.map (tv B)) := by simp [lg_sl]
        have e2 : lg_sl (v :: l) = (if v.category = 2 then [Slot.val v, .second] else [.val v]) ++ lg_sl l := by simp [lg_sl]
        rw [e1, e2, List.length_append, List.length_append, ih, tv_cat]
        split <;> rfl
    rw [this]; exact hav
  have hl := lv_entry (av.map (tv B)) (n := nL) hlen
  rw [lg_entry_eq]
  generalize (lg_sl (av.map (tv B)) ++ List.replicate (nL - (lg_sl (av.map (tv B))).length) Slot.unset).toArray = ls at hl ⊢
  have hLV : LV B c.maxLocals ls (padL nL (lvE av)) := ⟨by rw [hml]; exact hl.1, hl.2.1, fun i v hi => by
    have h1 := lvE_mem B av 0 i v (padL_get hi)
    rw [Nat.zero_add] at h1
    exact hl.2.2 _ h1⟩
  exact body _ hOK s.heap [] ls hh va_S.rf hLV
theorem Calls.to {y : MethodName} {cc : ByteArray} {nL : Nat} {rt : Option FieldType} {rm : Room} {av : List Value} {n n' : Nat} {h h' : HP} {Q : QT} (hn : n = n') (hh : h = h') (k : Calls y cc nL rt rm av n h Q) : Calls y cc nL rt rm av n' h' Q := by
  subst hn; subst hh; exact k
end
section
theorem w_t {w : Cond} (i : Nat) (h : tables_1[i]? = some w) (ho : okw w = true) : w ∈ w_tbl := w_in (List.mem_append_right _ (List.mem_of_getElem? h)) ho
theorem w_s {w : Cond} (i : Nat) (h : (k2_sels lw_privs)[i]? = some w) (ho : okw w = true) : w ∈ w_tbl := w_in (List.mem_append_left _ (List.mem_of_getElem? h)) ho
theorem w_all {ws : List Cond} (ps : List Nat) (hp : ws = ps.filterMap (fun i => tables_1[i]?)) (h : ws.all okw = true) : ∀ w ∈ ws, w ∈ w_tbl := by
  intro w hw
  have h1 := List.all_eq_true.mp h w hw
  rw [hp] at hw
  obtain ⟨i, -, hi⟩ := List.mem_filterMap.mp hw
  exact w_t i hi h1
theorem ini_L : Cond.initialized "LandTakenLaw" ∈ w_tbl := w_t 0 (by decide +kernel) rfl
theorem ini_X6 : Cond.initialized "LandTaken" ∈ w_tbl := w_t 1 (by decide +kernel) rfl
theorem ini_X2 : Cond.initialized "LandTaken$Land" ∈ w_tbl := w_t 2 (by decide +kernel) rfl
theorem ini_X5 : Cond.initialized "LandTaken$Split" ∈ w_tbl := w_t 3 (by decide +kernel) rfl
theorem ini_X1 : Cond.initialized "LandTaken$Field" ∈ w_tbl := w_t 4 (by decide +kernel) rfl
theorem ini_X4 : Cond.initialized "LandTaken$Prices" ∈ w_tbl := w_t 5 (by decide +kernel) rfl
theorem ini_X7 : Cond.initialized "LandTakenModel" ∈ w_tbl := w_t 6 (by decide +kernel) rfl
theorem ini_X3 : Cond.initialized "LandTaken$Order" ∈ w_tbl := w_t 7 (by decide +kernel) rfl
theorem ini_X0 : Cond.initialized "LandTaken$Case" ∈ w_tbl := w_t 8 (by decide +kernel) rfl
theorem ini_J9 : Cond.initialized "java/lang/Math" ∈ w_tbl := w_t 9 (by decide +kernel) rfl
theorem cl_L_7 : Cond.classLink "LandTakenLaw" 7 "LandTaken" ∈ w_tbl := w_t 10 (by decide +kernel) rfl
theorem in_X6 : Cond.instantiable "LandTaken" 11 ∈ w_tbl := w_t 11 (by decide +kernel) rfl
theorem ml_L_9 : Cond.methodLink "LandTakenLaw" 9 ⟨"LandTaken", "<init>", "()V"⟩ ∈ w_tbl := w_t 12 (by decide +kernel) rfl
theorem ml_X6_3 : Cond.methodLink "LandTaken" 3 ⟨"java/lang/Object", "<init>", "()V"⟩ ∈ w_tbl := w_t 15 (by decide +kernel) rfl
theorem cl_X6_9 : Cond.classLink "LandTaken" 9 "LandTaken$Land" ∈ w_tbl := w_t 18 (by decide +kernel) rfl
theorem in_X2 : Cond.instantiable "LandTaken$Land" 7 ∈ w_tbl := w_t 19 (by decide +kernel) rfl
theorem mn_X6_11 : Cond.methodLinkNest "LandTaken" 11 ⟨"LandTaken$Land", "<init>", "()V"⟩ "LandTaken" ∈ w_tbl := w_t 20 (by decide +kernel) rfl
theorem ml_X2_3 : Cond.methodLink "LandTaken$Land" 3 ⟨"java/lang/Object", "<init>", "()V"⟩ ∈ w_tbl := w_t 23 (by decide +kernel) rfl
theorem fl_X2_28 : Cond.fieldLink "LandTaken$Land" 28 "LandTaken$Land" "wide" "I" ∈ w_tbl := w_t 24 (by decide +kernel) rfl
theorem fl_X6_336 : Cond.fieldLink "LandTaken" 336 "LandTaken$Land" "wide" "I" ∈ w_tbl := w_t 25 (by decide +kernel) rfl
theorem fl_X2_32 : Cond.fieldLink "LandTaken$Land" 32 "LandTaken$Land" "high" "I" ∈ w_tbl := w_t 26 (by decide +kernel) rfl
theorem fl_X6_342 : Cond.fieldLink "LandTaken" 342 "LandTaken$Land" "high" "I" ∈ w_tbl := w_t 27 (by decide +kernel) rfl
theorem fl_X2_9 : Cond.fieldLink "LandTaken$Land" 9 "LandTaken$Land" "owner" "[I" ∈ w_tbl := w_t 28 (by decide +kernel) rfl
theorem fl_X6_80 : Cond.fieldLink "LandTaken" 80 "LandTaken$Land" "owner" "[I" ∈ w_tbl := w_t 29 (by decide +kernel) rfl
theorem fl_X2_15 : Cond.fieldLink "LandTaken$Land" 15 "LandTaken$Land" "soil" "[I" ∈ w_tbl := w_t 30 (by decide +kernel) rfl
theorem fl_X6_83 : Cond.fieldLink "LandTaken" 83 "LandTaken$Land" "soil" "[I" ∈ w_tbl := w_t 31 (by decide +kernel) rfl
theorem fl_X2_18 : Cond.fieldLink "LandTaken$Land" 18 "LandTaken$Land" "isLane" "[Z" ∈ w_tbl := w_t 32 (by decide +kernel) rfl
theorem fl_X6_86 : Cond.fieldLink "LandTaken" 86 "LandTaken$Land" "isLane" "[Z" ∈ w_tbl := w_t 33 (by decide +kernel) rfl
theorem fl_X2_22 : Cond.fieldLink "LandTaken$Land" 22 "LandTaken$Land" "inLine" "[Z" ∈ w_tbl := w_t 34 (by decide +kernel) rfl
theorem fl_X6_131 : Cond.fieldLink "LandTaken" 131 "LandTaken$Land" "inLine" "[Z" ∈ w_tbl := w_t 35 (by decide +kernel) rfl
theorem fl_X2_25 : Cond.fieldLink "LandTaken$Land" 25 "LandTaken$Land" "takenBy" "[I" ∈ w_tbl := w_t 36 (by decide +kernel) rfl
theorem ar_int : Cond.arrayClass .int ∈ w_tbl := w_t 52 (by decide +kernel) rfl
theorem ar_boolean : Cond.arrayClass .boolean ∈ w_tbl := w_t 53 (by decide +kernel) rfl
theorem cl_X6_16 : Cond.classLink "LandTaken" 16 "LandTaken$Split" ∈ w_tbl := w_t 54 (by decide +kernel) rfl
theorem in_X5 : Cond.instantiable "LandTaken$Split" 7 ∈ w_tbl := w_t 55 (by decide +kernel) rfl
theorem mn_X6_18 : Cond.methodLinkNest "LandTaken" 18 ⟨"LandTaken$Split", "<init>", "()V"⟩ "LandTaken" ∈ w_tbl := w_t 56 (by decide +kernel) rfl
theorem ml_X5_3 : Cond.methodLink "LandTaken$Split" 3 ⟨"java/lang/Object", "<init>", "()V"⟩ ∈ w_tbl := w_t 59 (by decide +kernel) rfl
theorem fl_X5_28 : Cond.fieldLink "LandTaken$Split" 28 "LandTaken$Split" "number" "I" ∈ w_tbl := w_t 60 (by decide +kernel) rfl
theorem fl_X6_280 : Cond.fieldLink "LandTaken" 280 "LandTaken$Split" "number" "I" ∈ w_tbl := w_t 61 (by decide +kernel) rfl
theorem fl_X5_46 : Cond.fieldLink "LandTaken$Split" 46 "LandTaken$Split" "main" "I" ∈ w_tbl := w_t 62 (by decide +kernel) rfl
theorem fl_X6_259 : Cond.fieldLink "LandTaken" 259 "LandTaken$Split" "main" "I" ∈ w_tbl := w_t 63 (by decide +kernel) rfl
theorem fl_X5_9 : Cond.fieldLink "LandTaken$Split" 9 "LandTaken$Split" "pieceAt" "[I" ∈ w_tbl := w_t 64 (by decide +kernel) rfl
theorem fl_X5_15 : Cond.fieldLink "LandTaken$Split" 15 "LandTaken$Split" "size" "[I" ∈ w_tbl := w_t 65 (by decide +kernel) rfl
theorem fl_X5_18 : Cond.fieldLink "LandTaken$Split" 18 "LandTaken$Split" "first" "[I" ∈ w_tbl := w_t 66 (by decide +kernel) rfl
theorem fl_X5_21 : Cond.fieldLink "LandTaken$Split" 21 "LandTaken$Split" "way" "[Z" ∈ w_tbl := w_t 67 (by decide +kernel) rfl
theorem fl_X5_25 : Cond.fieldLink "LandTaken$Split" 25 "LandTaken$Split" "queue" "[I" ∈ w_tbl := w_t 68 (by decide +kernel) rfl
theorem cl_X6_23 : Cond.classLink "LandTaken" 23 "LandTaken$Field" ∈ w_tbl := w_t 84 (by decide +kernel) rfl
theorem ao_X1 : Cond.arrayOver (.object "LandTaken$Field") ∈ w_tbl := w_t 85 (by decide +kernel) rfl
theorem in_X1 : Cond.instantiable "LandTaken$Field" 5 ∈ w_tbl := w_t 86 (by decide +kernel) rfl
theorem mn_X6_29 : Cond.methodLinkNest "LandTaken" 29 ⟨"LandTaken$Field", "<init>", "()V"⟩ "LandTaken" ∈ w_tbl := w_t 87 (by decide +kernel) rfl
theorem ml_X1_3 : Cond.methodLink "LandTaken$Field" 3 ⟨"java/lang/Object", "<init>", "()V"⟩ ∈ w_tbl := w_t 90 (by decide +kernel) rfl
theorem fl_X1_22 : Cond.fieldLink "LandTaken$Field" 22 "LandTaken$Field" "housePlace" "I" ∈ w_tbl := w_t 91 (by decide +kernel) rfl
theorem fl_X6_90 : Cond.fieldLink "LandTaken" 90 "LandTaken$Field" "housePlace" "I" ∈ w_tbl := w_t 92 (by decide +kernel) rfl
theorem fl_X1_26 : Cond.fieldLink "LandTaken$Field" 26 "LandTaken$Field" "rightCount" "I" ∈ w_tbl := w_t 93 (by decide +kernel) rfl
theorem fl_X6_286 : Cond.fieldLink "LandTaken" 286 "LandTaken$Field" "rightCount" "I" ∈ w_tbl := w_t 94 (by decide +kernel) rfl
theorem fl_X1_9 : Cond.fieldLink "LandTaken$Field" 9 "LandTaken$Field" "kind" "[I" ∈ w_tbl := w_t 95 (by decide +kernel) rfl
theorem fl_X6_289 : Cond.fieldLink "LandTaken" 289 "LandTaken$Field" "kind" "[I" ∈ w_tbl := w_t 96 (by decide +kernel) rfl
theorem fl_X1_15 : Cond.fieldLink "LandTaken$Field" 15 "LandTaken$Field" "amount" "[I" ∈ w_tbl := w_t 97 (by decide +kernel) rfl
theorem fl_X6_296 : Cond.fieldLink "LandTaken" 296 "LandTaken$Field" "amount" "[I" ∈ w_tbl := w_t 98 (by decide +kernel) rfl
theorem fl_X1_18 : Cond.fieldLink "LandTaken$Field" 18 "LandTaken$Field" "debtLeft" "[J" ∈ w_tbl := w_t 99 (by decide +kernel) rfl
theorem fl_X6_292 : Cond.fieldLink "LandTaken" 292 "LandTaken$Field" "debtLeft" "[J" ∈ w_tbl := w_t 100 (by decide +kernel) rfl
theorem ar_long : Cond.arrayClass .long ∈ w_tbl := w_t 112 (by decide +kernel) rfl
theorem cl_X6_30 : Cond.classLink "LandTaken" 30 "LandTaken$Prices" ∈ w_tbl := w_t 113 (by decide +kernel) rfl
theorem ao_X4 : Cond.arrayOver (.object "LandTaken$Prices") ∈ w_tbl := w_t 114 (by decide +kernel) rfl
theorem in_X4 : Cond.instantiable "LandTaken$Prices" 3 ∈ w_tbl := w_t 115 (by decide +kernel) rfl
theorem mn_X6_36 : Cond.methodLinkNest "LandTaken" 36 ⟨"LandTaken$Prices", "<init>", "()V"⟩ "LandTaken" ∈ w_tbl := w_t 116 (by decide +kernel) rfl
theorem ml_X4_3 : Cond.methodLink "LandTaken$Prices" 3 ⟨"java/lang/Object", "<init>", "()V"⟩ ∈ w_tbl := w_t 119 (by decide +kernel) rfl
theorem fl_X4_18 : Cond.fieldLink "LandTaken$Prices" 18 "LandTaken$Prices" "dayCount" "I" ∈ w_tbl := w_t 120 (by decide +kernel) rfl
theorem fl_X4_9 : Cond.fieldLink "LandTaken$Prices" 9 "LandTaken$Prices" "from" "[I" ∈ w_tbl := w_t 121 (by decide +kernel) rfl
theorem fl_X4_15 : Cond.fieldLink "LandTaken$Prices" 15 "LandTaken$Prices" "value" "[I" ∈ w_tbl := w_t 122 (by decide +kernel) rfl
theorem cl_X6_44 : Cond.classLink "LandTaken" 44 "LandTaken$Order" ∈ w_tbl := w_t 130 (by decide +kernel) rfl
theorem ao_X3 : Cond.arrayOver (.object "LandTaken$Order") ∈ w_tbl := w_t 131 (by decide +kernel) rfl
theorem ml_X6_50 : Cond.methodLink "LandTaken" 50 ⟨"LandTaken$Land", "renew", "(II)V"⟩ ∈ w_tbl := w_t 132 (by decide +kernel) rfl
theorem fl_X6_12 : Cond.fieldLink "LandTaken" 12 "LandTaken" "land" "LLandTaken$Land;" ∈ w_tbl := w_t 136 (by decide +kernel) rfl
theorem fl_X6_19 : Cond.fieldLink "LandTaken" 19 "LandTaken" "split" "LLandTaken$Split;" ∈ w_tbl := w_t 137 (by decide +kernel) rfl
theorem fl_X6_25 : Cond.fieldLink "LandTaken" 25 "LandTaken" "fields" "[LLandTaken$Field;" ∈ w_tbl := w_t 138 (by decide +kernel) rfl
theorem fl_X6_58 : Cond.fieldLink "LandTaken" 58 "LandTaken" "fieldCount" "I" ∈ w_tbl := w_t 139 (by decide +kernel) rfl
theorem fl_X6_32 : Cond.fieldLink "LandTaken" 32 "LandTaken" "prices" "[LLandTaken$Prices;" ∈ w_tbl := w_t 140 (by decide +kernel) rfl
theorem fl_X6_37 : Cond.fieldLink "LandTaken" 37 "LandTaken" "pricesToday" "[I" ∈ w_tbl := w_t 141 (by decide +kernel) rfl
theorem fl_X6_41 : Cond.fieldLink "LandTaken" 41 "LandTaken" "rates" "[I" ∈ w_tbl := w_t 142 (by decide +kernel) rfl
theorem fl_X6_121 : Cond.fieldLink "LandTaken" 121 "LandTaken" "today" "I" ∈ w_tbl := w_t 143 (by decide +kernel) rfl
theorem fl_X6_46 : Cond.fieldLink "LandTaken" 46 "LandTaken" "orders" "[LLandTaken$Order;" ∈ w_tbl := w_t 144 (by decide +kernel) rfl
theorem fl_X6_100 : Cond.fieldLink "LandTaken" 100 "LandTaken" "orderCount" "I" ∈ w_tbl := w_t 145 (by decide +kernel) rfl
theorem fl_X6_103 : Cond.fieldLink "LandTaken" 103 "LandTaken" "undoneCount" "I" ∈ w_tbl := w_t 146 (by decide +kernel) rfl
theorem ml_L_13 : Cond.methodLink "LandTakenLaw" 13 ⟨"LandTaken", "map", "(II)I"⟩ ∈ w_tbl := w_t 170 (by decide +kernel) rfl
theorem ml_X6_54 : Cond.methodLink "LandTaken" 54 ⟨"LandTaken", "wasOrderMade", "()Z"⟩ ∈ w_tbl := w_t 174 (by decide +kernel) rfl
theorem ml_L_18 : Cond.methodLink "LandTakenLaw" 18 ⟨"LandTaken", "field", "()I"⟩ ∈ w_tbl := w_t 178 (by decide +kernel) rfl
theorem ml_X6_62 : Cond.methodLink "LandTaken" 62 ⟨"LandTaken$Field", "clear", "()V"⟩ ∈ w_tbl := w_t 182 (by decide +kernel) rfl
theorem ml_L_23 : Cond.methodLink "LandTakenLaw" 23 ⟨"LandTaken", "cell", "(IIII)I"⟩ ∈ w_tbl := w_t 186 (by decide +kernel) rfl
theorem ml_X6_65 : Cond.methodLink "LandTaken" 65 ⟨"LandTaken$Land", "at", "(II)I"⟩ ∈ w_tbl := w_t 190 (by decide +kernel) rfl
theorem ml_X6_69 : Cond.methodLink "LandTaken" 69 ⟨"LandTaken", "isField", "(I)Z"⟩ ∈ w_tbl := w_t 194 (by decide +kernel) rfl
theorem ml_X6_73 : Cond.methodLink "LandTaken" 73 ⟨"LandTaken", "isSoil", "(I)Z"⟩ ∈ w_tbl := w_t 198 (by decide +kernel) rfl
theorem ml_X6_76 : Cond.methodLink "LandTaken" 76 ⟨"LandTaken", "pullDownHouse", "(I)V"⟩ ∈ w_tbl := w_t 201 (by decide +kernel) rfl
theorem ml_L_28 : Cond.methodLink "LandTakenLaw" 28 ⟨"LandTaken", "lane", "(II)I"⟩ ∈ w_tbl := w_t 205 (by decide +kernel) rfl
theorem ml_L_32 : Cond.methodLink "LandTakenLaw" 32 ⟨"LandTaken", "house", "(III)I"⟩ ∈ w_tbl := w_t 209 (by decide +kernel) rfl
theorem ml_L_37 : Cond.methodLink "LandTakenLaw" 37 ⟨"LandTaken", "right", "(III)I"⟩ ∈ w_tbl := w_t 213 (by decide +kernel) rfl
theorem ml_X6_93 : Cond.methodLink "LandTaken" 93 ⟨"LandTaken", "isAmount", "(II)Z"⟩ ∈ w_tbl := w_t 217 (by decide +kernel) rfl
theorem ki_X6_106 : Cond.constant "LandTaken" 106 (1000000) ∈ w_tbl := w_t 220 (by decide +kernel) rfl
theorem ml_X6_97 : Cond.methodLink "LandTaken" 97 ⟨"LandTaken$Field", "addRight", "(II)I"⟩ ∈ w_tbl := w_t 221 (by decide +kernel) rfl
theorem ml_L_41 : Cond.methodLink "LandTakenLaw" 41 ⟨"LandTaken", "price", "(III)I"⟩ ∈ w_tbl := w_t 225 (by decide +kernel) rfl
theorem ml_X6_107 : Cond.methodLink "LandTaken" 107 ⟨"LandTaken", "isDay", "(I)Z"⟩ ∈ w_tbl := w_t 229 (by decide +kernel) rfl
theorem ki_X6_110 : Cond.constant "LandTaken" 110 (100000) ∈ w_tbl := w_t 232 (by decide +kernel) rfl
theorem ml_X6_111 : Cond.methodLink "LandTaken" 111 ⟨"LandTaken$Prices", "put", "(II)I"⟩ ∈ w_tbl := w_t 233 (by decide +kernel) rfl
theorem ml_L_45 : Cond.methodLink "LandTakenLaw" 45 ⟨"LandTaken", "costs", "(II)I"⟩ ∈ w_tbl := w_t 237 (by decide +kernel) rfl
theorem ml_X6_114 : Cond.methodLink "LandTaken" 114 ⟨"LandTaken$Prices", "on", "(I)I"⟩ ∈ w_tbl := w_t 241 (by decide +kernel) rfl
theorem ml_L_49 : Cond.methodLink "LandTakenLaw" 49 ⟨"LandTaken", "rate", "(II)I"⟩ ∈ w_tbl := w_t 245 (by decide +kernel) rfl
theorem fl_X6_118 : Cond.fieldLink "LandTaken" 118 "LandTaken" "MOST_RATE" "[I" ∈ w_tbl := w_t 249 (by decide +kernel) rfl
theorem ml_L_53 : Cond.methodLink "LandTakenLaw" 53 ⟨"LandTaken", "days", "(I)I"⟩ ∈ w_tbl := w_t 251 (by decide +kernel) rfl
theorem ml_L_58 : Cond.methodLink "LandTakenLaw" 58 ⟨"LandTaken", "line", "(IIZ)I"⟩ ∈ w_tbl := w_t 255 (by decide +kernel) rfl
theorem ml_X6_124 : Cond.methodLink "LandTaken" 124 ⟨"LandTaken", "openOrder", "()LLandTaken$Order;"⟩ ∈ w_tbl := w_t 259 (by decide +kernel) rfl
theorem ml_X6_177 : Cond.methodLink "LandTaken" 177 ⟨"LandTaken", "latestOrder", "()LLandTaken$Order;"⟩ ∈ w_tbl := w_t 263 (by decide +kernel) rfl
theorem ml_X6_199 : Cond.methodLink "LandTaken" 199 ⟨"LandTaken", "orderAt", "(I)LLandTaken$Order;"⟩ ∈ w_tbl := w_t 267 (by decide +kernel) rfl
theorem ml_X6_180 : Cond.methodLink "LandTaken" 180 ⟨"LandTaken$Order", "isDone", "()Z"⟩ ∈ w_tbl := w_t 271 (by decide +kernel) rfl
theorem ml_X3_32 : Cond.methodLink "LandTaken$Order" 32 ⟨"LandTaken$Order", "caseAt", "(I)LLandTaken$Case;"⟩ ∈ w_tbl := w_t 275 (by decide +kernel) rfl
theorem ml_X6_128 : Cond.methodLink "LandTaken" 128 ⟨"LandTaken$Land", "isTaken", "(I)Z"⟩ ∈ w_tbl := w_t 279 (by decide +kernel) rfl
theorem ml_L_63 : Cond.methodLink "LandTakenLaw" 63 ⟨"LandTaken", "make", "()I"⟩ ∈ w_tbl := w_t 283 (by decide +kernel) rfl
theorem ml_X6_134 : Cond.methodLink "LandTaken" 134 ⟨"LandTaken", "touchesField", "()Z"⟩ ∈ w_tbl := w_t 287 (by decide +kernel) rfl
theorem ml_X6_141 : Cond.methodLink "LandTaken" 141 ⟨"LandTaken$Land", "cellsInLine", "(I)I"⟩ ∈ w_tbl := w_t 291 (by decide +kernel) rfl
theorem ml_X2_45 : Cond.methodLink "LandTaken$Land" 45 ⟨"LandTaken$Land", "isInLineOf", "(II)Z"⟩ ∈ w_tbl := w_t 295 (by decide +kernel) rfl
theorem in_X3 : Cond.instantiable "LandTaken$Order" 4 ∈ w_tbl := w_t 299 (by decide +kernel) rfl
theorem mn_X6_137 : Cond.methodLinkNest "LandTaken" 137 ⟨"LandTaken$Order", "<init>", "()V"⟩ "LandTaken" ∈ w_tbl := w_t 300 (by decide +kernel) rfl
theorem ml_X3_3 : Cond.methodLink "LandTaken$Order" 3 ⟨"java/lang/Object", "<init>", "()V"⟩ ∈ w_tbl := w_t 303 (by decide +kernel) rfl
theorem cl_X3_9 : Cond.classLink "LandTaken$Order" 9 "LandTaken$Case" ∈ w_tbl := w_t 304 (by decide +kernel) rfl
theorem ao_X0 : Cond.arrayOver (.object "LandTaken$Case") ∈ w_tbl := w_t 305 (by decide +kernel) rfl
theorem fl_X3_17 : Cond.fieldLink "LandTaken$Order" 17 "LandTaken$Order" "madeOn" "I" ∈ w_tbl := w_t 306 (by decide +kernel) rfl
theorem fl_X6_364 : Cond.fieldLink "LandTaken" 364 "LandTaken$Order" "madeOn" "I" ∈ w_tbl := w_t 307 (by decide +kernel) rfl
theorem fl_X3_21 : Cond.fieldLink "LandTaken$Order" 21 "LandTaken$Order" "noticeDays" "I" ∈ w_tbl := w_t 308 (by decide +kernel) rfl
theorem fl_X3_24 : Cond.fieldLink "LandTaken$Order" 24 "LandTaken$Order" "caseCount" "I" ∈ w_tbl := w_t 309 (by decide +kernel) rfl
theorem fl_X6_147 : Cond.fieldLink "LandTaken" 147 "LandTaken$Order" "caseCount" "I" ∈ w_tbl := w_t 310 (by decide +kernel) rfl
theorem fl_X3_11 : Cond.fieldLink "LandTaken$Order" 11 "LandTaken$Order" "cases" "[LLandTaken$Case;" ∈ w_tbl := w_t 311 (by decide +kernel) rfl
theorem ml_X6_138 : Cond.methodLink "LandTaken" 138 ⟨"LandTaken$Order", "begin", "(II)V"⟩ ∈ w_tbl := w_t 321 (by decide +kernel) rfl
theorem ml_X6_144 : Cond.methodLink "LandTaken" 144 ⟨"LandTaken$Order", "addCase", "(II)V"⟩ ∈ w_tbl := w_t 325 (by decide +kernel) rfl
theorem in_X0 : Cond.instantiable "LandTaken$Case" 16 ∈ w_tbl := w_t 329 (by decide +kernel) rfl
theorem mn_X3_27 : Cond.methodLinkNest "LandTaken$Order" 27 ⟨"LandTaken$Case", "<init>", "()V"⟩ "LandTaken" ∈ w_tbl := w_t 330 (by decide +kernel) rfl
theorem ml_X0_3 : Cond.methodLink "LandTaken$Case" 3 ⟨"java/lang/Object", "<init>", "()V"⟩ ∈ w_tbl := w_t 333 (by decide +kernel) rfl
theorem fl_X0_15 : Cond.fieldLink "LandTaken$Case" 15 "LandTaken$Case" "fieldNumber" "I" ∈ w_tbl := w_t 334 (by decide +kernel) rfl
theorem fl_X3_43 : Cond.fieldLink "LandTaken$Order" 43 "LandTaken$Case" "fieldNumber" "I" ∈ w_tbl := w_t 335 (by decide +kernel) rfl
theorem fl_X6_212 : Cond.fieldLink "LandTaken" 212 "LandTaken$Case" "fieldNumber" "I" ∈ w_tbl := w_t 336 (by decide +kernel) rfl
theorem fl_X0_19 : Cond.fieldLink "LandTaken$Case" 19 "LandTaken$Case" "cells" "I" ∈ w_tbl := w_t 337 (by decide +kernel) rfl
theorem fl_X0_22 : Cond.fieldLink "LandTaken$Case" 22 "LandTaken$Case" "state" "I" ∈ w_tbl := w_t 338 (by decide +kernel) rfl
theorem fl_X3_40 : Cond.fieldLink "LandTaken$Order" 40 "LandTaken$Case" "state" "I" ∈ w_tbl := w_t 339 (by decide +kernel) rfl
theorem fl_X6_154 : Cond.fieldLink "LandTaken" 154 "LandTaken$Case" "state" "I" ∈ w_tbl := w_t 340 (by decide +kernel) rfl
theorem fl_X0_25 : Cond.fieldLink "LandTaken$Case" 25 "LandTaken$Case" "enteredOn" "I" ∈ w_tbl := w_t 341 (by decide +kernel) rfl
theorem fl_X0_28 : Cond.fieldLink "LandTaken$Case" 28 "LandTaken$Case" "interestRate" "I" ∈ w_tbl := w_t 342 (by decide +kernel) rfl
theorem fl_X0_31 : Cond.fieldLink "LandTaken$Case" 31 "LandTaken$Case" "countedTo" "I" ∈ w_tbl := w_t 343 (by decide +kernel) rfl
theorem fl_X0_34 : Cond.fieldLink "LandTaken$Case" 34 "LandTaken$Case" "landWorth" "J" ∈ w_tbl := w_t 344 (by decide +kernel) rfl
theorem fl_X6_233 : Cond.fieldLink "LandTaken" 233 "LandTaken$Case" "landWorth" "J" ∈ w_tbl := w_t 345 (by decide +kernel) rfl
theorem fl_X0_38 : Cond.fieldLink "LandTaken$Case" 38 "LandTaken$Case" "loss" "J" ∈ w_tbl := w_t 346 (by decide +kernel) rfl
theorem fl_X3_46 : Cond.fieldLink "LandTaken$Order" 46 "LandTaken$Case" "loss" "J" ∈ w_tbl := w_t 347 (by decide +kernel) rfl
theorem fl_X6_250 : Cond.fieldLink "LandTaken" 250 "LandTaken$Case" "loss" "J" ∈ w_tbl := w_t 348 (by decide +kernel) rfl
theorem fl_X0_41 : Cond.fieldLink "LandTaken$Case" 41 "LandTaken$Case" "fence" "J" ∈ w_tbl := w_t 349 (by decide +kernel) rfl
theorem fl_X6_256 : Cond.fieldLink "LandTaken" 256 "LandTaken$Case" "fence" "J" ∈ w_tbl := w_t 350 (by decide +kernel) rfl
theorem fl_X0_44 : Cond.fieldLink "LandTaken$Case" 44 "LandTaken$Case" "better" "J" ∈ w_tbl := w_t 351 (by decide +kernel) rfl
theorem fl_X6_271 : Cond.fieldLink "LandTaken" 271 "LandTaken$Case" "better" "J" ∈ w_tbl := w_t 352 (by decide +kernel) rfl
theorem fl_X0_47 : Cond.fieldLink "LandTaken$Case" 47 "LandTaken$Case" "due" "J" ∈ w_tbl := w_t 353 (by decide +kernel) rfl
theorem fl_X6_274 : Cond.fieldLink "LandTaken" 274 "LandTaken$Case" "due" "J" ∈ w_tbl := w_t 354 (by decide +kernel) rfl
theorem fl_X0_50 : Cond.fieldLink "LandTaken$Case" 50 "LandTaken$Case" "paid" "J" ∈ w_tbl := w_t 355 (by decide +kernel) rfl
theorem fl_X6_185 : Cond.fieldLink "LandTaken" 185 "LandTaken$Case" "paid" "J" ∈ w_tbl := w_t 356 (by decide +kernel) rfl
theorem fl_X0_53 : Cond.fieldLink "LandTaken$Case" 53 "LandTaken$Case" "interestKept" "J" ∈ w_tbl := w_t 357 (by decide +kernel) rfl
theorem fl_X0_56 : Cond.fieldLink "LandTaken$Case" 56 "LandTaken$Case" "interestPaid" "J" ∈ w_tbl := w_t 358 (by decide +kernel) rfl
theorem fl_X6_189 : Cond.fieldLink "LandTaken" 189 "LandTaken$Case" "interestPaid" "J" ∈ w_tbl := w_t 359 (by decide +kernel) rfl
theorem fl_X0_59 : Cond.fieldLink "LandTaken$Case" 59 "LandTaken$Case" "ownerGets" "J" ∈ w_tbl := w_t 360 (by decide +kernel) rfl
theorem fl_X6_302 : Cond.fieldLink "LandTaken" 302 "LandTaken$Case" "ownerGets" "J" ∈ w_tbl := w_t 361 (by decide +kernel) rfl
theorem fl_X0_9 : Cond.fieldLink "LandTaken$Case" 9 "LandTaken$Case" "rightGets" "[J" ∈ w_tbl := w_t 362 (by decide +kernel) rfl
theorem fl_X6_299 : Cond.fieldLink "LandTaken" 299 "LandTaken$Case" "rightGets" "[J" ∈ w_tbl := w_t 363 (by decide +kernel) rfl
theorem ml_X3_28 : Cond.methodLink "LandTaken$Order" 28 ⟨"LandTaken$Case", "begin", "(II)V"⟩ ∈ w_tbl := w_t 397 (by decide +kernel) rfl
theorem ml_L_67 : Cond.methodLink "LandTakenLaw" 67 ⟨"LandTaken", "object", "(I)I"⟩ ∈ w_tbl := w_t 401 (by decide +kernel) rfl
theorem ml_X6_150 : Cond.methodLink "LandTaken" 150 ⟨"LandTaken$Order", "caseAt", "(I)LLandTaken$Case;"⟩ ∈ w_tbl := w_t 405 (by decide +kernel) rfl
theorem ml_X6_159 : Cond.methodLink "LandTaken" 159 ⟨"LandTaken$Order", "noticeEnd", "()I"⟩ ∈ w_tbl := w_t 406 (by decide +kernel) rfl
theorem ml_L_71 : Cond.methodLink "LandTakenLaw" 71 ⟨"LandTaken", "hear", "(IZ)I"⟩ ∈ w_tbl := w_t 410 (by decide +kernel) rfl
theorem ml_X6_163 : Cond.methodLink "LandTaken" 163 ⟨"LandTaken", "emptyLineIfDone", "(LLandTaken$Order;)V"⟩ ∈ w_tbl := w_t 414 (by decide +kernel) rfl
theorem ml_X6_203 : Cond.methodLink "LandTaken" 203 ⟨"LandTaken$Land", "emptyLine", "()V"⟩ ∈ w_tbl := w_t 418 (by decide +kernel) rfl
theorem ml_L_76 : Cond.methodLink "LandTakenLaw" 76 ⟨"LandTaken", "enter", "()I"⟩ ∈ w_tbl := w_t 422 (by decide +kernel) rfl
theorem ml_X6_167 : Cond.methodLink "LandTaken" 167 ⟨"LandTaken$Order", "hasReady", "()Z"⟩ ∈ w_tbl := w_t 426 (by decide +kernel) rfl
theorem ml_X3_36 : Cond.methodLink "LandTaken$Order" 36 ⟨"LandTaken$Case", "isReady", "()Z"⟩ ∈ w_tbl := w_t 430 (by decide +kernel) rfl
theorem ml_X6_170 : Cond.methodLink "LandTaken" 170 ⟨"LandTaken", "takeReadyCells", "(LLandTaken$Order;)V"⟩ ∈ w_tbl := w_t 434 (by decide +kernel) rfl
theorem ml_X6_206 : Cond.methodLink "LandTaken" 206 ⟨"LandTaken$Land", "takeLine", "(II)V"⟩ ∈ w_tbl := w_t 438 (by decide +kernel) rfl
theorem ml_X6_209 : Cond.methodLink "LandTaken" 209 ⟨"LandTaken$Case", "isReady", "()Z"⟩ ∈ w_tbl := w_t 442 (by decide +kernel) rfl
theorem ml_X6_173 : Cond.methodLink "LandTaken" 173 ⟨"LandTaken", "settleReadyCases", "(LLandTaken$Order;)I"⟩ ∈ w_tbl := w_t 443 (by decide +kernel) rfl
theorem ml_X6_215 : Cond.methodLink "LandTaken" 215 ⟨"LandTaken", "assess", "(LLandTaken$Case;LLandTaken$Field;)V"⟩ ∈ w_tbl := w_t 447 (by decide +kernel) rfl
theorem ml_X6_225 : Cond.methodLink "LandTaken" 225 ⟨"LandTaken$Split", "find", "(LLandTaken$Land;II)V"⟩ ∈ w_tbl := w_t 451 (by decide +kernel) rfl
theorem ml_X5_32 : Cond.methodLink "LandTaken$Split" 32 ⟨"LandTaken$Land", "isKept", "(II)Z"⟩ ∈ w_tbl := w_t 455 (by decide +kernel) rfl
theorem ml_X5_38 : Cond.methodLink "LandTaken$Split" 38 ⟨"LandTaken$Split", "spread", "(LLandTaken$Land;II)V"⟩ ∈ w_tbl := w_t 459 (by decide +kernel) rfl
theorem ml_X5_49 : Cond.methodLink "LandTaken$Split" 49 ⟨"LandTaken$Land", "beside", "(II)I"⟩ ∈ w_tbl := w_t 463 (by decide +kernel) rfl
theorem fn_X2_35 : Cond.fieldLinkNest "LandTaken$Land" 35 "LandTaken" "STEP_X" "[I" "LandTaken" ∈ w_tbl := w_t 467 (by decide +kernel) rfl
theorem fn_X2_38 : Cond.fieldLinkNest "LandTaken$Land" 38 "LandTaken" "STEP_Y" "[I" "LandTaken" ∈ w_tbl := w_t 469 (by decide +kernel) rfl
theorem ml_X2_41 : Cond.methodLink "LandTaken$Land" 41 ⟨"LandTaken$Land", "at", "(II)I"⟩ ∈ w_tbl := w_t 471 (by decide +kernel) rfl
theorem ml_X5_53 : Cond.methodLink "LandTaken$Split" 53 ⟨"LandTaken$Land", "isOpenLane", "(I)Z"⟩ ∈ w_tbl := w_t 472 (by decide +kernel) rfl
theorem ml_X5_42 : Cond.methodLink "LandTaken$Split" 42 ⟨"LandTaken$Split", "chosenMain", "(I)I"⟩ ∈ w_tbl := w_t 476 (by decide +kernel) rfl
theorem ml_X6_229 : Cond.methodLink "LandTaken" 229 ⟨"LandTaken$Land", "worthInLine", "(I[I)J"⟩ ∈ w_tbl := w_t 480 (by decide +kernel) rfl
theorem ml_X2_53 : Cond.methodLink "LandTaken$Land" 53 ⟨"LandTaken$Land", "priceAt", "(I[I)I"⟩ ∈ w_tbl := w_t 484 (by decide +kernel) rfl
theorem ml_X6_236 : Cond.methodLink "LandTaken" 236 ⟨"LandTaken", "lossOfPieces", "()J"⟩ ∈ w_tbl := w_t 488 (by decide +kernel) rfl
theorem ml_X6_277 : Cond.methodLink "LandTaken" 277 ⟨"LandTaken$Split", "hasWay", "(I)Z"⟩ ∈ w_tbl := w_t 492 (by decide +kernel) rfl
theorem ml_X6_262 : Cond.methodLink "LandTaken" 262 ⟨"LandTaken$Split", "worth", "(ILLandTaken$Land;[I)J"⟩ ∈ w_tbl := w_t 496 (by decide +kernel) rfl
theorem ml_X5_57 : Cond.methodLink "LandTaken$Split" 57 ⟨"LandTaken$Land", "priceAt", "(I[I)I"⟩ ∈ w_tbl := w_t 500 (by decide +kernel) rfl
theorem kl_X6_266 : Cond.constantLong "LandTaken" 266 (1000) ∈ w_tbl := w_t 501 (by decide +kernel) rfl
theorem ml_X6_240 : Cond.methodLink "LandTaken" 240 ⟨"LandTaken", "lossBefore", "(I)J"⟩ ∈ w_tbl := w_t 502 (by decide +kernel) rfl
theorem ml_X6_283 : Cond.methodLink "LandTaken" 283 ⟨"LandTaken$Order", "lossOf", "(I)J"⟩ ∈ w_tbl := w_t 506 (by decide +kernel) rfl
theorem ml_X6_244 : Cond.methodLink "LandTaken" 244 ⟨"java/lang/Math", "max", "(JJ)J"⟩ ∈ w_tbl := w_t 510 (by decide +kernel) rfl
theorem ml_X6_253 : Cond.methodLink "LandTaken" 253 ⟨"LandTaken$Land", "fenceSides", "(I)I"⟩ ∈ w_tbl := w_t 513 (by decide +kernel) rfl
theorem ml_X2_57 : Cond.methodLink "LandTaken$Land" 57 ⟨"LandTaken$Land", "keptSides", "(II)I"⟩ ∈ w_tbl := w_t 517 (by decide +kernel) rfl
theorem ml_X2_60 : Cond.methodLink "LandTaken$Land" 60 ⟨"LandTaken$Land", "beside", "(II)I"⟩ ∈ w_tbl := w_t 521 (by decide +kernel) rfl
theorem ml_X2_63 : Cond.methodLink "LandTaken$Land" 63 ⟨"LandTaken$Land", "isKept", "(II)Z"⟩ ∈ w_tbl := w_t 522 (by decide +kernel) rfl
theorem ml_X6_268 : Cond.methodLink "LandTaken" 268 ⟨"java/lang/Math", "min", "(JJ)J"⟩ ∈ w_tbl := w_t 523 (by decide +kernel) rfl
theorem ml_X6_219 : Cond.methodLink "LandTaken" 219 ⟨"LandTaken", "share", "(LLandTaken$Case;LLandTaken$Field;)V"⟩ ∈ w_tbl := w_t 526 (by decide +kernel) rfl
theorem ml_X6_222 : Cond.methodLink "LandTaken" 222 ⟨"LandTaken$Case", "enterOn", "(II)V"⟩ ∈ w_tbl := w_t 530 (by decide +kernel) rfl
theorem ml_L_80 : Cond.methodLink "LandTakenLaw" 80 ⟨"LandTaken", "undo", "()J"⟩ ∈ w_tbl := w_t 534 (by decide +kernel) rfl
theorem kl_X6_183 : Cond.constantLong "LandTaken" 183 (-103) ∈ w_tbl := w_t 538 (by decide +kernel) rfl
theorem ml_X6_192 : Cond.methodLink "LandTaken" 192 ⟨"LandTaken", "oweDebtsAgain", "(LLandTaken$Case;)V"⟩ ∈ w_tbl := w_t 539 (by decide +kernel) rfl
theorem ml_X6_196 : Cond.methodLink "LandTaken" 196 ⟨"LandTaken$Land", "giveBack", "(I)V"⟩ ∈ w_tbl := w_t 543 (by decide +kernel) rfl
theorem ml_L_87 : Cond.methodLink "LandTakenLaw" 87 ⟨"LandTaken", "pay", "(IIJ)J"⟩ ∈ w_tbl := w_t 547 (by decide +kernel) rfl
theorem ml_X6_305 : Cond.methodLink "LandTaken" 305 ⟨"LandTaken", "caseOf", "(II)LLandTaken$Case;"⟩ ∈ w_tbl := w_t 551 (by decide +kernel) rfl
theorem kl_X6_309 : Cond.constantLong "LandTaken" 309 (-101) ∈ w_tbl := w_t 555 (by decide +kernel) rfl
theorem kl_X6_311 : Cond.constantLong "LandTaken" 311 (1000000000) ∈ w_tbl := w_t 556 (by decide +kernel) rfl
theorem kl_X6_313 : Cond.constantLong "LandTaken" 313 (-102) ∈ w_tbl := w_t 557 (by decide +kernel) rfl
theorem ml_X6_315 : Cond.methodLink "LandTaken" 315 ⟨"LandTaken$Case", "receive", "(JI)J"⟩ ∈ w_tbl := w_t 558 (by decide +kernel) rfl
theorem ml_X0_68 : Cond.methodLink "LandTaken$Case" 68 ⟨"LandTaken$Case", "interestOn", "(I)J"⟩ ∈ w_tbl := w_t 562 (by decide +kernel) rfl
theorem ml_X0_62 : Cond.methodLink "LandTaken$Case" 62 ⟨"LandTaken$Case", "owed", "()J"⟩ ∈ w_tbl := w_t 566 (by decide +kernel) rfl
theorem kl_X0_66 : Cond.constantLong "LandTaken$Case" 66 (1000000) ∈ w_tbl := w_t 570 (by decide +kernel) rfl
theorem ml_X0_72 : Cond.methodLink "LandTaken$Case" 72 ⟨"java/lang/Math", "min", "(JJ)J"⟩ ∈ w_tbl := w_t 571 (by decide +kernel) rfl
theorem ml_L_92 : Cond.methodLink "LandTakenLaw" 92 ⟨"LandTaken", "told", "(III)J"⟩ ∈ w_tbl := w_t 572 (by decide +kernel) rfl
theorem ml_X6_319 : Cond.methodLink "LandTaken" 319 ⟨"LandTaken$Case", "tell", "(II)J"⟩ ∈ w_tbl := w_t 576 (by decide +kernel) rfl
theorem ml_L_97 : Cond.methodLink "LandTakenLaw" 97 ⟨"LandTaken", "gets", "(III)J"⟩ ∈ w_tbl := w_t 580 (by decide +kernel) rfl
theorem ml_L_101 : Cond.methodLink "LandTakenLaw" 101 ⟨"LandTaken", "look", "(III)I"⟩ ∈ w_tbl := w_t 584 (by decide +kernel) rfl
theorem ml_L_105 : Cond.methodLink "LandTakenLaw" 105 ⟨"LandTaken", "pieces", "(I)I"⟩ ∈ w_tbl := w_t 588 (by decide +kernel) rfl
theorem ml_L_109 : Cond.methodLink "LandTakenLaw" 109 ⟨"LandTaken", "piece", "(III)I"⟩ ∈ w_tbl := w_t 592 (by decide +kernel) rfl
theorem ml_X6_323 : Cond.methodLink "LandTaken" 323 ⟨"LandTaken$Split", "tell", "(II)I"⟩ ∈ w_tbl := w_t 596 (by decide +kernel) rfl
theorem ml_L_113 : Cond.methodLink "LandTakenLaw" 113 ⟨"LandTaken", "count", "(I)I"⟩ ∈ w_tbl := w_t 600 (by decide +kernel) rfl
theorem ml_X6_325 : Cond.methodLink "LandTaken" 325 ⟨"LandTaken$Land", "cellsTaken", "()I"⟩ ∈ w_tbl := w_t 604 (by decide +kernel) rfl
theorem ml_X2_49 : Cond.methodLink "LandTaken$Land" 49 ⟨"LandTaken$Land", "isTaken", "(I)Z"⟩ ∈ w_tbl := w_t 608 (by decide +kernel) rfl
theorem ml_X6_328 : Cond.methodLink "LandTaken" 328 ⟨"LandTaken$Land", "cellsChosen", "()I"⟩ ∈ w_tbl := w_t 609 (by decide +kernel) rfl
theorem ml_X6_331 : Cond.methodLink "LandTaken" 331 ⟨"LandTaken", "casesOfLatest", "()I"⟩ ∈ w_tbl := w_t 613 (by decide +kernel) rfl
theorem ml_L_117 : Cond.methodLink "LandTakenLaw" 117 ⟨"LandTaken", "digest", "()J"⟩ ∈ w_tbl := w_t 617 (by decide +kernel) rfl
theorem kl_X6_334 : Cond.constantLong "LandTaken" 334 (127) ∈ w_tbl := w_t 621 (by decide +kernel) rfl
theorem ml_X6_339 : Cond.methodLink "LandTaken" 339 ⟨"LandTaken", "mixed", "(JJ)J"⟩ ∈ w_tbl := w_t 622 (by decide +kernel) rfl
theorem kl_X6_358 : Cond.constantLong "LandTaken" 358 (31) ∈ w_tbl := w_t 625 (by decide +kernel) rfl
theorem ml_X6_345 : Cond.methodLink "LandTaken" 345 ⟨"LandTaken", "mixedCells", "(J)J"⟩ ∈ w_tbl := w_t 626 (by decide +kernel) rfl
theorem ml_X6_360 : Cond.methodLink "LandTaken" 360 ⟨"LandTaken", "look", "(III)I"⟩ ∈ w_tbl := w_t 630 (by decide +kernel) rfl
theorem ml_X6_349 : Cond.methodLink "LandTaken" 349 ⟨"LandTaken", "mixedFields", "(J)J"⟩ ∈ w_tbl := w_t 631 (by decide +kernel) rfl
theorem ml_X6_352 : Cond.methodLink "LandTaken" 352 ⟨"LandTaken", "mixedOrders", "(J)J"⟩ ∈ w_tbl := w_t 635 (by decide +kernel) rfl
theorem ml_X6_367 : Cond.methodLink "LandTaken" 367 ⟨"LandTaken", "told", "(III)J"⟩ ∈ w_tbl := w_t 639 (by decide +kernel) rfl
theorem ml_X6_355 : Cond.methodLink "LandTaken" 355 ⟨"LandTaken", "count", "(I)I"⟩ ∈ w_tbl := w_t 640 (by decide +kernel) rfl
theorem cl_L_10 : Cond.classLink "LandTakenLaw" 10 "LandTakenModel" ∈ w_tbl := w_t 641 (by decide +kernel) rfl
theorem in_X7 : Cond.instantiable "LandTakenModel" 46 ∈ w_tbl := w_t 642 (by decide +kernel) rfl
theorem ml_L_12 : Cond.methodLink "LandTakenLaw" 12 ⟨"LandTakenModel", "<init>", "()V"⟩ ∈ w_tbl := w_t 643 (by decide +kernel) rfl
theorem ml_X7_1 : Cond.methodLink "LandTakenModel" 1 ⟨"java/lang/Object", "<init>", "()V"⟩ ∈ w_tbl := w_t 646 (by decide +kernel) rfl
theorem ml_X7_127 : Cond.methodLink "LandTakenModel" 127 ⟨"LandTakenModel", "fresh", "()V"⟩ ∈ w_tbl := w_t 647 (by decide +kernel) rfl
theorem fl_X7_7 : Cond.fieldLink "LandTakenModel" 7 "LandTakenModel" "width" "I" ∈ w_tbl := w_t 651 (by decide +kernel) rfl
theorem fl_X7_13 : Cond.fieldLink "LandTakenModel" 13 "LandTakenModel" "height" "I" ∈ w_tbl := w_t 652 (by decide +kernel) rfl
theorem fl_X7_16 : Cond.fieldLink "LandTakenModel" 16 "LandTakenModel" "fieldOf" "[I" ∈ w_tbl := w_t 653 (by decide +kernel) rfl
theorem fl_X7_20 : Cond.fieldLink "LandTakenModel" 20 "LandTakenModel" "soilOf" "[I" ∈ w_tbl := w_t 654 (by decide +kernel) rfl
theorem fl_X7_23 : Cond.fieldLink "LandTakenModel" 23 "LandTakenModel" "isLane" "[Z" ∈ w_tbl := w_t 655 (by decide +kernel) rfl
theorem fl_X7_27 : Cond.fieldLink "LandTakenModel" 27 "LandTakenModel" "inLine" "[Z" ∈ w_tbl := w_t 656 (by decide +kernel) rfl
theorem fl_X7_30 : Cond.fieldLink "LandTakenModel" 30 "LandTakenModel" "takenBy" "[I" ∈ w_tbl := w_t 657 (by decide +kernel) rfl
theorem fl_X7_130 : Cond.fieldLink "LandTakenModel" 130 "LandTakenModel" "fields" "I" ∈ w_tbl := w_t 658 (by decide +kernel) rfl
theorem fl_X7_33 : Cond.fieldLink "LandTakenModel" 33 "LandTakenModel" "houses" "[I" ∈ w_tbl := w_t 659 (by decide +kernel) rfl
theorem fl_X7_36 : Cond.fieldLink "LandTakenModel" 36 "LandTakenModel" "rightMany" "[I" ∈ w_tbl := w_t 660 (by decide +kernel) rfl
theorem fl_X7_39 : Cond.fieldLink "LandTakenModel" 39 "LandTakenModel" "rightKind" "[I" ∈ w_tbl := w_t 661 (by decide +kernel) rfl
theorem fl_X7_42 : Cond.fieldLink "LandTakenModel" 42 "LandTakenModel" "rightAmount" "[I" ∈ w_tbl := w_t 662 (by decide +kernel) rfl
theorem fl_X7_45 : Cond.fieldLink "LandTakenModel" 45 "LandTakenModel" "toldMany" "[I" ∈ w_tbl := w_t 663 (by decide +kernel) rfl
theorem fl_X7_48 : Cond.fieldLink "LandTakenModel" 48 "LandTakenModel" "toldDay" "[I" ∈ w_tbl := w_t 664 (by decide +kernel) rfl
theorem fl_X7_51 : Cond.fieldLink "LandTakenModel" 51 "LandTakenModel" "toldPrice" "[I" ∈ w_tbl := w_t 665 (by decide +kernel) rfl
theorem fl_X7_54 : Cond.fieldLink "LandTakenModel" 54 "LandTakenModel" "rates" "[I" ∈ w_tbl := w_t 666 (by decide +kernel) rfl
theorem fl_X7_174 : Cond.fieldLink "LandTakenModel" 174 "LandTakenModel" "today" "I" ∈ w_tbl := w_t 667 (by decide +kernel) rfl
theorem fl_X7_139 : Cond.fieldLink "LandTakenModel" 139 "LandTakenModel" "wasMade" "Z" ∈ w_tbl := w_t 668 (by decide +kernel) rfl
theorem fl_X7_243 : Cond.fieldLink "LandTakenModel" 243 "LandTakenModel" "undone" "I" ∈ w_tbl := w_t 669 (by decide +kernel) rfl
theorem fl_X7_197 : Cond.fieldLink "LandTakenModel" 197 "LandTakenModel" "orders" "I" ∈ w_tbl := w_t 670 (by decide +kernel) rfl
theorem fl_X7_200 : Cond.fieldLink "LandTakenModel" 200 "LandTakenModel" "isOpen" "Z" ∈ w_tbl := w_t 671 (by decide +kernel) rfl
theorem fl_X7_57 : Cond.fieldLink "LandTakenModel" 57 "LandTakenModel" "madeOn" "[I" ∈ w_tbl := w_t 672 (by decide +kernel) rfl
theorem fl_X7_60 : Cond.fieldLink "LandTakenModel" 60 "LandTakenModel" "noticeOf" "[I" ∈ w_tbl := w_t 673 (by decide +kernel) rfl
theorem fl_X7_63 : Cond.fieldLink "LandTakenModel" 63 "LandTakenModel" "cases" "[I" ∈ w_tbl := w_t 674 (by decide +kernel) rfl
theorem fl_X7_66 : Cond.fieldLink "LandTakenModel" 66 "LandTakenModel" "hasEntry" "[Z" ∈ w_tbl := w_t 675 (by decide +kernel) rfl
theorem fl_X7_69 : Cond.fieldLink "LandTakenModel" 69 "LandTakenModel" "caseField" "[I" ∈ w_tbl := w_t 676 (by decide +kernel) rfl
theorem fl_X7_72 : Cond.fieldLink "LandTakenModel" 72 "LandTakenModel" "caseState" "[I" ∈ w_tbl := w_t 677 (by decide +kernel) rfl
theorem fl_X7_75 : Cond.fieldLink "LandTakenModel" 75 "LandTakenModel" "caseCells" "[I" ∈ w_tbl := w_t 678 (by decide +kernel) rfl
theorem fl_X7_78 : Cond.fieldLink "LandTakenModel" 78 "LandTakenModel" "caseDay" "[I" ∈ w_tbl := w_t 679 (by decide +kernel) rfl
theorem fl_X7_81 : Cond.fieldLink "LandTakenModel" 81 "LandTakenModel" "caseRate" "[I" ∈ w_tbl := w_t 680 (by decide +kernel) rfl
theorem fl_X7_84 : Cond.fieldLink "LandTakenModel" 84 "LandTakenModel" "land" "[J" ∈ w_tbl := w_t 681 (by decide +kernel) rfl
theorem fl_X7_88 : Cond.fieldLink "LandTakenModel" 88 "LandTakenModel" "loss" "[J" ∈ w_tbl := w_t 682 (by decide +kernel) rfl
theorem fl_X7_91 : Cond.fieldLink "LandTakenModel" 91 "LandTakenModel" "fence" "[J" ∈ w_tbl := w_t 683 (by decide +kernel) rfl
theorem fl_X7_94 : Cond.fieldLink "LandTakenModel" 94 "LandTakenModel" "better" "[J" ∈ w_tbl := w_t 684 (by decide +kernel) rfl
theorem fl_X7_97 : Cond.fieldLink "LandTakenModel" 97 "LandTakenModel" "paidDue" "[J" ∈ w_tbl := w_t 685 (by decide +kernel) rfl
theorem fl_X7_100 : Cond.fieldLink "LandTakenModel" 100 "LandTakenModel" "paidInterest" "[J" ∈ w_tbl := w_t 686 (by decide +kernel) rfl
theorem fl_X7_103 : Cond.fieldLink "LandTakenModel" 103 "LandTakenModel" "interest" "[J" ∈ w_tbl := w_t 687 (by decide +kernel) rfl
theorem fl_X7_106 : Cond.fieldLink "LandTakenModel" 106 "LandTakenModel" "since" "[I" ∈ w_tbl := w_t 688 (by decide +kernel) rfl
theorem fl_X7_109 : Cond.fieldLink "LandTakenModel" 109 "LandTakenModel" "got" "[J" ∈ w_tbl := w_t 689 (by decide +kernel) rfl
theorem fl_X7_112 : Cond.fieldLink "LandTakenModel" 112 "LandTakenModel" "pieceOf" "[I" ∈ w_tbl := w_t 690 (by decide +kernel) rfl
theorem fl_X7_115 : Cond.fieldLink "LandTakenModel" 115 "LandTakenModel" "queue" "[I" ∈ w_tbl := w_t 691 (by decide +kernel) rfl
theorem fl_X7_184 : Cond.fieldLink "LandTakenModel" 184 "LandTakenModel" "pieceMany" "I" ∈ w_tbl := w_t 692 (by decide +kernel) rfl
theorem fl_X7_118 : Cond.fieldLink "LandTakenModel" 118 "LandTakenModel" "pieceFirst" "[I" ∈ w_tbl := w_t 693 (by decide +kernel) rfl
theorem fl_X7_121 : Cond.fieldLink "LandTakenModel" 121 "LandTakenModel" "pieceSize" "[I" ∈ w_tbl := w_t 694 (by decide +kernel) rfl
theorem fl_X7_124 : Cond.fieldLink "LandTakenModel" 124 "LandTakenModel" "taken" "[Z" ∈ w_tbl := w_t 695 (by decide +kernel) rfl
theorem fl_X7_271 : Cond.fieldLink "LandTakenModel" 271 "LandTakenModel" "h" "J" ∈ w_tbl := w_t 696 (by decide +kernel) rfl
theorem ml_L_17 : Cond.methodLink "LandTakenLaw" 17 ⟨"LandTakenModel", "map", "(II)I"⟩ ∈ w_tbl := w_t 790 (by decide +kernel) rfl
theorem kl_X7_137 : Cond.constantLong "LandTakenModel" 137 (16) ∈ w_tbl := w_t 794 (by decide +kernel) rfl
theorem ml_X7_133 : Cond.methodLink "LandTakenModel" 133 ⟨"LandTakenModel", "in", "(JJJ)Z"⟩ ∈ w_tbl := w_t 795 (by decide +kernel) rfl
theorem ml_L_22 : Cond.methodLink "LandTakenLaw" 22 ⟨"LandTakenModel", "field", "()I"⟩ ∈ w_tbl := w_t 798 (by decide +kernel) rfl
theorem ml_L_27 : Cond.methodLink "LandTakenLaw" 27 ⟨"LandTakenModel", "cell", "(IIII)I"⟩ ∈ w_tbl := w_t 802 (by decide +kernel) rfl
theorem ml_X7_143 : Cond.methodLink "LandTakenModel" 143 ⟨"LandTakenModel", "isCell", "(II)Z"⟩ ∈ w_tbl := w_t 806 (by decide +kernel) rfl
theorem ml_X7_147 : Cond.methodLink "LandTakenModel" 147 ⟨"LandTakenModel", "isField", "(I)Z"⟩ ∈ w_tbl := w_t 810 (by decide +kernel) rfl
theorem kl_X7_151 : Cond.constantLong "LandTakenModel" 151 (3) ∈ w_tbl := w_t 814 (by decide +kernel) rfl
theorem ml_X7_153 : Cond.methodLink "LandTakenModel" 153 ⟨"LandTakenModel", "clearHouse", "(I)V"⟩ ∈ w_tbl := w_t 815 (by decide +kernel) rfl
theorem ml_L_31 : Cond.methodLink "LandTakenLaw" 31 ⟨"LandTakenModel", "lane", "(II)I"⟩ ∈ w_tbl := w_t 819 (by decide +kernel) rfl
theorem ml_L_36 : Cond.methodLink "LandTakenLaw" 36 ⟨"LandTakenModel", "house", "(III)I"⟩ ∈ w_tbl := w_t 823 (by decide +kernel) rfl
theorem ml_L_40 : Cond.methodLink "LandTakenLaw" 40 ⟨"LandTakenModel", "right", "(III)I"⟩ ∈ w_tbl := w_t 827 (by decide +kernel) rfl
theorem kl_X7_157 : Cond.constantLong "LandTakenModel" 157 (2) ∈ w_tbl := w_t 831 (by decide +kernel) rfl
theorem kl_X7_159 : Cond.constantLong "LandTakenModel" 159 (1000000) ∈ w_tbl := w_t 832 (by decide +kernel) rfl
theorem kl_X7_161 : Cond.constantLong "LandTakenModel" 161 (1000) ∈ w_tbl := w_t 833 (by decide +kernel) rfl
theorem ml_L_44 : Cond.methodLink "LandTakenLaw" 44 ⟨"LandTakenModel", "price", "(III)I"⟩ ∈ w_tbl := w_t 834 (by decide +kernel) rfl
theorem kl_X7_163 : Cond.constantLong "LandTakenModel" 163 (10000) ∈ w_tbl := w_t 838 (by decide +kernel) rfl
theorem kl_X7_165 : Cond.constantLong "LandTakenModel" 165 (100000) ∈ w_tbl := w_t 839 (by decide +kernel) rfl
theorem ml_L_48 : Cond.methodLink "LandTakenLaw" 48 ⟨"LandTakenModel", "costs", "(II)I"⟩ ∈ w_tbl := w_t 840 (by decide +kernel) rfl
theorem ml_X7_167 : Cond.methodLink "LandTakenModel" 167 ⟨"LandTakenModel", "costOf", "(II)I"⟩ ∈ w_tbl := w_t 844 (by decide +kernel) rfl
theorem ml_L_52 : Cond.methodLink "LandTakenLaw" 52 ⟨"LandTakenModel", "rate", "(II)I"⟩ ∈ w_tbl := w_t 848 (by decide +kernel) rfl
theorem kl_X7_171 : Cond.constantLong "LandTakenModel" 171 (4) ∈ w_tbl := w_t 852 (by decide +kernel) rfl
theorem ki_X7_173 : Cond.constant "LandTakenModel" 173 (100000) ∈ w_tbl := w_t 853 (by decide +kernel) rfl
theorem ml_L_57 : Cond.methodLink "LandTakenLaw" 57 ⟨"LandTakenModel", "days", "(I)I"⟩ ∈ w_tbl := w_t 854 (by decide +kernel) rfl
theorem ml_L_62 : Cond.methodLink "LandTakenLaw" 62 ⟨"LandTakenModel", "line", "(IIZ)I"⟩ ∈ w_tbl := w_t 858 (by decide +kernel) rfl
theorem ml_L_66 : Cond.methodLink "LandTakenLaw" 66 ⟨"LandTakenModel", "make", "()I"⟩ ∈ w_tbl := w_t 862 (by decide +kernel) rfl
theorem ml_X7_203 : Cond.methodLink "LandTakenModel" 203 ⟨"LandTakenModel", "wanted", "(I)I"⟩ ∈ w_tbl := w_t 866 (by decide +kernel) rfl
theorem ml_X7_190 : Cond.methodLink "LandTakenModel" 190 ⟨"LandTakenModel", "isLeft", "(II)Z"⟩ ∈ w_tbl := w_t 870 (by decide +kernel) rfl
theorem ml_L_70 : Cond.methodLink "LandTakenLaw" 70 ⟨"LandTakenModel", "object", "(I)I"⟩ ∈ w_tbl := w_t 874 (by decide +kernel) rfl
theorem ml_L_75 : Cond.methodLink "LandTakenLaw" 75 ⟨"LandTakenModel", "hear", "(IZ)I"⟩ ∈ w_tbl := w_t 878 (by decide +kernel) rfl
theorem ml_X7_206 : Cond.methodLink "LandTakenModel" 206 ⟨"LandTakenModel", "close", "()V"⟩ ∈ w_tbl := w_t 882 (by decide +kernel) rfl
theorem ml_L_79 : Cond.methodLink "LandTakenLaw" 79 ⟨"LandTakenModel", "enter", "()I"⟩ ∈ w_tbl := w_t 886 (by decide +kernel) rfl
theorem ml_X7_209 : Cond.methodLink "LandTakenModel" 209 ⟨"LandTakenModel", "mayEnter", "(II)Z"⟩ ∈ w_tbl := w_t 890 (by decide +kernel) rfl
theorem ml_X7_212 : Cond.methodLink "LandTakenModel" 212 ⟨"LandTakenModel", "work", "(I)V"⟩ ∈ w_tbl := w_t 894 (by decide +kernel) rfl
theorem ml_X7_187 : Cond.methodLink "LandTakenModel" 187 ⟨"LandTakenModel", "beside", "(II)I"⟩ ∈ w_tbl := w_t 898 (by decide +kernel) rfl
theorem ml_X7_177 : Cond.methodLink "LandTakenModel" 177 ⟨"LandTakenModel", "overX", "(I)I"⟩ ∈ w_tbl := w_t 902 (by decide +kernel) rfl
theorem ml_X7_181 : Cond.methodLink "LandTakenModel" 181 ⟨"LandTakenModel", "overY", "(I)I"⟩ ∈ w_tbl := w_t 905 (by decide +kernel) rfl
theorem ml_X7_215 : Cond.methodLink "LandTakenModel" 215 ⟨"LandTakenModel", "divide", "(I)V"⟩ ∈ w_tbl := w_t 908 (by decide +kernel) rfl
theorem ml_X7_193 : Cond.methodLink "LandTakenModel" 193 ⟨"LandTakenModel", "spread", "(II)V"⟩ ∈ w_tbl := w_t 912 (by decide +kernel) rfl
theorem ml_X7_218 : Cond.methodLink "LandTakenModel" 218 ⟨"LandTakenModel", "mainOf", "(I)I"⟩ ∈ w_tbl := w_t 916 (by decide +kernel) rfl
theorem ml_X7_221 : Cond.methodLink "LandTakenModel" 221 ⟨"LandTakenModel", "pricesOf", "(I)J"⟩ ∈ w_tbl := w_t 920 (by decide +kernel) rfl
theorem ml_X7_225 : Cond.methodLink "LandTakenModel" 225 ⟨"LandTakenModel", "hasWay", "(I)Z"⟩ ∈ w_tbl := w_t 924 (by decide +kernel) rfl
theorem ml_X7_228 : Cond.methodLink "LandTakenModel" 228 ⟨"LandTakenModel", "lossBefore", "(I)J"⟩ ∈ w_tbl := w_t 928 (by decide +kernel) rfl
theorem ml_X7_231 : Cond.methodLink "LandTakenModel" 231 ⟨"LandTakenModel", "share", "(I)V"⟩ ∈ w_tbl := w_t 932 (by decide +kernel) rfl
theorem ml_X7_234 : Cond.methodLink "LandTakenModel" 234 ⟨"LandTakenModel", "dueOf", "(I)J"⟩ ∈ w_tbl := w_t 936 (by decide +kernel) rfl
theorem ml_X7_237 : Cond.methodLink "LandTakenModel" 237 ⟨"LandTakenModel", "debtLeft", "(II)J"⟩ ∈ w_tbl := w_t 940 (by decide +kernel) rfl
theorem ml_L_84 : Cond.methodLink "LandTakenLaw" 84 ⟨"LandTakenModel", "undo", "()J"⟩ ∈ w_tbl := w_t 944 (by decide +kernel) rfl
theorem kl_X7_241 : Cond.constantLong "LandTakenModel" 241 (-103) ∈ w_tbl := w_t 948 (by decide +kernel) rfl
theorem ml_L_91 : Cond.methodLink "LandTakenLaw" 91 ⟨"LandTakenModel", "pay", "(IIJ)J"⟩ ∈ w_tbl := w_t 949 (by decide +kernel) rfl
theorem ml_X7_249 : Cond.methodLink "LandTakenModel" 249 ⟨"LandTakenModel", "isCase", "(II)Z"⟩ ∈ w_tbl := w_t 953 (by decide +kernel) rfl
theorem kl_X7_252 : Cond.constantLong "LandTakenModel" 252 (-101) ∈ w_tbl := w_t 957 (by decide +kernel) rfl
theorem kl_X7_254 : Cond.constantLong "LandTakenModel" 254 (1000000000) ∈ w_tbl := w_t 958 (by decide +kernel) rfl
theorem kl_X7_256 : Cond.constantLong "LandTakenModel" 256 (-102) ∈ w_tbl := w_t 959 (by decide +kernel) rfl
theorem ml_X7_258 : Cond.methodLink "LandTakenModel" 258 ⟨"LandTakenModel", "interestOf", "(I)J"⟩ ∈ w_tbl := w_t 960 (by decide +kernel) rfl
theorem ml_X7_246 : Cond.methodLink "LandTakenModel" 246 ⟨"LandTakenModel", "owed", "(I)J"⟩ ∈ w_tbl := w_t 964 (by decide +kernel) rfl
theorem ml_L_96 : Cond.methodLink "LandTakenLaw" 96 ⟨"LandTakenModel", "told", "(III)J"⟩ ∈ w_tbl := w_t 968 (by decide +kernel) rfl
theorem kl_X7_261 : Cond.constantLong "LandTakenModel" 261 (13) ∈ w_tbl := w_t 972 (by decide +kernel) rfl
theorem ml_X7_263 : Cond.methodLink "LandTakenModel" 263 ⟨"LandTakenModel", "toldOf", "(II)J"⟩ ∈ w_tbl := w_t 973 (by decide +kernel) rfl
theorem ml_L_100 : Cond.methodLink "LandTakenLaw" 100 ⟨"LandTakenModel", "gets", "(III)J"⟩ ∈ w_tbl := w_t 977 (by decide +kernel) rfl
theorem ml_L_104 : Cond.methodLink "LandTakenLaw" 104 ⟨"LandTakenModel", "look", "(III)I"⟩ ∈ w_tbl := w_t 981 (by decide +kernel) rfl
theorem ml_X7_266 : Cond.methodLink "LandTakenModel" 266 ⟨"LandTakenModel", "lookOf", "(II)I"⟩ ∈ w_tbl := w_t 985 (by decide +kernel) rfl
theorem ml_L_108 : Cond.methodLink "LandTakenLaw" 108 ⟨"LandTakenModel", "pieces", "(I)I"⟩ ∈ w_tbl := w_t 989 (by decide +kernel) rfl
theorem ml_L_112 : Cond.methodLink "LandTakenLaw" 112 ⟨"LandTakenModel", "piece", "(III)I"⟩ ∈ w_tbl := w_t 993 (by decide +kernel) rfl
theorem ml_L_116 : Cond.methodLink "LandTakenLaw" 116 ⟨"LandTakenModel", "count", "(I)I"⟩ ∈ w_tbl := w_t 997 (by decide +kernel) rfl
theorem ml_L_120 : Cond.methodLink "LandTakenLaw" 120 ⟨"LandTakenModel", "digest", "()J"⟩ ∈ w_tbl := w_t 1001 (by decide +kernel) rfl
theorem kl_X7_275 : Cond.constantLong "LandTakenModel" 275 (127) ∈ w_tbl := w_t 1005 (by decide +kernel) rfl
theorem ml_X7_277 : Cond.methodLink "LandTakenModel" 277 ⟨"LandTakenModel", "mix", "(J)V"⟩ ∈ w_tbl := w_t 1006 (by decide +kernel) rfl
theorem kl_X7_269 : Cond.constantLong "LandTakenModel" 269 (31) ∈ w_tbl := w_t 1010 (by decide +kernel) rfl
theorem ml_X7_281 : Cond.methodLink "LandTakenModel" 281 ⟨"LandTakenModel", "count", "(I)I"⟩ ∈ w_tbl := w_t 1011 (by decide +kernel) rfl
theorem kl_L_85 : Cond.constantLong "LandTakenLaw" 85 (4294967295) ∈ w_tbl := w_t 1012 (by decide +kernel) rfl
theorem im_obj : Cond.instanceMethod Lib.objectInit ∈ w_tbl := w_t 16 (by decide +kernel) rfl
theorem co_obj : Cond.code Lib.objectInit ⟨#[0xb1]⟩ 1 none ∈ w_tbl := w_t 17 (by decide +kernel) rfl
theorem ckX0 : CK 0 RX0 TX0 16 tyX0 := ⟨rfl, w_all [364, 366, 368, 370, 372, 374, 376, 378, 380, 382, 384, 386, 388, 390, 392, 394] (by decide +kernel) (by decide +kernel), tyX0_ok, nmX0⟩
theorem ckX1 : CK 1 RX1 TX1 5 tyX1 := ⟨rfl, w_all [101, 103, 105, 107, 109] (by decide +kernel) (by decide +kernel), tyX1_ok, nmX1⟩
theorem ckX2 : CK 2 RX2 TX2 7 tyX2 := ⟨rfl, w_all [37, 39, 41, 43, 45, 47, 49] (by decide +kernel) (by decide +kernel), tyX2_ok, nmX2⟩
theorem ckX3 : CK 3 RX3 TX3 4 tyX3 := ⟨rfl, w_all [312, 314, 316, 318] (by decide +kernel) (by decide +kernel), tyX3_ok, nmX3⟩
theorem ckX4 : CK 4 RX4 TX4 3 tyX4 := ⟨rfl, w_all [123, 125, 127] (by decide +kernel) (by decide +kernel), tyX4_ok, nmX4⟩
theorem ckX5 : CK 5 RX5 TX5 7 tyX5 := ⟨rfl, w_all [69, 71, 73, 75, 77, 79, 81] (by decide +kernel) (by decide +kernel), tyX5_ok, nmX5⟩
theorem ckX6 : CK 6 RX6 TX6 11 tyX6 := ⟨rfl, w_all [147, 149, 151, 153, 155, 157, 159, 161, 163, 165, 167] (by decide +kernel) (by decide +kernel), tyX6_ok, nmX6⟩
theorem ckX7 : CK 7 RX7 TX7 46 tyX7 := ⟨rfl, w_all [697, 699, 701, 703, 705, 707, 709, 711, 713, 715, 717, 719, 721, 723, 725, 727, 729, 731, 733, 735, 737, 739, 741, 743, 745, 747, 749, 751, 753, 755, 757, 759, 761, 763, 765, 767, 769, 771, 773, 775, 777, 779, 781, 783, 785, 787] (by decide +kernel) (by decide +kernel), tyX7_ok, nmX7⟩
def VE (y : MethodName) (cc : ByteArray) (nL : Nat) (rt : Option FieldType) (na ci : Nat) : Prop := CE y cc nL rt na ∧ Cond.instanceMethod y ∈ w_tbl ∧ Cond.selects y.cls y y ∈ w_tbl ∧ ∃ (T : u_T) (N : Nat), vwCl[ci]? = some (y.cls, T, N)
def SE (y : MethodName) (cc : ByteArray) (nL : Nat) (rt : Option FieldType) (na : Nat) : Prop := CE y cc nL rt na ∧ Cond.static y ∈ w_tbl
def IE (y : MethodName) (cc : ByteArray) (nL : Nat) (na : Nat) : Prop := CE y cc nL none na ∧ Cond.instanceMethod y ∈ w_tbl ∧ y.name = "<init>"
theorem ieX0_init : IE yX0_init cX0_init 1 0 := ⟨⟨w_t 332 (by decide +kernel) rfl, ini_X0, by decide +kernel, by decide +kernel, by decide +kernel⟩, w_t 331 (by decide +kernel) rfl, rfl⟩
theorem veX0_begin : VE yX0_begin cX0_begin 4 none 2 0 := ⟨⟨w_t 400 (by decide +kernel) rfl, ini_X0, by decide +kernel, by decide +kernel, by decide +kernel⟩, w_t 398 (by decide +kernel) rfl, w_t 399 (by decide +kernel) rfl, _, _, rfl⟩
theorem veX0_isReady : VE yX0_isReady cX0_isReady 1 (some .boolean) 0 0 := ⟨⟨w_t 433 (by decide +kernel) rfl, ini_X0, by decide +kernel, by decide +kernel, by decide +kernel⟩, w_t 431 (by decide +kernel) rfl, w_t 432 (by decide +kernel) rfl, _, _, rfl⟩
theorem veX0_enterOn : VE yX0_enterOn cX0_enterOn 3 none 2 0 := ⟨⟨w_t 533 (by decide +kernel) rfl, ini_X0, by decide +kernel, by decide +kernel, by decide +kernel⟩, w_t 531 (by decide +kernel) rfl, w_t 532 (by decide +kernel) rfl, _, _, rfl⟩
theorem veX0_owed : VE yX0_owed cX0_owed 1 (some .long) 0 0 := ⟨⟨w_t 569 (by decide +kernel) rfl, ini_X0, by decide +kernel, by decide +kernel, by decide +kernel⟩, w_t 567 (by decide +kernel) rfl, w_t 568 (by decide +kernel) rfl, _, _, rfl⟩
theorem veX0_interestOn : VE yX0_interestOn cX0_interestOn 2 (some .long) 1 0 := ⟨⟨w_t 565 (by decide +kernel) rfl, ini_X0, by decide +kernel, by decide +kernel, by decide +kernel⟩, w_t 563 (by decide +kernel) rfl, w_t 564 (by decide +kernel) rfl, _, _, rfl⟩
theorem veX0_receive : VE yX0_receive cX0_receive 10 (some .long) 2 0 := ⟨⟨w_t 561 (by decide +kernel) rfl, ini_X0, by decide +kernel, by decide +kernel, by decide +kernel⟩, w_t 559 (by decide +kernel) rfl, w_t 560 (by decide +kernel) rfl, _, _, rfl⟩
theorem veX0_tell : VE yX0_tell cX0_tell 3 (some .long) 2 0 := ⟨⟨w_t 579 (by decide +kernel) rfl, ini_X0, by decide +kernel, by decide +kernel, by decide +kernel⟩, w_t 577 (by decide +kernel) rfl, w_t 578 (by decide +kernel) rfl, _, _, rfl⟩
theorem ieX1_init : IE yX1_init cX1_init 1 0 := ⟨⟨w_t 89 (by decide +kernel) rfl, ini_X1, by decide +kernel, by decide +kernel, by decide +kernel⟩, w_t 88 (by decide +kernel) rfl, rfl⟩
theorem veX1_clear : VE yX1_clear cX1_clear 1 none 0 1 := ⟨⟨w_t 185 (by decide +kernel) rfl, ini_X1, by decide +kernel, by decide +kernel, by decide +kernel⟩, w_t 183 (by decide +kernel) rfl, w_t 184 (by decide +kernel) rfl, _, _, rfl⟩
theorem veX1_addRight : VE yX1_addRight cX1_addRight 3 (some .int) 2 1 := ⟨⟨w_t 224 (by decide +kernel) rfl, ini_X1, by decide +kernel, by decide +kernel, by decide +kernel⟩, w_t 222 (by decide +kernel) rfl, w_t 223 (by decide +kernel) rfl, _, _, rfl⟩
theorem ieX2_init : IE yX2_init cX2_init 1 0 := ⟨⟨w_t 22 (by decide +kernel) rfl, ini_X2, by decide +kernel, by decide +kernel, by decide +kernel⟩, w_t 21 (by decide +kernel) rfl, rfl⟩
theorem veX2_renew : VE yX2_renew cX2_renew 4 none 2 2 := ⟨⟨w_t 135 (by decide +kernel) rfl, ini_X2, by decide +kernel, by decide +kernel, by decide +kernel⟩, w_t 133 (by decide +kernel) rfl, w_t 134 (by decide +kernel) rfl, _, _, rfl⟩
theorem veX2_at : VE yX2_at cX2_at 4 (some .int) 2 2 := ⟨⟨w_t 193 (by decide +kernel) rfl, ini_X2, by decide +kernel, by decide +kernel, by decide +kernel⟩, w_t 191 (by decide +kernel) rfl, w_t 192 (by decide +kernel) rfl, _, _, rfl⟩
theorem veX2_beside : VE yX2_beside cX2_beside 3 (some .int) 2 2 := ⟨⟨w_t 466 (by decide +kernel) rfl, ini_X2, by decide +kernel, by decide +kernel, by decide +kernel⟩, w_t 464 (by decide +kernel) rfl, w_t 465 (by decide +kernel) rfl, _, _, rfl⟩
theorem veX2_isTaken : VE yX2_isTaken cX2_isTaken 2 (some .boolean) 1 2 := ⟨⟨w_t 282 (by decide +kernel) rfl, ini_X2, by decide +kernel, by decide +kernel, by decide +kernel⟩, w_t 280 (by decide +kernel) rfl, w_t 281 (by decide +kernel) rfl, _, _, rfl⟩
theorem veX2_isKept : VE yX2_isKept cX2_isKept 3 (some .boolean) 2 2 := ⟨⟨w_t 458 (by decide +kernel) rfl, ini_X2, by decide +kernel, by decide +kernel, by decide +kernel⟩, w_t 456 (by decide +kernel) rfl, w_t 457 (by decide +kernel) rfl, _, _, rfl⟩
theorem veX2_isInLineOf : VE yX2_isInLineOf cX2_isInLineOf 3 (some .boolean) 2 2 := ⟨⟨w_t 298 (by decide +kernel) rfl, ini_X2, by decide +kernel, by decide +kernel, by decide +kernel⟩, w_t 296 (by decide +kernel) rfl, w_t 297 (by decide +kernel) rfl, _, _, rfl⟩
theorem veX2_isOpenLane : VE yX2_isOpenLane cX2_isOpenLane 2 (some .boolean) 1 2 := ⟨⟨w_t 475 (by decide +kernel) rfl, ini_X2, by decide +kernel, by decide +kernel, by decide +kernel⟩, w_t 473 (by decide +kernel) rfl, w_t 474 (by decide +kernel) rfl, _, _, rfl⟩
theorem veX2_cellsInLine : VE yX2_cellsInLine cX2_cellsInLine 4 (some .int) 1 2 := ⟨⟨w_t 294 (by decide +kernel) rfl, ini_X2, by decide +kernel, by decide +kernel, by decide +kernel⟩, w_t 292 (by decide +kernel) rfl, w_t 293 (by decide +kernel) rfl, _, _, rfl⟩
theorem veX2_cellsChosen : VE yX2_cellsChosen cX2_cellsChosen 3 (some .int) 0 2 := ⟨⟨w_t 612 (by decide +kernel) rfl, ini_X2, by decide +kernel, by decide +kernel, by decide +kernel⟩, w_t 610 (by decide +kernel) rfl, w_t 611 (by decide +kernel) rfl, _, _, rfl⟩
theorem veX2_cellsTaken : VE yX2_cellsTaken cX2_cellsTaken 3 (some .int) 0 2 := ⟨⟨w_t 607 (by decide +kernel) rfl, ini_X2, by decide +kernel, by decide +kernel, by decide +kernel⟩, w_t 605 (by decide +kernel) rfl, w_t 606 (by decide +kernel) rfl, _, _, rfl⟩
theorem veX2_takeLine : VE yX2_takeLine cX2_takeLine 4 none 2 2 := ⟨⟨w_t 441 (by decide +kernel) rfl, ini_X2, by decide +kernel, by decide +kernel, by decide +kernel⟩, w_t 439 (by decide +kernel) rfl, w_t 440 (by decide +kernel) rfl, _, _, rfl⟩
theorem veX2_giveBack : VE yX2_giveBack cX2_giveBack 3 none 1 2 := ⟨⟨w_t 546 (by decide +kernel) rfl, ini_X2, by decide +kernel, by decide +kernel, by decide +kernel⟩, w_t 544 (by decide +kernel) rfl, w_t 545 (by decide +kernel) rfl, _, _, rfl⟩
theorem veX2_emptyLine : VE yX2_emptyLine cX2_emptyLine 2 none 0 2 := ⟨⟨w_t 421 (by decide +kernel) rfl, ini_X2, by decide +kernel, by decide +kernel, by decide +kernel⟩, w_t 419 (by decide +kernel) rfl, w_t 420 (by decide +kernel) rfl, _, _, rfl⟩
theorem veX2_worthInLine : VE yX2_worthInLine cX2_worthInLine 6 (some .long) 2 2 := ⟨⟨w_t 483 (by decide +kernel) rfl, ini_X2, by decide +kernel, by decide +kernel, by decide +kernel⟩, w_t 481 (by decide +kernel) rfl, w_t 482 (by decide +kernel) rfl, _, _, rfl⟩
theorem veX2_priceAt : VE yX2_priceAt cX2_priceAt 4 (some .int) 2 2 := ⟨⟨w_t 487 (by decide +kernel) rfl, ini_X2, by decide +kernel, by decide +kernel, by decide +kernel⟩, w_t 485 (by decide +kernel) rfl, w_t 486 (by decide +kernel) rfl, _, _, rfl⟩
theorem veX2_fenceSides : VE yX2_fenceSides cX2_fenceSides 4 (some .int) 1 2 := ⟨⟨w_t 516 (by decide +kernel) rfl, ini_X2, by decide +kernel, by decide +kernel, by decide +kernel⟩, w_t 514 (by decide +kernel) rfl, w_t 515 (by decide +kernel) rfl, _, _, rfl⟩
theorem veX2_keptSides : VE yX2_keptSides cX2_keptSides 6 (some .int) 2 2 := ⟨⟨w_t 520 (by decide +kernel) rfl, ini_X2, by decide +kernel, by decide +kernel, by decide +kernel⟩, w_t 518 (by decide +kernel) rfl, w_t 519 (by decide +kernel) rfl, _, _, rfl⟩
theorem ieX3_init : IE yX3_init cX3_init 1 0 := ⟨⟨w_t 302 (by decide +kernel) rfl, ini_X3, by decide +kernel, by decide +kernel, by decide +kernel⟩, w_t 301 (by decide +kernel) rfl, rfl⟩
theorem veX3_begin : VE yX3_begin cX3_begin 3 none 2 3 := ⟨⟨w_t 324 (by decide +kernel) rfl, ini_X3, by decide +kernel, by decide +kernel, by decide +kernel⟩, w_t 322 (by decide +kernel) rfl, w_t 323 (by decide +kernel) rfl, _, _, rfl⟩
theorem veX3_addCase : VE yX3_addCase cX3_addCase 4 none 2 3 := ⟨⟨w_t 328 (by decide +kernel) rfl, ini_X3, by decide +kernel, by decide +kernel, by decide +kernel⟩, w_t 326 (by decide +kernel) rfl, w_t 327 (by decide +kernel) rfl, _, _, rfl⟩
theorem veX3_caseAt : VE yX3_caseAt cX3_caseAt 2 (some (.object "LandTaken$Case")) 1 3 := ⟨⟨w_t 278 (by decide +kernel) rfl, ini_X3, by decide +kernel, by decide +kernel, by decide +kernel⟩, w_t 276 (by decide +kernel) rfl, w_t 277 (by decide +kernel) rfl, _, _, rfl⟩
theorem veX3_noticeEnd : VE yX3_noticeEnd cX3_noticeEnd 1 (some .int) 0 3 := ⟨⟨w_t 409 (by decide +kernel) rfl, ini_X3, by decide +kernel, by decide +kernel, by decide +kernel⟩, w_t 407 (by decide +kernel) rfl, w_t 408 (by decide +kernel) rfl, _, _, rfl⟩
theorem veX3_hasReady : VE yX3_hasReady cX3_hasReady 3 (some .boolean) 0 3 := ⟨⟨w_t 429 (by decide +kernel) rfl, ini_X3, by decide +kernel, by decide +kernel, by decide +kernel⟩, w_t 427 (by decide +kernel) rfl, w_t 428 (by decide +kernel) rfl, _, _, rfl⟩
theorem veX3_isDone : VE yX3_isDone cX3_isDone 3 (some .boolean) 0 3 := ⟨⟨w_t 274 (by decide +kernel) rfl, ini_X3, by decide +kernel, by decide +kernel, by decide +kernel⟩, w_t 272 (by decide +kernel) rfl, w_t 273 (by decide +kernel) rfl, _, _, rfl⟩
theorem veX3_lossOf : VE yX3_lossOf cX3_lossOf 6 (some .long) 1 3 := ⟨⟨w_t 509 (by decide +kernel) rfl, ini_X3, by decide +kernel, by decide +kernel, by decide +kernel⟩, w_t 507 (by decide +kernel) rfl, w_t 508 (by decide +kernel) rfl, _, _, rfl⟩
theorem ieX4_init : IE yX4_init cX4_init 1 0 := ⟨⟨w_t 118 (by decide +kernel) rfl, ini_X4, by decide +kernel, by decide +kernel, by decide +kernel⟩, w_t 117 (by decide +kernel) rfl, rfl⟩
theorem veX4_put : VE yX4_put cX4_put 4 (some .int) 2 4 := ⟨⟨w_t 236 (by decide +kernel) rfl, ini_X4, by decide +kernel, by decide +kernel, by decide +kernel⟩, w_t 234 (by decide +kernel) rfl, w_t 235 (by decide +kernel) rfl, _, _, rfl⟩
theorem veX4_on : VE yX4_on cX4_on 5 (some .int) 1 4 := ⟨⟨w_t 244 (by decide +kernel) rfl, ini_X4, by decide +kernel, by decide +kernel, by decide +kernel⟩, w_t 242 (by decide +kernel) rfl, w_t 243 (by decide +kernel) rfl, _, _, rfl⟩
theorem ieX5_init : IE yX5_init cX5_init 1 0 := ⟨⟨w_t 58 (by decide +kernel) rfl, ini_X5, by decide +kernel, by decide +kernel, by decide +kernel⟩, w_t 57 (by decide +kernel) rfl, rfl⟩
theorem veX5_find : VE yX5_find cX5_find 5 none 3 5 := ⟨⟨w_t 454 (by decide +kernel) rfl, ini_X5, by decide +kernel, by decide +kernel, by decide +kernel⟩, w_t 452 (by decide +kernel) rfl, w_t 453 (by decide +kernel) rfl, _, _, rfl⟩
theorem veX5_spread : VE yX5_spread cX5_spread 9 none 3 5 := ⟨⟨w_t 462 (by decide +kernel) rfl, ini_X5, by decide +kernel, by decide +kernel, by decide +kernel⟩, w_t 460 (by decide +kernel) rfl, w_t 461 (by decide +kernel) rfl, _, _, rfl⟩
theorem veX5_chosenMain : VE yX5_chosenMain cX5_chosenMain 4 (some .int) 1 5 := ⟨⟨w_t 479 (by decide +kernel) rfl, ini_X5, by decide +kernel, by decide +kernel, by decide +kernel⟩, w_t 477 (by decide +kernel) rfl, w_t 478 (by decide +kernel) rfl, _, _, rfl⟩
theorem veX5_hasWay : VE yX5_hasWay cX5_hasWay 2 (some .boolean) 1 5 := ⟨⟨w_t 495 (by decide +kernel) rfl, ini_X5, by decide +kernel, by decide +kernel, by decide +kernel⟩, w_t 493 (by decide +kernel) rfl, w_t 494 (by decide +kernel) rfl, _, _, rfl⟩
theorem veX5_worth : VE yX5_worth cX5_worth 7 (some .long) 3 5 := ⟨⟨w_t 499 (by decide +kernel) rfl, ini_X5, by decide +kernel, by decide +kernel, by decide +kernel⟩, w_t 497 (by decide +kernel) rfl, w_t 498 (by decide +kernel) rfl, _, _, rfl⟩
theorem veX5_tell : VE yX5_tell cX5_tell 3 (some .int) 2 5 := ⟨⟨w_t 599 (by decide +kernel) rfl, ini_X5, by decide +kernel, by decide +kernel, by decide +kernel⟩, w_t 597 (by decide +kernel) rfl, w_t 598 (by decide +kernel) rfl, _, _, rfl⟩
theorem ieX6_init : IE yX6_init cX6_init 2 0 := ⟨⟨w_t 14 (by decide +kernel) rfl, ini_X6, by decide +kernel, by decide +kernel, by decide +kernel⟩, w_t 13 (by decide +kernel) rfl, rfl⟩
theorem veX6_map : VE yX6_map cX6_map 3 (some .int) 2 6 := ⟨⟨w_t 173 (by decide +kernel) rfl, ini_X6, by decide +kernel, by decide +kernel, by decide +kernel⟩, w_t 171 (by decide +kernel) rfl, w_t 172 (by decide +kernel) rfl, _, _, rfl⟩
theorem veX6_field : VE yX6_field cX6_field 1 (some .int) 0 6 := ⟨⟨w_t 181 (by decide +kernel) rfl, ini_X6, by decide +kernel, by decide +kernel, by decide +kernel⟩, w_t 179 (by decide +kernel) rfl, w_t 180 (by decide +kernel) rfl, _, _, rfl⟩
theorem veX6_cell : VE yX6_cell cX6_cell 6 (some .int) 4 6 := ⟨⟨w_t 189 (by decide +kernel) rfl, ini_X6, by decide +kernel, by decide +kernel, by decide +kernel⟩, w_t 187 (by decide +kernel) rfl, w_t 188 (by decide +kernel) rfl, _, _, rfl⟩
theorem veX6_lane : VE yX6_lane cX6_lane 4 (some .int) 2 6 := ⟨⟨w_t 208 (by decide +kernel) rfl, ini_X6, by decide +kernel, by decide +kernel, by decide +kernel⟩, w_t 206 (by decide +kernel) rfl, w_t 207 (by decide +kernel) rfl, _, _, rfl⟩
theorem veX6_house : VE yX6_house cX6_house 5 (some .int) 3 6 := ⟨⟨w_t 212 (by decide +kernel) rfl, ini_X6, by decide +kernel, by decide +kernel, by decide +kernel⟩, w_t 210 (by decide +kernel) rfl, w_t 211 (by decide +kernel) rfl, _, _, rfl⟩
theorem veX6_right : VE yX6_right cX6_right 4 (some .int) 3 6 := ⟨⟨w_t 216 (by decide +kernel) rfl, ini_X6, by decide +kernel, by decide +kernel, by decide +kernel⟩, w_t 214 (by decide +kernel) rfl, w_t 215 (by decide +kernel) rfl, _, _, rfl⟩
theorem veX6_wasOrderMade : VE yX6_wasOrderMade cX6_wasOrderMade 1 (some .boolean) 0 6 := ⟨⟨w_t 177 (by decide +kernel) rfl, ini_X6, by decide +kernel, by decide +kernel, by decide +kernel⟩, w_t 176 (by decide +kernel) rfl, w_s 0 (by decide +kernel) rfl, _, _, rfl⟩
theorem veX6_isField : VE yX6_isField cX6_isField 2 (some .boolean) 1 6 := ⟨⟨w_t 197 (by decide +kernel) rfl, ini_X6, by decide +kernel, by decide +kernel, by decide +kernel⟩, w_t 196 (by decide +kernel) rfl, w_s 1 (by decide +kernel) rfl, _, _, rfl⟩
theorem seX6_isSoil : SE yX6_isSoil cX6_isSoil 1 (some .boolean) 1 := ⟨⟨w_t 200 (by decide +kernel) rfl, ini_X6, by decide +kernel, by decide +kernel, by decide +kernel⟩, w_t 199 (by decide +kernel) rfl⟩
theorem seX6_isAmount : SE yX6_isAmount cX6_isAmount 2 (some .boolean) 2 := ⟨⟨w_t 219 (by decide +kernel) rfl, ini_X6, by decide +kernel, by decide +kernel, by decide +kernel⟩, w_t 218 (by decide +kernel) rfl⟩
theorem veX6_pullDownHouse : VE yX6_pullDownHouse cX6_pullDownHouse 3 none 1 6 := ⟨⟨w_t 204 (by decide +kernel) rfl, ini_X6, by decide +kernel, by decide +kernel, by decide +kernel⟩, w_t 203 (by decide +kernel) rfl, w_s 2 (by decide +kernel) rfl, _, _, rfl⟩
theorem veX6_price : VE yX6_price cX6_price 4 (some .int) 3 6 := ⟨⟨w_t 228 (by decide +kernel) rfl, ini_X6, by decide +kernel, by decide +kernel, by decide +kernel⟩, w_t 226 (by decide +kernel) rfl, w_t 227 (by decide +kernel) rfl, _, _, rfl⟩
theorem veX6_costs : VE yX6_costs cX6_costs 3 (some .int) 2 6 := ⟨⟨w_t 240 (by decide +kernel) rfl, ini_X6, by decide +kernel, by decide +kernel, by decide +kernel⟩, w_t 238 (by decide +kernel) rfl, w_t 239 (by decide +kernel) rfl, _, _, rfl⟩
theorem veX6_rate : VE yX6_rate cX6_rate 4 (some .int) 2 6 := ⟨⟨w_t 248 (by decide +kernel) rfl, ini_X6, by decide +kernel, by decide +kernel, by decide +kernel⟩, w_t 246 (by decide +kernel) rfl, w_t 247 (by decide +kernel) rfl, _, _, rfl⟩
theorem veX6_days : VE yX6_days cX6_days 2 (some .int) 1 6 := ⟨⟨w_t 254 (by decide +kernel) rfl, ini_X6, by decide +kernel, by decide +kernel, by decide +kernel⟩, w_t 252 (by decide +kernel) rfl, w_t 253 (by decide +kernel) rfl, _, _, rfl⟩
theorem seX6_isDay : SE yX6_isDay cX6_isDay 1 (some .boolean) 1 := ⟨⟨w_t 231 (by decide +kernel) rfl, ini_X6, by decide +kernel, by decide +kernel, by decide +kernel⟩, w_t 230 (by decide +kernel) rfl⟩
theorem veX6_line : VE yX6_line cX6_line 6 (some .int) 3 6 := ⟨⟨w_t 258 (by decide +kernel) rfl, ini_X6, by decide +kernel, by decide +kernel, by decide +kernel⟩, w_t 256 (by decide +kernel) rfl, w_t 257 (by decide +kernel) rfl, _, _, rfl⟩
theorem veX6_make : VE yX6_make cX6_make 4 (some .int) 0 6 := ⟨⟨w_t 286 (by decide +kernel) rfl, ini_X6, by decide +kernel, by decide +kernel, by decide +kernel⟩, w_t 284 (by decide +kernel) rfl, w_t 285 (by decide +kernel) rfl, _, _, rfl⟩
theorem veX6_object : VE yX6_object cX6_object 4 (some .int) 1 6 := ⟨⟨w_t 404 (by decide +kernel) rfl, ini_X6, by decide +kernel, by decide +kernel, by decide +kernel⟩, w_t 402 (by decide +kernel) rfl, w_t 403 (by decide +kernel) rfl, _, _, rfl⟩
theorem veX6_hear : VE yX6_hear cX6_hear 5 (some .int) 2 6 := ⟨⟨w_t 413 (by decide +kernel) rfl, ini_X6, by decide +kernel, by decide +kernel, by decide +kernel⟩, w_t 411 (by decide +kernel) rfl, w_t 412 (by decide +kernel) rfl, _, _, rfl⟩
theorem veX6_enter : VE yX6_enter cX6_enter 3 (some .int) 0 6 := ⟨⟨w_t 425 (by decide +kernel) rfl, ini_X6, by decide +kernel, by decide +kernel, by decide +kernel⟩, w_t 423 (by decide +kernel) rfl, w_t 424 (by decide +kernel) rfl, _, _, rfl⟩
theorem veX6_undo : VE yX6_undo cX6_undo 6 (some .long) 0 6 := ⟨⟨w_t 537 (by decide +kernel) rfl, ini_X6, by decide +kernel, by decide +kernel, by decide +kernel⟩, w_t 535 (by decide +kernel) rfl, w_t 536 (by decide +kernel) rfl, _, _, rfl⟩
theorem veX6_orderAt : VE yX6_orderAt cX6_orderAt 2 (some (.object "LandTaken$Order")) 1 6 := ⟨⟨w_t 270 (by decide +kernel) rfl, ini_X6, by decide +kernel, by decide +kernel, by decide +kernel⟩, w_t 269 (by decide +kernel) rfl, w_s 5 (by decide +kernel) rfl, _, _, rfl⟩
theorem veX6_latestOrder : VE yX6_latestOrder cX6_latestOrder 1 (some (.object "LandTaken$Order")) 0 6 := ⟨⟨w_t 266 (by decide +kernel) rfl, ini_X6, by decide +kernel, by decide +kernel, by decide +kernel⟩, w_t 265 (by decide +kernel) rfl, w_s 4 (by decide +kernel) rfl, _, _, rfl⟩
theorem veX6_openOrder : VE yX6_openOrder cX6_openOrder 2 (some (.object "LandTaken$Order")) 0 6 := ⟨⟨w_t 262 (by decide +kernel) rfl, ini_X6, by decide +kernel, by decide +kernel, by decide +kernel⟩, w_t 261 (by decide +kernel) rfl, w_s 3 (by decide +kernel) rfl, _, _, rfl⟩
theorem veX6_caseOf : VE yX6_caseOf cX6_caseOf 4 (some (.object "LandTaken$Case")) 2 6 := ⟨⟨w_t 554 (by decide +kernel) rfl, ini_X6, by decide +kernel, by decide +kernel, by decide +kernel⟩, w_t 553 (by decide +kernel) rfl, w_s 15 (by decide +kernel) rfl, _, _, rfl⟩
theorem veX6_touchesField : VE yX6_touchesField cX6_touchesField 2 (some .boolean) 0 6 := ⟨⟨w_t 290 (by decide +kernel) rfl, ini_X6, by decide +kernel, by decide +kernel, by decide +kernel⟩, w_t 289 (by decide +kernel) rfl, w_s 6 (by decide +kernel) rfl, _, _, rfl⟩
theorem veX6_emptyLineIfDone : VE yX6_emptyLineIfDone cX6_emptyLineIfDone 2 none 1 6 := ⟨⟨w_t 417 (by decide +kernel) rfl, ini_X6, by decide +kernel, by decide +kernel, by decide +kernel⟩, w_t 416 (by decide +kernel) rfl, w_s 7 (by decide +kernel) rfl, _, _, rfl⟩
theorem veX6_takeReadyCells : VE yX6_takeReadyCells cX6_takeReadyCells 5 none 1 6 := ⟨⟨w_t 437 (by decide +kernel) rfl, ini_X6, by decide +kernel, by decide +kernel, by decide +kernel⟩, w_t 436 (by decide +kernel) rfl, w_s 8 (by decide +kernel) rfl, _, _, rfl⟩
theorem veX6_settleReadyCases : VE yX6_settleReadyCases cX6_settleReadyCases 5 (some .int) 1 6 := ⟨⟨w_t 446 (by decide +kernel) rfl, ini_X6, by decide +kernel, by decide +kernel, by decide +kernel⟩, w_t 445 (by decide +kernel) rfl, w_s 9 (by decide +kernel) rfl, _, _, rfl⟩
theorem veX6_assess : VE yX6_assess cX6_assess 6 none 2 6 := ⟨⟨w_t 450 (by decide +kernel) rfl, ini_X6, by decide +kernel, by decide +kernel, by decide +kernel⟩, w_t 449 (by decide +kernel) rfl, w_s 10 (by decide +kernel) rfl, _, _, rfl⟩
theorem veX6_lossOfPieces : VE yX6_lossOfPieces cX6_lossOfPieces 8 (some .long) 0 6 := ⟨⟨w_t 491 (by decide +kernel) rfl, ini_X6, by decide +kernel, by decide +kernel, by decide +kernel⟩, w_t 490 (by decide +kernel) rfl, w_s 11 (by decide +kernel) rfl, _, _, rfl⟩
theorem veX6_lossBefore : VE yX6_lossBefore cX6_lossBefore 6 (some .long) 1 6 := ⟨⟨w_t 505 (by decide +kernel) rfl, ini_X6, by decide +kernel, by decide +kernel, by decide +kernel⟩, w_t 504 (by decide +kernel) rfl, w_s 12 (by decide +kernel) rfl, _, _, rfl⟩
theorem veX6_share : VE yX6_share cX6_share 11 none 2 6 := ⟨⟨w_t 529 (by decide +kernel) rfl, ini_X6, by decide +kernel, by decide +kernel, by decide +kernel⟩, w_t 528 (by decide +kernel) rfl, w_s 13 (by decide +kernel) rfl, _, _, rfl⟩
theorem veX6_oweDebtsAgain : VE yX6_oweDebtsAgain cX6_oweDebtsAgain 4 none 1 6 := ⟨⟨w_t 542 (by decide +kernel) rfl, ini_X6, by decide +kernel, by decide +kernel, by decide +kernel⟩, w_t 541 (by decide +kernel) rfl, w_s 14 (by decide +kernel) rfl, _, _, rfl⟩
theorem veX6_pay : VE yX6_pay cX6_pay 6 (some .long) 3 6 := ⟨⟨w_t 550 (by decide +kernel) rfl, ini_X6, by decide +kernel, by decide +kernel, by decide +kernel⟩, w_t 548 (by decide +kernel) rfl, w_t 549 (by decide +kernel) rfl, _, _, rfl⟩
theorem veX6_told : VE yX6_told cX6_told 5 (some .long) 3 6 := ⟨⟨w_t 575 (by decide +kernel) rfl, ini_X6, by decide +kernel, by decide +kernel, by decide +kernel⟩, w_t 573 (by decide +kernel) rfl, w_t 574 (by decide +kernel) rfl, _, _, rfl⟩
theorem veX6_gets : VE yX6_gets cX6_gets 5 (some .long) 3 6 := ⟨⟨w_t 583 (by decide +kernel) rfl, ini_X6, by decide +kernel, by decide +kernel, by decide +kernel⟩, w_t 581 (by decide +kernel) rfl, w_t 582 (by decide +kernel) rfl, _, _, rfl⟩
theorem veX6_look : VE yX6_look cX6_look 5 (some .int) 3 6 := ⟨⟨w_t 587 (by decide +kernel) rfl, ini_X6, by decide +kernel, by decide +kernel, by decide +kernel⟩, w_t 585 (by decide +kernel) rfl, w_t 586 (by decide +kernel) rfl, _, _, rfl⟩
theorem veX6_pieces : VE yX6_pieces cX6_pieces 2 (some .int) 1 6 := ⟨⟨w_t 591 (by decide +kernel) rfl, ini_X6, by decide +kernel, by decide +kernel, by decide +kernel⟩, w_t 589 (by decide +kernel) rfl, w_t 590 (by decide +kernel) rfl, _, _, rfl⟩
theorem veX6_piece : VE yX6_piece cX6_piece 4 (some .int) 3 6 := ⟨⟨w_t 595 (by decide +kernel) rfl, ini_X6, by decide +kernel, by decide +kernel, by decide +kernel⟩, w_t 593 (by decide +kernel) rfl, w_t 594 (by decide +kernel) rfl, _, _, rfl⟩
theorem veX6_count : VE yX6_count cX6_count 2 (some .int) 1 6 := ⟨⟨w_t 603 (by decide +kernel) rfl, ini_X6, by decide +kernel, by decide +kernel, by decide +kernel⟩, w_t 601 (by decide +kernel) rfl, w_t 602 (by decide +kernel) rfl, _, _, rfl⟩
theorem veX6_digest : VE yX6_digest cX6_digest 4 (some .long) 0 6 := ⟨⟨w_t 620 (by decide +kernel) rfl, ini_X6, by decide +kernel, by decide +kernel, by decide +kernel⟩, w_t 618 (by decide +kernel) rfl, w_t 619 (by decide +kernel) rfl, _, _, rfl⟩
theorem veX6_casesOfLatest : VE yX6_casesOfLatest cX6_casesOfLatest 2 (some .int) 0 6 := ⟨⟨w_t 616 (by decide +kernel) rfl, ini_X6, by decide +kernel, by decide +kernel, by decide +kernel⟩, w_t 615 (by decide +kernel) rfl, w_s 16 (by decide +kernel) rfl, _, _, rfl⟩
theorem seX6_mixed : SE yX6_mixed cX6_mixed 4 (some .long) 2 := ⟨⟨w_t 624 (by decide +kernel) rfl, ini_X6, by decide +kernel, by decide +kernel, by decide +kernel⟩, w_t 623 (by decide +kernel) rfl⟩
theorem veX6_mixedCells : VE yX6_mixedCells cX6_mixedCells 8 (some .long) 1 6 := ⟨⟨w_t 629 (by decide +kernel) rfl, ini_X6, by decide +kernel, by decide +kernel, by decide +kernel⟩, w_t 628 (by decide +kernel) rfl, w_s 17 (by decide +kernel) rfl, _, _, rfl⟩
theorem veX6_mixedFields : VE yX6_mixedFields cX6_mixedFields 8 (some .long) 1 6 := ⟨⟨w_t 634 (by decide +kernel) rfl, ini_X6, by decide +kernel, by decide +kernel, by decide +kernel⟩, w_t 633 (by decide +kernel) rfl, w_s 18 (by decide +kernel) rfl, _, _, rfl⟩
theorem veX6_mixedOrders : VE yX6_mixedOrders cX6_mixedOrders 9 (some .long) 1 6 := ⟨⟨w_t 638 (by decide +kernel) rfl, ini_X6, by decide +kernel, by decide +kernel, by decide +kernel⟩, w_t 637 (by decide +kernel) rfl, w_s 19 (by decide +kernel) rfl, _, _, rfl⟩
theorem ieX7_init : IE yX7_init cX7_init 1 0 := ⟨⟨w_t 645 (by decide +kernel) rfl, ini_X7, by decide +kernel, by decide +kernel, by decide +kernel⟩, w_t 644 (by decide +kernel) rfl, rfl⟩
theorem seX7_in : SE yX7_in cX7_in 6 (some .boolean) 3 := ⟨⟨w_t 797 (by decide +kernel) rfl, ini_X7, by decide +kernel, by decide +kernel, by decide +kernel⟩, w_t 796 (by decide +kernel) rfl⟩
theorem veX7_fresh : VE yX7_fresh cX7_fresh 2 none 0 7 := ⟨⟨w_t 650 (by decide +kernel) rfl, ini_X7, by decide +kernel, by decide +kernel, by decide +kernel⟩, w_t 649 (by decide +kernel) rfl, w_s 20 (by decide +kernel) rfl, _, _, rfl⟩
theorem veX7_isCell : VE yX7_isCell cX7_isCell 3 (some .boolean) 2 7 := ⟨⟨w_t 809 (by decide +kernel) rfl, ini_X7, by decide +kernel, by decide +kernel, by decide +kernel⟩, w_t 808 (by decide +kernel) rfl, w_s 21 (by decide +kernel) rfl, _, _, rfl⟩
theorem veX7_isField : VE yX7_isField cX7_isField 2 (some .boolean) 1 7 := ⟨⟨w_t 813 (by decide +kernel) rfl, ini_X7, by decide +kernel, by decide +kernel, by decide +kernel⟩, w_t 812 (by decide +kernel) rfl, w_s 22 (by decide +kernel) rfl, _, _, rfl⟩
theorem veX7_map : VE yX7_map cX7_map 3 (some .int) 2 7 := ⟨⟨w_t 793 (by decide +kernel) rfl, ini_X7, by decide +kernel, by decide +kernel, by decide +kernel⟩, w_t 791 (by decide +kernel) rfl, w_t 792 (by decide +kernel) rfl, _, _, rfl⟩
theorem veX7_field : VE yX7_field cX7_field 1 (some .int) 0 7 := ⟨⟨w_t 801 (by decide +kernel) rfl, ini_X7, by decide +kernel, by decide +kernel, by decide +kernel⟩, w_t 799 (by decide +kernel) rfl, w_t 800 (by decide +kernel) rfl, _, _, rfl⟩
theorem veX7_clearHouse : VE yX7_clearHouse cX7_clearHouse 3 none 1 7 := ⟨⟨w_t 818 (by decide +kernel) rfl, ini_X7, by decide +kernel, by decide +kernel, by decide +kernel⟩, w_t 817 (by decide +kernel) rfl, w_s 23 (by decide +kernel) rfl, _, _, rfl⟩
theorem veX7_cell : VE yX7_cell cX7_cell 6 (some .int) 4 7 := ⟨⟨w_t 805 (by decide +kernel) rfl, ini_X7, by decide +kernel, by decide +kernel, by decide +kernel⟩, w_t 803 (by decide +kernel) rfl, w_t 804 (by decide +kernel) rfl, _, _, rfl⟩
theorem veX7_lane : VE yX7_lane cX7_lane 4 (some .int) 2 7 := ⟨⟨w_t 822 (by decide +kernel) rfl, ini_X7, by decide +kernel, by decide +kernel, by decide +kernel⟩, w_t 820 (by decide +kernel) rfl, w_t 821 (by decide +kernel) rfl, _, _, rfl⟩
theorem veX7_house : VE yX7_house cX7_house 4 (some .int) 3 7 := ⟨⟨w_t 826 (by decide +kernel) rfl, ini_X7, by decide +kernel, by decide +kernel, by decide +kernel⟩, w_t 824 (by decide +kernel) rfl, w_t 825 (by decide +kernel) rfl, _, _, rfl⟩
theorem veX7_right : VE yX7_right cX7_right 4 (some .int) 3 7 := ⟨⟨w_t 830 (by decide +kernel) rfl, ini_X7, by decide +kernel, by decide +kernel, by decide +kernel⟩, w_t 828 (by decide +kernel) rfl, w_t 829 (by decide +kernel) rfl, _, _, rfl⟩
theorem veX7_price : VE yX7_price cX7_price 5 (some .int) 3 7 := ⟨⟨w_t 837 (by decide +kernel) rfl, ini_X7, by decide +kernel, by decide +kernel, by decide +kernel⟩, w_t 835 (by decide +kernel) rfl, w_t 836 (by decide +kernel) rfl, _, _, rfl⟩
theorem veX7_costOf : VE yX7_costOf cX7_costOf 6 (some .int) 2 7 := ⟨⟨w_t 847 (by decide +kernel) rfl, ini_X7, by decide +kernel, by decide +kernel, by decide +kernel⟩, w_t 846 (by decide +kernel) rfl, w_s 24 (by decide +kernel) rfl, _, _, rfl⟩
theorem veX7_costs : VE yX7_costs cX7_costs 3 (some .int) 2 7 := ⟨⟨w_t 843 (by decide +kernel) rfl, ini_X7, by decide +kernel, by decide +kernel, by decide +kernel⟩, w_t 841 (by decide +kernel) rfl, w_t 842 (by decide +kernel) rfl, _, _, rfl⟩
theorem veX7_rate : VE yX7_rate cX7_rate 5 (some .int) 2 7 := ⟨⟨w_t 851 (by decide +kernel) rfl, ini_X7, by decide +kernel, by decide +kernel, by decide +kernel⟩, w_t 849 (by decide +kernel) rfl, w_t 850 (by decide +kernel) rfl, _, _, rfl⟩
theorem veX7_days : VE yX7_days cX7_days 2 (some .int) 1 7 := ⟨⟨w_t 857 (by decide +kernel) rfl, ini_X7, by decide +kernel, by decide +kernel, by decide +kernel⟩, w_t 855 (by decide +kernel) rfl, w_t 856 (by decide +kernel) rfl, _, _, rfl⟩
theorem seX7_overX : SE yX7_overX cX7_overX 1 (some .int) 1 := ⟨⟨w_t 904 (by decide +kernel) rfl, ini_X7, by decide +kernel, by decide +kernel, by decide +kernel⟩, w_t 903 (by decide +kernel) rfl⟩
theorem seX7_overY : SE yX7_overY cX7_overY 1 (some .int) 1 := ⟨⟨w_t 907 (by decide +kernel) rfl, ini_X7, by decide +kernel, by decide +kernel, by decide +kernel⟩, w_t 906 (by decide +kernel) rfl⟩
theorem veX7_beside : VE yX7_beside cX7_beside 5 (some .int) 2 7 := ⟨⟨w_t 901 (by decide +kernel) rfl, ini_X7, by decide +kernel, by decide +kernel, by decide +kernel⟩, w_t 900 (by decide +kernel) rfl, w_s 30 (by decide +kernel) rfl, _, _, rfl⟩
theorem veX7_isLeft : VE yX7_isLeft cX7_isLeft 3 (some .boolean) 2 7 := ⟨⟨w_t 873 (by decide +kernel) rfl, ini_X7, by decide +kernel, by decide +kernel, by decide +kernel⟩, w_t 872 (by decide +kernel) rfl, w_s 26 (by decide +kernel) rfl, _, _, rfl⟩
theorem veX7_spread : VE yX7_spread cX7_spread 7 none 2 7 := ⟨⟨w_t 915 (by decide +kernel) rfl, ini_X7, by decide +kernel, by decide +kernel, by decide +kernel⟩, w_t 914 (by decide +kernel) rfl, w_s 32 (by decide +kernel) rfl, _, _, rfl⟩
theorem veX7_divide : VE yX7_divide cX7_divide 5 none 1 7 := ⟨⟨w_t 911 (by decide +kernel) rfl, ini_X7, by decide +kernel, by decide +kernel, by decide +kernel⟩, w_t 910 (by decide +kernel) rfl, w_s 31 (by decide +kernel) rfl, _, _, rfl⟩
theorem veX7_mainOf : VE yX7_mainOf cX7_mainOf 5 (some .int) 1 7 := ⟨⟨w_t 919 (by decide +kernel) rfl, ini_X7, by decide +kernel, by decide +kernel, by decide +kernel⟩, w_t 918 (by decide +kernel) rfl, w_s 33 (by decide +kernel) rfl, _, _, rfl⟩
theorem veX7_hasWay : VE yX7_hasWay cX7_hasWay 5 (some .boolean) 1 7 := ⟨⟨w_t 927 (by decide +kernel) rfl, ini_X7, by decide +kernel, by decide +kernel, by decide +kernel⟩, w_t 926 (by decide +kernel) rfl, w_s 35 (by decide +kernel) rfl, _, _, rfl⟩
theorem veX7_pricesOf : VE yX7_pricesOf cX7_pricesOf 5 (some .long) 1 7 := ⟨⟨w_t 923 (by decide +kernel) rfl, ini_X7, by decide +kernel, by decide +kernel, by decide +kernel⟩, w_t 922 (by decide +kernel) rfl, w_s 34 (by decide +kernel) rfl, _, _, rfl⟩
theorem veX7_isCase : VE yX7_isCase cX7_isCase 3 (some .boolean) 2 7 := ⟨⟨w_t 956 (by decide +kernel) rfl, ini_X7, by decide +kernel, by decide +kernel, by decide +kernel⟩, w_t 955 (by decide +kernel) rfl, w_s 40 (by decide +kernel) rfl, _, _, rfl⟩
theorem veX7_line : VE yX7_line cX7_line 6 (some .int) 3 7 := ⟨⟨w_t 861 (by decide +kernel) rfl, ini_X7, by decide +kernel, by decide +kernel, by decide +kernel⟩, w_t 859 (by decide +kernel) rfl, w_t 860 (by decide +kernel) rfl, _, _, rfl⟩
theorem veX7_wanted : VE yX7_wanted cX7_wanted 4 (some .int) 1 7 := ⟨⟨w_t 869 (by decide +kernel) rfl, ini_X7, by decide +kernel, by decide +kernel, by decide +kernel⟩, w_t 868 (by decide +kernel) rfl, w_s 25 (by decide +kernel) rfl, _, _, rfl⟩
theorem veX7_make : VE yX7_make cX7_make 6 (some .int) 0 7 := ⟨⟨w_t 865 (by decide +kernel) rfl, ini_X7, by decide +kernel, by decide +kernel, by decide +kernel⟩, w_t 863 (by decide +kernel) rfl, w_t 864 (by decide +kernel) rfl, _, _, rfl⟩
theorem veX7_object : VE yX7_object cX7_object 3 (some .int) 1 7 := ⟨⟨w_t 877 (by decide +kernel) rfl, ini_X7, by decide +kernel, by decide +kernel, by decide +kernel⟩, w_t 875 (by decide +kernel) rfl, w_t 876 (by decide +kernel) rfl, _, _, rfl⟩
theorem veX7_close : VE yX7_close cX7_close 5 none 0 7 := ⟨⟨w_t 885 (by decide +kernel) rfl, ini_X7, by decide +kernel, by decide +kernel, by decide +kernel⟩, w_t 884 (by decide +kernel) rfl, w_s 27 (by decide +kernel) rfl, _, _, rfl⟩
theorem veX7_hear : VE yX7_hear cX7_hear 4 (some .int) 2 7 := ⟨⟨w_t 881 (by decide +kernel) rfl, ini_X7, by decide +kernel, by decide +kernel, by decide +kernel⟩, w_t 879 (by decide +kernel) rfl, w_t 880 (by decide +kernel) rfl, _, _, rfl⟩
theorem veX7_mayEnter : VE yX7_mayEnter cX7_mayEnter 3 (some .boolean) 2 7 := ⟨⟨w_t 893 (by decide +kernel) rfl, ini_X7, by decide +kernel, by decide +kernel, by decide +kernel⟩, w_t 892 (by decide +kernel) rfl, w_s 28 (by decide +kernel) rfl, _, _, rfl⟩
theorem veX7_enter : VE yX7_enter cX7_enter 6 (some .int) 0 7 := ⟨⟨w_t 889 (by decide +kernel) rfl, ini_X7, by decide +kernel, by decide +kernel, by decide +kernel⟩, w_t 887 (by decide +kernel) rfl, w_t 888 (by decide +kernel) rfl, _, _, rfl⟩
theorem veX7_work : VE yX7_work cX7_work 10 none 1 7 := ⟨⟨w_t 897 (by decide +kernel) rfl, ini_X7, by decide +kernel, by decide +kernel, by decide +kernel⟩, w_t 896 (by decide +kernel) rfl, w_s 29 (by decide +kernel) rfl, _, _, rfl⟩
theorem veX7_lossBefore : VE yX7_lossBefore cX7_lossBefore 6 (some .long) 1 7 := ⟨⟨w_t 931 (by decide +kernel) rfl, ini_X7, by decide +kernel, by decide +kernel, by decide +kernel⟩, w_t 930 (by decide +kernel) rfl, w_s 36 (by decide +kernel) rfl, _, _, rfl⟩
theorem veX7_debtLeft : VE yX7_debtLeft cX7_debtLeft 7 (some .long) 2 7 := ⟨⟨w_t 943 (by decide +kernel) rfl, ini_X7, by decide +kernel, by decide +kernel, by decide +kernel⟩, w_t 942 (by decide +kernel) rfl, w_s 39 (by decide +kernel) rfl, _, _, rfl⟩
theorem veX7_dueOf : VE yX7_dueOf cX7_dueOf 2 (some .long) 1 7 := ⟨⟨w_t 939 (by decide +kernel) rfl, ini_X7, by decide +kernel, by decide +kernel, by decide +kernel⟩, w_t 938 (by decide +kernel) rfl, w_s 38 (by decide +kernel) rfl, _, _, rfl⟩
theorem veX7_share : VE yX7_share cX7_share 10 none 1 7 := ⟨⟨w_t 935 (by decide +kernel) rfl, ini_X7, by decide +kernel, by decide +kernel, by decide +kernel⟩, w_t 934 (by decide +kernel) rfl, w_s 37 (by decide +kernel) rfl, _, _, rfl⟩
theorem veX7_undo : VE yX7_undo cX7_undo 5 (some .long) 0 7 := ⟨⟨w_t 947 (by decide +kernel) rfl, ini_X7, by decide +kernel, by decide +kernel, by decide +kernel⟩, w_t 945 (by decide +kernel) rfl, w_t 946 (by decide +kernel) rfl, _, _, rfl⟩
theorem veX7_owed : VE yX7_owed cX7_owed 2 (some .long) 1 7 := ⟨⟨w_t 967 (by decide +kernel) rfl, ini_X7, by decide +kernel, by decide +kernel, by decide +kernel⟩, w_t 966 (by decide +kernel) rfl, w_s 42 (by decide +kernel) rfl, _, _, rfl⟩
theorem veX7_interestOf : VE yX7_interestOf cX7_interestOf 2 (some .long) 1 7 := ⟨⟨w_t 963 (by decide +kernel) rfl, ini_X7, by decide +kernel, by decide +kernel, by decide +kernel⟩, w_t 962 (by decide +kernel) rfl, w_s 41 (by decide +kernel) rfl, _, _, rfl⟩
theorem veX7_pay : VE yX7_pay cX7_pay 10 (some .long) 3 7 := ⟨⟨w_t 952 (by decide +kernel) rfl, ini_X7, by decide +kernel, by decide +kernel, by decide +kernel⟩, w_t 950 (by decide +kernel) rfl, w_t 951 (by decide +kernel) rfl, _, _, rfl⟩
theorem veX7_toldOf : VE yX7_toldOf cX7_toldOf 4 (some .long) 2 7 := ⟨⟨w_t 976 (by decide +kernel) rfl, ini_X7, by decide +kernel, by decide +kernel, by decide +kernel⟩, w_t 975 (by decide +kernel) rfl, w_s 43 (by decide +kernel) rfl, _, _, rfl⟩
theorem veX7_told : VE yX7_told cX7_told 4 (some .long) 3 7 := ⟨⟨w_t 971 (by decide +kernel) rfl, ini_X7, by decide +kernel, by decide +kernel, by decide +kernel⟩, w_t 969 (by decide +kernel) rfl, w_t 970 (by decide +kernel) rfl, _, _, rfl⟩
theorem veX7_gets : VE yX7_gets cX7_gets 4 (some .long) 3 7 := ⟨⟨w_t 980 (by decide +kernel) rfl, ini_X7, by decide +kernel, by decide +kernel, by decide +kernel⟩, w_t 978 (by decide +kernel) rfl, w_t 979 (by decide +kernel) rfl, _, _, rfl⟩
theorem veX7_lookOf : VE yX7_lookOf cX7_lookOf 3 (some .int) 2 7 := ⟨⟨w_t 988 (by decide +kernel) rfl, ini_X7, by decide +kernel, by decide +kernel, by decide +kernel⟩, w_t 987 (by decide +kernel) rfl, w_s 44 (by decide +kernel) rfl, _, _, rfl⟩
theorem veX7_look : VE yX7_look cX7_look 4 (some .int) 3 7 := ⟨⟨w_t 984 (by decide +kernel) rfl, ini_X7, by decide +kernel, by decide +kernel, by decide +kernel⟩, w_t 982 (by decide +kernel) rfl, w_t 983 (by decide +kernel) rfl, _, _, rfl⟩
theorem veX7_pieces : VE yX7_pieces cX7_pieces 2 (some .int) 1 7 := ⟨⟨w_t 992 (by decide +kernel) rfl, ini_X7, by decide +kernel, by decide +kernel, by decide +kernel⟩, w_t 990 (by decide +kernel) rfl, w_t 991 (by decide +kernel) rfl, _, _, rfl⟩
theorem veX7_piece : VE yX7_piece cX7_piece 4 (some .int) 3 7 := ⟨⟨w_t 996 (by decide +kernel) rfl, ini_X7, by decide +kernel, by decide +kernel, by decide +kernel⟩, w_t 994 (by decide +kernel) rfl, w_t 995 (by decide +kernel) rfl, _, _, rfl⟩
theorem veX7_count : VE yX7_count cX7_count 4 (some .int) 1 7 := ⟨⟨w_t 1000 (by decide +kernel) rfl, ini_X7, by decide +kernel, by decide +kernel, by decide +kernel⟩, w_t 998 (by decide +kernel) rfl, w_t 999 (by decide +kernel) rfl, _, _, rfl⟩
theorem veX7_mix : VE yX7_mix cX7_mix 3 none 1 7 := ⟨⟨w_t 1009 (by decide +kernel) rfl, ini_X7, by decide +kernel, by decide +kernel, by decide +kernel⟩, w_t 1008 (by decide +kernel) rfl, w_s 45 (by decide +kernel) rfl, _, _, rfl⟩
theorem veX7_digest : VE yX7_digest cX7_digest 4 (some .long) 0 7 := ⟨⟨w_t 1004 (by decide +kernel) rfl, ini_X7, by decide +kernel, by decide +kernel, by decide +kernel⟩, w_t 1002 (by decide +kernel) rfl, w_t 1003 (by decide +kernel) rfl, _, _, rfl⟩
theorem seJ9_max_f86c9 : SE yJ9_max_f86c9 cJ9_max_f86c9 4 (some .long) 2 := ⟨⟨w_t 512 (by decide +kernel) rfl, ini_J9, by decide +kernel, by decide +kernel, by decide +kernel⟩, w_t 511 (by decide +kernel) rfl⟩
theorem seJ9_min_f86c9 : SE yJ9_min_f86c9 cJ9_min_f86c9 4 (some .long) 2 := ⟨⟨w_t 525 (by decide +kernel) rfl, ini_J9, by decide +kernel, by decide +kernel, by decide +kernel⟩, w_t 524 (by decide +kernel) rfl⟩
abbrev rmX0_init : Room := { frames := 1, cells := 1, slots := 4, locals := 12 }
abbrev rmX0_begin : Room := { frames := 0, cells := 0, slots := 0, locals := 0 }
abbrev rmX0_isReady : Room := { frames := 0, cells := 0, slots := 0, locals := 0 }
abbrev rmX0_enterOn : Room := { frames := 0, cells := 0, slots := 0, locals := 0 }
abbrev rmX0_owed : Room := { frames := 0, cells := 0, slots := 0, locals := 0 }
abbrev rmX0_interestOn : Room := { frames := 1, cells := 0, slots := 0, locals := 20 }
abbrev rmX0_receive : Room := { frames := 2, cells := 0, slots := 0, locals := 41 }
abbrev rmX0_tell : Room := { frames := 2, cells := 0, slots := 0, locals := 41 }
abbrev rmX1_init : Room := { frames := 1, cells := 3, slots := 12, locals := 12 }
abbrev rmX1_clear : Room := { frames := 0, cells := 0, slots := 0, locals := 0 }
abbrev rmX1_addRight : Room := { frames := 0, cells := 0, slots := 0, locals := 0 }
abbrev rmX2_init : Room := { frames := 1, cells := 5, slots := 1280, locals := 12 }
abbrev rmX2_renew : Room := { frames := 0, cells := 0, slots := 0, locals := 0 }
abbrev rmX2_at : Room := { frames := 0, cells := 0, slots := 0, locals := 0 }
abbrev rmX2_beside : Room := { frames := 1, cells := 0, slots := 0, locals := 23 }
abbrev rmX2_isTaken : Room := { frames := 0, cells := 0, slots := 0, locals := 0 }
abbrev rmX2_isKept : Room := { frames := 0, cells := 0, slots := 0, locals := 0 }
abbrev rmX2_isInLineOf : Room := { frames := 0, cells := 0, slots := 0, locals := 0 }
abbrev rmX2_isOpenLane : Room := { frames := 0, cells := 0, slots := 0, locals := 0 }
abbrev rmX2_cellsInLine : Room := { frames := 1, cells := 0, slots := 0, locals := 22 }
abbrev rmX2_cellsChosen : Room := { frames := 0, cells := 0, slots := 0, locals := 0 }
abbrev rmX2_cellsTaken : Room := { frames := 1, cells := 0, slots := 0, locals := 21 }
abbrev rmX2_takeLine : Room := { frames := 1, cells := 0, slots := 0, locals := 22 }
abbrev rmX2_giveBack : Room := { frames := 0, cells := 0, slots := 0, locals := 0 }
abbrev rmX2_emptyLine : Room := { frames := 0, cells := 0, slots := 0, locals := 0 }
abbrev rmX2_worthInLine : Room := { frames := 1, cells := 0, slots := 0, locals := 23 }
abbrev rmX2_priceAt : Room := { frames := 0, cells := 0, slots := 0, locals := 0 }
abbrev rmX2_fenceSides : Room := { frames := 3, cells := 0, slots := 0, locals := 70 }
abbrev rmX2_keptSides : Room := { frames := 2, cells := 0, slots := 0, locals := 45 }
abbrev rmX3_init : Room := { frames := 1, cells := 1, slots := 12, locals := 12 }
abbrev rmX3_begin : Room := { frames := 0, cells := 0, slots := 0, locals := 0 }
abbrev rmX3_addCase : Room := { frames := 2, cells := 2, slots := 20, locals := 32 }
abbrev rmX3_caseAt : Room := { frames := 0, cells := 0, slots := 0, locals := 0 }
abbrev rmX3_noticeEnd : Room := { frames := 0, cells := 0, slots := 0, locals := 0 }
abbrev rmX3_hasReady : Room := { frames := 1, cells := 0, slots := 0, locals := 21 }
abbrev rmX3_isDone : Room := { frames := 1, cells := 0, slots := 0, locals := 21 }
abbrev rmX3_lossOf : Room := { frames := 1, cells := 0, slots := 0, locals := 21 }
abbrev rmX4_init : Room := { frames := 1, cells := 2, slots := 40, locals := 12 }
abbrev rmX4_put : Room := { frames := 0, cells := 0, slots := 0, locals := 0 }
abbrev rmX4_on : Room := { frames := 0, cells := 0, slots := 0, locals := 0 }
abbrev rmX5_init : Room := { frames := 1, cells := 5, slots := 1280, locals := 12 }
abbrev rmX5_find : Room := { frames := 3, cells := 0, slots := 0, locals := 73 }
abbrev rmX5_spread : Room := { frames := 2, cells := 0, slots := 0, locals := 45 }
abbrev rmX5_chosenMain : Room := { frames := 0, cells := 0, slots := 0, locals := 0 }
abbrev rmX5_hasWay : Room := { frames := 0, cells := 0, slots := 0, locals := 0 }
abbrev rmX5_worth : Room := { frames := 1, cells := 0, slots := 0, locals := 23 }
abbrev rmX5_tell : Room := { frames := 0, cells := 0, slots := 0, locals := 0 }
abbrev rmX6_init : Room := { frames := 2, cells := 77, slots := 3035, locals := 32 }
abbrev rmX6_map : Room := { frames := 1, cells := 0, slots := 0, locals := 23 }
abbrev rmX6_field : Room := { frames := 1, cells := 0, slots := 0, locals := 20 }
abbrev rmX6_cell : Room := { frames := 1, cells := 0, slots := 0, locals := 23 }
abbrev rmX6_lane : Room := { frames := 1, cells := 0, slots := 0, locals := 23 }
abbrev rmX6_house : Room := { frames := 1, cells := 0, slots := 0, locals := 23 }
abbrev rmX6_right : Room := { frames := 1, cells := 0, slots := 0, locals := 22 }
abbrev rmX6_wasOrderMade : Room := { frames := 0, cells := 0, slots := 0, locals := 0 }
abbrev rmX6_isField : Room := { frames := 0, cells := 0, slots := 0, locals := 0 }
abbrev rmX6_isSoil : Room := { frames := 0, cells := 0, slots := 0, locals := 0 }
abbrev rmX6_isAmount : Room := { frames := 0, cells := 0, slots := 0, locals := 0 }
abbrev rmX6_pullDownHouse : Room := { frames := 0, cells := 0, slots := 0, locals := 0 }
abbrev rmX6_price : Room := { frames := 1, cells := 0, slots := 0, locals := 23 }
abbrev rmX6_costs : Room := { frames := 1, cells := 0, slots := 0, locals := 24 }
abbrev rmX6_rate : Room := { frames := 0, cells := 0, slots := 0, locals := 0 }
abbrev rmX6_days : Room := { frames := 0, cells := 0, slots := 0, locals := 0 }
abbrev rmX6_isDay : Room := { frames := 0, cells := 0, slots := 0, locals := 0 }
abbrev rmX6_line : Room := { frames := 3, cells := 0, slots := 0, locals := 64 }
abbrev rmX6_make : Room := { frames := 3, cells := 26, slots := 256, locals := 66 }
abbrev rmX6_object : Room := { frames := 3, cells := 0, slots := 0, locals := 64 }
abbrev rmX6_hear : Room := { frames := 3, cells := 0, slots := 0, locals := 64 }
abbrev rmX6_enter : Room := { frames := 6, cells := 0, slots := 0, locals := 146 }
abbrev rmX6_undo : Room := { frames := 2, cells := 0, slots := 0, locals := 44 }
abbrev rmX6_orderAt : Room := { frames := 0, cells := 0, slots := 0, locals := 0 }
abbrev rmX6_latestOrder : Room := { frames := 1, cells := 0, slots := 0, locals := 21 }
abbrev rmX6_openOrder : Room := { frames := 2, cells := 0, slots := 0, locals := 43 }
abbrev rmX6_caseOf : Room := { frames := 1, cells := 0, slots := 0, locals := 21 }
abbrev rmX6_touchesField : Room := { frames := 2, cells := 0, slots := 0, locals := 45 }
abbrev rmX6_emptyLineIfDone : Room := { frames := 2, cells := 0, slots := 0, locals := 43 }
abbrev rmX6_takeReadyCells : Room := { frames := 2, cells := 0, slots := 0, locals := 45 }
abbrev rmX6_settleReadyCases : Room := { frames := 5, cells := 0, slots := 0, locals := 122 }
abbrev rmX6_assess : Room := { frames := 4, cells := 0, slots := 0, locals := 97 }
abbrev rmX6_lossOfPieces : Room := { frames := 2, cells := 0, slots := 0, locals := 49 }
abbrev rmX6_lossBefore : Room := { frames := 2, cells := 0, slots := 0, locals := 46 }
abbrev rmX6_share : Room := { frames := 1, cells := 0, slots := 0, locals := 23 }
abbrev rmX6_oweDebtsAgain : Room := { frames := 1, cells := 0, slots := 0, locals := 21 }
abbrev rmX6_pay : Room := { frames := 3, cells := 0, slots := 0, locals := 70 }
abbrev rmX6_told : Room := { frames := 3, cells := 0, slots := 0, locals := 63 }
abbrev rmX6_gets : Room := { frames := 2, cells := 0, slots := 0, locals := 44 }
abbrev rmX6_look : Room := { frames := 1, cells := 0, slots := 0, locals := 23 }
abbrev rmX6_pieces : Room := { frames := 4, cells := 0, slots := 0, locals := 97 }
abbrev rmX6_piece : Room := { frames := 4, cells := 0, slots := 0, locals := 97 }
abbrev rmX6_count : Room := { frames := 3, cells := 0, slots := 0, locals := 64 }
abbrev rmX6_digest : Room := { frames := 5, cells := 0, slots := 0, locals := 115 }
abbrev rmX6_casesOfLatest : Room := { frames := 2, cells := 0, slots := 0, locals := 41 }
abbrev rmX6_mixed : Room := { frames := 0, cells := 0, slots := 0, locals := 0 }
abbrev rmX6_mixedCells : Room := { frames := 2, cells := 0, slots := 0, locals := 47 }
abbrev rmX6_mixedFields : Room := { frames := 1, cells := 0, slots := 0, locals := 23 }
abbrev rmX6_mixedOrders : Room := { frames := 4, cells := 0, slots := 0, locals := 87 }
abbrev rmX7_init : Room := { frames := 1, cells := 36, slots := 15329, locals := 21 }
abbrev rmX7_in : Room := { frames := 0, cells := 0, slots := 0, locals := 0 }
abbrev rmX7_fresh : Room := { frames := 0, cells := 0, slots := 0, locals := 0 }
abbrev rmX7_isCell : Room := { frames := 1, cells := 0, slots := 0, locals := 25 }
abbrev rmX7_isField : Room := { frames := 1, cells := 0, slots := 0, locals := 25 }
abbrev rmX7_map : Room := { frames := 1, cells := 0, slots := 0, locals := 25 }
abbrev rmX7_field : Room := { frames := 0, cells := 0, slots := 0, locals := 0 }
abbrev rmX7_clearHouse : Room := { frames := 0, cells := 0, slots := 0, locals := 0 }
abbrev rmX7_cell : Room := { frames := 2, cells := 0, slots := 0, locals := 47 }
abbrev rmX7_lane : Room := { frames := 2, cells := 0, slots := 0, locals := 47 }
abbrev rmX7_house : Room := { frames := 2, cells := 0, slots := 0, locals := 47 }
abbrev rmX7_right : Room := { frames := 2, cells := 0, slots := 0, locals := 46 }
abbrev rmX7_price : Room := { frames := 1, cells := 0, slots := 0, locals := 25 }
abbrev rmX7_costOf : Room := { frames := 0, cells := 0, slots := 0, locals := 0 }
abbrev rmX7_costs : Room := { frames := 1, cells := 0, slots := 0, locals := 25 }
abbrev rmX7_rate : Room := { frames := 1, cells := 0, slots := 0, locals := 25 }
abbrev rmX7_days : Room := { frames := 1, cells := 0, slots := 0, locals := 25 }
abbrev rmX7_overX : Room := { frames := 0, cells := 0, slots := 0, locals := 0 }
abbrev rmX7_overY : Room := { frames := 0, cells := 0, slots := 0, locals := 0 }
abbrev rmX7_beside : Room := { frames := 2, cells := 0, slots := 0, locals := 47 }
abbrev rmX7_isLeft : Room := { frames := 0, cells := 0, slots := 0, locals := 0 }
abbrev rmX7_spread : Room := { frames := 3, cells := 0, slots := 0, locals := 71 }
abbrev rmX7_divide : Room := { frames := 4, cells := 0, slots := 0, locals := 97 }
abbrev rmX7_mainOf : Room := { frames := 0, cells := 0, slots := 0, locals := 0 }
abbrev rmX7_hasWay : Room := { frames := 3, cells := 0, slots := 0, locals := 71 }
abbrev rmX7_pricesOf : Room := { frames := 1, cells := 0, slots := 0, locals := 25 }
abbrev rmX7_isCase : Room := { frames := 1, cells := 0, slots := 0, locals := 25 }
abbrev rmX7_line : Room := { frames := 2, cells := 0, slots := 0, locals := 47 }
abbrev rmX7_wanted : Room := { frames := 1, cells := 0, slots := 0, locals := 22 }
abbrev rmX7_make : Room := { frames := 2, cells := 0, slots := 0, locals := 45 }
abbrev rmX7_object : Room := { frames := 1, cells := 0, slots := 0, locals := 25 }
abbrev rmX7_close : Room := { frames := 0, cells := 0, slots := 0, locals := 0 }
abbrev rmX7_hear : Room := { frames := 1, cells := 0, slots := 0, locals := 25 }
abbrev rmX7_mayEnter : Room := { frames := 0, cells := 0, slots := 0, locals := 0 }
abbrev rmX7_enter : Room := { frames := 6, cells := 0, slots := 0, locals := 150 }
abbrev rmX7_work : Room := { frames := 5, cells := 0, slots := 0, locals := 121 }
abbrev rmX7_lossBefore : Room := { frames := 0, cells := 0, slots := 0, locals := 0 }
abbrev rmX7_debtLeft : Room := { frames := 0, cells := 0, slots := 0, locals := 0 }
abbrev rmX7_dueOf : Room := { frames := 0, cells := 0, slots := 0, locals := 0 }
abbrev rmX7_share : Room := { frames := 1, cells := 0, slots := 0, locals := 26 }
abbrev rmX7_undo : Room := { frames := 0, cells := 0, slots := 0, locals := 0 }
abbrev rmX7_owed : Room := { frames := 1, cells := 0, slots := 0, locals := 21 }
abbrev rmX7_interestOf : Room := { frames := 2, cells := 0, slots := 0, locals := 42 }
abbrev rmX7_pay : Room := { frames := 3, cells := 0, slots := 0, locals := 63 }
abbrev rmX7_toldOf : Room := { frames := 3, cells := 0, slots := 0, locals := 63 }
abbrev rmX7_told : Room := { frames := 4, cells := 0, slots := 0, locals := 86 }
abbrev rmX7_gets : Room := { frames := 2, cells := 0, slots := 0, locals := 47 }
abbrev rmX7_lookOf : Room := { frames := 0, cells := 0, slots := 0, locals := 0 }
abbrev rmX7_look : Room := { frames := 2, cells := 0, slots := 0, locals := 47 }
abbrev rmX7_pieces : Room := { frames := 5, cells := 0, slots := 0, locals := 121 }
abbrev rmX7_piece : Room := { frames := 5, cells := 0, slots := 0, locals := 121 }
abbrev rmX7_count : Room := { frames := 0, cells := 0, slots := 0, locals := 0 }
abbrev rmX7_mix : Room := { frames := 0, cells := 0, slots := 0, locals := 0 }
abbrev rmX7_digest : Room := { frames := 4, cells := 0, slots := 0, locals := 86 }
abbrev rmJ9_max_f86c9 : Room := { frames := 0, cells := 0, slots := 0, locals := 0 }
abbrev rmJ9_min_f86c9 : Room := { frames := 0, cells := 0, slots := 0, locals := 0 }
end
section
section AWC2
variable {K : CX} {Q : QT} {cs sl pc pc2 n : Nat} {lv : List (Option Value)} {st : List Value} {h : HP} {y0 : MethodName} {cc : ByteArray} {nL : Nat} {rt : Option FieldType} {rm : Room}
theorem aw_cV (hk : OK K y0 cc nL rt rm) {y : MethodName} {cc2 : ByteArray} {nL2 ix a ci na : Nat} {rt2 : Option FieldType} {rm2 : Room} (hc : VE y cc2 nL2 rt2 na ci) (hd : decode cc pc = .ok (.invokevirtual ix, 3)) (hp : pc + 3 = pc2) (hl1 : Cond.methodLink y0.cls ix y ∈ w_tbl) (hf : fitR rm2 rm nL2) (As : List Value) (hna : As.length = na) {stk : List Value} (hstk : stk = As.reverse ++ .ref a :: st) (hcat : (st.map fun v => v.category).sum ≤ 8) (hcs : cs + rm2.cells ≤ rm.cells) (hsl : sl + rm2.slots ≤ rm.slots) {fs : List Value} (ha : h a = some (.inr (ci, fs))) (hC : Calls y cc2 nL2 rt2 rm2 (.ref a :: As) n h (fun r n2 h2 => AW K Q (cs + rm2.cells) (sl + rm2.slots) pc2 lv (r.toList ++ st) n2 h2)) : AW K Q cs sl pc lv stk n h := by
  obtain ⟨h1, h2, h3, T, N, h4⟩ := hc
  exact aw_callV hk h1 hd hp hl1 h2 h3 hf As hna hcat hcs hsl ha h4 hC hstk
theorem aw_cS (hk : OK K y0 cc nL rt rm) {y : MethodName} {cc2 : ByteArray} {nL2 ix na : Nat} {rt2 : Option FieldType} {rm2 : Room} (hc : SE y cc2 nL2 rt2 na) (hd : decode cc pc = .ok (.invokestatic ix, 3)) (hp : pc + 3 = pc2) (hl1 : Cond.methodLink y0.cls ix y ∈ w_tbl) (hf : fitR rm2 rm nL2) (As : List Value) (hna : As.length = na) {stk : List Value} (hstk : stk = As.reverse ++ st) (hcat : (st.map fun v => v.category).sum ≤ 8) (hcs : cs + rm2.cells ≤ rm.cells) (hsl : sl + rm2.slots ≤ rm.slots) (hC : Calls y cc2 nL2 rt2 rm2 As n h (fun r n2 h2 => AW K Q (cs + rm2.cells) (sl + rm2.slots) pc2 lv (r.toList ++ st) n2 h2)) : AW K Q cs sl pc lv stk n h := aw_callS hk hc.1 hd hp hl1 hc.2 hf As hna hcat hcs hsl hC hstk
end AWC2
end
section
abbrev M2 : Type := Nat → Nat → Int32
abbrev J2 : Type := Nat → Nat → Int64
abbrev R2 : Type := Nat → Nat → Option Nat
abbrev D2 : Type := Nat → Nat × Nat
def u2 {α : Type} (M : Nat → Nat → α) (a j : Nat) (x : α) : Nat → Nat → α := fun b c => if b = a ∧ c = j then x else M b c
theorem u2_s {α : Type} (M : Nat → Nat → α) (a j : Nat) (x : α) : u2 M a j x a j = x := by simp [u2]
theorem u2_a {α : Type} (M : Nat → Nat → α) {a b : Nat} (j c : Nat) (x : α) (h : b ≠ a) : u2 M a j x b c = M b c := by simp [u2, h]
theorem u2_j {α : Type} (M : Nat → Nat → α) (a b : Nat) {j c : Nat} (x : α) (h : c ≠ j) : u2 M a j x b c = M b c := by simp [u2, h]
abbrev rfs (f : Nat → Option Nat) : (Nat → Int32) ⊕ (Nat → Int64) ⊕ (Nat → UInt32) ⊕ (Nat → UInt64) ⊕ (Nat → Option Nat) := .inr (.inr (.inr (.inr f)))
abbrev fsX0 (a : Nat) (S : M2) (L : J2) : List Value := [.int (S a 0), .int (S a 1), .int (S a 2), .int (S a 3), .int (S a 4), .int (S a 5), .long (L a 6), .long (L a 7), .long (L a 8), .long (L a 9), .long (L a 10), .long (L a 11), .long (L a 12), .long (L a 13), .long (L a 14), .ref (a + 1)]
abbrev fsX1 (a : Nat) (S : M2) (L : J2) : List Value := [.int (S a 0), .int (S a 1), .ref (a + 1), .ref (a + 2), .ref (a + 3)]
abbrev fsX2 (a : Nat) (S : M2) (L : J2) : List Value := [.int (S a 0), .int (S a 1), .ref (a + 1), .ref (a + 2), .ref (a + 3), .ref (a + 4), .ref (a + 5)]
abbrev fsX3 (a : Nat) (S : M2) (L : J2) : List Value := [.int (S a 0), .int (S a 1), .int (S a 2), .ref (a + 1)]
abbrev fsX4 (a : Nat) (S : M2) (L : J2) : List Value := [.int (S a 0), .ref (a + 1), .ref (a + 2)]
abbrev fsX5 (a : Nat) (S : M2) (L : J2) : List Value := [.int (S a 0), .int (S a 1), .ref (a + 1), .ref (a + 2), .ref (a + 3), .ref (a + 4), .ref (a + 5)]
abbrev fsX6 (a : Nat) (S : M2) (L : J2) : List Value := [.ref 1, .ref 7, .ref 13, .int (S a 3), .ref 62, .ref 75, .ref 76, .int (S a 7), .ref 77, .int (S a 9), .int (S a 10)]
abbrev fsX7 (a : Nat) (S : M2) (L : J2) : List Value := [.int (S a 0), .int (S a 1), .ref 79, .ref 80, .ref 81, .ref 82, .ref 83, .int (S a 7), .ref 84, .ref 85, .ref 86, .ref 87, .ref 88, .ref 89, .ref 90, .ref 91, .int (S a 16), .int (S a 17), .int (S a 18), .int (S a 19), .int (S a 20), .ref 92, .ref 93, .ref 94, .ref 95, .ref 96, .ref 97, .ref 98, .ref 99, .ref 100, .ref 101, .ref 102, .ref 103, .ref 104, .ref 105, .ref 106, .ref 107, .ref 108, .ref 109, .ref 110, .ref 111, .int (S a 41), .ref 112, .ref 113, .ref 114, .long (L a 45)]
def kL : List (Nat × Nat) := [(16, 0), (12, 0), (1, 256), (1, 256), (2, 256), (2, 256), (1, 256), (15, 0), (1, 256), (1, 256), (1, 256), (2, 256), (1, 256), (4, 12), (11, 0), (1, 4), (1, 4), (3, 4), (11, 0), (1, 4), (1, 4), (3, 4), (11, 0), (1, 4), (1, 4), (3, 4), (11, 0), (1, 4), (1, 4), (3, 4), (11, 0), (1, 4), (1, 4), (3, 4), (11, 0), (1, 4), (1, 4), (3, 4), (11, 0), (1, 4), (1, 4), (3, 4), (11, 0), (1, 4), (1, 4), (3, 4), (11, 0), (1, 4), (1, 4), (3, 4), (11, 0), (1, 4), (1, 4), (3, 4), (11, 0), (1, 4), (1, 4), (3, 4), (11, 0), (1, 4), (1, 4), (3, 4), (5, 4), (14, 0), (1, 20), (1, 20), (14, 0), (1, 20), (1, 20), (14, 0), (1, 20), (1, 20), (14, 0), (1, 20), (1, 20), (1, 4), (1, 5), (6, 60), (17, 0), (1, 256), (1, 256), (2, 256), (2, 256), (1, 256), (1, 12), (1, 12), (1, 48), (1, 48), (1, 4), (1, 80), (1, 80), (1, 5), (1, 60), (1, 60), (1, 60), (2, 60), (1, 720), (1, 720), (1, 720), (1, 720), (1, 720), (3, 720), (3, 720), (3, 720), (3, 720), (3, 720), (3, 720), (3, 720), (1, 720), (3, 2880), (1, 256), (1, 256), (1, 256), (1, 256), (2, 256)]
def kd (d : D2) (a : Nat) : Nat × Nat := if a < 115 then kL.getD a (0, 0) else d a
def cellK (k : Nat × Nat) (a : Nat) (I : M2) (J : J2) (S : M2) (L : J2) (R : R2) : Option HE := match k.1 with
  | 1 => some (.inl (0, k.2, .inl (I a)))
  | 2 => some (.inl (2, k.2, .inl (I a)))
  | 3 => some (.inl (1, k.2, .inr (.inl (J a))))
  | 4 => some (.inl (3, k.2, rfs (R a)))
  | 5 => some (.inl (4, k.2, rfs (R a)))
  | 6 => some (.inl (5, k.2, rfs (R a)))
  | 7 => some (.inl (6, k.2, rfs (R a)))
  | 10 => some (.inr (0, fsX0 a S L))
  | 11 => some (.inr (1, fsX1 a S L))
  | 12 => some (.inr (2, fsX2 a S L))
  | 13 => some (.inr (3, fsX3 a S L))
  | 14 => some (.inr (4, fsX4 a S L))
  | 15 => some (.inr (5, fsX5 a S L))
  | 16 => some (.inr (6, fsX6 a S L))
  | 17 => some (.inr (7, fsX7 a S L))
  | _ => none
def H5 (d : D2) (I : M2) (J : J2) (S : M2) (L : J2) (R : R2) : HP := fun a => cellK (kd d a) a I J S L R
theorem cellK_eq {k : Nat × Nat} {a : Nat} {I I' : M2} {J J' : J2} {S S' : M2} {L L' : J2} {R R' : R2} (hI : I' a = I a) (hJ : J' a = J a) (hS : S' a = S a) (hL : L' a = L a) (hR : R' a = R a) : cellK k a I' J' S' L' R' = cellK k a I J S L R := by
  simp only [cellK, fsX0, fsX1, fsX2, fsX3, fsX4, fsX5, fsX6, fsX7, hI, hJ, hS, hL, hR]
theorem kd_dyn {d : D2} {a : Nat} (h : 115 ≤ a) : kd d a = d a := if_neg (by omega)
section MEM
variable {d : D2} {I : M2} {J : J2} {S : M2} {L : J2} {R : R2} {a j len : Nat}
theorem H5_i (hk : kd d a = (1, len)) : H5 d I J S L R a = some (.inl (0, len, .inl (I a))) := by unfold H5; rw [hk]; rfl
theorem H5_z (hk : kd d a = (2, len)) : H5 d I J S L R a = some (.inl (2, len, .inl (I a))) := by unfold H5; rw [hk]; rfl
theorem H5_l (hk : kd d a = (3, len)) : H5 d I J S L R a = some (.inl (1, len, .inr (.inl (J a)))) := by unfold H5; rw [hk]; rfl
theorem H5_r3 (hk : kd d a = (4, len)) : H5 d I J S L R a = some (.inl (3, len, rfs (R a))) := by unfold H5; rw [hk]; rfl
theorem H5_r4 (hk : kd d a = (5, len)) : H5 d I J S L R a = some (.inl (4, len, rfs (R a))) := by unfold H5; rw [hk]; rfl
theorem H5_r5 (hk : kd d a = (6, len)) : H5 d I J S L R a = some (.inl (5, len, rfs (R a))) := by unfold H5; rw [hk]; rfl
theorem H5_r6 (hk : kd d a = (7, len)) : H5 d I J S L R a = some (.inl (6, len, rfs (R a))) := by unfold H5; rw [hk]; rfl
theorem o_X0 (hk : kd d a = (10, len)) : H5 d I J S L R a = some (.inr (0, fsX0 a S L)) := by unfold H5; rw [hk]; rfl
theorem o_X1 (hk : kd d a = (11, len)) : H5 d I J S L R a = some (.inr (1, fsX1 a S L)) := by unfold H5; rw [hk]; rfl
theorem o_X2 (hk : kd d a = (12, len)) : H5 d I J S L R a = some (.inr (2, fsX2 a S L)) := by unfold H5; rw [hk]; rfl
theorem o_X3 (hk : kd d a = (13, len)) : H5 d I J S L R a = some (.inr (3, fsX3 a S L)) := by unfold H5; rw [hk]; rfl
theorem o_X4 (hk : kd d a = (14, len)) : H5 d I J S L R a = some (.inr (4, fsX4 a S L)) := by unfold H5; rw [hk]; rfl
theorem o_X5 (hk : kd d a = (15, len)) : H5 d I J S L R a = some (.inr (5, fsX5 a S L)) := by unfold H5; rw [hk]; rfl
theorem o_X6 (hk : kd d a = (16, len)) : H5 d I J S L R a = some (.inr (6, fsX6 a S L)) := by unfold H5; rw [hk]; rfl
theorem o_X7 (hk : kd d a = (17, len)) : H5 d I J S L R a = some (.inr (7, fsX7 a S L)) := by unfold H5; rw [hk]; rfl
theorem u2_row {α : Type} (M : Nat → Nat → α) {a i : Nat} (j : Nat) (x : α) (h : i ≠ a) : u2 M a j x i = M i := by funext c; simp [u2, h]
theorem hset_i {t : Nat} (ht : (t = 0 ∧ kd d a = (1, len)) ∨ (t = 2 ∧ kd d a = (2, len))) {x : Int32} : hset (H5 d I J S L R) a (.inl (t, len, .inl (upd (I a) j x))) = H5 d (u2 I a j x) J S L R := by
  funext i
  unfold hset
  by_cases h : i = a
  · subst h
    rw [if_pos rfl]
    have e : upd (I i) j x = u2 I i j x i := by funext c; simp [upd, u2]
    rcases ht with ⟨rfl, hk⟩ | ⟨rfl, hk⟩
    · rw [H5_i hk, e]
    · rw [H5_z hk, e]
  · rw [if_neg h]
    exact (cellK_eq (u2_row I j x h) rfl rfl rfl rfl).symm
theorem hset_l (hk : kd d a = (3, len)) {x : Int64} : hset (H5 d I J S L R) a (.inl (1, len, .inr (.inl (vp_updL (J a) j x)))) = H5 d I (u2 J a j x) S L R := by
  funext i
  unfold hset
  by_cases h : i = a
  · subst h
    rw [if_pos rfl]
    have e : vp_updL (J i) j x = u2 J i j x i := by funext c; simp [vp_updL, u2]
    rw [H5_l hk, e]
  · rw [if_neg h]
    exact (cellK_eq rfl (u2_row J j x h) rfl rfl rfl).symm
theorem hset_r {t : Nat} (ht : (t = 3 ∧ kd d a = (4, len)) ∨ (t = 4 ∧ kd d a = (5, len)) ∨ (t = 5 ∧ kd d a = (6, len)) ∨ (t = 6 ∧ kd d a = (7, len))) {v : Option Nat} : hset (H5 d I J S L R) a (.inl (t, len, rfs (va_up (R a) j v))) = H5 d I J S L (u2 R a j v) := by
  funext i
  unfold hset
  by_cases h : i = a
  · subst h
    rw [if_pos rfl]
    have e : va_up (R i) j v = u2 R i j v i := by funext c; simp [va_up, u2]
    rcases ht with ⟨rfl, hk⟩ | ⟨rfl, hk⟩ | ⟨rfl, hk⟩ | ⟨rfl, hk⟩
    · rw [H5_r3 hk, e]
    · rw [H5_r4 hk, e]
    · rw [H5_r5 hk, e]
    · rw [H5_r6 hk, e]
  · rw [if_neg h]
    exact (cellK_eq rfl rfl rfl rfl (u2_row R j v h)).symm
theorem p_X0_0 (hk : kd d a = (10, len)) {v : Int32} : hset (H5 d I J S L R) a (.inr (0, (fsX0 a S L).set 0 (.int v))) = H5 d I J (u2 S a 0 v) L R := by
  funext i
  unfold hset
  by_cases h : i = a
  · subst h
    rw [if_pos rfl, o_X0 hk]
    simp [u2]
  · rw [if_neg h]
    exact (cellK_eq rfl rfl (u2_row S 0 v h) rfl rfl).symm
theorem p_X0_1 (hk : kd d a = (10, len)) {v : Int32} : hset (H5 d I J S L R) a (.inr (0, (fsX0 a S L).set 1 (.int v))) = H5 d I J (u2 S a 1 v) L R := by
  funext i
  unfold hset
  by_cases h : i = a
  · subst h
    rw [if_pos rfl, o_X0 hk]
    simp [u2]
  · rw [if_neg h]
    exact (cellK_eq rfl rfl (u2_row S 1 v h) rfl rfl).symm
theorem p_X0_2 (hk : kd d a = (10, len)) {v : Int32} : hset (H5 d I J S L R) a (.inr (0, (fsX0 a S L).set 2 (.int v))) = H5 d I J (u2 S a 2 v) L R := by
  funext i
  unfold hset
  by_cases h : i = a
  · subst h
    rw [if_pos rfl, o_X0 hk]
    simp [u2]
  · rw [if_neg h]
    exact (cellK_eq rfl rfl (u2_row S 2 v h) rfl rfl).symm
theorem p_X0_3 (hk : kd d a = (10, len)) {v : Int32} : hset (H5 d I J S L R) a (.inr (0, (fsX0 a S L).set 3 (.int v))) = H5 d I J (u2 S a 3 v) L R := by
  funext i
  unfold hset
  by_cases h : i = a
  · subst h
    rw [if_pos rfl, o_X0 hk]
    simp [u2]
  · rw [if_neg h]
    exact (cellK_eq rfl rfl (u2_row S 3 v h) rfl rfl).symm
theorem p_X0_4 (hk : kd d a = (10, len)) {v : Int32} : hset (H5 d I J S L R) a (.inr (0, (fsX0 a S L).set 4 (.int v))) = H5 d I J (u2 S a 4 v) L R := by
  funext i
  unfold hset
  by_cases h : i = a
  · subst h
    rw [if_pos rfl, o_X0 hk]
    simp [u2]
  · rw [if_neg h]
    exact (cellK_eq rfl rfl (u2_row S 4 v h) rfl rfl).symm
theorem p_X0_5 (hk : kd d a = (10, len)) {v : Int32} : hset (H5 d I J S L R) a (.inr (0, (fsX0 a S L).set 5 (.int v))) = H5 d I J (u2 S a 5 v) L R := by
  funext i
  unfold hset
  by_cases h : i = a
  · subst h
    rw [if_pos rfl, o_X0 hk]
    simp [u2]
  · rw [if_neg h]
    exact (cellK_eq rfl rfl (u2_row S 5 v h) rfl rfl).symm
theorem p_X0_6 (hk : kd d a = (10, len)) {v : Int64} : hset (H5 d I J S L R) a (.inr (0, (fsX0 a S L).set 6 (.long v))) = H5 d I J S (u2 L a 6 v) R := by
  funext i
  unfold hset
  by_cases h : i = a
  · subst h
    rw [if_pos rfl, o_X0 hk]
    simp [u2]
  · rw [if_neg h]
    exact (cellK_eq rfl rfl rfl (u2_row L 6 v h) rfl).symm
theorem p_X0_7 (hk : kd d a = (10, len)) {v : Int64} : hset (H5 d I J S L R) a (.inr (0, (fsX0 a S L).set 7 (.long v))) = H5 d I J S (u2 L a 7 v) R := by
  funext i
  unfold hset
  by_cases h : i = a
  · subst h
    rw [if_pos rfl, o_X0 hk]
    simp [u2]
  · rw [if_neg h]
    exact (cellK_eq rfl rfl rfl (u2_row L 7 v h) rfl).symm
theorem p_X0_8 (hk : kd d a = (10, len)) {v : Int64} : hset (H5 d I J S L R) a (.inr (0, (fsX0 a S L).set 8 (.long v))) = H5 d I J S (u2 L a 8 v) R := by
  funext i
  unfold hset
  by_cases h : i = a
  · subst h
    rw [if_pos rfl, o_X0 hk]
    simp [u2]
  · rw [if_neg h]
    exact (cellK_eq rfl rfl rfl (u2_row L 8 v h) rfl).symm
theorem p_X0_9 (hk : kd d a = (10, len)) {v : Int64} : hset (H5 d I J S L R) a (.inr (0, (fsX0 a S L).set 9 (.long v))) = H5 d I J S (u2 L a 9 v) R := by
  funext i
  unfold hset
  by_cases h : i = a
  · subst h
    rw [if_pos rfl, o_X0 hk]
    simp [u2]
  · rw [if_neg h]
    exact (cellK_eq rfl rfl rfl (u2_row L 9 v h) rfl).symm
theorem p_X0_10 (hk : kd d a = (10, len)) {v : Int64} : hset (H5 d I J S L R) a (.inr (0, (fsX0 a S L).set 10 (.long v))) = H5 d I J S (u2 L a 10 v) R := by
  funext i
  unfold hset
  by_cases h : i = a
  · subst h
    rw [if_pos rfl, o_X0 hk]
    simp [u2]
  · rw [if_neg h]
    exact (cellK_eq rfl rfl rfl (u2_row L 10 v h) rfl).symm
theorem p_X0_11 (hk : kd d a = (10, len)) {v : Int64} : hset (H5 d I J S L R) a (.inr (0, (fsX0 a S L).set 11 (.long v))) = H5 d I J S (u2 L a 11 v) R := by
  funext i
  unfold hset
  by_cases h : i = a
  · subst h
    rw [if_pos rfl, o_X0 hk]
    simp [u2]
  · rw [if_neg h]
    exact (cellK_eq rfl rfl rfl (u2_row L 11 v h) rfl).symm
theorem p_X0_12 (hk : kd d a = (10, len)) {v : Int64} : hset (H5 d I J S L R) a (.inr (0, (fsX0 a S L).set 12 (.long v))) = H5 d I J S (u2 L a 12 v) R := by
  funext i
  unfold hset
  by_cases h : i = a
  · subst h
    rw [if_pos rfl, o_X0 hk]
    simp [u2]
  · rw [if_neg h]
    exact (cellK_eq rfl rfl rfl (u2_row L 12 v h) rfl).symm
theorem p_X0_13 (hk : kd d a = (10, len)) {v : Int64} : hset (H5 d I J S L R) a (.inr (0, (fsX0 a S L).set 13 (.long v))) = H5 d I J S (u2 L a 13 v) R := by
  funext i
  unfold hset
  by_cases h : i = a
  · subst h
    rw [if_pos rfl, o_X0 hk]
    simp [u2]
  · rw [if_neg h]
    exact (cellK_eq rfl rfl rfl (u2_row L 13 v h) rfl).symm
theorem p_X0_14 (hk : kd d a = (10, len)) {v : Int64} : hset (H5 d I J S L R) a (.inr (0, (fsX0 a S L).set 14 (.long v))) = H5 d I J S (u2 L a 14 v) R := by
  funext i
  unfold hset
  by_cases h : i = a
  · subst h
    rw [if_pos rfl, o_X0 hk]
    simp [u2]
  · rw [if_neg h]
    exact (cellK_eq rfl rfl rfl (u2_row L 14 v h) rfl).symm
theorem p_X1_0 (hk : kd d a = (11, len)) {v : Int32} : hset (H5 d I J S L R) a (.inr (1, (fsX1 a S L).set 0 (.int v))) = H5 d I J (u2 S a 0 v) L R := by
  funext i
  unfold hset
  by_cases h : i = a
  · subst h
    rw [if_pos rfl, o_X1 hk]
    simp [u2]
  · rw [if_neg h]
    exact (cellK_eq rfl rfl (u2_row S 0 v h) rfl rfl).symm
theorem p_X1_1 (hk : kd d a = (11, len)) {v : Int32} : hset (H5 d I J S L R) a (.inr (1, (fsX1 a S L).set 1 (.int v))) = H5 d I J (u2 S a 1 v) L R := by
  funext i
  unfold hset
  by_cases h : i = a
  · subst h
    rw [if_pos rfl, o_X1 hk]
    simp [u2]
  · rw [if_neg h]
    exact (cellK_eq rfl rfl (u2_row S 1 v h) rfl rfl).symm
theorem p_X2_0 (hk : kd d a = (12, len)) {v : Int32} : hset (H5 d I J S L R) a (.inr (2, (fsX2 a S L).set 0 (.int v))) = H5 d I J (u2 S a 0 v) L R := by
  funext i
  unfold hset
  by_cases h : i = a
  · subst h
    rw [if_pos rfl, o_X2 hk]
    simp [u2]
  · rw [if_neg h]
    exact (cellK_eq rfl rfl (u2_row S 0 v h) rfl rfl).symm
theorem p_X2_1 (hk : kd d a = (12, len)) {v : Int32} : hset (H5 d I J S L R) a (.inr (2, (fsX2 a S L).set 1 (.int v))) = H5 d I J (u2 S a 1 v) L R := by
  funext i
  unfold hset
  by_cases h : i = a
  · subst h
    rw [if_pos rfl, o_X2 hk]
    simp [u2]
  · rw [if_neg h]
    exact (cellK_eq rfl rfl (u2_row S 1 v h) rfl rfl).symm
theorem p_X3_0 (hk : kd d a = (13, len)) {v : Int32} : hset (H5 d I J S L R) a (.inr (3, (fsX3 a S L).set 0 (.int v))) = H5 d I J (u2 S a 0 v) L R := by
  funext i
  unfold hset
  by_cases h : i = a
  · subst h
    rw [if_pos rfl, o_X3 hk]
    simp [u2]
  · rw [if_neg h]
    exact (cellK_eq rfl rfl (u2_row S 0 v h) rfl rfl).symm
theorem p_X3_1 (hk : kd d a = (13, len)) {v : Int32} : hset (H5 d I J S L R) a (.inr (3, (fsX3 a S L).set 1 (.int v))) = H5 d I J (u2 S a 1 v) L R := by
  funext i
  unfold hset
  by_cases h : i = a
  · subst h
    rw [if_pos rfl, o_X3 hk]
    simp [u2]
  · rw [if_neg h]
    exact (cellK_eq rfl rfl (u2_row S 1 v h) rfl rfl).symm
theorem p_X3_2 (hk : kd d a = (13, len)) {v : Int32} : hset (H5 d I J S L R) a (.inr (3, (fsX3 a S L).set 2 (.int v))) = H5 d I J (u2 S a 2 v) L R := by
  funext i
  unfold hset
  by_cases h : i = a
  · subst h
    rw [if_pos rfl, o_X3 hk]
    simp [u2]
  · rw [if_neg h]
    exact (cellK_eq rfl rfl (u2_row S 2 v h) rfl rfl).symm
theorem p_X4_0 (hk : kd d a = (14, len)) {v : Int32} : hset (H5 d I J S L R) a (.inr (4, (fsX4 a S L).set 0 (.int v))) = H5 d I J (u2 S a 0 v) L R := by
  funext i
  unfold hset
  by_cases h : i = a
  · subst h
    rw [if_pos rfl, o_X4 hk]
    simp [u2]
  · rw [if_neg h]
    exact (cellK_eq rfl rfl (u2_row S 0 v h) rfl rfl).symm
theorem p_X5_0 (hk : kd d a = (15, len)) {v : Int32} : hset (H5 d I J S L R) a (.inr (5, (fsX5 a S L).set 0 (.int v))) = H5 d I J (u2 S a 0 v) L R := by
  funext i
  unfold hset
  by_cases h : i = a
  · subst h
    rw [if_pos rfl, o_X5 hk]
    simp [u2]
  · rw [if_neg h]
    exact (cellK_eq rfl rfl (u2_row S 0 v h) rfl rfl).symm
theorem p_X5_1 (hk : kd d a = (15, len)) {v : Int32} : hset (H5 d I J S L R) a (.inr (5, (fsX5 a S L).set 1 (.int v))) = H5 d I J (u2 S a 1 v) L R := by
  funext i
  unfold hset
  by_cases h : i = a
  · subst h
    rw [if_pos rfl, o_X5 hk]
    simp [u2]
  · rw [if_neg h]
    exact (cellK_eq rfl rfl (u2_row S 1 v h) rfl rfl).symm
theorem p_X6_3 (hk : kd d a = (16, len)) {v : Int32} : hset (H5 d I J S L R) a (.inr (6, (fsX6 a S L).set 3 (.int v))) = H5 d I J (u2 S a 3 v) L R := by
  funext i
  unfold hset
  by_cases h : i = a
  · subst h
    rw [if_pos rfl, o_X6 hk]
    simp [u2]
  · rw [if_neg h]
    exact (cellK_eq rfl rfl (u2_row S 3 v h) rfl rfl).symm
theorem p_X6_7 (hk : kd d a = (16, len)) {v : Int32} : hset (H5 d I J S L R) a (.inr (6, (fsX6 a S L).set 7 (.int v))) = H5 d I J (u2 S a 7 v) L R := by
  funext i
  unfold hset
  by_cases h : i = a
  · subst h
    rw [if_pos rfl, o_X6 hk]
    simp [u2]
  · rw [if_neg h]
    exact (cellK_eq rfl rfl (u2_row S 7 v h) rfl rfl).symm
theorem p_X6_9 (hk : kd d a = (16, len)) {v : Int32} : hset (H5 d I J S L R) a (.inr (6, (fsX6 a S L).set 9 (.int v))) = H5 d I J (u2 S a 9 v) L R := by
  funext i
  unfold hset
  by_cases h : i = a
  · subst h
    rw [if_pos rfl, o_X6 hk]
    simp [u2]
  · rw [if_neg h]
    exact (cellK_eq rfl rfl (u2_row S 9 v h) rfl rfl).symm
theorem p_X6_10 (hk : kd d a = (16, len)) {v : Int32} : hset (H5 d I J S L R) a (.inr (6, (fsX6 a S L).set 10 (.int v))) = H5 d I J (u2 S a 10 v) L R := by
  funext i
  unfold hset
  by_cases h : i = a
  · subst h
    rw [if_pos rfl, o_X6 hk]
    simp [u2]
  · rw [if_neg h]
    exact (cellK_eq rfl rfl (u2_row S 10 v h) rfl rfl).symm
theorem p_X7_0 (hk : kd d a = (17, len)) {v : Int32} : hset (H5 d I J S L R) a (.inr (7, (fsX7 a S L).set 0 (.int v))) = H5 d I J (u2 S a 0 v) L R := by
  funext i
  unfold hset
  by_cases h : i = a
  · subst h
    rw [if_pos rfl, o_X7 hk]
    simp [u2]
  · rw [if_neg h]
    exact (cellK_eq rfl rfl (u2_row S 0 v h) rfl rfl).symm
theorem p_X7_1 (hk : kd d a = (17, len)) {v : Int32} : hset (H5 d I J S L R) a (.inr (7, (fsX7 a S L).set 1 (.int v))) = H5 d I J (u2 S a 1 v) L R := by
  funext i
  unfold hset
  by_cases h : i = a
  · subst h
    rw [if_pos rfl, o_X7 hk]
    simp [u2]
  · rw [if_neg h]
    exact (cellK_eq rfl rfl (u2_row S 1 v h) rfl rfl).symm
theorem p_X7_7 (hk : kd d a = (17, len)) {v : Int32} : hset (H5 d I J S L R) a (.inr (7, (fsX7 a S L).set 7 (.int v))) = H5 d I J (u2 S a 7 v) L R := by
  funext i
  unfold hset
  by_cases h : i = a
  · subst h
    rw [if_pos rfl, o_X7 hk]
    simp [u2]
  · rw [if_neg h]
    exact (cellK_eq rfl rfl (u2_row S 7 v h) rfl rfl).symm
theorem p_X7_16 (hk : kd d a = (17, len)) {v : Int32} : hset (H5 d I J S L R) a (.inr (7, (fsX7 a S L).set 16 (.int v))) = H5 d I J (u2 S a 16 v) L R := by
  funext i
  unfold hset
  by_cases h : i = a
  · subst h
    rw [if_pos rfl, o_X7 hk]
    simp [u2]
  · rw [if_neg h]
    exact (cellK_eq rfl rfl (u2_row S 16 v h) rfl rfl).symm
theorem p_X7_17 (hk : kd d a = (17, len)) {v : Int32} : hset (H5 d I J S L R) a (.inr (7, (fsX7 a S L).set 17 (.int v))) = H5 d I J (u2 S a 17 v) L R := by
  funext i
  unfold hset
  by_cases h : i = a
  · subst h
    rw [if_pos rfl, o_X7 hk]
    simp [u2]
  · rw [if_neg h]
    exact (cellK_eq rfl rfl (u2_row S 17 v h) rfl rfl).symm
theorem p_X7_18 (hk : kd d a = (17, len)) {v : Int32} : hset (H5 d I J S L R) a (.inr (7, (fsX7 a S L).set 18 (.int v))) = H5 d I J (u2 S a 18 v) L R := by
  funext i
  unfold hset
  by_cases h : i = a
  · subst h
    rw [if_pos rfl, o_X7 hk]
    simp [u2]
  · rw [if_neg h]
    exact (cellK_eq rfl rfl (u2_row S 18 v h) rfl rfl).symm
theorem p_X7_19 (hk : kd d a = (17, len)) {v : Int32} : hset (H5 d I J S L R) a (.inr (7, (fsX7 a S L).set 19 (.int v))) = H5 d I J (u2 S a 19 v) L R := by
  funext i
  unfold hset
  by_cases h : i = a
  · subst h
    rw [if_pos rfl, o_X7 hk]
    simp [u2]
  · rw [if_neg h]
    exact (cellK_eq rfl rfl (u2_row S 19 v h) rfl rfl).symm
theorem p_X7_20 (hk : kd d a = (17, len)) {v : Int32} : hset (H5 d I J S L R) a (.inr (7, (fsX7 a S L).set 20 (.int v))) = H5 d I J (u2 S a 20 v) L R := by
  funext i
  unfold hset
  by_cases h : i = a
  · subst h
    rw [if_pos rfl, o_X7 hk]
    simp [u2]
  · rw [if_neg h]
    exact (cellK_eq rfl rfl (u2_row S 20 v h) rfl rfl).symm
theorem p_X7_41 (hk : kd d a = (17, len)) {v : Int32} : hset (H5 d I J S L R) a (.inr (7, (fsX7 a S L).set 41 (.int v))) = H5 d I J (u2 S a 41 v) L R := by
  funext i
  unfold hset
  by_cases h : i = a
  · subst h
    rw [if_pos rfl, o_X7 hk]
    simp [u2]
  · rw [if_neg h]
    exact (cellK_eq rfl rfl (u2_row S 41 v h) rfl rfl).symm
theorem p_X7_45 (hk : kd d a = (17, len)) {v : Int64} : hset (H5 d I J S L R) a (.inr (7, (fsX7 a S L).set 45 (.long v))) = H5 d I J S (u2 L a 45 v) R := by
  funext i
  unfold hset
  by_cases h : i = a
  · subst h
    rw [if_pos rfl, o_X7 hk]
    simp [u2]
  · rw [if_neg h]
    exact (cellK_eq rfl rfl rfl (u2_row L 45 v h) rfl).symm
variable {K : CX} {Q : QT} {cs sl pc pc2 n : Nat} {lv : List (Option Value)} {st : List Value} {y0 : MethodName} {cc : ByteArray} {nL : Nat} {rt : Option FieldType} {rm : Room}
theorem h_iald (hk : OK K y0 cc nL rt rm) {x : Int32} (hd : decode cc pc = .ok (.iaload, 1)) (hp : pc + 1 = pc2) (ha : kd d a = (1, len)) (hx : x = nI j) (hj : j < len) (hN : len < 2 ^ 31) (kk : AW K Q cs sl pc2 lv (.int (I a j) :: st) n (H5 d I J S L R)) : AW K Q cs sl pc lv (.int x :: .ref a :: st) n (H5 d I J S L R) := by
  subst hx
  exact aw_ialdN hk hd hp (H5_i ha) hj hN kk
theorem h_zald (hk : OK K y0 cc nL rt rm) {x : Int32} (hd : decode cc pc = .ok (.baload, 1)) (hp : pc + 1 = pc2) (ha : kd d a = (2, len)) (hx : x = nI j) (hj : j < len) (hN : len < 2 ^ 31) (kk : AW K Q cs sl pc2 lv (.int (I a j) :: st) n (H5 d I J S L R)) : AW K Q cs sl pc lv (.int x :: .ref a :: st) n (H5 d I J S L R) := by
  subst hx
  exact aw_zaldN hk hd hp (H5_z ha) hj hN kk
theorem h_lald (hk : OK K y0 cc nL rt rm) {x : Int32} (hd : decode cc pc = .ok (.laload, 1)) (hp : pc + 1 = pc2) (ha : kd d a = (3, len)) (hx : x = nI j) (hj : j < len) (hN : len < 2 ^ 31) (kk : AW K Q cs sl pc2 lv (.long (J a j) :: st) n (H5 d I J S L R)) : AW K Q cs sl pc lv (.int x :: .ref a :: st) n (H5 d I J S L R) := by
  subst hx
  exact aw_laldN hk hd hp (H5_l ha) hj hN kk
theorem h_iast (hk : OK K y0 cc nL rt rm) {x v : Int32} (hd : decode cc pc = .ok (.iastore, 1)) (hp : pc + 1 = pc2) (ha : kd d a = (1, len)) (hx : x = nI j) (hj : j < len) (hN : len < 2 ^ 31) (kk : AW K Q cs sl pc2 lv st n (H5 d (u2 I a j v) J S L R)) : AW K Q cs sl pc lv (.int v :: .int x :: .ref a :: st) n (H5 d I J S L R) := by
  subst hx
  refine aw_iastN hk hd hp (H5_i ha) hj hN ?_
  rw [hset_i (Or.inl ⟨rfl, ha⟩)]
  exact kk
theorem h_zast (hk : OK K y0 cc nL rt rm) {x v : Int32} (hd : decode cc pc = .ok (.bastore, 1)) (hp : pc + 1 = pc2) (ha : kd d a = (2, len)) (hx : x = nI j) (hj : j < len) (hN : len < 2 ^ 31) (hv : v = 0 ∨ v = 1) (kk : AW K Q cs sl pc2 lv st n (H5 d (u2 I a j v) J S L R)) : AW K Q cs sl pc lv (.int v :: .int x :: .ref a :: st) n (H5 d I J S L R) := by
  subst hx
  refine aw_zastN hk hd hp (H5_z ha) hj hN ?_
  have e : vp_nar .boolean v = v := by rcases hv with rfl | rfl <;> rfl
  rw [e, hset_i (Or.inr ⟨rfl, ha⟩)]
  exact kk
theorem h_last (hk : OK K y0 cc nL rt rm) {x : Int32} {v : Int64} (hd : decode cc pc = .ok (.lastore, 1)) (hp : pc + 1 = pc2) (ha : kd d a = (3, len)) (hx : x = nI j) (hj : j < len) (hN : len < 2 ^ 31) (kk : AW K Q cs sl pc2 lv st n (H5 d I (u2 J a j v) S L R)) : AW K Q cs sl pc lv (.long v :: .int x :: .ref a :: st) n (H5 d I J S L R) := by
  subst hx
  refine aw_lastN hk hd hp (H5_l ha) hj hN ?_
  rw [hset_l ha]
  exact kk
def isRK (t : Nat) : Prop := t = 4 ∨ t = 5 ∨ t = 6 ∨ t = 7
theorem h_aald (hk : OK K y0 cc nL rt rm) {x : Int32} {t : Nat} (hd : decode cc pc = .ok (.aaload, 1)) (hp : pc + 1 = pc2) (ht : isRK t) (ha : kd d a = (t, len)) (hx : x = nI j) (hj : j < len) (hN : len < 2 ^ 31) {v : Value} (hv : va_rf (R a j) = v) (kk : AW K Q cs sl pc2 lv (v :: st) n (H5 d I J S L R)) : AW K Q cs sl pc lv (.int x :: .ref a :: st) n (H5 d I J S L R) := by
  subst hx
  rcases ht with rfl | rfl | rfl | rfl
  · exact aw_aaldN hk (Or.inl rfl) hd hp (H5_r3 ha) hj hN hv kk
  · exact aw_aaldN hk (Or.inr (Or.inl rfl)) hd hp (H5_r4 ha) hj hN hv kk
  · exact aw_aaldN hk (Or.inr (Or.inr (Or.inl rfl))) hd hp (H5_r5 ha) hj hN hv kk
  · exact aw_aaldN hk (Or.inr (Or.inr (Or.inr rfl))) hd hp (H5_r6 ha) hj hN hv kk
theorem h_alen (hk : OK K y0 cc nL rt rm) (hd : decode cc pc = .ok (.arraylength, 1)) (hp : pc + 1 = pc2) (ha : kd d a = (1, len)) (kk : AW K Q cs sl pc2 lv (.int (nI len) :: st) n (H5 d I J S L R)) : AW K Q cs sl pc lv (.ref a :: st) n (H5 d I J S L R) := aw_alen hk hd hp (H5_i ha) kk
theorem aw_iinc1 {h : HP} (hk : OK K y0 cc nL rt rm) {k i : Nat} (hd : decode cc pc = .ok (.iinc k 1, 3)) (hp : pc + 3 = pc2) (hx0 : lv[k]? = some (some (.int (nI i)))) (hn : k < nL) (kk : AW K Q cs sl pc2 (sv1 lv k (.int (nI (i + 1)))) st n h) : AW K Q cs sl pc lv st n h := aw_iinc hk hd hp hx0 (nI_1 i) hn kk
theorem aw_icN_ge {h : HP} (hk : OK K y0 cc nL rt rm) {x y : Nat} {X Y : Int32} {off : Int} {tgt : Nat} (hd : decode cc pc = .ok (.if_icmp .ge off, 3)) (ht : (pc : Int) + off = (tgt : Int)) (hp : pc + 3 = pc2) (hX : X = nI x) (hY : Y = nI y) (hx : x < 2 ^ 31) (hy : y < 2 ^ 31) (kt : y ≤ x → AW K Q cs sl tgt lv st n h) (kf : x < y → AW K Q cs sl pc2 lv st n h) : AW K Q cs sl pc lv (.int Y :: .int X :: st) n h := by
  subst hX; subst hY
  exact aw_icmp_ge hk hd ht hp (fun c => kt ((nI_leI hy hx).mp c)) (fun c => kf (by rcases Nat.lt_or_ge x y with q | q; exact q; exact absurd ((nI_leI hy hx).mpr q) c))
end MEM
theorem nI_lit (n : Nat) : (OfNat.ofNat n : Int32) = nI n := rfl
end
section
/-! small mathematics: truth as a number, sums, places on the map, rows of memory -/
def bi (b : Bool) : Int32 := if b then 1 else 0
theorem bi_01 (b : Bool) : bi b = 0 ∨ bi b = 1 := by cases b; exact Or.inl rfl; exact Or.inr rfl
theorem bi_t {b : Bool} (h : ¬ bi b = 0) : bi b = 1 := (bi_01 b).resolve_left h
theorem bi_tt {b : Bool} (h : ¬ bi b = 0) : b = true := by cases b; exact absurd rfl h; rfl
theorem bi_ff {b : Bool} (h : bi b = 0) : b = false := by cases b; rfl; exact absurd h (by decide)
def sI (g : Nat → Int32) : Nat → Int32
  | 0 => 0
  | n + 1 => sI g n + g n
def sL (g : Nat → Int64) : Nat → Int64
  | 0 => 0
  | n + 1 => sL g n + g n
theorem sI_eq {g g' : Nat → Int32} : ∀ n, (∀ i, i < n → g i = g' i) → sI g n = sI g' n := by
  intro n
  induction n with
  | zero => intro _; rfl
  | succ n ih => intro h; show sI g n + g n = sI g' n + g' n; rw [ih (fun i hi => h i (by omega)), h n (by omega)]
theorem sL_eq {g g' : Nat → Int64} : ∀ n, (∀ i, i < n → g i = g' i) → sL g n = sL g' n := by
  intro n
  induction n with
  | zero => intro _; rfl
  | succ n ih => intro h; show sL g n + g n = sL g' n + g' n; rw [ih (fun i hi => h i (by omega)), h n (by omega)]
theorem aw_top {K : CX} {Q : QT} {cs sl pc n : Nat} {lv : List (Option Value)} {st : List Value} {h : HP} {x : Int32} (y : Int32) (e : x = y) (kk : AW K Q cs sl pc lv (.int y :: st) n h) : AW K Q cs sl pc lv (.int x :: st) n h := e ▸ kk
theorem aw_topL {K : CX} {Q : QT} {cs sl pc n : Nat} {lv : List (Option Value)} {st : List Value} {h : HP} {x : Int64} (y : Int64) (e : x = y) (kk : AW K Q cs sl pc lv (.long y :: st) n h) : AW K Q cs sl pc lv (.long x :: st) n h := e ▸ kk
theorem aw_I {K : CX} {Q : QT} {cs sl pc n : Nat} {lv : List (Option Value)} {st : List Value} {d : D2} {I : M2} {J : J2} {S : M2} {L : J2} {R : R2} (I' : M2) (e : I = I') (kk : AW K Q cs sl pc lv st n (H5 d I' J S L R)) : AW K Q cs sl pc lv st n (H5 d I J S L R) := e ▸ kk
theorem aw_Jm {K : CX} {Q : QT} {cs sl pc n : Nat} {lv : List (Option Value)} {st : List Value} {d : D2} {I : M2} {J : J2} {S : M2} {L : J2} {R : R2} (J' : J2) (e : J = J') (kk : AW K Q cs sl pc lv st n (H5 d I J' S L R)) : AW K Q cs sl pc lv st n (H5 d I J S L R) := e ▸ kk
theorem aw_S {K : CX} {Q : QT} {cs sl pc n : Nat} {lv : List (Option Value)} {st : List Value} {d : D2} {I : M2} {J : J2} {S : M2} {L : J2} {R : R2} (S' : M2) (e : S = S') (kk : AW K Q cs sl pc lv st n (H5 d I J S' L R)) : AW K Q cs sl pc lv st n (H5 d I J S L R) := e ▸ kk
/-- a row's first i places are g -/
def rowU {α : Type} (I : Nat → Nat → α) (a i : Nat) (g : Nat → α) : Nat → Nat → α := fun b c => if b = a ∧ c < i then g c else I b c
theorem rowU_0 {α : Type} (I : Nat → Nat → α) (a : Nat) (g : Nat → α) : rowU I a 0 g = I := by funext b c; simp [rowU]
theorem rowU_st {α : Type} (I : Nat → Nat → α) (a i : Nat) (g : Nat → α) {x : α} (hx : x = g i) : u2 (rowU I a i g) a i x = rowU I a (i + 1) g := by
  subst hx
  funext b c
  simp only [u2, rowU]
  by_cases hb : b = a
  · by_cases hc : c = i
    · subst hc; simp [hb]
    · by_cases hl : c < i
      · have : c < i + 1 := by omega
        simp [hb, hc, hl, this]
      · have : ¬ c < i + 1 := by omega
        simp [hc, hl, this]
  · simp [hb]
theorem rowU_sk {α : Type} (I : Nat → Nat → α) (a i : Nat) (g : Nat → α) (hx : I a i = g i) : rowU I a i g = rowU I a (i + 1) g := by
  funext b c
  simp only [rowU]
  by_cases hb : b = a
  · by_cases hc : c = i
    · subst hc; simp [hb, hx]
    · have : (c < i + 1) = (c < i) := by simp; omega
      simp [this]
  · simp [hb]
theorem rowU_ne {α : Type} (I : Nat → Nat → α) {a b : Nat} (i : Nat) (g : Nat → α) (h : b ≠ a) : rowU I a i g b = I b := by funext c; simp [rowU, h]
theorem rowU_in {α : Type} (I : Nat → Nat → α) (a : Nat) {i c : Nat} (g : Nat → α) (h : c < i) : rowU I a i g a c = g c := by simp [rowU, h]
theorem rowU_out {α : Type} (I : Nat → Nat → α) (a : Nat) {i c : Nat} (g : Nat → α) (h : ¬ c < i) : rowU I a i g a c = I a c := by simp [rowU, h]
/-- the place of a cell of a map of w by g -/
def plc (w g : Nat) (x y : Int32) : Option Nat := if 0 ≤ x.toInt ∧ x.toInt < w ∧ 0 ≤ y.toInt ∧ y.toInt < g then some (16 * y.toInt.toNat + x.toInt.toNat) else none
def opI (o : Option Nat) : Int32 := match o with
  | some c => nI c
  | none => -1
theorem i_lt (x y : Int32) : x < y ↔ x.toInt < y.toInt := Int32.lt_iff_toInt_lt
theorem i_le (x y : Int32) : x ≤ y ↔ x.toInt ≤ y.toInt := Int32.le_iff_toInt_le
theorem i_eq {x : Int32} {k : Nat} (h : x.toInt = k) : x = nI k := by
  apply Int32.toInt_inj.mp
  rw [h, nI_toInt (by have := Int32.toInt_lt x; omega)]
theorem plc_lt {w g : Nat} (hw : w ≤ 16) (hg : g ≤ 16) {x y : Int32} {c : Nat} (h : plc w g x y = some c) : c < 256 := by
  unfold plc at h
  split at h
  · cases h; omega
  · cases h
theorem plc_in {w g : Nat} {a b : Nat} (ha : a < w) (hb : b < g) (hw : w ≤ 16) (hg : g ≤ 16) : plc w g (nI a) (nI b) = some (16 * b + a) := by
  unfold plc
  rw [nI_toInt (by omega), nI_toInt (by omega), if_pos (by omega)]
  simp
theorem aw_fg {K : CX} {Q : QT} {cs sl pc n : Nat} {lv : List (Option Value)} {st : List Value} {h : HP} (k : Nat) (kk : AW K Q cs sl pc (lv.set k none) st n h) : AW K Q cs sl pc lv st n h := by
  refine aw_sub (fun i v hi => ?_) kk
  by_cases hik : k = i
  · subst hik
    rw [List.getElem?_set] at hi
    simp at hi
  · rwa [List.getElem?_set_ne hik] at hi
theorem opI_some {o : Option Nat} (h : ¬ opI o = -1) : ∃ q, o = some q ∧ opI o = nI q := by
  cases o with
  | none => exact absurd rfl h
  | some q => exact ⟨q, rfl, rfl⟩
theorem nI_m1 {q : Nat} (h : q < 2 ^ 31) : ¬ nI q = -1 := fun e => by
  have := congrArg Int32.toInt e
  rw [nI_toInt h] at this
  have e2 : (-1 : Int32).toInt = -1 := rfl
  omega
theorem opI_none {o : Option Nat} (h : opI o = -1) (hb : ∀ q, o = some q → q < 256) : o = none := by
  cases o with
  | none => rfl
  | some q => exact absurd h (nI_m1 (by have := hb q rfl; omega))
def nbC (w g c s : Nat) : Option Nat := plc w g (nI (c % 16) + xsX s) (nI (c / 16) + xsY s)
theorem i_div16 {c : Nat} (h : c < 2 ^ 31) : nI c / 16 = nI (c / 16) := pk_div (d := 16) h (by decide) (by decide)
theorem i_rem16 {c : Nat} (h : c < 2 ^ 31) : nI c - nI c / 16 * 16 = nI (c % 16) := pk_rem (d := 16) h (by decide) (by decide)
theorem l0 : (0 : Int32).toInt = 0 := rfl
theorem l1 : (1 : Int32).toInt = 1 := rfl
theorem lm1 : (-1 : Int32).toInt = -1 := rfl
theorem l3 : (3 : Int32).toInt = 3 := rfl
theorem l4 : (4 : Int32).toInt = 4 := rfl
theorem l5 : (5 : Int32).toInt = 5 := rfl
theorem l12 : (12 : Int32).toInt = 12 := rfl
theorem l16 : (16 : Int32).toInt = 16 := rfl
theorem l20 : (20 : Int32).toInt = 20 := rfl
theorem l60 : (60 : Int32).toInt = 60 := rfl
theorem l256 : (256 : Int32).toInt = 256 := rfl
theorem l1000 : (1000 : Int32).toInt = 1000 := rfl
theorem l10000 : (10000 : Int32).toInt = 10000 := rfl
theorem l100000 : (100000 : Int32).toInt = 100000 := rfl
theorem l1000000 : (1000000 : Int32).toInt = 1000000 := rfl
end
section
section CMPN
variable {K : CX} {Q : QT} {cs sl pc pc2 n : Nat} {lv : List (Option Value)} {st : List Value} {h : HP} {y0 : MethodName} {cc : ByteArray} {nL : Nat} {rt : Option FieldType} {rm : Room}
theorem aw_icN_lt (hk : OK K y0 cc nL rt rm) {x y : Nat} {X Y : Int32} {off : Int} {tgt : Nat} (hd : decode cc pc = .ok (.if_icmp .lt off, 3)) (ht : (pc : Int) + off = (tgt : Int)) (hp : pc + 3 = pc2) (hX : X = nI x) (hY : Y = nI y) (hx : x < 2 ^ 31) (hy : y < 2 ^ 31) (kt : x < y → AW K Q cs sl tgt lv st n h) (kf : y ≤ x → AW K Q cs sl pc2 lv st n h) : AW K Q cs sl pc lv (.int Y :: .int X :: st) n h := by
  subst hX; subst hY
  exact aw_icmp_lt hk hd ht hp (fun c => kt ((nI_ltI hx hy).mp c)) (fun c => kf (by have := mt (nI_ltI hx hy).mpr c; omega))
theorem aw_icN_gt (hk : OK K y0 cc nL rt rm) {x y : Nat} {X Y : Int32} {off : Int} {tgt : Nat} (hd : decode cc pc = .ok (.if_icmp .gt off, 3)) (ht : (pc : Int) + off = (tgt : Int)) (hp : pc + 3 = pc2) (hX : X = nI x) (hY : Y = nI y) (hx : x < 2 ^ 31) (hy : y < 2 ^ 31) (kt : y < x → AW K Q cs sl tgt lv st n h) (kf : x ≤ y → AW K Q cs sl pc2 lv st n h) : AW K Q cs sl pc lv (.int Y :: .int X :: st) n h := by
  subst hX; subst hY
  exact aw_icmp_gt hk hd ht hp (fun c => kt ((nI_ltI hy hx).mp c)) (fun c => kf (by have := mt (nI_ltI hy hx).mpr c; omega))
theorem aw_icN_le (hk : OK K y0 cc nL rt rm) {x y : Nat} {X Y : Int32} {off : Int} {tgt : Nat} (hd : decode cc pc = .ok (.if_icmp .le off, 3)) (ht : (pc : Int) + off = (tgt : Int)) (hp : pc + 3 = pc2) (hX : X = nI x) (hY : Y = nI y) (hx : x < 2 ^ 31) (hy : y < 2 ^ 31) (kt : x ≤ y → AW K Q cs sl tgt lv st n h) (kf : y < x → AW K Q cs sl pc2 lv st n h) : AW K Q cs sl pc lv (.int Y :: .int X :: st) n h := by
  subst hX; subst hY
  exact aw_icmp_le hk hd ht hp (fun c => kt ((nI_leI hx hy).mp c)) (fun c => kf (by have := mt (nI_leI hx hy).mpr c; omega))
theorem aw_icN_eq (hk : OK K y0 cc nL rt rm) {x y : Nat} {X Y : Int32} {off : Int} {tgt : Nat} (hd : decode cc pc = .ok (.if_icmp .eq off, 3)) (ht : (pc : Int) + off = (tgt : Int)) (hp : pc + 3 = pc2) (hX : X = nI x) (hY : Y = nI y) (hx : x < 2 ^ 31) (hy : y < 2 ^ 31) (kt : x = y → AW K Q cs sl tgt lv st n h) (kf : x ≠ y → AW K Q cs sl pc2 lv st n h) : AW K Q cs sl pc lv (.int Y :: .int X :: st) n h := by
  subst hX; subst hY
  exact aw_icmp_eq hk hd ht hp (fun c => kt ((nI_eq hx hy).mp c)) (fun c => kf (by have := mt (nI_eq hx hy).mpr c; omega))
theorem aw_icN_ne (hk : OK K y0 cc nL rt rm) {x y : Nat} {X Y : Int32} {off : Int} {tgt : Nat} (hd : decode cc pc = .ok (.if_icmp .ne off, 3)) (ht : (pc : Int) + off = (tgt : Int)) (hp : pc + 3 = pc2) (hX : X = nI x) (hY : Y = nI y) (hx : x < 2 ^ 31) (hy : y < 2 ^ 31) (kt : x ≠ y → AW K Q cs sl tgt lv st n h) (kf : x = y → AW K Q cs sl pc2 lv st n h) : AW K Q cs sl pc lv (.int Y :: .int X :: st) n h := by
  subst hX; subst hY
  exact aw_icmp_ne hk hd ht hp (fun c => kt (mt (nI_eq hx hy).mpr c)) (fun c => kf ((nI_eq hx hy).mp c))
theorem aw_lv (lv' : List (Option Value)) (e : lv = lv') (kk : AW K Q cs sl pc lv' st n h) : AW K Q cs sl pc lv st n h := e ▸ kk
end CMPN
/-- rows lo to lo + 4: their first i places are v of the row -/
def rw5 (I : M2) (lo i : Nat) (v : Nat → Int32) : M2 := fun b c => if (lo ≤ b ∧ b ≤ lo + 4) ∧ c < i then v b else I b c
theorem rw5_0 (I : M2) (lo : Nat) (v : Nat → Int32) : rw5 I lo 0 v = I := by funext b c; simp [rw5]
theorem rw5_st (I : M2) (lo i : Nat) (v : Nat → Int32) {a1 a2 a3 a4 : Nat} {x0 x1 x2 x3 x4 : Int32} (e1 : a1 = lo + 1) (e2 : a2 = lo + 2) (e3 : a3 = lo + 3) (e4 : a4 = lo + 4) (h0 : x0 = v lo) (h1 : x1 = v a1) (h2 : x2 = v a2) (h3 : x3 = v a3) (h4 : x4 = v a4) :
    u2 (u2 (u2 (u2 (u2 (rw5 I lo i v) lo i x0) a1 i x1) a2 i x2) a3 i x3) a4 i x4 = rw5 I lo (i + 1) v := by
  subst e1 e2 e3 e4 h0 h1 h2 h3 h4
  funext b c
  simp only [u2, rw5]
  by_cases hc : c = i
  · subst hc
    by_cases b4 : b = lo + 4
    · subst b4; simp
    by_cases b3 : b = lo + 3
    · subst b3; simp
    by_cases b2 : b = lo + 2
    · subst b2; simp
    by_cases b1 : b = lo + 1
    · subst b1; simp
    by_cases b0 : b = lo
    · subst b0; simp
    have : ¬ (lo ≤ b ∧ b ≤ lo + 4) := by omega
    simp [b0, b1, b2, b3, b4, this]
  · have e : (c < i + 1) = (c < i) := by simp; omega
    simp [hc, e]
theorem rw5_in (I : M2) (lo : Nat) {i b c : Nat} (v : Nat → Int32) (hb : lo ≤ b ∧ b ≤ lo + 4) (hc : c < i) : rw5 I lo i v b c = v b := by simp [rw5, hb, hc]
theorem rw5_ne (I : M2) (lo i : Nat) {b : Nat} (v : Nat → Int32) (hb : ¬ (lo ≤ b ∧ b ≤ lo + 4)) : rw5 I lo i v b = I b := by funext c; simp only [rw5]; rw [if_neg (fun h => hb h.1)]
/-- the first place from i on, of k, that holds x; else the place behind -/
def fndI (f : Nat → Int32) (x : Int32) : Nat → Nat → Nat
  | 0, i => i
  | k + 1, i => if f i = x then i else fndI f x k (i + 1)
theorem fndI_le (f : Nat → Int32) (x : Int32) : ∀ k i, i ≤ fndI f x k i ∧ fndI f x k i ≤ i + k := by
  intro k
  induction k with
  | zero => intro i; simp [fndI]
  | succ k ih => intro i; unfold fndI; split; omega; have := ih (i + 1); omega
theorem fndI_eq {f f' : Nat → Int32} {x : Int32} : ∀ k i, (∀ j, j < i + k → f j = f' j) → fndI f x k i = fndI f' x k i := by
  intro k
  induction k with
  | zero => intro i _; rfl
  | succ k ih => intro i h; unfold fndI; rw [h i (by omega), ih (i + 1) (fun j hj => h j (by omega))]
/-- the latest day told up to a day, and its price -/
def onS (f v : Nat → Int32) (day : Int32) : Nat → Int32 × Int32
  | 0 => (-1, 0)
  | k + 1 => if f k ≤ day ∧ (onS f v day k).1 < f k then (f k, v k) else onS f v day k
theorem onS_eq {f f' v v' : Nat → Int32} {day : Int32} : ∀ k, (∀ j, j < k → f j = f' j ∧ v j = v' j) → onS f v day k = onS f' v' day k := by
  intro k
  induction k with
  | zero => intro _; rfl
  | succ k ih => intro h; unfold onS; rw [ih (fun j hj => h j (by omega)), (h k (by omega)).1, (h k (by omega)).2]
def mxL (x y : Int64) : Int64 := if y < x then x else y
def mnL (x y : Int64) : Int64 := if y < x then y else x
theorem aw_max {K : CX} {Q : QT} {cs sl pc pc2 n : Nat} {lv : List (Option Value)} {st : List Value} {h : HP} {y0 : MethodName} {cc : ByteArray} {nL : Nat} {rt : Option FieldType} {rm : Room} (hk : OK K y0 cc nL rt rm) {ix : Nat} {x y : Int64} (hc : SE yJ9_max_f86c9 cJ9_max_f86c9 4 (some .long) 2) (hd : decode cc pc = .ok (.invokestatic ix, 3)) (hp : pc + 3 = pc2) (hl1 : Cond.methodLink y0.cls ix yJ9_max_f86c9 ∈ w_tbl) (hf : 1 ≤ rm.frames) (hlo : (st.map fun v => v.category).sum + 15 ≤ rm.locals) (hcs : cs ≤ rm.cells) (hsl : sl ≤ rm.slots) (kk : AW K Q cs sl pc2 lv (.long (mxL x y) :: st) n h) : AW K Q cs sl pc lv (.long y :: .long x :: st) n h := by
  obtain ⟨p, l, e, R, s, m, args, below, meth, c, D, B, ac⟩ := K
  obtain ⟨hx, hb, hml, hown, hr, hnm, hlk, hRm, hE⟩ := hk
  subst hp
  intro H locs ls hh hS hl
  subst hRm
  have k2 := kk H locs ls hh hS hl
  exact va_mmax_long hx hb hl.1.symm hown (hE.1 args _ hl1) (hE.1 args _ hc.2) (hE.1 args _ hc.1.2.1) (hE.1 args _ hc.1.1) hf (by rw [catL]; exact hlo) hcs hsl hd k2
theorem aw_min {K : CX} {Q : QT} {cs sl pc pc2 n : Nat} {lv : List (Option Value)} {st : List Value} {h : HP} {y0 : MethodName} {cc : ByteArray} {nL : Nat} {rt : Option FieldType} {rm : Room} (hk : OK K y0 cc nL rt rm) {ix : Nat} {x y : Int64} (hc : SE yJ9_min_f86c9 cJ9_min_f86c9 4 (some .long) 2) (hd : decode cc pc = .ok (.invokestatic ix, 3)) (hp : pc + 3 = pc2) (hl1 : Cond.methodLink y0.cls ix yJ9_min_f86c9 ∈ w_tbl) (hf : 1 ≤ rm.frames) (hlo : (st.map fun v => v.category).sum + 15 ≤ rm.locals) (hcs : cs ≤ rm.cells) (hsl : sl ≤ rm.slots) (kk : AW K Q cs sl pc2 lv (.long (mnL x y) :: st) n h) : AW K Q cs sl pc lv (.long y :: .long x :: st) n h := by
  obtain ⟨p, l, e, R, s, m, args, below, meth, c, D, B, ac⟩ := K
  obtain ⟨hx, hb, hml, hown, hr, hnm, hlk, hRm, hE⟩ := hk
  subst hp
  intro H locs ls hh hS hl
  subst hRm
  have k2 := kk H locs ls hh hS hl
  exact va_mmin_long hx hb hl.1.symm hown (hE.1 args _ hl1) (hE.1 args _ hc.2) (hE.1 args _ hc.1.2.1) (hE.1 args _ hc.1.1) hf (by rw [catL]; exact hlo) hcs hsl hd k2
end
section
def kpt (I : M2) (p : Nat) (f : Int32) : Bool := I 2 p == f && I 6 p == -1
def inl (I : M2) (p : Nat) (f : Int32) : Bool := I 5 p != 0 && I 2 p == f
def opl (I : M2) (p : Nat) : Bool := I 4 p != 0 && I 6 p == -1
def tkn (I : M2) (p : Nat) : Bool := I 6 p != -1
def ksd (I : M2) (w g p : Nat) (f : Int32) (s : Nat) : Bool := match nbC w g p s with
  | some q => kpt I q f
  | none => false
/-- the price of a cell by a row of prices a -/
def prI (I : M2) (a p : Nat) : Int32 := I a (I 3 p).toNatClampNeg
set_option maxHeartbeats 4000000 in
set_option maxRecDepth 100000 in
theorem t_at {n : Nat} {d : D2} {I : M2} {J : J2} {S : M2} {L : J2} {R : R2} {Q : QT} {x y : Int32} {w g : Nat} (hw : S 1 0 = nI w) (hg : S 1 1 = nI g) (hw6 : w ≤ 16) (hg6 : g ≤ 16) (hq : Q (some (.int (opI (plc w g x y)))) n (H5 d I J S L R)) : Calls yX2_at cX2_at 4 (some .int) rmX2_at [.ref 1, .int x, .int y] n (H5 d I J S L R) Q := by
  refine Calls.of (by decide) (Nat.le_of_ble_eq_true rfl) ?_
  intro K hk
  show AW K Q 0 0 0 [some (.ref 1), some (.int x), some (.int y), none] [] n (H5 d I J S L R)
  have hN : ¬ (0 ≤ x.toInt ∧ x.toInt < w ∧ 0 ≤ y.toInt ∧ y.toInt < g) → AW K Q 0 0 40 [some (.ref 1), some (.int x), some (.int y), none] [] n (H5 d I J S L R) := by
    intro hno
    refine aw_iconst (v := 0) (pc2 := 41) hk dX2_at_40 rfl (by decide) ?_
    refine aw_istore_n (pc2 := 42) hk dX2_at_41 rfl (by decide) ?_
    refine aw_iload_n (pc2 := 43) hk dX2_at_42 rfl rfl ?_
    refine aw_if_eq (tgt := 55) (pc2 := 46) hk dX2_at_43 (by decide) rfl (fun c43 => ?_) (fun c43 => absurd rfl c43)
    refine aw_iconst (v := -1) (pc2 := 56) hk dX2_at_55 rfl (by decide) ?_
    refine aw_iret hk dX2_at_56 (Nat.le_of_ble_eq_true rfl) (Nat.le_of_ble_eq_true rfl) (by unfold plc at hq; rw [if_neg hno] at hq; exact hq)
  refine aw_iload_n (pc2 := 1) hk dX2_at_0 rfl rfl ?_
  refine aw_if_lt (tgt := 40) (pc2 := 4) hk dX2_at_1 (by decide) rfl (fun c1 => ?_) (fun c1 => ?_)
  · exact hN (by simp only [i_lt, i_le, l0, l16, hw, hg, nI_toInt (show w < 2 ^ 31 by omega), nI_toInt (show g < 2 ^ 31 by omega)] at *; omega)
  · refine aw_iload_n (pc2 := 5) hk dX2_at_4 rfl rfl ?_
    refine aw_aload_n (pc2 := 6) hk dX2_at_5 rfl rfl ?_
    refine aw_get (pc2 := 9) hk ckX2 0 dX2_at_6 rfl fl_X2_28 (by decide) (o_X2 rfl) rfl ?_
    refine aw_icmp_ge (tgt := 40) (pc2 := 12) hk dX2_at_9 (by decide) rfl (fun c9 => ?_) (fun c9 => ?_)
    · exact hN (by simp only [i_lt, i_le, l0, l16, hw, hg, nI_toInt (show w < 2 ^ 31 by omega), nI_toInt (show g < 2 ^ 31 by omega)] at *; omega)
    · refine aw_iload_n (pc2 := 13) hk dX2_at_12 rfl rfl ?_
      refine aw_bipush (v := 16) (pc2 := 15) hk dX2_at_13 rfl (by decide) ?_
      refine aw_icmp_ge (tgt := 40) (pc2 := 18) hk dX2_at_15 (by decide) rfl (fun c15 => absurd c15 (by simp only [i_lt, i_le, l0, l16, hw, hg, nI_toInt (show w < 2 ^ 31 by omega), nI_toInt (show g < 2 ^ 31 by omega)] at *; omega)) (fun c15 => ?_)
      refine aw_iload_n (pc2 := 19) hk dX2_at_18 rfl rfl ?_
      refine aw_if_lt (tgt := 40) (pc2 := 22) hk dX2_at_19 (by decide) rfl (fun c19 => ?_) (fun c19 => ?_)
      · exact hN (by simp only [i_lt, i_le, l0, l16, hw, hg, nI_toInt (show w < 2 ^ 31 by omega), nI_toInt (show g < 2 ^ 31 by omega)] at *; omega)
      · refine aw_iload_n (pc2 := 23) hk dX2_at_22 rfl rfl ?_
        refine aw_aload_n (pc2 := 24) hk dX2_at_23 rfl rfl ?_
        refine aw_get (pc2 := 27) hk ckX2 1 dX2_at_24 rfl fl_X2_32 (by decide) (o_X2 rfl) rfl ?_
        refine aw_icmp_ge (tgt := 40) (pc2 := 30) hk dX2_at_27 (by decide) rfl (fun c27 => ?_) (fun c27 => ?_)
        · exact hN (by simp only [i_lt, i_le, l0, l16, hw, hg, nI_toInt (show w < 2 ^ 31 by omega), nI_toInt (show g < 2 ^ 31 by omega)] at *; omega)
        · refine aw_iload_n (pc2 := 31) hk dX2_at_30 rfl rfl ?_
          refine aw_bipush (v := 16) (pc2 := 33) hk dX2_at_31 rfl (by decide) ?_
          refine aw_icmp_ge (tgt := 40) (pc2 := 36) hk dX2_at_33 (by decide) rfl (fun c33 => absurd c33 (by simp only [i_lt, i_le, l0, l16, hw, hg, nI_toInt (show w < 2 ^ 31 by omega), nI_toInt (show g < 2 ^ 31 by omega)] at *; omega)) (fun c33 => ?_)
          refine aw_iconst (v := 1) (pc2 := 37) hk dX2_at_36 rfl (by decide) ?_
          refine aw_goto (tgt := 41) hk dX2_at_37 (by decide) ?_
          refine aw_istore_n (pc2 := 42) hk dX2_at_41 rfl (by decide) ?_
          refine aw_iload_n (pc2 := 43) hk dX2_at_42 rfl rfl ?_
          refine aw_if_eq (tgt := 55) (pc2 := 46) hk dX2_at_43 (by decide) rfl (fun c43 => absurd c43 (by decide)) (fun c43 => ?_)
          refine aw_iload_n (pc2 := 47) hk dX2_at_46 rfl rfl ?_
          refine aw_bipush (v := 16) (pc2 := 49) hk dX2_at_47 rfl (by decide) ?_
          refine aw_imul (pc2 := 50) hk dX2_at_49 rfl ?_
          refine aw_iload_n (pc2 := 51) hk dX2_at_50 rfl rfl ?_
          refine aw_iadd (pc2 := 52) hk dX2_at_51 rfl ?_
          refine aw_goto (tgt := 56) hk dX2_at_52 (by decide) ?_
          have hin : 0 ≤ x.toInt ∧ x.toInt < w ∧ 0 ≤ y.toInt ∧ y.toInt < g := (by simp only [i_lt, i_le, l0, l16, hw, hg, nI_toInt (show w < 2 ^ 31 by omega), nI_toInt (show g < 2 ^ 31 by omega)] at *; omega)
          have ex : x = nI x.toInt.toNat := i_eq (by omega)
          have ey : y = nI y.toInt.toNat := i_eq (by omega)
          refine aw_top (nI (16 * y.toInt.toNat + x.toInt.toNat)) (by
            have e : y * 16 + x = nI y.toInt.toNat * nI 16 + nI x.toInt.toNat := by rw [← ex, ← ey]; rfl
            rw [e, pk_mul, nI_add, Nat.mul_comm]) ?_
          refine aw_iret hk dX2_at_56 (Nat.le_of_ble_eq_true rfl) (Nat.le_of_ble_eq_true rfl) (by unfold plc at hq; rw [if_pos hin] at hq; exact hq)
set_option maxHeartbeats 4000000 in
set_option maxRecDepth 100000 in
theorem t_beside {n : Nat} {d : D2} {I : M2} {J : J2} {S : M2} {L : J2} {R : R2} {Q : QT} {p s : Nat} {w g : Nat} (hw : S 1 0 = nI w) (hg : S 1 1 = nI g) (hw6 : w ≤ 16) (hg6 : g ≤ 16) (hp : p < 256) (hs : s < 4) (hq : Q (some (.int (opI (nbC w g p s)))) n (H5 d I J S L R)) : Calls yX2_beside cX2_beside 3 (some .int) rmX2_beside [.ref 1, .int (nI p), .int (nI s)] n (H5 d I J S L R) Q := by
  refine Calls.of (by decide) (Nat.le_of_ble_eq_true rfl) ?_
  intro K hk
  show AW K Q 0 0 0 [some (.ref 1), some (.int (nI p)), some (.int (nI s))] [] n (H5 d I J S L R)
  refine aw_aload_n (pc2 := 1) hk dX2_beside_0 rfl rfl ?_
  refine aw_iload_n (pc2 := 2) hk dX2_beside_1 rfl rfl ?_
  refine aw_bipush (v := 16) (pc2 := 4) hk dX2_beside_2 rfl (by decide) ?_
  refine aw_irem (pc2 := 5) hk dX2_beside_4 rfl (by decide) ?_
  refine aw_top (nI (p % 16)) (i_rem16 (by omega)) ?_
  refine aw_stx (pc2 := 10) hk dX2_beside_5 dX2_beside_8 dX2_beside_9 rfl fn_X2_35 rfl hs ?_
  refine aw_iadd (pc2 := 11) hk dX2_beside_10 rfl ?_
  refine aw_iload_n (pc2 := 12) hk dX2_beside_11 rfl rfl ?_
  refine aw_bipush (v := 16) (pc2 := 14) hk dX2_beside_12 rfl (by decide) ?_
  refine aw_idiv (pc2 := 15) hk dX2_beside_14 rfl (by decide) ?_
  refine aw_top (nI (p / 16)) (i_div16 (by omega)) ?_
  refine aw_sty (pc2 := 20) hk dX2_beside_15 dX2_beside_18 dX2_beside_19 rfl fn_X2_38 rfl hs ?_
  refine aw_iadd (pc2 := 21) hk dX2_beside_20 rfl ?_
  refine aw_cV (rm2 := rmX2_at) (pc2 := 24) hk veX2_at dX2_beside_21 rfl ml_X2_41 ⟨(Nat.le_of_ble_eq_true rfl), (Nat.le_of_ble_eq_true rfl)⟩ [_, _] rfl rfl (Nat.le_of_ble_eq_true rfl) (Nat.le_of_ble_eq_true rfl) (Nat.le_of_ble_eq_true rfl) (o_X2 rfl) (t_at hw hg hw6 hg6 ?_)
  refine aw_iret hk dX2_beside_24 (Nat.le_of_ble_eq_true rfl) (Nat.le_of_ble_eq_true rfl) hq
set_option maxHeartbeats 4000000 in
set_option maxRecDepth 100000 in
theorem t_isTaken {n : Nat} {d : D2} {I : M2} {J : J2} {S : M2} {L : J2} {R : R2} {Q : QT} {p : Nat} {x : Int32} (hx : x = nI p) (hp : p < 256) (hq : Q (some (.int (bi (tkn I p)))) n (H5 d I J S L R)) : Calls yX2_isTaken cX2_isTaken 2 (some .boolean) rmX2_isTaken [.ref 1, .int x] n (H5 d I J S L R) Q := by
  refine Calls.of (by decide) (Nat.le_of_ble_eq_true rfl) ?_
  intro K hk
  show AW K Q 0 0 0 [some (.ref 1), some (.int x)] [] n (H5 d I J S L R)
  refine aw_aload_n (pc2 := 1) hk dX2_isTaken_0 rfl rfl ?_
  refine aw_get (v := .ref 6) (pc2 := 4) hk ckX2 6 dX2_isTaken_1 rfl fl_X2_25 (by decide) (o_X2 rfl) rfl ?_
  refine aw_iload_n (pc2 := 5) hk dX2_isTaken_4 rfl rfl ?_
  refine h_iald (pc2 := 6) hk dX2_isTaken_5 rfl rfl hx hp (by decide) ?_
  refine aw_iconst (v := -1) (pc2 := 7) hk dX2_isTaken_6 rfl (by decide) ?_
  refine aw_icmp_eq (tgt := 14) (pc2 := 10) hk dX2_isTaken_7 (by decide) rfl (fun c7 => ?_) (fun c7 => ?_)
  · refine aw_iconst (v := 0) (pc2 := 15) hk dX2_isTaken_14 rfl (by decide) ?_
    refine aw_zret (by first | exact Or.inl rfl | exact Or.inr rfl) hk dX2_isTaken_15 (Nat.le_of_ble_eq_true rfl) (Nat.le_of_ble_eq_true rfl) (by first | (simpa [tkn, bi, c7] using hq))
  · refine aw_iconst (v := 1) (pc2 := 11) hk dX2_isTaken_10 rfl (by decide) ?_
    refine aw_goto (tgt := 15) hk dX2_isTaken_11 (by decide) ?_
    refine aw_zret (by first | exact Or.inl rfl | exact Or.inr rfl) hk dX2_isTaken_15 (Nat.le_of_ble_eq_true rfl) (Nat.le_of_ble_eq_true rfl) (by first | (simpa [tkn, bi, c7] using hq))
set_option maxHeartbeats 4000000 in
set_option maxRecDepth 100000 in
theorem t_isKept {n : Nat} {d : D2} {I : M2} {J : J2} {S : M2} {L : J2} {R : R2} {Q : QT} {p : Nat} {x : Int32} {f : Int32} (hx : x = nI p) (hp : p < 256) (hq : Q (some (.int (bi (kpt I p f)))) n (H5 d I J S L R)) : Calls yX2_isKept cX2_isKept 3 (some .boolean) rmX2_isKept [.ref 1, .int x, .int f] n (H5 d I J S L R) Q := by
  refine Calls.of (by decide) (Nat.le_of_ble_eq_true rfl) ?_
  intro K hk
  show AW K Q 0 0 0 [some (.ref 1), some (.int x), some (.int f)] [] n (H5 d I J S L R)
  refine aw_aload_n (pc2 := 1) hk dX2_isKept_0 rfl rfl ?_
  refine aw_get (v := .ref 2) (pc2 := 4) hk ckX2 2 dX2_isKept_1 rfl fl_X2_9 (by decide) (o_X2 rfl) rfl ?_
  refine aw_iload_n (pc2 := 5) hk dX2_isKept_4 rfl rfl ?_
  refine h_iald (pc2 := 6) hk dX2_isKept_5 rfl rfl hx hp (by decide) ?_
  refine aw_iload_n (pc2 := 7) hk dX2_isKept_6 rfl rfl ?_
  refine aw_icmp_ne (tgt := 24) (pc2 := 10) hk dX2_isKept_7 (by decide) rfl (fun c7 => ?_) (fun c7 => ?_)
  · refine aw_iconst (v := 0) (pc2 := 25) hk dX2_isKept_24 rfl (by decide) ?_
    refine aw_zret (by first | exact Or.inl rfl | exact Or.inr rfl) hk dX2_isKept_25 (Nat.le_of_ble_eq_true rfl) (Nat.le_of_ble_eq_true rfl) (by first | (simpa [kpt, bi, *] using hq))
  · refine aw_aload_n (pc2 := 11) hk dX2_isKept_10 rfl rfl ?_
    refine aw_get (v := .ref 6) (pc2 := 14) hk ckX2 6 dX2_isKept_11 rfl fl_X2_25 (by decide) (o_X2 rfl) rfl ?_
    refine aw_iload_n (pc2 := 15) hk dX2_isKept_14 rfl rfl ?_
    refine h_iald (pc2 := 16) hk dX2_isKept_15 rfl rfl hx hp (by decide) ?_
    refine aw_iconst (v := -1) (pc2 := 17) hk dX2_isKept_16 rfl (by decide) ?_
    refine aw_icmp_ne (tgt := 24) (pc2 := 20) hk dX2_isKept_17 (by decide) rfl (fun c17 => ?_) (fun c17 => ?_)
    · refine aw_iconst (v := 0) (pc2 := 25) hk dX2_isKept_24 rfl (by decide) ?_
      refine aw_zret (by first | exact Or.inl rfl | exact Or.inr rfl) hk dX2_isKept_25 (Nat.le_of_ble_eq_true rfl) (Nat.le_of_ble_eq_true rfl) (by first | (simpa [kpt, bi, *] using hq))
    · refine aw_iconst (v := 1) (pc2 := 21) hk dX2_isKept_20 rfl (by decide) ?_
      refine aw_goto (tgt := 25) hk dX2_isKept_21 (by decide) ?_
      refine aw_zret (by first | exact Or.inl rfl | exact Or.inr rfl) hk dX2_isKept_25 (Nat.le_of_ble_eq_true rfl) (Nat.le_of_ble_eq_true rfl) (by first | (simpa [kpt, bi, *] using hq))
set_option maxHeartbeats 4000000 in
set_option maxRecDepth 100000 in
theorem t_isInLineOf {n : Nat} {d : D2} {I : M2} {J : J2} {S : M2} {L : J2} {R : R2} {Q : QT} {p : Nat} {x : Int32} {f : Int32} (hx : x = nI p) (hp : p < 256) (hq : Q (some (.int (bi (inl I p f)))) n (H5 d I J S L R)) : Calls yX2_isInLineOf cX2_isInLineOf 3 (some .boolean) rmX2_isInLineOf [.ref 1, .int x, .int f] n (H5 d I J S L R) Q := by
  refine Calls.of (by decide) (Nat.le_of_ble_eq_true rfl) ?_
  intro K hk
  show AW K Q 0 0 0 [some (.ref 1), some (.int x), some (.int f)] [] n (H5 d I J S L R)
  refine aw_aload_n (pc2 := 1) hk dX2_isInLineOf_0 rfl rfl ?_
  refine aw_get (v := .ref 5) (pc2 := 4) hk ckX2 5 dX2_isInLineOf_1 rfl fl_X2_22 (by decide) (o_X2 rfl) rfl ?_
  refine aw_iload_n (pc2 := 5) hk dX2_isInLineOf_4 rfl rfl ?_
  refine h_zald (pc2 := 6) hk dX2_isInLineOf_5 rfl rfl hx hp (by decide) ?_
  refine aw_if_eq (tgt := 23) (pc2 := 9) hk dX2_isInLineOf_6 (by decide) rfl (fun c6 => ?_) (fun c6 => ?_)
  · refine aw_iconst (v := 0) (pc2 := 24) hk dX2_isInLineOf_23 rfl (by decide) ?_
    refine aw_zret (by first | exact Or.inl rfl | exact Or.inr rfl) hk dX2_isInLineOf_24 (Nat.le_of_ble_eq_true rfl) (Nat.le_of_ble_eq_true rfl) (by first | (simpa [inl, bi, *] using hq))
  · refine aw_aload_n (pc2 := 10) hk dX2_isInLineOf_9 rfl rfl ?_
    refine aw_get (v := .ref 2) (pc2 := 13) hk ckX2 2 dX2_isInLineOf_10 rfl fl_X2_9 (by decide) (o_X2 rfl) rfl ?_
    refine aw_iload_n (pc2 := 14) hk dX2_isInLineOf_13 rfl rfl ?_
    refine h_iald (pc2 := 15) hk dX2_isInLineOf_14 rfl rfl hx hp (by decide) ?_
    refine aw_iload_n (pc2 := 16) hk dX2_isInLineOf_15 rfl rfl ?_
    refine aw_icmp_ne (tgt := 23) (pc2 := 19) hk dX2_isInLineOf_16 (by decide) rfl (fun c16 => ?_) (fun c16 => ?_)
    · refine aw_iconst (v := 0) (pc2 := 24) hk dX2_isInLineOf_23 rfl (by decide) ?_
      refine aw_zret (by first | exact Or.inl rfl | exact Or.inr rfl) hk dX2_isInLineOf_24 (Nat.le_of_ble_eq_true rfl) (Nat.le_of_ble_eq_true rfl) (by first | (simpa [inl, bi, *] using hq))
    · refine aw_iconst (v := 1) (pc2 := 20) hk dX2_isInLineOf_19 rfl (by decide) ?_
      refine aw_goto (tgt := 24) hk dX2_isInLineOf_20 (by decide) ?_
      refine aw_zret (by first | exact Or.inl rfl | exact Or.inr rfl) hk dX2_isInLineOf_24 (Nat.le_of_ble_eq_true rfl) (Nat.le_of_ble_eq_true rfl) (by first | (simpa [inl, bi, *] using hq))
set_option maxHeartbeats 4000000 in
set_option maxRecDepth 100000 in
theorem t_isOpenLane {n : Nat} {d : D2} {I : M2} {J : J2} {S : M2} {L : J2} {R : R2} {Q : QT} {p : Nat} {x : Int32} (hx : x = nI p) (hp : p < 256) (hq : Q (some (.int (bi (opl I p)))) n (H5 d I J S L R)) : Calls yX2_isOpenLane cX2_isOpenLane 2 (some .boolean) rmX2_isOpenLane [.ref 1, .int x] n (H5 d I J S L R) Q := by
  refine Calls.of (by decide) (Nat.le_of_ble_eq_true rfl) ?_
  intro K hk
  show AW K Q 0 0 0 [some (.ref 1), some (.int x)] [] n (H5 d I J S L R)
  refine aw_aload_n (pc2 := 1) hk dX2_isOpenLane_0 rfl rfl ?_
  refine aw_get (v := .ref 4) (pc2 := 4) hk ckX2 4 dX2_isOpenLane_1 rfl fl_X2_18 (by decide) (o_X2 rfl) rfl ?_
  refine aw_iload_n (pc2 := 5) hk dX2_isOpenLane_4 rfl rfl ?_
  refine h_zald (pc2 := 6) hk dX2_isOpenLane_5 rfl rfl hx hp (by decide) ?_
  refine aw_if_eq (tgt := 23) (pc2 := 9) hk dX2_isOpenLane_6 (by decide) rfl (fun c6 => ?_) (fun c6 => ?_)
  · refine aw_iconst (v := 0) (pc2 := 24) hk dX2_isOpenLane_23 rfl (by decide) ?_
    refine aw_zret (by first | exact Or.inl rfl | exact Or.inr rfl) hk dX2_isOpenLane_24 (Nat.le_of_ble_eq_true rfl) (Nat.le_of_ble_eq_true rfl) (by first | (simpa [opl, bi, *] using hq))
  · refine aw_aload_n (pc2 := 10) hk dX2_isOpenLane_9 rfl rfl ?_
    refine aw_get (v := .ref 6) (pc2 := 13) hk ckX2 6 dX2_isOpenLane_10 rfl fl_X2_25 (by decide) (o_X2 rfl) rfl ?_
    refine aw_iload_n (pc2 := 14) hk dX2_isOpenLane_13 rfl rfl ?_
    refine h_iald (pc2 := 15) hk dX2_isOpenLane_14 rfl rfl hx hp (by decide) ?_
    refine aw_iconst (v := -1) (pc2 := 16) hk dX2_isOpenLane_15 rfl (by decide) ?_
    refine aw_icmp_ne (tgt := 23) (pc2 := 19) hk dX2_isOpenLane_16 (by decide) rfl (fun c16 => ?_) (fun c16 => ?_)
    · refine aw_iconst (v := 0) (pc2 := 24) hk dX2_isOpenLane_23 rfl (by decide) ?_
      refine aw_zret (by first | exact Or.inl rfl | exact Or.inr rfl) hk dX2_isOpenLane_24 (Nat.le_of_ble_eq_true rfl) (Nat.le_of_ble_eq_true rfl) (by first | (simpa [opl, bi, *] using hq))
    · refine aw_iconst (v := 1) (pc2 := 20) hk dX2_isOpenLane_19 rfl (by decide) ?_
      refine aw_goto (tgt := 24) hk dX2_isOpenLane_20 (by decide) ?_
      refine aw_zret (by first | exact Or.inl rfl | exact Or.inr rfl) hk dX2_isOpenLane_24 (Nat.le_of_ble_eq_true rfl) (Nat.le_of_ble_eq_true rfl) (by first | (simpa [opl, bi, *] using hq))
set_option maxHeartbeats 4000000 in
set_option maxRecDepth 100000 in
theorem t_cellsInLine {n : Nat} {d : D2} {I : M2} {J : J2} {S : M2} {L : J2} {R : R2} {Q : QT} {f : Int32} (hq : Q (some (.int (sI (fun c => bi (inl I c f)) 256))) n (H5 d I J S L R)) : Calls yX2_cellsInLine cX2_cellsInLine 4 (some .int) rmX2_cellsInLine [.ref 1, .int f] n (H5 d I J S L R) Q := by
  refine Calls.of (by decide) (Nat.le_of_ble_eq_true rfl) ?_
  intro K hk
  show AW K Q 0 0 0 [some (.ref 1), some (.int f), none, none] [] n (H5 d I J S L R)
  have loop : ∀ (k i : Nat), i ≤ 256 → 256 + 1 ≤ i + k → AW K Q 0 0 4 [some (.ref 1), some (.int f), some (.int (sI (fun c => bi (inl I c f)) i)), some (.int (nI i))] [] n (H5 d I J S L R) := by
    intro k
    induction k with
    | zero => intro i h1 h2; omega
    | succ k ih =>
      intro i hi hn
      refine aw_iload_n (pc2 := 5) hk dX2_cellsInLine_4 rfl rfl ?_
      refine aw_sipush (v := 256) (pc2 := 8) hk dX2_cellsInLine_5 rfl (by decide) ?_
      refine aw_icN_ge (y := 256) (tgt := 34) (pc2 := 11) hk dX2_cellsInLine_8 (by decide) rfl rfl rfl (by omega) (by omega) (fun c8 => ?_) (fun c8 => ?_)
      · obtain rfl : i = 256 := by omega
        refine aw_iload_n (pc2 := 35) hk dX2_cellsInLine_34 rfl rfl ?_
        refine aw_iret hk dX2_cellsInLine_35 (Nat.le_of_ble_eq_true rfl) (Nat.le_of_ble_eq_true rfl) hq
      · refine aw_iload_n (pc2 := 12) hk dX2_cellsInLine_11 rfl rfl ?_
        refine aw_aload_n (pc2 := 13) hk dX2_cellsInLine_12 rfl rfl ?_
        refine aw_iload_n (pc2 := 14) hk dX2_cellsInLine_13 rfl rfl ?_
        refine aw_iload_n (pc2 := 15) hk dX2_cellsInLine_14 rfl rfl ?_
        refine aw_cV (rm2 := rmX2_isInLineOf) (pc2 := 18) hk veX2_isInLineOf dX2_cellsInLine_15 rfl ml_X2_45 ⟨(Nat.le_of_ble_eq_true rfl), (Nat.le_of_ble_eq_true rfl)⟩ [_, _] rfl rfl (Nat.le_of_ble_eq_true rfl) (Nat.le_of_ble_eq_true rfl) (Nat.le_of_ble_eq_true rfl) (o_X2 rfl) (t_isInLineOf rfl (by omega) ?_)
        refine aw_if_eq (tgt := 25) (pc2 := 21) hk dX2_cellsInLine_18 (by decide) rfl (fun c18 => ?_) (fun c18 => ?_)
        · refine aw_iconst (v := 0) (pc2 := 26) hk dX2_cellsInLine_25 rfl (by decide) ?_
          refine aw_iadd (pc2 := 27) hk dX2_cellsInLine_26 rfl ?_
          refine aw_top (sI (fun c => bi (inl I c f)) (i + 1)) (show _ + _ = _ + bi _ by first | rw [bi_t c18] | rw [c18]) ?_
          refine aw_istore_n (pc2 := 28) hk dX2_cellsInLine_27 rfl (by decide) ?_
          refine aw_iinc1 (pc2 := 31) hk dX2_cellsInLine_28 rfl rfl (by decide) ?_
          refine aw_goto (tgt := 4) hk dX2_cellsInLine_31 (by decide) ?_
          exact ih (i + 1) (by omega) (by omega)
        · refine aw_iconst (v := 1) (pc2 := 22) hk dX2_cellsInLine_21 rfl (by decide) ?_
          refine aw_goto (tgt := 26) hk dX2_cellsInLine_22 (by decide) ?_
          refine aw_iadd (pc2 := 27) hk dX2_cellsInLine_26 rfl ?_
          refine aw_top (sI (fun c => bi (inl I c f)) (i + 1)) (show _ + _ = _ + bi _ by first | rw [bi_t c18] | rw [c18]) ?_
          refine aw_istore_n (pc2 := 28) hk dX2_cellsInLine_27 rfl (by decide) ?_
          refine aw_iinc1 (pc2 := 31) hk dX2_cellsInLine_28 rfl rfl (by decide) ?_
          refine aw_goto (tgt := 4) hk dX2_cellsInLine_31 (by decide) ?_
          exact ih (i + 1) (by omega) (by omega)
  refine aw_iconst (v := 0) (pc2 := 1) hk dX2_cellsInLine_0 rfl (by decide) ?_
  refine aw_istore_n (pc2 := 2) hk dX2_cellsInLine_1 rfl (by decide) ?_
  refine aw_iconst (v := 0) (pc2 := 3) hk dX2_cellsInLine_2 rfl (by decide) ?_
  refine aw_istore_n (pc2 := 4) hk dX2_cellsInLine_3 rfl (by decide) ?_
  exact loop 257 0 (by omega) (by omega)
set_option maxHeartbeats 4000000 in
set_option maxRecDepth 100000 in
theorem t_cellsChosen {n : Nat} {d : D2} {I : M2} {J : J2} {S : M2} {L : J2} {R : R2} {Q : QT} (hq : Q (some (.int (sI (fun c => bi (I 5 c != 0)) 256))) n (H5 d I J S L R)) : Calls yX2_cellsChosen cX2_cellsChosen 3 (some .int) rmX2_cellsChosen [.ref 1] n (H5 d I J S L R) Q := by
  refine Calls.of (by decide) (Nat.le_of_ble_eq_true rfl) ?_
  intro K hk
  show AW K Q 0 0 0 [some (.ref 1), none, none] [] n (H5 d I J S L R)
  have loop : ∀ (k i : Nat), i ≤ 256 → 256 + 1 ≤ i + k → AW K Q 0 0 4 [some (.ref 1), some (.int (sI (fun c => bi (I 5 c != 0)) i)), some (.int (nI i))] [] n (H5 d I J S L R) := by
    intro k
    induction k with
    | zero => intro i h1 h2; omega
    | succ k ih =>
      intro i hi hn
      refine aw_iload_n (pc2 := 5) hk dX2_cellsChosen_4 rfl rfl ?_
      refine aw_sipush (v := 256) (pc2 := 8) hk dX2_cellsChosen_5 rfl (by decide) ?_
      refine aw_icN_ge (y := 256) (tgt := 34) (pc2 := 11) hk dX2_cellsChosen_8 (by decide) rfl rfl rfl (by omega) (by omega) (fun c8 => ?_) (fun c8 => ?_)
      · obtain rfl : i = 256 := by omega
        refine aw_iload_n (pc2 := 35) hk dX2_cellsChosen_34 rfl rfl ?_
        refine aw_iret hk dX2_cellsChosen_35 (Nat.le_of_ble_eq_true rfl) (Nat.le_of_ble_eq_true rfl) hq
      · refine aw_iload_n (pc2 := 12) hk dX2_cellsChosen_11 rfl rfl ?_
        refine aw_aload_n (pc2 := 13) hk dX2_cellsChosen_12 rfl rfl ?_
        refine aw_get (v := .ref 5) (pc2 := 16) hk ckX2 5 dX2_cellsChosen_13 rfl fl_X2_22 (by decide) (o_X2 rfl) rfl ?_
        refine aw_iload_n (pc2 := 17) hk dX2_cellsChosen_16 rfl rfl ?_
        refine h_zald (pc2 := 18) hk dX2_cellsChosen_17 rfl rfl rfl (by omega) (by decide) ?_
        refine aw_if_eq (tgt := 25) (pc2 := 21) hk dX2_cellsChosen_18 (by decide) rfl (fun c18 => ?_) (fun c18 => ?_)
        · refine aw_iconst (v := 0) (pc2 := 26) hk dX2_cellsChosen_25 rfl (by decide) ?_
          refine aw_iadd (pc2 := 27) hk dX2_cellsChosen_26 rfl ?_
          refine aw_top (sI (fun c => bi (I 5 c != 0)) (i + 1)) (show _ + _ = _ + bi _ by simp [bi, c18]) ?_
          refine aw_istore_n (pc2 := 28) hk dX2_cellsChosen_27 rfl (by decide) ?_
          refine aw_iinc1 (pc2 := 31) hk dX2_cellsChosen_28 rfl rfl (by decide) ?_
          refine aw_goto (tgt := 4) hk dX2_cellsChosen_31 (by decide) ?_
          exact ih (i + 1) (by omega) (by omega)
        · refine aw_iconst (v := 1) (pc2 := 22) hk dX2_cellsChosen_21 rfl (by decide) ?_
          refine aw_goto (tgt := 26) hk dX2_cellsChosen_22 (by decide) ?_
          refine aw_iadd (pc2 := 27) hk dX2_cellsChosen_26 rfl ?_
          refine aw_top (sI (fun c => bi (I 5 c != 0)) (i + 1)) (show _ + _ = _ + bi _ by simp [bi, c18]) ?_
          refine aw_istore_n (pc2 := 28) hk dX2_cellsChosen_27 rfl (by decide) ?_
          refine aw_iinc1 (pc2 := 31) hk dX2_cellsChosen_28 rfl rfl (by decide) ?_
          refine aw_goto (tgt := 4) hk dX2_cellsChosen_31 (by decide) ?_
          exact ih (i + 1) (by omega) (by omega)
  refine aw_iconst (v := 0) (pc2 := 1) hk dX2_cellsChosen_0 rfl (by decide) ?_
  refine aw_istore_n (pc2 := 2) hk dX2_cellsChosen_1 rfl (by decide) ?_
  refine aw_iconst (v := 0) (pc2 := 3) hk dX2_cellsChosen_2 rfl (by decide) ?_
  refine aw_istore_n (pc2 := 4) hk dX2_cellsChosen_3 rfl (by decide) ?_
  exact loop 257 0 (by omega) (by omega)
set_option maxHeartbeats 4000000 in
set_option maxRecDepth 100000 in
theorem t_cellsTaken {n : Nat} {d : D2} {I : M2} {J : J2} {S : M2} {L : J2} {R : R2} {Q : QT} (hq : Q (some (.int (sI (fun c => bi (tkn I c)) 256))) n (H5 d I J S L R)) : Calls yX2_cellsTaken cX2_cellsTaken 3 (some .int) rmX2_cellsTaken [.ref 1] n (H5 d I J S L R) Q := by
  refine Calls.of (by decide) (Nat.le_of_ble_eq_true rfl) ?_
  intro K hk
  show AW K Q 0 0 0 [some (.ref 1), none, none] [] n (H5 d I J S L R)
  have loop : ∀ (k i : Nat), i ≤ 256 → 256 + 1 ≤ i + k → AW K Q 0 0 4 [some (.ref 1), some (.int (sI (fun c => bi (tkn I c)) i)), some (.int (nI i))] [] n (H5 d I J S L R) := by
    intro k
    induction k with
    | zero => intro i h1 h2; omega
    | succ k ih =>
      intro i hi hn
      refine aw_iload_n (pc2 := 5) hk dX2_cellsTaken_4 rfl rfl ?_
      refine aw_sipush (v := 256) (pc2 := 8) hk dX2_cellsTaken_5 rfl (by decide) ?_
      refine aw_icN_ge (y := 256) (tgt := 33) (pc2 := 11) hk dX2_cellsTaken_8 (by decide) rfl rfl rfl (by omega) (by omega) (fun c8 => ?_) (fun c8 => ?_)
      · obtain rfl : i = 256 := by omega
        refine aw_iload_n (pc2 := 34) hk dX2_cellsTaken_33 rfl rfl ?_
        refine aw_iret hk dX2_cellsTaken_34 (Nat.le_of_ble_eq_true rfl) (Nat.le_of_ble_eq_true rfl) hq
      · refine aw_iload_n (pc2 := 12) hk dX2_cellsTaken_11 rfl rfl ?_
        refine aw_aload_n (pc2 := 13) hk dX2_cellsTaken_12 rfl rfl ?_
        refine aw_iload_n (pc2 := 14) hk dX2_cellsTaken_13 rfl rfl ?_
        refine aw_cV (rm2 := rmX2_isTaken) (pc2 := 17) hk veX2_isTaken dX2_cellsTaken_14 rfl ml_X2_49 ⟨(Nat.le_of_ble_eq_true rfl), (Nat.le_of_ble_eq_true rfl)⟩ [_] rfl rfl (Nat.le_of_ble_eq_true rfl) (Nat.le_of_ble_eq_true rfl) (Nat.le_of_ble_eq_true rfl) (o_X2 rfl) (t_isTaken rfl (by omega) ?_)
        refine aw_if_eq (tgt := 24) (pc2 := 20) hk dX2_cellsTaken_17 (by decide) rfl (fun c17 => ?_) (fun c17 => ?_)
        · refine aw_iconst (v := 0) (pc2 := 25) hk dX2_cellsTaken_24 rfl (by decide) ?_
          refine aw_iadd (pc2 := 26) hk dX2_cellsTaken_25 rfl ?_
          refine aw_top (sI (fun c => bi (tkn I c)) (i + 1)) (show _ + _ = _ + bi _ by first | rw [bi_t c17] | rw [c17]) ?_
          refine aw_istore_n (pc2 := 27) hk dX2_cellsTaken_26 rfl (by decide) ?_
          refine aw_iinc1 (pc2 := 30) hk dX2_cellsTaken_27 rfl rfl (by decide) ?_
          refine aw_goto (tgt := 4) hk dX2_cellsTaken_30 (by decide) ?_
          exact ih (i + 1) (by omega) (by omega)
        · refine aw_iconst (v := 1) (pc2 := 21) hk dX2_cellsTaken_20 rfl (by decide) ?_
          refine aw_goto (tgt := 25) hk dX2_cellsTaken_21 (by decide) ?_
          refine aw_iadd (pc2 := 26) hk dX2_cellsTaken_25 rfl ?_
          refine aw_top (sI (fun c => bi (tkn I c)) (i + 1)) (show _ + _ = _ + bi _ by first | rw [bi_t c17] | rw [c17]) ?_
          refine aw_istore_n (pc2 := 27) hk dX2_cellsTaken_26 rfl (by decide) ?_
          refine aw_iinc1 (pc2 := 30) hk dX2_cellsTaken_27 rfl rfl (by decide) ?_
          refine aw_goto (tgt := 4) hk dX2_cellsTaken_30 (by decide) ?_
          exact ih (i + 1) (by omega) (by omega)
  refine aw_iconst (v := 0) (pc2 := 1) hk dX2_cellsTaken_0 rfl (by decide) ?_
  refine aw_istore_n (pc2 := 2) hk dX2_cellsTaken_1 rfl (by decide) ?_
  refine aw_iconst (v := 0) (pc2 := 3) hk dX2_cellsTaken_2 rfl (by decide) ?_
  refine aw_istore_n (pc2 := 4) hk dX2_cellsTaken_3 rfl (by decide) ?_
  exact loop 257 0 (by omega) (by omega)
set_option maxHeartbeats 4000000 in
set_option maxRecDepth 100000 in
theorem t_takeLine {n : Nat} {d : D2} {I : M2} {J : J2} {S : M2} {L : J2} {R : R2} {Q : QT} {f o : Int32} (hq : Q none n (H5 d (rowU I 6 256 (fun c => if inl I c f then o else I 6 c)) J S L R)) : Calls yX2_takeLine cX2_takeLine 4 none rmX2_takeLine [.ref 1, .int f, .int o] n (H5 d I J S L R) Q := by
  refine Calls.of (by decide) (Nat.le_of_ble_eq_true rfl) ?_
  intro K hk
  show AW K Q 0 0 0 [some (.ref 1), some (.int f), some (.int o), none] [] n (H5 d I J S L R)
  have loop : ∀ (k i : Nat), i ≤ 256 → 256 + 1 ≤ i + k → AW K Q 0 0 2 [some (.ref 1), some (.int f), some (.int o), some (.int (nI i))] [] n (H5 d (rowU I 6 i (fun c => if inl I c f then o else I 6 c)) J S L R) := by
    intro k
    induction k with
    | zero => intro i h1 h2; omega
    | succ k ih =>
      intro i hi hn
      refine aw_iload_n (pc2 := 3) hk dX2_takeLine_2 rfl rfl ?_
      refine aw_sipush (v := 256) (pc2 := 6) hk dX2_takeLine_3 rfl (by decide) ?_
      refine aw_icN_ge (y := 256) (tgt := 31) (pc2 := 9) hk dX2_takeLine_6 (by decide) rfl rfl rfl (by omega) (by omega) (fun c6 => ?_) (fun c6 => ?_)
      · obtain rfl : i = 256 := by omega
        refine aw_vret hk dX2_takeLine_31 (Nat.le_of_ble_eq_true rfl) (Nat.le_of_ble_eq_true rfl) hq
      · refine aw_aload_n (pc2 := 10) hk dX2_takeLine_9 rfl rfl ?_
        refine aw_iload_n (pc2 := 11) hk dX2_takeLine_10 rfl rfl ?_
        refine aw_iload_n (pc2 := 12) hk dX2_takeLine_11 rfl rfl ?_
        refine aw_cV (rm2 := rmX2_isInLineOf) (pc2 := 15) hk veX2_isInLineOf dX2_takeLine_12 rfl ml_X2_45 ⟨(Nat.le_of_ble_eq_true rfl), (Nat.le_of_ble_eq_true rfl)⟩ [_, _] rfl rfl (Nat.le_of_ble_eq_true rfl) (Nat.le_of_ble_eq_true rfl) (Nat.le_of_ble_eq_true rfl) (o_X2 rfl) (t_isInLineOf rfl (by omega) ?_)
        have e : inl (rowU I 6 i (fun c => if inl I c f then o else I 6 c)) i f = inl I i f := by simp [inl, rowU]
        rw [e]
        refine aw_if_eq (tgt := 25) (pc2 := 18) hk dX2_takeLine_15 (by decide) rfl (fun c15 => ?_) (fun c15 => ?_)
        · first
            | refine aw_I (rowU I 6 (i + 1) (fun c => if inl I c f then o else I 6 c)) (rowU_st I 6 i _ (by simp [bi_tt c15])) ?_
            | refine aw_I (rowU I 6 (i + 1) (fun c => if inl I c f then o else I 6 c)) (rowU_sk I 6 i _ (by simp [bi_ff c15])) ?_
          refine aw_iinc1 (pc2 := 28) hk dX2_takeLine_25 rfl rfl (by decide) ?_
          refine aw_goto (tgt := 2) hk dX2_takeLine_28 (by decide) ?_
          exact ih (i + 1) (by omega) (by omega)
        · refine aw_aload_n (pc2 := 19) hk dX2_takeLine_18 rfl rfl ?_
          refine aw_get (v := .ref 6) (pc2 := 22) hk ckX2 6 dX2_takeLine_19 rfl fl_X2_25 (by decide) (o_X2 rfl) rfl ?_
          refine aw_iload_n (pc2 := 23) hk dX2_takeLine_22 rfl rfl ?_
          refine aw_iload_n (pc2 := 24) hk dX2_takeLine_23 rfl rfl ?_
          refine h_iast (pc2 := 25) hk dX2_takeLine_24 rfl rfl rfl (by omega) (by decide) ?_
          first
            | refine aw_I (rowU I 6 (i + 1) (fun c => if inl I c f then o else I 6 c)) (rowU_st I 6 i _ (by simp [bi_tt c15])) ?_
            | refine aw_I (rowU I 6 (i + 1) (fun c => if inl I c f then o else I 6 c)) (rowU_sk I 6 i _ (by simp [bi_ff c15])) ?_
          refine aw_iinc1 (pc2 := 28) hk dX2_takeLine_25 rfl rfl (by decide) ?_
          refine aw_goto (tgt := 2) hk dX2_takeLine_28 (by decide) ?_
          exact ih (i + 1) (by omega) (by omega)
  refine aw_iconst (v := 0) (pc2 := 1) hk dX2_takeLine_0 rfl (by decide) ?_
  refine aw_istore_n (pc2 := 2) hk dX2_takeLine_1 rfl (by decide) ?_
  refine aw_I (rowU I 6 0 (fun c => if inl I c f then o else I 6 c)) (rowU_0 _ _ _).symm ?_
  exact loop 257 0 (by omega) (by omega)
set_option maxHeartbeats 4000000 in
set_option maxRecDepth 100000 in
theorem t_giveBack {n : Nat} {d : D2} {I : M2} {J : J2} {S : M2} {L : J2} {R : R2} {Q : QT} {o : Int32} (hq : Q none n (H5 d (rowU I 6 256 (fun c => if I 6 c = o then -1 else I 6 c)) J S L R)) : Calls yX2_giveBack cX2_giveBack 3 none rmX2_giveBack [.ref 1, .int o] n (H5 d I J S L R) Q := by
  refine Calls.of (by decide) (Nat.le_of_ble_eq_true rfl) ?_
  intro K hk
  show AW K Q 0 0 0 [some (.ref 1), some (.int o), none] [] n (H5 d I J S L R)
  have loop : ∀ (k i : Nat), i ≤ 256 → 256 + 1 ≤ i + k → AW K Q 0 0 2 [some (.ref 1), some (.int o), some (.int (nI i))] [] n (H5 d (rowU I 6 i (fun c => if I 6 c = o then -1 else I 6 c)) J S L R) := by
    intro k
    induction k with
    | zero => intro i h1 h2; omega
    | succ k ih =>
      intro i hi hn
      refine aw_iload_n (pc2 := 3) hk dX2_giveBack_2 rfl rfl ?_
      refine aw_sipush (v := 256) (pc2 := 6) hk dX2_giveBack_3 rfl (by decide) ?_
      refine aw_icN_ge (y := 256) (tgt := 32) (pc2 := 9) hk dX2_giveBack_6 (by decide) rfl rfl rfl (by omega) (by omega) (fun c6 => ?_) (fun c6 => ?_)
      · obtain rfl : i = 256 := by omega
        refine aw_vret hk dX2_giveBack_32 (Nat.le_of_ble_eq_true rfl) (Nat.le_of_ble_eq_true rfl) hq
      · refine aw_aload_n (pc2 := 10) hk dX2_giveBack_9 rfl rfl ?_
        refine aw_get (v := .ref 6) (pc2 := 13) hk ckX2 6 dX2_giveBack_10 rfl fl_X2_25 (by decide) (o_X2 rfl) rfl ?_
        refine aw_iload_n (pc2 := 14) hk dX2_giveBack_13 rfl rfl ?_
        refine h_iald (pc2 := 15) hk dX2_giveBack_14 rfl rfl rfl (by omega) (by decide) ?_
        refine aw_iload_n (pc2 := 16) hk dX2_giveBack_15 rfl rfl ?_
        have e : rowU I 6 i (fun c => if I 6 c = o then -1 else I 6 c) 6 i = I 6 i := rowU_out I 6 _ (by omega)
        refine aw_icmp_ne (tgt := 26) (pc2 := 19) hk dX2_giveBack_16 (by decide) rfl (fun c16 => ?_) (fun c16 => ?_)
        · rw [e] at c16
          first
            | refine aw_I (rowU I 6 (i + 1) (fun c => if I 6 c = o then -1 else I 6 c)) (rowU_st I 6 i _ (by simp [c16])) ?_
            | refine aw_I (rowU I 6 (i + 1) (fun c => if I 6 c = o then -1 else I 6 c)) (rowU_sk I 6 i _ (by simp [c16])) ?_
          refine aw_iinc1 (pc2 := 29) hk dX2_giveBack_26 rfl rfl (by decide) ?_
          refine aw_goto (tgt := 2) hk dX2_giveBack_29 (by decide) ?_
          exact ih (i + 1) (by omega) (by omega)
        · refine aw_aload_n (pc2 := 20) hk dX2_giveBack_19 rfl rfl ?_
          refine aw_get (v := .ref 6) (pc2 := 23) hk ckX2 6 dX2_giveBack_20 rfl fl_X2_25 (by decide) (o_X2 rfl) rfl ?_
          refine aw_iload_n (pc2 := 24) hk dX2_giveBack_23 rfl rfl ?_
          refine aw_iconst (v := -1) (pc2 := 25) hk dX2_giveBack_24 rfl (by decide) ?_
          refine h_iast (pc2 := 26) hk dX2_giveBack_25 rfl rfl rfl (by omega) (by decide) ?_
          rw [e] at c16
          first
            | refine aw_I (rowU I 6 (i + 1) (fun c => if I 6 c = o then -1 else I 6 c)) (rowU_st I 6 i _ (by simp [c16])) ?_
            | refine aw_I (rowU I 6 (i + 1) (fun c => if I 6 c = o then -1 else I 6 c)) (rowU_sk I 6 i _ (by simp [c16])) ?_
          refine aw_iinc1 (pc2 := 29) hk dX2_giveBack_26 rfl rfl (by decide) ?_
          refine aw_goto (tgt := 2) hk dX2_giveBack_29 (by decide) ?_
          exact ih (i + 1) (by omega) (by omega)
  refine aw_iconst (v := 0) (pc2 := 1) hk dX2_giveBack_0 rfl (by decide) ?_
  refine aw_istore_n (pc2 := 2) hk dX2_giveBack_1 rfl (by decide) ?_
  refine aw_I (rowU I 6 0 (fun c => if I 6 c = o then -1 else I 6 c)) (rowU_0 _ _ _).symm ?_
  exact loop 257 0 (by omega) (by omega)
set_option maxHeartbeats 4000000 in
set_option maxRecDepth 100000 in
theorem t_emptyLine {n : Nat} {d : D2} {I : M2} {J : J2} {S : M2} {L : J2} {R : R2} {Q : QT} (hq : Q none n (H5 d (rowU I 5 256 (fun _ => 0)) J S L R)) : Calls yX2_emptyLine cX2_emptyLine 2 none rmX2_emptyLine [.ref 1] n (H5 d I J S L R) Q := by
  refine Calls.of (by decide) (Nat.le_of_ble_eq_true rfl) ?_
  intro K hk
  show AW K Q 0 0 0 [some (.ref 1), none] [] n (H5 d I J S L R)
  have loop : ∀ (k i : Nat), i ≤ 256 → 256 + 1 ≤ i + k → AW K Q 0 0 2 [some (.ref 1), some (.int (nI i))] [] n (H5 d (rowU I 5 i (fun _ => 0)) J S L R) := by
    intro k
    induction k with
    | zero => intro i h1 h2; omega
    | succ k ih =>
      intro i hi hn
      refine aw_iload_n (pc2 := 3) hk dX2_emptyLine_2 rfl rfl ?_
      refine aw_sipush (v := 256) (pc2 := 6) hk dX2_emptyLine_3 rfl (by decide) ?_
      refine aw_icN_ge (y := 256) (tgt := 22) (pc2 := 9) hk dX2_emptyLine_6 (by decide) rfl rfl rfl (by omega) (by omega) (fun c6 => ?_) (fun c6 => ?_)
      · obtain rfl : i = 256 := by omega
        refine aw_vret hk dX2_emptyLine_22 (Nat.le_of_ble_eq_true rfl) (Nat.le_of_ble_eq_true rfl) hq
      · refine aw_aload_n (pc2 := 10) hk dX2_emptyLine_9 rfl rfl ?_
        refine aw_get (v := .ref 5) (pc2 := 13) hk ckX2 5 dX2_emptyLine_10 rfl fl_X2_22 (by decide) (o_X2 rfl) rfl ?_
        refine aw_iload_n (pc2 := 14) hk dX2_emptyLine_13 rfl rfl ?_
        refine aw_iconst (v := 0) (pc2 := 15) hk dX2_emptyLine_14 rfl (by decide) ?_
        refine h_zast (pc2 := 16) hk dX2_emptyLine_15 rfl rfl rfl (by omega) (by decide) (by first | exact Or.inl rfl | exact Or.inr rfl) ?_
        refine aw_I (rowU I 5 (i + 1) (fun _ => 0)) (rowU_st I 5 i _ rfl) ?_
        refine aw_iinc1 (pc2 := 19) hk dX2_emptyLine_16 rfl rfl (by decide) ?_
        refine aw_goto (tgt := 2) hk dX2_emptyLine_19 (by decide) ?_
        exact ih (i + 1) (by omega) (by omega)
  refine aw_iconst (v := 0) (pc2 := 1) hk dX2_emptyLine_0 rfl (by decide) ?_
  refine aw_istore_n (pc2 := 2) hk dX2_emptyLine_1 rfl (by decide) ?_
  refine aw_I (rowU I 5 0 (fun _ => 0)) (rowU_0 _ _ _).symm ?_
  exact loop 257 0 (by omega) (by omega)
set_option maxHeartbeats 4000000 in
set_option maxRecDepth 100000 in
theorem t_priceAt {n : Nat} {d : D2} {I : M2} {J : J2} {S : M2} {L : J2} {R : R2} {Q : QT} {p a : Nat} (hp : p < 256) (ha : kd d a = (1, 4)) (hso : ∃ k, k < 4 ∧ I 3 p = nI k) (hq : Q (some (.int (prI I a p))) n (H5 d I J S L R)) : Calls yX2_priceAt cX2_priceAt 4 (some .int) rmX2_priceAt [.ref 1, .int (nI p), .ref a] n (H5 d I J S L R) Q := by
  refine Calls.of (by decide) (Nat.le_of_ble_eq_true rfl) ?_
  intro K hk
  show AW K Q 0 0 0 [some (.ref 1), some (.int (nI p)), some (.ref a), none] [] n (H5 d I J S L R)
  refine aw_aload_n (pc2 := 1) hk dX2_priceAt_0 rfl rfl ?_
  refine aw_get (v := .ref 3) (pc2 := 4) hk ckX2 3 dX2_priceAt_1 rfl fl_X2_15 (by decide) (o_X2 rfl) rfl ?_
  refine aw_iload_n (pc2 := 5) hk dX2_priceAt_4 rfl rfl ?_
  refine h_iald (pc2 := 6) hk dX2_priceAt_5 rfl rfl rfl hp (by decide) ?_
  refine aw_istore_n (pc2 := 7) hk dX2_priceAt_6 rfl (by decide) ?_
  obtain ⟨k, hk4, ek⟩ := hso
  rw [ek]
  refine aw_iload_n (pc2 := 8) hk dX2_priceAt_7 rfl rfl ?_
  refine aw_if_lt (tgt := 23) (pc2 := 11) hk dX2_priceAt_8 (by decide) rfl (fun c8 => absurd c8 (nI_pos (by omega))) (fun c8 => ?_)
  refine aw_iload_n (pc2 := 12) hk dX2_priceAt_11 rfl rfl ?_
  refine aw_aload_n (pc2 := 13) hk dX2_priceAt_12 rfl rfl ?_
  refine h_alen (pc2 := 14) hk dX2_priceAt_13 rfl ha ?_
  refine aw_icmp_ge (tgt := 23) (pc2 := 17) hk dX2_priceAt_14 (by decide) rfl (fun c14 => absurd c14 (nI_ge hk4 (by decide))) (fun c14 => ?_)
  refine aw_aload_n (pc2 := 18) hk dX2_priceAt_17 rfl rfl ?_
  refine aw_iload_n (pc2 := 19) hk dX2_priceAt_18 rfl rfl ?_
  refine h_iald (pc2 := 20) hk dX2_priceAt_19 rfl ha rfl hk4 (by decide) ?_
  refine aw_goto (tgt := 24) hk dX2_priceAt_20 (by decide) ?_
  refine aw_iret hk dX2_priceAt_24 (Nat.le_of_ble_eq_true rfl) (Nat.le_of_ble_eq_true rfl) (by rw [show prI I a p = I a k by unfold prI; rw [ek, nI_clamp (by omega)]] at hq; exact hq)
set_option maxHeartbeats 4000000 in
set_option maxRecDepth 100000 in
theorem t_worthInLine {n : Nat} {d : D2} {I : M2} {J : J2} {S : M2} {L : J2} {R : R2} {Q : QT} {f : Int32} {a : Nat} (ha : kd d a = (1, 4)) (hso : ∀ p, p < 256 → ∃ k, k < 4 ∧ I 3 p = nI k) (hq : Q (some (.long (sL (fun c => if inl I c f then (prI I a c).toInt64 else 0) 256))) n (H5 d I J S L R)) : Calls yX2_worthInLine cX2_worthInLine 6 (some .long) rmX2_worthInLine [.ref 1, .int f, .ref a] n (H5 d I J S L R) Q := by
  refine Calls.of (by decide) (Nat.le_of_ble_eq_true rfl) ?_
  intro K hk
  show AW K Q 0 0 0 [some (.ref 1), some (.int f), some (.ref a), none, none, none] [] n (H5 d I J S L R)
  have loop : ∀ (k i : Nat), i ≤ 256 → 256 + 1 ≤ i + k → AW K Q 0 0 5 [some (.ref 1), some (.int f), some (.ref a), some (.long (sL (fun c => if inl I c f then (prI I a c).toInt64 else 0) i)), none, some (.int (nI i))] [] n (H5 d I J S L R) := by
    intro k
    induction k with
    | zero => intro i h1 h2; omega
    | succ k ih =>
      intro i hi hn
      refine aw_iload (pc2 := 7) hk dX2_worthInLine_5 rfl rfl ?_
      refine aw_sipush (v := 256) (pc2 := 10) hk dX2_worthInLine_7 rfl (by decide) ?_
      refine aw_icN_ge (y := 256) (tgt := 40) (pc2 := 13) hk dX2_worthInLine_10 (by decide) rfl rfl rfl (by omega) (by omega) (fun c10 => ?_) (fun c10 => ?_)
      · obtain rfl : i = 256 := by omega
        refine aw_lload_n (pc2 := 41) hk dX2_worthInLine_40 rfl rfl ?_
        refine aw_lret hk dX2_worthInLine_41 (Nat.le_of_ble_eq_true rfl) (Nat.le_of_ble_eq_true rfl) hq
      · refine aw_aload_n (pc2 := 14) hk dX2_worthInLine_13 rfl rfl ?_
        refine aw_iload (pc2 := 16) hk dX2_worthInLine_14 rfl rfl ?_
        refine aw_iload_n (pc2 := 17) hk dX2_worthInLine_16 rfl rfl ?_
        refine aw_cV (rm2 := rmX2_isInLineOf) (pc2 := 20) hk veX2_isInLineOf dX2_worthInLine_17 rfl ml_X2_45 ⟨(Nat.le_of_ble_eq_true rfl), (Nat.le_of_ble_eq_true rfl)⟩ [_, _] rfl rfl (Nat.le_of_ble_eq_true rfl) (Nat.le_of_ble_eq_true rfl) (Nat.le_of_ble_eq_true rfl) (o_X2 rfl) (t_isInLineOf rfl (by omega) ?_)
        refine aw_if_eq (tgt := 34) (pc2 := 23) hk dX2_worthInLine_20 (by decide) rfl (fun c20 => ?_) (fun c20 => ?_)
        · first
            | (have e9 : sL (fun c => if inl I c f then (prI I a c).toInt64 else 0) i = sL (fun c => if inl I c f then (prI I a c).toInt64 else 0) (i + 1) := by (show _ = _ + (if _ then _ else _)); simp [bi_ff c20]
               rw [e9])
            | skip
          refine aw_iinc1 (pc2 := 37) hk dX2_worthInLine_34 rfl rfl (by decide) ?_
          refine aw_goto (tgt := 5) hk dX2_worthInLine_37 (by decide) ?_
          exact ih (i + 1) (by omega) (by omega)
        · refine aw_lload_n (pc2 := 24) hk dX2_worthInLine_23 rfl rfl ?_
          refine aw_aload_n (pc2 := 25) hk dX2_worthInLine_24 rfl rfl ?_
          refine aw_iload (pc2 := 27) hk dX2_worthInLine_25 rfl rfl ?_
          refine aw_aload_n (pc2 := 28) hk dX2_worthInLine_27 rfl rfl ?_
          refine aw_cV (rm2 := rmX2_priceAt) (pc2 := 31) hk veX2_priceAt dX2_worthInLine_28 rfl ml_X2_53 ⟨(Nat.le_of_ble_eq_true rfl), (Nat.le_of_ble_eq_true rfl)⟩ [_, _] rfl rfl (Nat.le_of_ble_eq_true rfl) (Nat.le_of_ble_eq_true rfl) (Nat.le_of_ble_eq_true rfl) (o_X2 rfl) (t_priceAt (by omega) ha (hso i (by omega)) ?_)
          refine aw_i2l (pc2 := 32) hk dX2_worthInLine_31 rfl ?_
          refine aw_ladd (pc2 := 33) hk dX2_worthInLine_32 rfl ?_
          refine aw_topL (sL (fun c => if inl I c f then (prI I a c).toInt64 else 0) (i + 1)) (show _ + _ = _ + (if _ then _ else _) by simp [bi_tt c20]) ?_
          refine aw_lstore_n (pc2 := 34) hk dX2_worthInLine_33 rfl (by decide) ?_
          first
            | (have e9 : sL (fun c => if inl I c f then (prI I a c).toInt64 else 0) i = sL (fun c => if inl I c f then (prI I a c).toInt64 else 0) (i + 1) := by (show _ = _ + (if _ then _ else _)); simp [bi_ff c20]
               rw [e9])
            | skip
          refine aw_iinc1 (pc2 := 37) hk dX2_worthInLine_34 rfl rfl (by decide) ?_
          refine aw_goto (tgt := 5) hk dX2_worthInLine_37 (by decide) ?_
          exact ih (i + 1) (by omega) (by omega)
  refine aw_lconst (v := 0) (pc2 := 1) hk dX2_worthInLine_0 rfl (by decide) ?_
  refine aw_lstore_n (pc2 := 2) hk dX2_worthInLine_1 rfl (by decide) ?_
  refine aw_iconst (v := 0) (pc2 := 3) hk dX2_worthInLine_2 rfl (by decide) ?_
  refine aw_istore (pc2 := 5) hk dX2_worthInLine_3 rfl (by decide) ?_
  exact loop 257 0 (by omega) (by omega)
set_option maxHeartbeats 4000000 in
set_option maxRecDepth 100000 in
theorem t_keptSides {n : Nat} {d : D2} {I : M2} {J : J2} {S : M2} {L : J2} {R : R2} {Q : QT} {p : Nat} {f : Int32} {w g : Nat} (hw : S 1 0 = nI w) (hg : S 1 1 = nI g) (hw6 : w ≤ 16) (hg6 : g ≤ 16) (hp : p < 256) (hq : Q (some (.int (sI (fun s => bi (ksd I w g p f s)) 4))) n (H5 d I J S L R)) : Calls yX2_keptSides cX2_keptSides 6 (some .int) rmX2_keptSides [.ref 1, .int (nI p), .int f] n (H5 d I J S L R) Q := by
  refine Calls.of (by decide) (Nat.le_of_ble_eq_true rfl) ?_
  intro K hk
  show AW K Q 0 0 0 [some (.ref 1), some (.int (nI p)), some (.int f), none, none, none] [] n (H5 d I J S L R)
  have loop : ∀ (k i : Nat), i ≤ 4 → 4 + 1 ≤ i + k → AW K Q 0 0 5 [some (.ref 1), some (.int (nI p)), some (.int f), some (.int (sI (fun s => bi (ksd I w g p f s)) i)), some (.int (nI i)), none] [] n (H5 d I J S L R) := by
    intro k
    induction k with
    | zero => intro i h1 h2; omega
    | succ k ih =>
      intro i hi hn
      refine aw_iload (pc2 := 7) hk dX2_keptSides_5 rfl rfl ?_
      refine aw_iconst (v := 4) (pc2 := 8) hk dX2_keptSides_7 rfl (by decide) ?_
      refine aw_icN_ge (y := 4) (tgt := 45) (pc2 := 11) hk dX2_keptSides_8 (by decide) rfl rfl rfl (by omega) (by omega) (fun c8 => ?_) (fun c8 => ?_)
      · obtain rfl : i = 4 := by omega
        refine aw_iload_n (pc2 := 46) hk dX2_keptSides_45 rfl rfl ?_
        refine aw_iret hk dX2_keptSides_46 (Nat.le_of_ble_eq_true rfl) (Nat.le_of_ble_eq_true rfl) hq
      · refine aw_aload_n (pc2 := 12) hk dX2_keptSides_11 rfl rfl ?_
        refine aw_iload_n (pc2 := 13) hk dX2_keptSides_12 rfl rfl ?_
        refine aw_iload (pc2 := 15) hk dX2_keptSides_13 rfl rfl ?_
        refine aw_cV (rm2 := rmX2_beside) (pc2 := 18) hk veX2_beside dX2_keptSides_15 rfl ml_X2_60 ⟨(Nat.le_of_ble_eq_true rfl), (Nat.le_of_ble_eq_true rfl)⟩ [_, _] rfl rfl (Nat.le_of_ble_eq_true rfl) (Nat.le_of_ble_eq_true rfl) (Nat.le_of_ble_eq_true rfl) (o_X2 rfl) (t_beside hw hg hw6 hg6 hp (by omega) ?_)
        refine aw_istore (pc2 := 20) hk dX2_keptSides_18 rfl (by decide) ?_
        refine aw_iload (pc2 := 22) hk dX2_keptSides_20 rfl rfl ?_
        refine aw_iconst (v := -1) (pc2 := 23) hk dX2_keptSides_22 rfl (by decide) ?_
        refine aw_icmp_eq (tgt := 39) (pc2 := 26) hk dX2_keptSides_23 (by decide) rfl (fun c23 => ?_) (fun c23 => ?_)
        · first
            | (have e9 : sI (fun s => bi (ksd I w g p f s)) i = sI (fun s => bi (ksd I w g p f s)) (i + 1) := by (show _ = _ + bi _); rw [show ksd I w g p f i = false by unfold ksd; rw [opI_none c23 (fun q h => plc_lt hw6 hg6 h)]]; exact (Int32.add_zero _).symm
               rw [e9])
            | (have e9 : sI (fun s => bi (ksd I w g p f s)) i = sI (fun s => bi (ksd I w g p f s)) (i + 1) := by (show _ = _ + bi _); rw [show ksd I w g p f i = false by unfold ksd; rw [hq1]; exact bi_ff c33]; exact (Int32.add_zero _).symm
               rw [e9])
            | (have e9 : sI (fun s => bi (ksd I w g p f s)) i + 1 = sI (fun s => bi (ksd I w g p f s)) (i + 1) := by (show _ = _ + bi _); rw [show ksd I w g p f i = true by unfold ksd; rw [hq1]; exact bi_tt c33]; rfl
               rw [show (Int32.ofInt 1) = 1 from rfl, e9])
          refine aw_iinc1 (pc2 := 42) hk dX2_keptSides_39 rfl rfl (by decide) ?_
          refine aw_goto (tgt := 5) hk dX2_keptSides_42 (by decide) ?_
          refine aw_fg 5 ?_
          exact ih (i + 1) (by omega) (by omega)
        · obtain ⟨q, hq1, hq2⟩ := opI_some c23
          have hq3 : q < 256 := plc_lt hw6 hg6 hq1
          refine aw_aload_n (pc2 := 27) hk dX2_keptSides_26 rfl rfl ?_
          refine aw_iload (pc2 := 29) hk dX2_keptSides_27 rfl rfl ?_
          refine aw_iload_n (pc2 := 30) hk dX2_keptSides_29 rfl rfl ?_
          refine aw_cV (rm2 := rmX2_isKept) (pc2 := 33) hk veX2_isKept dX2_keptSides_30 rfl ml_X2_63 ⟨(Nat.le_of_ble_eq_true rfl), (Nat.le_of_ble_eq_true rfl)⟩ [_, _] rfl rfl (Nat.le_of_ble_eq_true rfl) (Nat.le_of_ble_eq_true rfl) (Nat.le_of_ble_eq_true rfl) (o_X2 rfl) (t_isKept hq2 hq3 ?_)
          refine aw_if_eq (tgt := 39) (pc2 := 36) hk dX2_keptSides_33 (by decide) rfl (fun c33 => ?_) (fun c33 => ?_)
          · first
              | (have e9 : sI (fun s => bi (ksd I w g p f s)) i = sI (fun s => bi (ksd I w g p f s)) (i + 1) := by (show _ = _ + bi _); rw [show ksd I w g p f i = false by unfold ksd; rw [opI_none c23 (fun q h => plc_lt hw6 hg6 h)]]; exact (Int32.add_zero _).symm
                 rw [e9])
              | (have e9 : sI (fun s => bi (ksd I w g p f s)) i = sI (fun s => bi (ksd I w g p f s)) (i + 1) := by (show _ = _ + bi _); rw [show ksd I w g p f i = false by unfold ksd; rw [hq1]; exact bi_ff c33]; exact (Int32.add_zero _).symm
                 rw [e9])
              | (have e9 : sI (fun s => bi (ksd I w g p f s)) i + 1 = sI (fun s => bi (ksd I w g p f s)) (i + 1) := by (show _ = _ + bi _); rw [show ksd I w g p f i = true by unfold ksd; rw [hq1]; exact bi_tt c33]; rfl
                 rw [show (Int32.ofInt 1) = 1 from rfl, e9])
            refine aw_iinc1 (pc2 := 42) hk dX2_keptSides_39 rfl rfl (by decide) ?_
            refine aw_goto (tgt := 5) hk dX2_keptSides_42 (by decide) ?_
            refine aw_fg 5 ?_
            exact ih (i + 1) (by omega) (by omega)
          · refine aw_iinc (pc2 := 39) hk dX2_keptSides_36 rfl rfl rfl (by decide) ?_
            first
              | (have e9 : sI (fun s => bi (ksd I w g p f s)) i = sI (fun s => bi (ksd I w g p f s)) (i + 1) := by (show _ = _ + bi _); rw [show ksd I w g p f i = false by unfold ksd; rw [opI_none c23 (fun q h => plc_lt hw6 hg6 h)]]; exact (Int32.add_zero _).symm
                 rw [e9])
              | (have e9 : sI (fun s => bi (ksd I w g p f s)) i = sI (fun s => bi (ksd I w g p f s)) (i + 1) := by (show _ = _ + bi _); rw [show ksd I w g p f i = false by unfold ksd; rw [hq1]; exact bi_ff c33]; exact (Int32.add_zero _).symm
                 rw [e9])
              | (have e9 : sI (fun s => bi (ksd I w g p f s)) i + 1 = sI (fun s => bi (ksd I w g p f s)) (i + 1) := by (show _ = _ + bi _); rw [show ksd I w g p f i = true by unfold ksd; rw [hq1]; exact bi_tt c33]; rfl
                 rw [show (Int32.ofInt 1) = 1 from rfl, e9])
            refine aw_iinc1 (pc2 := 42) hk dX2_keptSides_39 rfl rfl (by decide) ?_
            refine aw_goto (tgt := 5) hk dX2_keptSides_42 (by decide) ?_
            refine aw_fg 5 ?_
            exact ih (i + 1) (by omega) (by omega)
  refine aw_iconst (v := 0) (pc2 := 1) hk dX2_keptSides_0 rfl (by decide) ?_
  refine aw_istore_n (pc2 := 2) hk dX2_keptSides_1 rfl (by decide) ?_
  refine aw_iconst (v := 0) (pc2 := 3) hk dX2_keptSides_2 rfl (by decide) ?_
  refine aw_istore (pc2 := 5) hk dX2_keptSides_3 rfl (by decide) ?_
  exact loop 5 0 (by omega) (by omega)
set_option maxHeartbeats 4000000 in
set_option maxRecDepth 100000 in
theorem t_fenceSides {n : Nat} {d : D2} {I : M2} {J : J2} {S : M2} {L : J2} {R : R2} {Q : QT} {f : Int32} {w g : Nat} (hw : S 1 0 = nI w) (hg : S 1 1 = nI g) (hw6 : w ≤ 16) (hg6 : g ≤ 16) (hq : Q (some (.int (sI (fun c => if inl I c f then sI (fun s => bi (ksd I w g c f s)) 4 else 0) 256))) n (H5 d I J S L R)) : Calls yX2_fenceSides cX2_fenceSides 4 (some .int) rmX2_fenceSides [.ref 1, .int f] n (H5 d I J S L R) Q := by
  refine Calls.of (by decide) (Nat.le_of_ble_eq_true rfl) ?_
  intro K hk
  show AW K Q 0 0 0 [some (.ref 1), some (.int f), none, none] [] n (H5 d I J S L R)
  have loop : ∀ (k i : Nat), i ≤ 256 → 256 + 1 ≤ i + k → AW K Q 0 0 4 [some (.ref 1), some (.int f), some (.int (sI (fun c => if inl I c f then sI (fun s => bi (ksd I w g c f s)) 4 else 0) i)), some (.int (nI i))] [] n (H5 d I J S L R) := by
    intro k
    induction k with
    | zero => intro i h1 h2; omega
    | succ k ih =>
      intro i hi hn
      refine aw_iload_n (pc2 := 5) hk dX2_fenceSides_4 rfl rfl ?_
      refine aw_sipush (v := 256) (pc2 := 8) hk dX2_fenceSides_5 rfl (by decide) ?_
      refine aw_icN_ge (y := 256) (tgt := 35) (pc2 := 11) hk dX2_fenceSides_8 (by decide) rfl rfl rfl (by omega) (by omega) (fun c8 => ?_) (fun c8 => ?_)
      · obtain rfl : i = 256 := by omega
        refine aw_iload_n (pc2 := 36) hk dX2_fenceSides_35 rfl rfl ?_
        refine aw_iret hk dX2_fenceSides_36 (Nat.le_of_ble_eq_true rfl) (Nat.le_of_ble_eq_true rfl) hq
      · refine aw_aload_n (pc2 := 12) hk dX2_fenceSides_11 rfl rfl ?_
        refine aw_iload_n (pc2 := 13) hk dX2_fenceSides_12 rfl rfl ?_
        refine aw_iload_n (pc2 := 14) hk dX2_fenceSides_13 rfl rfl ?_
        refine aw_cV (rm2 := rmX2_isInLineOf) (pc2 := 17) hk veX2_isInLineOf dX2_fenceSides_14 rfl ml_X2_45 ⟨(Nat.le_of_ble_eq_true rfl), (Nat.le_of_ble_eq_true rfl)⟩ [_, _] rfl rfl (Nat.le_of_ble_eq_true rfl) (Nat.le_of_ble_eq_true rfl) (Nat.le_of_ble_eq_true rfl) (o_X2 rfl) (t_isInLineOf rfl (by omega) ?_)
        refine aw_if_eq (tgt := 29) (pc2 := 20) hk dX2_fenceSides_17 (by decide) rfl (fun c17 => ?_) (fun c17 => ?_)
        · first
            | (have e9 : sI (fun c => if inl I c f then sI (fun s => bi (ksd I w g c f s)) 4 else 0) i = sI (fun c => if inl I c f then sI (fun s => bi (ksd I w g c f s)) 4 else 0) (i + 1) := by (show _ = _ + (if _ then _ else _)); simp [bi_ff c17]
               rw [e9])
            | (have e9 : sI (fun c => if inl I c f then sI (fun s => bi (ksd I w g c f s)) 4 else 0) i + sI (fun s => bi (ksd I w g i f s)) 4 = sI (fun c => if inl I c f then sI (fun s => bi (ksd I w g c f s)) 4 else 0) (i + 1) := by (show _ = _ + (if _ then _ else _)); simp [bi_tt c17]
               rw [e9])
          refine aw_iinc1 (pc2 := 32) hk dX2_fenceSides_29 rfl rfl (by decide) ?_
          refine aw_goto (tgt := 4) hk dX2_fenceSides_32 (by decide) ?_
          exact ih (i + 1) (by omega) (by omega)
        · refine aw_iload_n (pc2 := 21) hk dX2_fenceSides_20 rfl rfl ?_
          refine aw_aload_n (pc2 := 22) hk dX2_fenceSides_21 rfl rfl ?_
          refine aw_iload_n (pc2 := 23) hk dX2_fenceSides_22 rfl rfl ?_
          refine aw_iload_n (pc2 := 24) hk dX2_fenceSides_23 rfl rfl ?_
          refine aw_cV (rm2 := rmX2_keptSides) (pc2 := 27) hk veX2_keptSides dX2_fenceSides_24 rfl ml_X2_57 ⟨(Nat.le_of_ble_eq_true rfl), (Nat.le_of_ble_eq_true rfl)⟩ [_, _] rfl rfl (Nat.le_of_ble_eq_true rfl) (Nat.le_of_ble_eq_true rfl) (Nat.le_of_ble_eq_true rfl) (o_X2 rfl) (t_keptSides hw hg hw6 hg6 (by omega) ?_)
          refine aw_iadd (pc2 := 28) hk dX2_fenceSides_27 rfl ?_
          refine aw_istore_n (pc2 := 29) hk dX2_fenceSides_28 rfl (by decide) ?_
          first
            | (have e9 : sI (fun c => if inl I c f then sI (fun s => bi (ksd I w g c f s)) 4 else 0) i = sI (fun c => if inl I c f then sI (fun s => bi (ksd I w g c f s)) 4 else 0) (i + 1) := by (show _ = _ + (if _ then _ else _)); simp [bi_ff c17]
               rw [e9])
            | (have e9 : sI (fun c => if inl I c f then sI (fun s => bi (ksd I w g c f s)) 4 else 0) i + sI (fun s => bi (ksd I w g i f s)) 4 = sI (fun c => if inl I c f then sI (fun s => bi (ksd I w g c f s)) 4 else 0) (i + 1) := by (show _ = _ + (if _ then _ else _)); simp [bi_tt c17]
               rw [e9])
          refine aw_iinc1 (pc2 := 32) hk dX2_fenceSides_29 rfl rfl (by decide) ?_
          refine aw_goto (tgt := 4) hk dX2_fenceSides_32 (by decide) ?_
          exact ih (i + 1) (by omega) (by omega)
  refine aw_iconst (v := 0) (pc2 := 1) hk dX2_fenceSides_0 rfl (by decide) ?_
  refine aw_istore_n (pc2 := 2) hk dX2_fenceSides_1 rfl (by decide) ?_
  refine aw_iconst (v := 0) (pc2 := 3) hk dX2_fenceSides_2 rfl (by decide) ?_
  refine aw_istore_n (pc2 := 4) hk dX2_fenceSides_3 rfl (by decide) ?_
  exact loop 257 0 (by omega) (by omega)
set_option maxHeartbeats 4000000 in
set_option maxRecDepth 100000 in
theorem t_renew {n : Nat} {d : D2} {I : M2} {J : J2} {S : M2} {L : J2} {R : R2} {Q : QT} {x y : Int32} (hq : Q none n (H5 d (rw5 I 2 256 (fun b => if b = 2 ∨ b = 6 then -1 else 0)) J (u2 (u2 S 1 0 x) 1 1 y) L R)) : Calls yX2_renew cX2_renew 4 none rmX2_renew [.ref 1, .int x, .int y] n (H5 d I J S L R) Q := by
  refine Calls.of (by decide) (Nat.le_of_ble_eq_true rfl) ?_
  intro K hk
  show AW K Q 0 0 0 [some (.ref 1), some (.int x), some (.int y), none] [] n (H5 d I J S L R)
  have loop : ∀ (k i : Nat), i ≤ 256 → 256 + 1 ≤ i + k → AW K Q 0 0 12 [some (.ref 1), some (.int x), some (.int y), some (.int (nI i))] [] n (H5 d (rw5 I 2 i (fun b => if b = 2 ∨ b = 6 then -1 else 0)) J (u2 (u2 S 1 0 x) 1 1 y) L R) := by
    intro k
    induction k with
    | zero => intro i h1 h2; omega
    | succ k ih =>
      intro i hi hn
      refine aw_iload_n (pc2 := 13) hk dX2_renew_12 rfl rfl ?_
      refine aw_sipush (v := 256) (pc2 := 16) hk dX2_renew_13 rfl (by decide) ?_
      refine aw_icN_ge (y := 256) (tgt := 60) (pc2 := 19) hk dX2_renew_16 (by decide) rfl rfl rfl (by omega) (by omega) (fun c16 => ?_) (fun c16 => ?_)
      · obtain rfl : i = 256 := by omega
        refine aw_vret hk dX2_renew_60 (Nat.le_of_ble_eq_true rfl) (Nat.le_of_ble_eq_true rfl) hq
      · refine aw_aload_n (pc2 := 20) hk dX2_renew_19 rfl rfl ?_
        refine aw_get (v := .ref 2) (pc2 := 23) hk ckX2 2 dX2_renew_20 rfl fl_X2_9 (by decide) (o_X2 rfl) rfl ?_
        refine aw_iload_n (pc2 := 24) hk dX2_renew_23 rfl rfl ?_
        refine aw_iconst (v := -1) (pc2 := 25) hk dX2_renew_24 rfl (by decide) ?_
        refine h_iast (pc2 := 26) hk dX2_renew_25 rfl rfl rfl (by omega) (by decide) ?_
        refine aw_aload_n (pc2 := 27) hk dX2_renew_26 rfl rfl ?_
        refine aw_get (v := .ref 3) (pc2 := 30) hk ckX2 3 dX2_renew_27 rfl fl_X2_15 (by decide) (o_X2 rfl) rfl ?_
        refine aw_iload_n (pc2 := 31) hk dX2_renew_30 rfl rfl ?_
        refine aw_iconst (v := 0) (pc2 := 32) hk dX2_renew_31 rfl (by decide) ?_
        refine h_iast (pc2 := 33) hk dX2_renew_32 rfl rfl rfl (by omega) (by decide) ?_
        refine aw_aload_n (pc2 := 34) hk dX2_renew_33 rfl rfl ?_
        refine aw_get (v := .ref 4) (pc2 := 37) hk ckX2 4 dX2_renew_34 rfl fl_X2_18 (by decide) (o_X2 rfl) rfl ?_
        refine aw_iload_n (pc2 := 38) hk dX2_renew_37 rfl rfl ?_
        refine aw_iconst (v := 0) (pc2 := 39) hk dX2_renew_38 rfl (by decide) ?_
        refine h_zast (pc2 := 40) hk dX2_renew_39 rfl rfl rfl (by omega) (by decide) (by first | exact Or.inl rfl | exact Or.inr rfl) ?_
        refine aw_aload_n (pc2 := 41) hk dX2_renew_40 rfl rfl ?_
        refine aw_get (v := .ref 5) (pc2 := 44) hk ckX2 5 dX2_renew_41 rfl fl_X2_22 (by decide) (o_X2 rfl) rfl ?_
        refine aw_iload_n (pc2 := 45) hk dX2_renew_44 rfl rfl ?_
        refine aw_iconst (v := 0) (pc2 := 46) hk dX2_renew_45 rfl (by decide) ?_
        refine h_zast (pc2 := 47) hk dX2_renew_46 rfl rfl rfl (by omega) (by decide) (by first | exact Or.inl rfl | exact Or.inr rfl) ?_
        refine aw_aload_n (pc2 := 48) hk dX2_renew_47 rfl rfl ?_
        refine aw_get (v := .ref 6) (pc2 := 51) hk ckX2 6 dX2_renew_48 rfl fl_X2_25 (by decide) (o_X2 rfl) rfl ?_
        refine aw_iload_n (pc2 := 52) hk dX2_renew_51 rfl rfl ?_
        refine aw_iconst (v := -1) (pc2 := 53) hk dX2_renew_52 rfl (by decide) ?_
        refine h_iast (pc2 := 54) hk dX2_renew_53 rfl rfl rfl (by omega) (by decide) ?_
        refine aw_I (rw5 I 2 (i + 1) (fun b => if b = 2 ∨ b = 6 then -1 else 0)) (rw5_st I 2 i _ rfl rfl rfl rfl rfl rfl rfl rfl rfl) ?_
        refine aw_iinc1 (pc2 := 57) hk dX2_renew_54 rfl rfl (by decide) ?_
        refine aw_goto (tgt := 12) hk dX2_renew_57 (by decide) ?_
        exact ih (i + 1) (by omega) (by omega)
  refine aw_aload_n (pc2 := 1) hk dX2_renew_0 rfl rfl ?_
  refine aw_iload_n (pc2 := 2) hk dX2_renew_1 rfl rfl ?_
  refine aw_put (pc2 := 5) hk ckX2 0 dX2_renew_2 rfl fl_X2_28 (by decide) rfl (o_X2 rfl) (fun _ => rfl) (fun _ => rfl) (Nat.le_of_ble_eq_true rfl) ?_
  rw [p_X2_0 rfl]
  refine aw_aload_n (pc2 := 6) hk dX2_renew_5 rfl rfl ?_
  refine aw_iload_n (pc2 := 7) hk dX2_renew_6 rfl rfl ?_
  refine aw_put (pc2 := 10) hk ckX2 1 dX2_renew_7 rfl fl_X2_32 (by decide) rfl (o_X2 rfl) (fun _ => rfl) (fun _ => rfl) (Nat.le_of_ble_eq_true rfl) ?_
  rw [p_X2_1 rfl]
  refine aw_iconst (v := 0) (pc2 := 11) hk dX2_renew_10 rfl (by decide) ?_
  refine aw_istore_n (pc2 := 12) hk dX2_renew_11 rfl (by decide) ?_
  refine aw_I (rw5 I 2 0 (fun b => if b = 2 ∨ b = 6 then -1 else 0)) (rw5_0 _ _ _).symm ?_
  exact loop 257 0 (by omega) (by omega)
end
section
set_option maxHeartbeats 4000000 in
set_option maxRecDepth 100000 in
theorem t_caseBegin {n : Nat} {d : D2} {I : M2} {J : J2} {S : M2} {L : J2} {R : R2} {Q : QT} {a z : Nat} (ha : kd d a = (10, z)) (ha1 : kd d (a + 1) = (3, 4)) {f c : Int32} (hq : Q none n (H5 d I (rowU J (a + 1) 4 (fun _ => 0)) (u2 (u2 (u2 (u2 (u2 (u2 S a 0 f) a 1 c) a 2 0) a 3 0) a 4 0) a 5 0) (u2 (u2 (u2 (u2 (u2 (u2 (u2 (u2 (u2 L a 6 0) a 7 0) a 8 0) a 9 0) a 10 0) a 11 0) a 12 0) a 13 0) a 14 0) R)) : Calls yX0_begin cX0_begin 4 none rmX0_begin [.ref a, .int f, .int c] n (H5 d I J S L R) Q := by
  refine Calls.of (by decide) (Nat.le_of_ble_eq_true rfl) ?_
  intro K hk
  show AW K Q 0 0 0 [some (.ref a), some (.int f), some (.int c), none] [] n (H5 d I J S L R)
  have loop : ∀ (k i : Nat), i ≤ 4 → 4 + 1 ≤ i + k → AW K Q 0 0 77 [some (.ref a), some (.int f), some (.int c), some (.int (nI i))] [] n (H5 d I (rowU J (a + 1) i (fun _ => 0)) (u2 (u2 (u2 (u2 (u2 (u2 S a 0 f) a 1 c) a 2 0) a 3 0) a 4 0) a 5 0) (u2 (u2 (u2 (u2 (u2 (u2 (u2 (u2 (u2 L a 6 0) a 7 0) a 8 0) a 9 0) a 10 0) a 11 0) a 12 0) a 13 0) a 14 0) R) := by
    intro k
    induction k with
    | zero => intro i h1 h2; omega
    | succ k ih =>
      intro i hi hn
      refine aw_iload_n (pc2 := 78) hk dX0_begin_77 rfl rfl ?_
      refine aw_iconst (v := 4) (pc2 := 79) hk dX0_begin_78 rfl (by decide) ?_
      refine aw_icN_ge (y := 4) (tgt := 95) (pc2 := 82) hk dX0_begin_79 (by decide) rfl rfl rfl (by omega) (by omega) (fun c79 => ?_) (fun c79 => ?_)
      · obtain rfl : i = 4 := by omega
        refine aw_vret hk dX0_begin_95 (Nat.le_of_ble_eq_true rfl) (Nat.le_of_ble_eq_true rfl) hq
      · refine aw_aload_n (pc2 := 83) hk dX0_begin_82 rfl rfl ?_
        refine aw_get (pc2 := 86) hk ckX0 15 dX0_begin_83 rfl fl_X0_9 (by decide) (o_X0 ha) rfl ?_
        refine aw_iload_n (pc2 := 87) hk dX0_begin_86 rfl rfl ?_
        refine aw_lconst (v := 0) (pc2 := 88) hk dX0_begin_87 rfl (by decide) ?_
        refine h_last (pc2 := 89) hk dX0_begin_88 rfl ha1 rfl (by omega) (by decide) ?_
        refine aw_Jm (rowU J (a + 1) (i + 1) (fun _ => 0)) (rowU_st J (a + 1) i _ rfl) ?_
        refine aw_iinc1 (pc2 := 92) hk dX0_begin_89 rfl rfl (by decide) ?_
        refine aw_goto (tgt := 77) hk dX0_begin_92 (by decide) ?_
        exact ih (i + 1) (by omega) (by omega)
  refine aw_aload_n (pc2 := 1) hk dX0_begin_0 rfl rfl ?_
  refine aw_iload_n (pc2 := 2) hk dX0_begin_1 rfl rfl ?_
  refine aw_put (pc2 := 5) hk ckX0 0 dX0_begin_2 rfl fl_X0_15 (by decide) rfl (o_X0 ha) (fun _ => rfl) (fun _ => rfl) (Nat.le_of_ble_eq_true rfl) ?_
  rw [p_X0_0 ha]
  refine aw_aload_n (pc2 := 6) hk dX0_begin_5 rfl rfl ?_
  refine aw_iload_n (pc2 := 7) hk dX0_begin_6 rfl rfl ?_
  refine aw_put (pc2 := 10) hk ckX0 1 dX0_begin_7 rfl fl_X0_19 (by decide) rfl (o_X0 ha) (fun _ => rfl) (fun _ => rfl) (Nat.le_of_ble_eq_true rfl) ?_
  rw [p_X0_1 ha]
  refine aw_aload_n (pc2 := 11) hk dX0_begin_10 rfl rfl ?_
  refine aw_iconst (v := 0) (pc2 := 12) hk dX0_begin_11 rfl (by decide) ?_
  refine aw_put (pc2 := 15) hk ckX0 2 dX0_begin_12 rfl fl_X0_22 (by decide) rfl (o_X0 ha) (fun _ => rfl) (fun _ => rfl) (Nat.le_of_ble_eq_true rfl) ?_
  rw [p_X0_2 ha]
  refine aw_aload_n (pc2 := 16) hk dX0_begin_15 rfl rfl ?_
  refine aw_iconst (v := 0) (pc2 := 17) hk dX0_begin_16 rfl (by decide) ?_
  refine aw_put (pc2 := 20) hk ckX0 3 dX0_begin_17 rfl fl_X0_25 (by decide) rfl (o_X0 ha) (fun _ => rfl) (fun _ => rfl) (Nat.le_of_ble_eq_true rfl) ?_
  rw [p_X0_3 ha]
  refine aw_aload_n (pc2 := 21) hk dX0_begin_20 rfl rfl ?_
  refine aw_iconst (v := 0) (pc2 := 22) hk dX0_begin_21 rfl (by decide) ?_
  refine aw_put (pc2 := 25) hk ckX0 4 dX0_begin_22 rfl fl_X0_28 (by decide) rfl (o_X0 ha) (fun _ => rfl) (fun _ => rfl) (Nat.le_of_ble_eq_true rfl) ?_
  rw [p_X0_4 ha]
  refine aw_aload_n (pc2 := 26) hk dX0_begin_25 rfl rfl ?_
  refine aw_iconst (v := 0) (pc2 := 27) hk dX0_begin_26 rfl (by decide) ?_
  refine aw_put (pc2 := 30) hk ckX0 5 dX0_begin_27 rfl fl_X0_31 (by decide) rfl (o_X0 ha) (fun _ => rfl) (fun _ => rfl) (Nat.le_of_ble_eq_true rfl) ?_
  rw [p_X0_5 ha]
  refine aw_aload_n (pc2 := 31) hk dX0_begin_30 rfl rfl ?_
  refine aw_lconst (v := 0) (pc2 := 32) hk dX0_begin_31 rfl (by decide) ?_
  refine aw_put (pc2 := 35) hk ckX0 6 dX0_begin_32 rfl fl_X0_34 (by decide) rfl (o_X0 ha) (fun _ => rfl) (fun _ => rfl) (Nat.le_of_ble_eq_true rfl) ?_
  rw [p_X0_6 ha]
  refine aw_aload_n (pc2 := 36) hk dX0_begin_35 rfl rfl ?_
  refine aw_lconst (v := 0) (pc2 := 37) hk dX0_begin_36 rfl (by decide) ?_
  refine aw_put (pc2 := 40) hk ckX0 7 dX0_begin_37 rfl fl_X0_38 (by decide) rfl (o_X0 ha) (fun _ => rfl) (fun _ => rfl) (Nat.le_of_ble_eq_true rfl) ?_
  rw [p_X0_7 ha]
  refine aw_aload_n (pc2 := 41) hk dX0_begin_40 rfl rfl ?_
  refine aw_lconst (v := 0) (pc2 := 42) hk dX0_begin_41 rfl (by decide) ?_
  refine aw_put (pc2 := 45) hk ckX0 8 dX0_begin_42 rfl fl_X0_41 (by decide) rfl (o_X0 ha) (fun _ => rfl) (fun _ => rfl) (Nat.le_of_ble_eq_true rfl) ?_
  rw [p_X0_8 ha]
  refine aw_aload_n (pc2 := 46) hk dX0_begin_45 rfl rfl ?_
  refine aw_lconst (v := 0) (pc2 := 47) hk dX0_begin_46 rfl (by decide) ?_
  refine aw_put (pc2 := 50) hk ckX0 9 dX0_begin_47 rfl fl_X0_44 (by decide) rfl (o_X0 ha) (fun _ => rfl) (fun _ => rfl) (Nat.le_of_ble_eq_true rfl) ?_
  rw [p_X0_9 ha]
  refine aw_aload_n (pc2 := 51) hk dX0_begin_50 rfl rfl ?_
  refine aw_lconst (v := 0) (pc2 := 52) hk dX0_begin_51 rfl (by decide) ?_
  refine aw_put (pc2 := 55) hk ckX0 10 dX0_begin_52 rfl fl_X0_47 (by decide) rfl (o_X0 ha) (fun _ => rfl) (fun _ => rfl) (Nat.le_of_ble_eq_true rfl) ?_
  rw [p_X0_10 ha]
  refine aw_aload_n (pc2 := 56) hk dX0_begin_55 rfl rfl ?_
  refine aw_lconst (v := 0) (pc2 := 57) hk dX0_begin_56 rfl (by decide) ?_
  refine aw_put (pc2 := 60) hk ckX0 11 dX0_begin_57 rfl fl_X0_50 (by decide) rfl (o_X0 ha) (fun _ => rfl) (fun _ => rfl) (Nat.le_of_ble_eq_true rfl) ?_
  rw [p_X0_11 ha]
  refine aw_aload_n (pc2 := 61) hk dX0_begin_60 rfl rfl ?_
  refine aw_lconst (v := 0) (pc2 := 62) hk dX0_begin_61 rfl (by decide) ?_
  refine aw_put (pc2 := 65) hk ckX0 12 dX0_begin_62 rfl fl_X0_53 (by decide) rfl (o_X0 ha) (fun _ => rfl) (fun _ => rfl) (Nat.le_of_ble_eq_true rfl) ?_
  rw [p_X0_12 ha]
  refine aw_aload_n (pc2 := 66) hk dX0_begin_65 rfl rfl ?_
  refine aw_lconst (v := 0) (pc2 := 67) hk dX0_begin_66 rfl (by decide) ?_
  refine aw_put (pc2 := 70) hk ckX0 13 dX0_begin_67 rfl fl_X0_56 (by decide) rfl (o_X0 ha) (fun _ => rfl) (fun _ => rfl) (Nat.le_of_ble_eq_true rfl) ?_
  rw [p_X0_13 ha]
  refine aw_aload_n (pc2 := 71) hk dX0_begin_70 rfl rfl ?_
  refine aw_lconst (v := 0) (pc2 := 72) hk dX0_begin_71 rfl (by decide) ?_
  refine aw_put (pc2 := 75) hk ckX0 14 dX0_begin_72 rfl fl_X0_59 (by decide) rfl (o_X0 ha) (fun _ => rfl) (fun _ => rfl) (Nat.le_of_ble_eq_true rfl) ?_
  rw [p_X0_14 ha]
  refine aw_iconst (v := 0) (pc2 := 76) hk dX0_begin_75 rfl (by decide) ?_
  refine aw_istore_n (pc2 := 77) hk dX0_begin_76 rfl (by decide) ?_
  refine aw_Jm (rowU J (a + 1) 0 (fun _ => 0)) (rowU_0 _ _ _).symm ?_
  exact loop 5 0 (by omega) (by omega)
def rdy (x : Int32) : Bool := x == 0 || x == 2
set_option maxHeartbeats 4000000 in
set_option maxRecDepth 100000 in
theorem t_isReady {n : Nat} {d : D2} {I : M2} {J : J2} {S : M2} {L : J2} {R : R2} {Q : QT} {a z : Nat} (ha : kd d a = (10, z)) (hq : Q (some (.int (bi (rdy (S a 2))))) n (H5 d I J S L R)) : Calls yX0_isReady cX0_isReady 1 (some .boolean) rmX0_isReady [.ref a] n (H5 d I J S L R) Q := by
  refine Calls.of (by decide) (Nat.le_of_ble_eq_true rfl) ?_
  intro K hk
  show AW K Q 0 0 0 [some (.ref a)] [] n (H5 d I J S L R)
  refine aw_aload_n (pc2 := 1) hk dX0_isReady_0 rfl rfl ?_
  refine aw_get (pc2 := 4) hk ckX0 2 dX0_isReady_1 rfl fl_X0_22 (by decide) (o_X0 ha) rfl ?_
  refine aw_if_eq (tgt := 15) (pc2 := 7) hk dX0_isReady_4 (by decide) rfl (fun c4 => ?_) (fun c4 => ?_)
  · refine aw_iconst (v := 1) (pc2 := 16) hk dX0_isReady_15 rfl (by decide) ?_
    refine aw_goto (tgt := 20) hk dX0_isReady_16 (by decide) ?_
    refine aw_zret (by first | exact Or.inl rfl | exact Or.inr rfl) hk dX0_isReady_20 (Nat.le_of_ble_eq_true rfl) (Nat.le_of_ble_eq_true rfl) (by first | (simpa [rdy, bi, *] using hq))
  · refine aw_aload_n (pc2 := 8) hk dX0_isReady_7 rfl rfl ?_
    refine aw_get (pc2 := 11) hk ckX0 2 dX0_isReady_8 rfl fl_X0_22 (by decide) (o_X0 ha) rfl ?_
    refine aw_iconst (v := 2) (pc2 := 12) hk dX0_isReady_11 rfl (by decide) ?_
    refine aw_icmp_ne (tgt := 19) (pc2 := 15) hk dX0_isReady_12 (by decide) rfl (fun c12 => ?_) (fun c12 => ?_)
    · refine aw_iconst (v := 0) (pc2 := 20) hk dX0_isReady_19 rfl (by decide) ?_
      refine aw_zret (by first | exact Or.inl rfl | exact Or.inr rfl) hk dX0_isReady_20 (Nat.le_of_ble_eq_true rfl) (Nat.le_of_ble_eq_true rfl) (by first | (simpa [rdy, bi, *] using hq))
    · refine aw_iconst (v := 1) (pc2 := 16) hk dX0_isReady_15 rfl (by decide) ?_
      refine aw_goto (tgt := 20) hk dX0_isReady_16 (by decide) ?_
      refine aw_zret (by first | exact Or.inl rfl | exact Or.inr rfl) hk dX0_isReady_20 (Nat.le_of_ble_eq_true rfl) (Nat.le_of_ble_eq_true rfl) (by first | (simpa [rdy, bi, *] using hq))
set_option maxHeartbeats 4000000 in
set_option maxRecDepth 100000 in
theorem t_enterOn {n : Nat} {d : D2} {I : M2} {J : J2} {S : M2} {L : J2} {R : R2} {Q : QT} {a z : Nat} (ha : kd d a = (10, z)) {x y : Int32} (hq : Q none n (H5 d I J (u2 (u2 (u2 (u2 S a 2 4) a 3 x) a 5 x) a 4 y) L R)) : Calls yX0_enterOn cX0_enterOn 3 none rmX0_enterOn [.ref a, .int x, .int y] n (H5 d I J S L R) Q := by
  refine Calls.of (by decide) (Nat.le_of_ble_eq_true rfl) ?_
  intro K hk
  show AW K Q 0 0 0 [some (.ref a), some (.int x), some (.int y)] [] n (H5 d I J S L R)
  refine aw_aload_n (pc2 := 1) hk dX0_enterOn_0 rfl rfl ?_
  refine aw_iconst (v := 4) (pc2 := 2) hk dX0_enterOn_1 rfl (by decide) ?_
  refine aw_put (pc2 := 5) hk ckX0 2 dX0_enterOn_2 rfl fl_X0_22 (by decide) rfl (o_X0 ha) (fun _ => rfl) (fun _ => rfl) (Nat.le_of_ble_eq_true rfl) ?_
  rw [p_X0_2 ha]
  refine aw_aload_n (pc2 := 6) hk dX0_enterOn_5 rfl rfl ?_
  refine aw_iload_n (pc2 := 7) hk dX0_enterOn_6 rfl rfl ?_
  refine aw_put (pc2 := 10) hk ckX0 3 dX0_enterOn_7 rfl fl_X0_25 (by decide) rfl (o_X0 ha) (fun _ => rfl) (fun _ => rfl) (Nat.le_of_ble_eq_true rfl) ?_
  rw [p_X0_3 ha]
  refine aw_aload_n (pc2 := 11) hk dX0_enterOn_10 rfl rfl ?_
  refine aw_iload_n (pc2 := 12) hk dX0_enterOn_11 rfl rfl ?_
  refine aw_put (pc2 := 15) hk ckX0 5 dX0_enterOn_12 rfl fl_X0_31 (by decide) rfl (o_X0 ha) (fun _ => rfl) (fun _ => rfl) (Nat.le_of_ble_eq_true rfl) ?_
  rw [p_X0_5 ha]
  refine aw_aload_n (pc2 := 16) hk dX0_enterOn_15 rfl rfl ?_
  refine aw_iload_n (pc2 := 17) hk dX0_enterOn_16 rfl rfl ?_
  refine aw_put (pc2 := 20) hk ckX0 4 dX0_enterOn_17 rfl fl_X0_28 (by decide) rfl (o_X0 ha) (fun _ => rfl) (fun _ => rfl) (Nat.le_of_ble_eq_true rfl) ?_
  rw [p_X0_4 ha]
  refine aw_vret hk dX0_enterOn_20 (Nat.le_of_ble_eq_true rfl) (Nat.le_of_ble_eq_true rfl) hq
set_option maxHeartbeats 4000000 in
set_option maxRecDepth 100000 in
theorem t_owed {n : Nat} {d : D2} {I : M2} {J : J2} {S : M2} {L : J2} {R : R2} {Q : QT} {a z : Nat} (ha : kd d a = (10, z)) (hq : Q (some (.long (L a 10 - L a 11))) n (H5 d I J S L R)) : Calls yX0_owed cX0_owed 1 (some .long) rmX0_owed [.ref a] n (H5 d I J S L R) Q := by
  refine Calls.of (by decide) (Nat.le_of_ble_eq_true rfl) ?_
  intro K hk
  show AW K Q 0 0 0 [some (.ref a)] [] n (H5 d I J S L R)
  refine aw_aload_n (pc2 := 1) hk dX0_owed_0 rfl rfl ?_
  refine aw_get (pc2 := 4) hk ckX0 10 dX0_owed_1 rfl fl_X0_47 (by decide) (o_X0 ha) rfl ?_
  refine aw_aload_n (pc2 := 5) hk dX0_owed_4 rfl rfl ?_
  refine aw_get (pc2 := 8) hk ckX0 11 dX0_owed_5 rfl fl_X0_50 (by decide) (o_X0 ha) rfl ?_
  refine aw_lsub (pc2 := 9) hk dX0_owed_8 rfl ?_
  refine aw_lret hk dX0_owed_9 (Nat.le_of_ble_eq_true rfl) (Nat.le_of_ble_eq_true rfl) hq
def intr (S : M2) (L : J2) (a : Nat) (x : Int32) : Int64 := L a 12 + (L a 10 - L a 11) * (S a 4).toInt64 * (x - S a 5).toInt64 / 1000000
set_option maxHeartbeats 4000000 in
set_option maxRecDepth 100000 in
theorem t_interestOn {n : Nat} {d : D2} {I : M2} {J : J2} {S : M2} {L : J2} {R : R2} {Q : QT} {a z : Nat} (ha : kd d a = (10, z)) {x : Int32} (hq : Q (some (.long (intr S L a x))) n (H5 d I J S L R)) : Calls yX0_interestOn cX0_interestOn 2 (some .long) rmX0_interestOn [.ref a, .int x] n (H5 d I J S L R) Q := by
  refine Calls.of (by decide) (Nat.le_of_ble_eq_true rfl) ?_
  intro K hk
  show AW K Q 0 0 0 [some (.ref a), some (.int x)] [] n (H5 d I J S L R)
  refine aw_aload_n (pc2 := 1) hk dX0_interestOn_0 rfl rfl ?_
  refine aw_get (pc2 := 4) hk ckX0 12 dX0_interestOn_1 rfl fl_X0_53 (by decide) (o_X0 ha) rfl ?_
  refine aw_aload_n (pc2 := 5) hk dX0_interestOn_4 rfl rfl ?_
  refine aw_cV (rm2 := rmX0_owed) (pc2 := 8) hk veX0_owed dX0_interestOn_5 rfl ml_X0_62 ⟨(Nat.le_of_ble_eq_true rfl), (Nat.le_of_ble_eq_true rfl)⟩ [] rfl rfl (Nat.le_of_ble_eq_true rfl) (Nat.le_of_ble_eq_true rfl) (Nat.le_of_ble_eq_true rfl) (o_X0 ha) (t_owed ha ?_)
  refine aw_aload_n (pc2 := 9) hk dX0_interestOn_8 rfl rfl ?_
  refine aw_get (pc2 := 12) hk ckX0 4 dX0_interestOn_9 rfl fl_X0_28 (by decide) (o_X0 ha) rfl ?_
  refine aw_i2l (pc2 := 13) hk dX0_interestOn_12 rfl ?_
  refine aw_lmul (pc2 := 14) hk dX0_interestOn_13 rfl ?_
  refine aw_iload_n (pc2 := 15) hk dX0_interestOn_14 rfl rfl ?_
  refine aw_aload_n (pc2 := 16) hk dX0_interestOn_15 rfl rfl ?_
  refine aw_get (pc2 := 19) hk ckX0 5 dX0_interestOn_16 rfl fl_X0_31 (by decide) (o_X0 ha) rfl ?_
  refine aw_isub (pc2 := 20) hk dX0_interestOn_19 rfl ?_
  refine aw_i2l (pc2 := 21) hk dX0_interestOn_20 rfl ?_
  refine aw_lmul (pc2 := 22) hk dX0_interestOn_21 rfl ?_
  refine aw_ldc2 (pc2 := 25) hk dX0_interestOn_22 rfl kl_X0_66 ?_
  refine aw_ldiv (pc2 := 26) hk dX0_interestOn_25 rfl (by decide) ?_
  refine aw_ladd (pc2 := 27) hk dX0_interestOn_26 rfl ?_
  refine aw_lret hk dX0_interestOn_27 (Nat.le_of_ble_eq_true rfl) (Nat.le_of_ble_eq_true rfl) hq
def rcvI (S : M2) (L : J2) (a : Nat) (v : Int64) (x : Int32) : Int64 := mnL v (intr S L a x)
def rcvD (S : M2) (L : J2) (a : Nat) (v : Int64) (x : Int32) : Int64 := mnL (v - rcvI S L a v x) (L a 10 - L a 11)
set_option maxHeartbeats 4000000 in
set_option maxRecDepth 100000 in
theorem t_receive {n : Nat} {d : D2} {I : M2} {J : J2} {S : M2} {L : J2} {R : R2} {Q : QT} {a z : Nat} (ha : kd d a = (10, z)) {v : Int64} {x : Int32} (hq : Q (some (.long (rcvI S L a v x + rcvD S L a v x))) n (H5 d I J (u2 S a 5 x) (u2 (u2 (u2 L a 12 (intr S L a x - rcvI S L a v x)) a 13 (L a 13 + rcvI S L a v x)) a 11 (L a 11 + rcvD S L a v x)) R)) : Calls yX0_receive cX0_receive 10 (some .long) rmX0_receive [.ref a, .long v, .int x] n (H5 d I J S L R) Q := by
  refine Calls.of (by decide) (Nat.le_of_ble_eq_true rfl) ?_
  intro K hk
  show AW K Q 0 0 0 [some (.ref a), some (.long v), none, some (.int x), none, none, none, none, none, none] [] n (H5 d I J S L R)
  refine aw_aload_n (pc2 := 1) hk dX0_receive_0 rfl rfl ?_
  refine aw_iload_n (pc2 := 2) hk dX0_receive_1 rfl rfl ?_
  refine aw_cV (rm2 := rmX0_interestOn) (pc2 := 5) hk veX0_interestOn dX0_receive_2 rfl ml_X0_68 ⟨(Nat.le_of_ble_eq_true rfl), (Nat.le_of_ble_eq_true rfl)⟩ [_] rfl rfl (Nat.le_of_ble_eq_true rfl) (Nat.le_of_ble_eq_true rfl) (Nat.le_of_ble_eq_true rfl) (o_X0 ha) (t_interestOn ha ?_)
  refine aw_lstore (pc2 := 7) hk dX0_receive_5 rfl (by decide) ?_
  refine aw_lload_n (pc2 := 8) hk dX0_receive_7 rfl rfl ?_
  refine aw_lload (pc2 := 10) hk dX0_receive_8 rfl rfl ?_
  refine aw_min (pc2 := 13) hk seJ9_min_f86c9 dX0_receive_10 rfl ml_X0_72 (Nat.le_of_ble_eq_true rfl) (Nat.le_of_ble_eq_true rfl) (Nat.le_of_ble_eq_true rfl) (Nat.le_of_ble_eq_true rfl) ?_
  refine aw_lstore (pc2 := 15) hk dX0_receive_13 rfl (by decide) ?_
  refine aw_lload_n (pc2 := 16) hk dX0_receive_15 rfl rfl ?_
  refine aw_lload (pc2 := 18) hk dX0_receive_16 rfl rfl ?_
  refine aw_lsub (pc2 := 19) hk dX0_receive_18 rfl ?_
  refine aw_aload_n (pc2 := 20) hk dX0_receive_19 rfl rfl ?_
  refine aw_cV (rm2 := rmX0_owed) (pc2 := 23) hk veX0_owed dX0_receive_20 rfl ml_X0_62 ⟨(Nat.le_of_ble_eq_true rfl), (Nat.le_of_ble_eq_true rfl)⟩ [] rfl rfl (Nat.le_of_ble_eq_true rfl) (Nat.le_of_ble_eq_true rfl) (Nat.le_of_ble_eq_true rfl) (o_X0 ha) (t_owed ha ?_)
  refine aw_min (pc2 := 26) hk seJ9_min_f86c9 dX0_receive_23 rfl ml_X0_72 (Nat.le_of_ble_eq_true rfl) (Nat.le_of_ble_eq_true rfl) (Nat.le_of_ble_eq_true rfl) (Nat.le_of_ble_eq_true rfl) ?_
  refine aw_lstore (pc2 := 28) hk dX0_receive_26 rfl (by decide) ?_
  refine aw_aload_n (pc2 := 29) hk dX0_receive_28 rfl rfl ?_
  refine aw_lload (pc2 := 31) hk dX0_receive_29 rfl rfl ?_
  refine aw_lload (pc2 := 33) hk dX0_receive_31 rfl rfl ?_
  refine aw_lsub (pc2 := 34) hk dX0_receive_33 rfl ?_
  refine aw_put (pc2 := 37) hk ckX0 12 dX0_receive_34 rfl fl_X0_53 (by decide) rfl (o_X0 ha) (fun _ => rfl) (fun _ => rfl) (Nat.le_of_ble_eq_true rfl) ?_
  rw [p_X0_12 ha]
  refine aw_aload_n (pc2 := 38) hk dX0_receive_37 rfl rfl ?_
  refine aw_iload_n (pc2 := 39) hk dX0_receive_38 rfl rfl ?_
  refine aw_put (pc2 := 42) hk ckX0 5 dX0_receive_39 rfl fl_X0_31 (by decide) rfl (o_X0 ha) (fun _ => rfl) (fun _ => rfl) (Nat.le_of_ble_eq_true rfl) ?_
  rw [p_X0_5 ha]
  refine aw_aload_n (pc2 := 43) hk dX0_receive_42 rfl rfl ?_
  refine aw_dup_r (pc2 := 44) hk dX0_receive_43 rfl ?_
  refine aw_get (pc2 := 47) hk ckX0 13 dX0_receive_44 rfl fl_X0_56 (by decide) (o_X0 ha) rfl ?_
  refine aw_lload (pc2 := 49) hk dX0_receive_47 rfl rfl ?_
  refine aw_ladd (pc2 := 50) hk dX0_receive_49 rfl ?_
  refine aw_topL (L a 13 + rcvI S L a v x) (by rw [u2_j _ _ _ _ (by decide)]; rfl) ?_
  refine aw_put (pc2 := 53) hk ckX0 13 dX0_receive_50 rfl fl_X0_56 (by decide) rfl (o_X0 ha) (fun _ => rfl) (fun _ => rfl) (Nat.le_of_ble_eq_true rfl) ?_
  rw [p_X0_13 ha]
  refine aw_aload_n (pc2 := 54) hk dX0_receive_53 rfl rfl ?_
  refine aw_dup_r (pc2 := 55) hk dX0_receive_54 rfl ?_
  refine aw_get (pc2 := 58) hk ckX0 11 dX0_receive_55 rfl fl_X0_50 (by decide) (o_X0 ha) rfl ?_
  refine aw_lload (pc2 := 60) hk dX0_receive_58 rfl rfl ?_
  refine aw_ladd (pc2 := 61) hk dX0_receive_60 rfl ?_
  refine aw_topL (L a 11 + rcvD S L a v x) (by rw [u2_j _ _ _ _ (by decide), u2_j _ _ _ _ (by decide)]; rfl) ?_
  refine aw_put (pc2 := 64) hk ckX0 11 dX0_receive_61 rfl fl_X0_50 (by decide) rfl (o_X0 ha) (fun _ => rfl) (fun _ => rfl) (Nat.le_of_ble_eq_true rfl) ?_
  rw [p_X0_11 ha]
  refine aw_lload (pc2 := 66) hk dX0_receive_64 rfl rfl ?_
  refine aw_lload (pc2 := 68) hk dX0_receive_66 rfl rfl ?_
  refine aw_ladd (pc2 := 69) hk dX0_receive_68 rfl ?_
  refine aw_lret hk dX0_receive_69 (Nat.le_of_ble_eq_true rfl) (Nat.le_of_ble_eq_true rfl) hq
def tell (S : M2) (L : J2) (a k : Nat) (x : Int32) : Int64 := match k with
  | 0 => (S a 0).toInt64
  | 1 => (S a 2).toInt64
  | 2 => (S a 3).toInt64
  | 3 => L a 6
  | 4 => L a 7
  | 5 => L a 8
  | 6 => L a 9
  | 7 => L a 10
  | 8 => L a 11
  | 9 => L a 10 - L a 11
  | 10 => intr S L a x
  | 11 => L a 13
  | 12 => (S a 1).toInt64
  | _ => L a 14
set_option maxHeartbeats 4000000 in
set_option maxRecDepth 100000 in
theorem t_tell {n : Nat} {d : D2} {I : M2} {J : J2} {S : M2} {L : J2} {R : R2} {Q : QT} {a z : Nat} (ha : kd d a = (10, z)) {k : Nat} {x : Int32} (hk14 : k < 14) (hq : Q (some (.long (tell S L a k x))) n (H5 d I J S L R)) : Calls yX0_tell cX0_tell 3 (some .long) rmX0_tell [.ref a, .int (nI k), .int x] n (H5 d I J S L R) Q := by
  refine Calls.of (by decide) (Nat.le_of_ble_eq_true rfl) ?_
  intro K hk
  show AW K Q 0 0 0 [some (.ref a), some (.int (nI k)), some (.int x)] [] n (H5 d I J S L R)
  refine aw_iload_n (pc2 := 1) hk dX0_tell_0 rfl rfl ?_
  match k, hk14 with
  | 0, _ =>
    refine aw_tableIn (tgt := 68) (off := 67) hk dX0_tell_1 (by decide) (by decide) (by decide) (by decide) ?_
    refine aw_aload_n (pc2 := 69) hk dX0_tell_68 rfl rfl ?_
    refine aw_get (pc2 := 72) hk ckX0 0 dX0_tell_69 rfl fl_X0_15 (by decide) (o_X0 ha) rfl ?_
    refine aw_i2l (pc2 := 73) hk dX0_tell_72 rfl ?_
    refine aw_lret hk dX0_tell_73 (Nat.le_of_ble_eq_true rfl) (Nat.le_of_ble_eq_true rfl) hq
  | 1, _ =>
    refine aw_tableIn (tgt := 74) (off := 73) hk dX0_tell_1 (by decide) (by decide) (by decide) (by decide) ?_
    refine aw_aload_n (pc2 := 75) hk dX0_tell_74 rfl rfl ?_
    refine aw_get (pc2 := 78) hk ckX0 2 dX0_tell_75 rfl fl_X0_22 (by decide) (o_X0 ha) rfl ?_
    refine aw_i2l (pc2 := 79) hk dX0_tell_78 rfl ?_
    refine aw_lret hk dX0_tell_79 (Nat.le_of_ble_eq_true rfl) (Nat.le_of_ble_eq_true rfl) hq
  | 2, _ =>
    refine aw_tableIn (tgt := 80) (off := 79) hk dX0_tell_1 (by decide) (by decide) (by decide) (by decide) ?_
    refine aw_aload_n (pc2 := 81) hk dX0_tell_80 rfl rfl ?_
    refine aw_get (pc2 := 84) hk ckX0 3 dX0_tell_81 rfl fl_X0_25 (by decide) (o_X0 ha) rfl ?_
    refine aw_i2l (pc2 := 85) hk dX0_tell_84 rfl ?_
    refine aw_lret hk dX0_tell_85 (Nat.le_of_ble_eq_true rfl) (Nat.le_of_ble_eq_true rfl) hq
  | 3, _ =>
    refine aw_tableIn (tgt := 86) (off := 85) hk dX0_tell_1 (by decide) (by decide) (by decide) (by decide) ?_
    refine aw_aload_n (pc2 := 87) hk dX0_tell_86 rfl rfl ?_
    refine aw_get (pc2 := 90) hk ckX0 6 dX0_tell_87 rfl fl_X0_34 (by decide) (o_X0 ha) rfl ?_
    refine aw_lret hk dX0_tell_90 (Nat.le_of_ble_eq_true rfl) (Nat.le_of_ble_eq_true rfl) hq
  | 4, _ =>
    refine aw_tableIn (tgt := 91) (off := 90) hk dX0_tell_1 (by decide) (by decide) (by decide) (by decide) ?_
    refine aw_aload_n (pc2 := 92) hk dX0_tell_91 rfl rfl ?_
    refine aw_get (pc2 := 95) hk ckX0 7 dX0_tell_92 rfl fl_X0_38 (by decide) (o_X0 ha) rfl ?_
    refine aw_lret hk dX0_tell_95 (Nat.le_of_ble_eq_true rfl) (Nat.le_of_ble_eq_true rfl) hq
  | 5, _ =>
    refine aw_tableIn (tgt := 96) (off := 95) hk dX0_tell_1 (by decide) (by decide) (by decide) (by decide) ?_
    refine aw_aload_n (pc2 := 97) hk dX0_tell_96 rfl rfl ?_
    refine aw_get (pc2 := 100) hk ckX0 8 dX0_tell_97 rfl fl_X0_41 (by decide) (o_X0 ha) rfl ?_
    refine aw_lret hk dX0_tell_100 (Nat.le_of_ble_eq_true rfl) (Nat.le_of_ble_eq_true rfl) hq
  | 6, _ =>
    refine aw_tableIn (tgt := 101) (off := 100) hk dX0_tell_1 (by decide) (by decide) (by decide) (by decide) ?_
    refine aw_aload_n (pc2 := 102) hk dX0_tell_101 rfl rfl ?_
    refine aw_get (pc2 := 105) hk ckX0 9 dX0_tell_102 rfl fl_X0_44 (by decide) (o_X0 ha) rfl ?_
    refine aw_lret hk dX0_tell_105 (Nat.le_of_ble_eq_true rfl) (Nat.le_of_ble_eq_true rfl) hq
  | 7, _ =>
    refine aw_tableIn (tgt := 106) (off := 105) hk dX0_tell_1 (by decide) (by decide) (by decide) (by decide) ?_
    refine aw_aload_n (pc2 := 107) hk dX0_tell_106 rfl rfl ?_
    refine aw_get (pc2 := 110) hk ckX0 10 dX0_tell_107 rfl fl_X0_47 (by decide) (o_X0 ha) rfl ?_
    refine aw_lret hk dX0_tell_110 (Nat.le_of_ble_eq_true rfl) (Nat.le_of_ble_eq_true rfl) hq
  | 8, _ =>
    refine aw_tableIn (tgt := 111) (off := 110) hk dX0_tell_1 (by decide) (by decide) (by decide) (by decide) ?_
    refine aw_aload_n (pc2 := 112) hk dX0_tell_111 rfl rfl ?_
    refine aw_get (pc2 := 115) hk ckX0 11 dX0_tell_112 rfl fl_X0_50 (by decide) (o_X0 ha) rfl ?_
    refine aw_lret hk dX0_tell_115 (Nat.le_of_ble_eq_true rfl) (Nat.le_of_ble_eq_true rfl) hq
  | 9, _ =>
    refine aw_tableIn (tgt := 116) (off := 115) hk dX0_tell_1 (by decide) (by decide) (by decide) (by decide) ?_
    refine aw_aload_n (pc2 := 117) hk dX0_tell_116 rfl rfl ?_
    refine aw_cV (rm2 := rmX0_owed) (pc2 := 120) hk veX0_owed dX0_tell_117 rfl ml_X0_62 ⟨(Nat.le_of_ble_eq_true rfl), (Nat.le_of_ble_eq_true rfl)⟩ [] rfl rfl (Nat.le_of_ble_eq_true rfl) (Nat.le_of_ble_eq_true rfl) (Nat.le_of_ble_eq_true rfl) (o_X0 ha) (t_owed ha ?_)
    refine aw_lret hk dX0_tell_120 (Nat.le_of_ble_eq_true rfl) (Nat.le_of_ble_eq_true rfl) hq
  | 10, _ =>
    refine aw_tableIn (tgt := 121) (off := 120) hk dX0_tell_1 (by decide) (by decide) (by decide) (by decide) ?_
    refine aw_aload_n (pc2 := 122) hk dX0_tell_121 rfl rfl ?_
    refine aw_iload_n (pc2 := 123) hk dX0_tell_122 rfl rfl ?_
    refine aw_cV (rm2 := rmX0_interestOn) (pc2 := 126) hk veX0_interestOn dX0_tell_123 rfl ml_X0_68 ⟨(Nat.le_of_ble_eq_true rfl), (Nat.le_of_ble_eq_true rfl)⟩ [_] rfl rfl (Nat.le_of_ble_eq_true rfl) (Nat.le_of_ble_eq_true rfl) (Nat.le_of_ble_eq_true rfl) (o_X0 ha) (t_interestOn ha ?_)
    refine aw_lret hk dX0_tell_126 (Nat.le_of_ble_eq_true rfl) (Nat.le_of_ble_eq_true rfl) hq
  | 11, _ =>
    refine aw_tableIn (tgt := 127) (off := 126) hk dX0_tell_1 (by decide) (by decide) (by decide) (by decide) ?_
    refine aw_aload_n (pc2 := 128) hk dX0_tell_127 rfl rfl ?_
    refine aw_get (pc2 := 131) hk ckX0 13 dX0_tell_128 rfl fl_X0_56 (by decide) (o_X0 ha) rfl ?_
    refine aw_lret hk dX0_tell_131 (Nat.le_of_ble_eq_true rfl) (Nat.le_of_ble_eq_true rfl) hq
  | 12, _ =>
    refine aw_tableIn (tgt := 132) (off := 131) hk dX0_tell_1 (by decide) (by decide) (by decide) (by decide) ?_
    refine aw_aload_n (pc2 := 133) hk dX0_tell_132 rfl rfl ?_
    refine aw_get (pc2 := 136) hk ckX0 1 dX0_tell_133 rfl fl_X0_19 (by decide) (o_X0 ha) rfl ?_
    refine aw_i2l (pc2 := 137) hk dX0_tell_136 rfl ?_
    refine aw_lret hk dX0_tell_137 (Nat.le_of_ble_eq_true rfl) (Nat.le_of_ble_eq_true rfl) hq
  | 13, _ =>
    refine aw_tableOut (tgt := 138) hk dX0_tell_1 (by decide) (by decide) ?_
    refine aw_aload_n (pc2 := 139) hk dX0_tell_138 rfl rfl ?_
    refine aw_get (pc2 := 142) hk ckX0 14 dX0_tell_139 rfl fl_X0_59 (by decide) (o_X0 ha) rfl ?_
    refine aw_lret hk dX0_tell_142 (Nat.le_of_ble_eq_true rfl) (Nat.le_of_ble_eq_true rfl) hq
set_option maxHeartbeats 4000000 in
set_option maxRecDepth 100000 in
theorem t_clear {n : Nat} {d : D2} {I : M2} {J : J2} {S : M2} {L : J2} {R : R2} {Q : QT} {a z : Nat} (ha : kd d a = (11, z)) (hq : Q none n (H5 d I J (u2 (u2 S a 0 (-1)) a 1 0) L R)) : Calls yX1_clear cX1_clear 1 none rmX1_clear [.ref a] n (H5 d I J S L R) Q := by
  refine Calls.of (by decide) (Nat.le_of_ble_eq_true rfl) ?_
  intro K hk
  show AW K Q 0 0 0 [some (.ref a)] [] n (H5 d I J S L R)
  refine aw_aload_n (pc2 := 1) hk dX1_clear_0 rfl rfl ?_
  refine aw_iconst (v := -1) (pc2 := 2) hk dX1_clear_1 rfl (by decide) ?_
  refine aw_put (pc2 := 5) hk ckX1 0 dX1_clear_2 rfl fl_X1_22 (by decide) rfl (o_X1 ha) (fun _ => rfl) (fun _ => rfl) (Nat.le_of_ble_eq_true rfl) ?_
  rw [p_X1_0 ha]
  refine aw_aload_n (pc2 := 6) hk dX1_clear_5 rfl rfl ?_
  refine aw_iconst (v := 0) (pc2 := 7) hk dX1_clear_6 rfl (by decide) ?_
  refine aw_put (pc2 := 10) hk ckX1 1 dX1_clear_7 rfl fl_X1_26 (by decide) rfl (o_X1 ha) (fun _ => rfl) (fun _ => rfl) (Nat.le_of_ble_eq_true rfl) ?_
  rw [p_X1_1 ha]
  refine aw_vret hk dX1_clear_10 (Nat.le_of_ble_eq_true rfl) (Nat.le_of_ble_eq_true rfl) hq
set_option maxHeartbeats 4000000 in
set_option maxRecDepth 100000 in
theorem t_addRight {n : Nat} {d : D2} {I : M2} {J : J2} {S : M2} {L : J2} {R : R2} {Q : QT} {a z : Nat} (ha : kd d a = (11, z)) (ha1 : kd d (a + 1) = (1, 4)) (ha2 : kd d (a + 2) = (1, 4)) (ha3 : kd d (a + 3) = (3, 4)) {x y : Int32} {rc : Nat} (hrc : S a 1 = nI rc) (hrc4 : rc ≤ 4) (hq1 : rc = 4 → Q (some (.int (-104))) n (H5 d I J S L R)) (hq2 : rc < 4 → Q (some (.int (nI (rc + 1)))) n (H5 d (u2 (u2 I (a + 1) rc x) (a + 2) rc y) (u2 J (a + 3) rc y.toInt64) (u2 S a 1 (nI (rc + 1))) L R)) : Calls yX1_addRight cX1_addRight 3 (some .int) rmX1_addRight [.ref a, .int x, .int y] n (H5 d I J S L R) Q := by
  refine Calls.of (by decide) (Nat.le_of_ble_eq_true rfl) ?_
  intro K hk
  show AW K Q 0 0 0 [some (.ref a), some (.int x), some (.int y)] [] n (H5 d I J S L R)
  refine aw_aload_n (pc2 := 1) hk dX1_addRight_0 rfl rfl ?_
  refine aw_get (pc2 := 4) hk ckX1 1 dX1_addRight_1 rfl fl_X1_26 (by decide) (o_X1 ha) rfl ?_
  refine aw_iconst (v := 4) (pc2 := 5) hk dX1_addRight_4 rfl (by decide) ?_
  refine aw_icN_lt (x := rc) (y := 4) (tgt := 11) (pc2 := 8) hk dX1_addRight_5 (by decide) rfl hrc rfl (by omega) (by omega) (fun c5 => ?_) (fun c5 => ?_)
  · refine aw_aload_n (pc2 := 12) hk dX1_addRight_11 rfl rfl ?_
    refine aw_get (pc2 := 15) hk ckX1 2 dX1_addRight_12 rfl fl_X1_9 (by decide) (o_X1 ha) rfl ?_
    refine aw_aload_n (pc2 := 16) hk dX1_addRight_15 rfl rfl ?_
    refine aw_get (pc2 := 19) hk ckX1 1 dX1_addRight_16 rfl fl_X1_26 (by decide) (o_X1 ha) rfl ?_
    refine aw_iload_n (pc2 := 20) hk dX1_addRight_19 rfl rfl ?_
    refine h_iast (pc2 := 21) hk dX1_addRight_20 rfl ha1 hrc c5 (by decide) ?_
    refine aw_aload_n (pc2 := 22) hk dX1_addRight_21 rfl rfl ?_
    refine aw_get (pc2 := 25) hk ckX1 3 dX1_addRight_22 rfl fl_X1_15 (by decide) (o_X1 ha) rfl ?_
    refine aw_aload_n (pc2 := 26) hk dX1_addRight_25 rfl rfl ?_
    refine aw_get (pc2 := 29) hk ckX1 1 dX1_addRight_26 rfl fl_X1_26 (by decide) (o_X1 ha) rfl ?_
    refine aw_iload_n (pc2 := 30) hk dX1_addRight_29 rfl rfl ?_
    refine h_iast (pc2 := 31) hk dX1_addRight_30 rfl ha2 hrc c5 (by decide) ?_
    refine aw_aload_n (pc2 := 32) hk dX1_addRight_31 rfl rfl ?_
    refine aw_get (pc2 := 35) hk ckX1 4 dX1_addRight_32 rfl fl_X1_18 (by decide) (o_X1 ha) rfl ?_
    refine aw_aload_n (pc2 := 36) hk dX1_addRight_35 rfl rfl ?_
    refine aw_get (pc2 := 39) hk ckX1 1 dX1_addRight_36 rfl fl_X1_26 (by decide) (o_X1 ha) rfl ?_
    refine aw_iload_n (pc2 := 40) hk dX1_addRight_39 rfl rfl ?_
    refine aw_i2l (pc2 := 41) hk dX1_addRight_40 rfl ?_
    refine h_last (pc2 := 42) hk dX1_addRight_41 rfl ha3 hrc c5 (by decide) ?_
    refine aw_aload_n (pc2 := 43) hk dX1_addRight_42 rfl rfl ?_
    refine aw_dup_r (pc2 := 44) hk dX1_addRight_43 rfl ?_
    refine aw_get (pc2 := 47) hk ckX1 1 dX1_addRight_44 rfl fl_X1_26 (by decide) (o_X1 ha) rfl ?_
    refine aw_iconst (v := 1) (pc2 := 48) hk dX1_addRight_47 rfl (by decide) ?_
    refine aw_iadd (pc2 := 49) hk dX1_addRight_48 rfl ?_
    refine aw_top (nI (rc + 1)) (by rw [hrc]; exact nI_1 rc) ?_
    refine aw_put (pc2 := 52) hk ckX1 1 dX1_addRight_49 rfl fl_X1_26 (by decide) rfl (o_X1 ha) (fun _ => rfl) (fun _ => rfl) (Nat.le_of_ble_eq_true rfl) ?_
    rw [p_X1_1 ha]
    refine aw_aload_n (pc2 := 53) hk dX1_addRight_52 rfl rfl ?_
    refine aw_get (pc2 := 56) hk ckX1 1 dX1_addRight_53 rfl fl_X1_26 (by decide) (o_X1 ha) rfl ?_
    refine aw_top (nI (rc + 1)) (u2_s _ _ _ _) ?_
    refine aw_iret hk dX1_addRight_56 (Nat.le_of_ble_eq_true rfl) (Nat.le_of_ble_eq_true rfl) (hq2 c5)
  · refine aw_bipush (v := -104) (pc2 := 10) hk dX1_addRight_8 rfl (by decide) ?_
    refine aw_iret hk dX1_addRight_10 (Nat.le_of_ble_eq_true rfl) (Nat.le_of_ble_eq_true rfl) (hq1 (by omega))
set_option maxHeartbeats 4000000 in
set_option maxRecDepth 100000 in
theorem t_put {n : Nat} {d : D2} {I : M2} {J : J2} {S : M2} {L : J2} {R : R2} {Q : QT} {a z : Nat} (ha : kd d a = (14, z)) (ha1 : kd d (a + 1) = (1, 20)) (ha2 : kd d (a + 2) = (1, 20)) {c : Nat} (hc : S a 0 = nI c) (hc20 : c ≤ 20) {x y : Int32} (hq1 : fndI (I (a + 1)) x c 0 < c → Q (some (.int (nI c))) n (H5 d (u2 I (a + 2) (fndI (I (a + 1)) x c 0) y) J S L R)) (hq2 : fndI (I (a + 1)) x c 0 = c → c = 20 → Q (some (.int (-104))) n (H5 d I J S L R)) (hq3 : fndI (I (a + 1)) x c 0 = c → c < 20 → Q (some (.int (nI (c + 1)))) n (H5 d (u2 (u2 I (a + 1) c x) (a + 2) c y) J (u2 S a 0 (nI (c + 1))) L R)) : Calls yX4_put cX4_put 4 (some .int) rmX4_put [.ref a, .int x, .int y] n (H5 d I J S L R) Q := by
  refine Calls.of (by decide) (Nat.le_of_ble_eq_true rfl) ?_
  intro K hk
  show AW K Q 0 0 0 [some (.ref a), some (.int x), some (.int y), none] [] n (H5 d I J S L R)
  have loop : ∀ (k i : Nat), i ≤ c → c + 1 ≤ i + k → fndI (I (a + 1)) x (c - i) i = fndI (I (a + 1)) x c 0 → AW K Q 0 0 2 [some (.ref a), some (.int x), some (.int y), some (.int (nI i))] [] n (H5 d I J S L R) := by
    intro k
    induction k with
    | zero => intro i h1 h2; omega
    | succ k ih =>
      intro i hi hn hinv
      refine aw_iload_n (pc2 := 3) hk dX4_put_2 rfl rfl ?_
      refine aw_aload_n (pc2 := 4) hk dX4_put_3 rfl rfl ?_
      refine aw_get (pc2 := 7) hk ckX4 0 dX4_put_4 rfl fl_X4_18 (by decide) (o_X4 ha) rfl ?_
      refine aw_icN_ge (x := i) (y := c) (tgt := 44) (pc2 := 10) hk dX4_put_7 (by decide) rfl rfl hc (by omega) (by omega) (fun c7 => ?_) (fun c7 => ?_)
      · obtain rfl : i = c := by omega
        have hr : fndI (I (a + 1)) x i 0 = i := by rw [← hinv, Nat.sub_self]; rfl
        refine aw_aload_n (pc2 := 45) hk dX4_put_44 rfl rfl ?_
        refine aw_get (pc2 := 48) hk ckX4 0 dX4_put_45 rfl fl_X4_18 (by decide) (o_X4 ha) rfl ?_
        refine aw_bipush (v := 20) (pc2 := 50) hk dX4_put_48 rfl (by decide) ?_
        refine aw_icN_lt (x := i) (y := 20) (tgt := 56) (pc2 := 53) hk dX4_put_50 (by decide) rfl hc rfl (by omega) (by omega) (fun c50 => ?_) (fun c50 => ?_)
        · refine aw_aload_n (pc2 := 57) hk dX4_put_56 rfl rfl ?_
          refine aw_get (pc2 := 60) hk ckX4 1 dX4_put_57 rfl fl_X4_9 (by decide) (o_X4 ha) rfl ?_
          refine aw_aload_n (pc2 := 61) hk dX4_put_60 rfl rfl ?_
          refine aw_get (pc2 := 64) hk ckX4 0 dX4_put_61 rfl fl_X4_18 (by decide) (o_X4 ha) rfl ?_
          refine aw_iload_n (pc2 := 65) hk dX4_put_64 rfl rfl ?_
          refine h_iast (pc2 := 66) hk dX4_put_65 rfl ha1 hc (by omega) (by decide) ?_
          refine aw_aload_n (pc2 := 67) hk dX4_put_66 rfl rfl ?_
          refine aw_get (pc2 := 70) hk ckX4 2 dX4_put_67 rfl fl_X4_15 (by decide) (o_X4 ha) rfl ?_
          refine aw_aload_n (pc2 := 71) hk dX4_put_70 rfl rfl ?_
          refine aw_get (pc2 := 74) hk ckX4 0 dX4_put_71 rfl fl_X4_18 (by decide) (o_X4 ha) rfl ?_
          refine aw_iload_n (pc2 := 75) hk dX4_put_74 rfl rfl ?_
          refine h_iast (pc2 := 76) hk dX4_put_75 rfl ha2 hc (by omega) (by decide) ?_
          refine aw_aload_n (pc2 := 77) hk dX4_put_76 rfl rfl ?_
          refine aw_dup_r (pc2 := 78) hk dX4_put_77 rfl ?_
          refine aw_get (pc2 := 81) hk ckX4 0 dX4_put_78 rfl fl_X4_18 (by decide) (o_X4 ha) rfl ?_
          refine aw_iconst (v := 1) (pc2 := 82) hk dX4_put_81 rfl (by decide) ?_
          refine aw_iadd (pc2 := 83) hk dX4_put_82 rfl ?_
          refine aw_top (nI (i + 1)) (by rw [hc]; exact nI_1 i) ?_
          refine aw_put (pc2 := 86) hk ckX4 0 dX4_put_83 rfl fl_X4_18 (by decide) rfl (o_X4 ha) (fun _ => rfl) (fun _ => rfl) (Nat.le_of_ble_eq_true rfl) ?_
          rw [p_X4_0 ha]
          refine aw_aload_n (pc2 := 87) hk dX4_put_86 rfl rfl ?_
          refine aw_get (pc2 := 90) hk ckX4 0 dX4_put_87 rfl fl_X4_18 (by decide) (o_X4 ha) rfl ?_
          refine aw_top (nI (i + 1)) (u2_s _ _ _ _) ?_
          refine aw_iret hk dX4_put_90 (Nat.le_of_ble_eq_true rfl) (Nat.le_of_ble_eq_true rfl) (hq3 hr (by omega))
        · refine aw_bipush (v := -104) (pc2 := 55) hk dX4_put_53 rfl (by decide) ?_
          refine aw_iret hk dX4_put_55 (Nat.le_of_ble_eq_true rfl) (Nat.le_of_ble_eq_true rfl) (hq2 hr (by omega))
      · refine aw_iload_n (pc2 := 11) hk dX4_put_10 rfl rfl ?_
        refine aw_bipush (v := 20) (pc2 := 13) hk dX4_put_11 rfl (by decide) ?_
        refine aw_icN_ge (x := i) (y := 20) (tgt := 44) (pc2 := 16) hk dX4_put_13 (by decide) rfl rfl rfl (by omega) (by omega) (fun c13 => absurd c13 (by omega)) (fun c13 => ?_)
        refine aw_aload_n (pc2 := 17) hk dX4_put_16 rfl rfl ?_
        refine aw_get (pc2 := 20) hk ckX4 1 dX4_put_17 rfl fl_X4_9 (by decide) (o_X4 ha) rfl ?_
        refine aw_iload_n (pc2 := 21) hk dX4_put_20 rfl rfl ?_
        refine h_iald (pc2 := 22) hk dX4_put_21 rfl ha1 rfl (by omega) (by decide) ?_
        refine aw_iload_n (pc2 := 23) hk dX4_put_22 rfl rfl ?_
        refine aw_icmp_ne (tgt := 38) (pc2 := 26) hk dX4_put_23 (by decide) rfl (fun c23 => ?_) (fun c23 => ?_)
        · refine aw_iinc1 (pc2 := 41) hk dX4_put_38 rfl rfl (by decide) ?_
          refine aw_goto (tgt := 2) hk dX4_put_41 (by decide) ?_
          exact ih (i + 1) (by omega) (by omega) (by rw [← hinv, show c - i = c - (i + 1) + 1 by omega]; exact (if_neg c23).symm)
        · have hr : fndI (I (a + 1)) x c 0 = i := by rw [← hinv, show c - i = c - i - 1 + 1 by omega]; unfold fndI; rw [if_pos c23]
          refine aw_aload_n (pc2 := 27) hk dX4_put_26 rfl rfl ?_
          refine aw_get (pc2 := 30) hk ckX4 2 dX4_put_27 rfl fl_X4_15 (by decide) (o_X4 ha) rfl ?_
          refine aw_iload_n (pc2 := 31) hk dX4_put_30 rfl rfl ?_
          refine aw_iload_n (pc2 := 32) hk dX4_put_31 rfl rfl ?_
          refine h_iast (pc2 := 33) hk dX4_put_32 rfl ha2 rfl (by omega) (by decide) ?_
          refine aw_aload_n (pc2 := 34) hk dX4_put_33 rfl rfl ?_
          refine aw_get (pc2 := 37) hk ckX4 0 dX4_put_34 rfl fl_X4_18 (by decide) (o_X4 ha) rfl ?_
          refine aw_top (nI c) hc ?_
          refine aw_iret hk dX4_put_37 (Nat.le_of_ble_eq_true rfl) (Nat.le_of_ble_eq_true rfl) (by subst hr; exact hq1 (by omega))
  refine aw_iconst (v := 0) (pc2 := 1) hk dX4_put_0 rfl (by decide) ?_
  refine aw_istore_n (pc2 := 2) hk dX4_put_1 rfl (by decide) ?_
  exact loop (c + 1) 0 (by omega) (by omega) rfl
set_option maxHeartbeats 4000000 in
set_option maxRecDepth 100000 in
theorem t_on {n : Nat} {d : D2} {I : M2} {J : J2} {S : M2} {L : J2} {R : R2} {Q : QT} {a z : Nat} (ha : kd d a = (14, z)) (ha1 : kd d (a + 1) = (1, 20)) (ha2 : kd d (a + 2) = (1, 20)) {c : Nat} (hc : S a 0 = nI c) (hc20 : c ≤ 20) {x : Int32} (hq : Q (some (.int (onS (I (a + 1)) (I (a + 2)) x c).2)) n (H5 d I J S L R)) : Calls yX4_on cX4_on 5 (some .int) rmX4_on [.ref a, .int x] n (H5 d I J S L R) Q := by
  refine Calls.of (by decide) (Nat.le_of_ble_eq_true rfl) ?_
  intro K hk
  show AW K Q 0 0 0 [some (.ref a), some (.int x), none, none, none] [] n (H5 d I J S L R)
  have loop : ∀ (k i : Nat), i ≤ c → c + 1 ≤ i + k → AW K Q 0 0 7 [some (.ref a), some (.int x), some (.int (onS (I (a + 1)) (I (a + 2)) x i).1), some (.int (onS (I (a + 1)) (I (a + 2)) x i).2), some (.int (nI i))] [] n (H5 d I J S L R) := by
    intro k
    induction k with
    | zero => intro i h1 h2; omega
    | succ k ih =>
      intro i hi hn
      refine aw_iload (pc2 := 9) hk dX4_on_7 rfl rfl ?_
      refine aw_aload_n (pc2 := 10) hk dX4_on_9 rfl rfl ?_
      refine aw_get (pc2 := 13) hk ckX4 0 dX4_on_10 rfl fl_X4_18 (by decide) (o_X4 ha) rfl ?_
      refine aw_icN_ge (x := i) (y := c) (tgt := 67) (pc2 := 16) hk dX4_on_13 (by decide) rfl rfl hc (by omega) (by omega) (fun c13 => ?_) (fun c13 => ?_)
      · obtain rfl : i = c := by omega
        refine aw_iload_n (pc2 := 68) hk dX4_on_67 rfl rfl ?_
        refine aw_iret hk dX4_on_68 (Nat.le_of_ble_eq_true rfl) (Nat.le_of_ble_eq_true rfl) hq
      · refine aw_iload (pc2 := 18) hk dX4_on_16 rfl rfl ?_
        refine aw_bipush (v := 20) (pc2 := 20) hk dX4_on_18 rfl (by decide) ?_
        refine aw_icN_ge (x := i) (y := 20) (tgt := 67) (pc2 := 23) hk dX4_on_20 (by decide) rfl rfl rfl (by omega) (by omega) (fun c20 => absurd c20 (by omega)) (fun c20 => ?_)
        refine aw_aload_n (pc2 := 24) hk dX4_on_23 rfl rfl ?_
        refine aw_get (pc2 := 27) hk ckX4 1 dX4_on_24 rfl fl_X4_9 (by decide) (o_X4 ha) rfl ?_
        refine aw_iload (pc2 := 29) hk dX4_on_27 rfl rfl ?_
        refine h_iald (pc2 := 30) hk dX4_on_29 rfl ha1 rfl (by omega) (by decide) ?_
        refine aw_iload_n (pc2 := 31) hk dX4_on_30 rfl rfl ?_
        refine aw_icmp_gt (tgt := 61) (pc2 := 34) hk dX4_on_31 (by decide) rfl (fun c31 => ?_) (fun c31 => ?_)
        · first
            | (have e9 : onS (I (a + 1)) (I (a + 2)) x (i + 1) = onS (I (a + 1)) (I (a + 2)) x i := by (conv => lhs; unfold onS); rw [if_neg (fun h9 => by have h8 := h9.1; rw [i_le] at h8; rw [i_lt] at c31; omega)]
               rw [← e9])
            | (have e9 : onS (I (a + 1)) (I (a + 2)) x (i + 1) = onS (I (a + 1)) (I (a + 2)) x i := by (conv => lhs; unfold onS); rw [if_neg (fun h9 => by have h8 := h9.2; rw [i_lt] at h8; rw [i_le] at c42; omega)]
               rw [← e9])
            | (have e9 : onS (I (a + 1)) (I (a + 2)) x (i + 1) = (I (a + 1) i, I (a + 2) i) := by (conv => lhs; unfold onS); rw [if_pos ⟨by rw [i_le]; rw [i_lt] at c31; omega, by rw [i_lt]; rw [i_le] at c42; omega⟩]
               rw [show I (a + 1) i = (onS (I (a + 1)) (I (a + 2)) x (i + 1)).1 by rw [e9], show I (a + 2) i = (onS (I (a + 1)) (I (a + 2)) x (i + 1)).2 by rw [e9]])
          refine aw_iinc1 (pc2 := 64) hk dX4_on_61 rfl rfl (by decide) ?_
          refine aw_goto (tgt := 7) hk dX4_on_64 (by decide) ?_
          exact ih (i + 1) (by omega) (by omega)
        · refine aw_aload_n (pc2 := 35) hk dX4_on_34 rfl rfl ?_
          refine aw_get (pc2 := 38) hk ckX4 1 dX4_on_35 rfl fl_X4_9 (by decide) (o_X4 ha) rfl ?_
          refine aw_iload (pc2 := 40) hk dX4_on_38 rfl rfl ?_
          refine h_iald (pc2 := 41) hk dX4_on_40 rfl ha1 rfl (by omega) (by decide) ?_
          refine aw_iload_n (pc2 := 42) hk dX4_on_41 rfl rfl ?_
          refine aw_icmp_le (tgt := 61) (pc2 := 45) hk dX4_on_42 (by decide) rfl (fun c42 => ?_) (fun c42 => ?_)
          · first
              | (have e9 : onS (I (a + 1)) (I (a + 2)) x (i + 1) = onS (I (a + 1)) (I (a + 2)) x i := by (conv => lhs; unfold onS); rw [if_neg (fun h9 => by have h8 := h9.1; rw [i_le] at h8; rw [i_lt] at c31; omega)]
                 rw [← e9])
              | (have e9 : onS (I (a + 1)) (I (a + 2)) x (i + 1) = onS (I (a + 1)) (I (a + 2)) x i := by (conv => lhs; unfold onS); rw [if_neg (fun h9 => by have h8 := h9.2; rw [i_lt] at h8; rw [i_le] at c42; omega)]
                 rw [← e9])
              | (have e9 : onS (I (a + 1)) (I (a + 2)) x (i + 1) = (I (a + 1) i, I (a + 2) i) := by (conv => lhs; unfold onS); rw [if_pos ⟨by rw [i_le]; rw [i_lt] at c31; omega, by rw [i_lt]; rw [i_le] at c42; omega⟩]
                 rw [show I (a + 1) i = (onS (I (a + 1)) (I (a + 2)) x (i + 1)).1 by rw [e9], show I (a + 2) i = (onS (I (a + 1)) (I (a + 2)) x (i + 1)).2 by rw [e9]])
            refine aw_iinc1 (pc2 := 64) hk dX4_on_61 rfl rfl (by decide) ?_
            refine aw_goto (tgt := 7) hk dX4_on_64 (by decide) ?_
            exact ih (i + 1) (by omega) (by omega)
          · refine aw_aload_n (pc2 := 46) hk dX4_on_45 rfl rfl ?_
            refine aw_get (pc2 := 49) hk ckX4 1 dX4_on_46 rfl fl_X4_9 (by decide) (o_X4 ha) rfl ?_
            refine aw_iload (pc2 := 51) hk dX4_on_49 rfl rfl ?_
            refine h_iald (pc2 := 52) hk dX4_on_51 rfl ha1 rfl (by omega) (by decide) ?_
            refine aw_istore_n (pc2 := 53) hk dX4_on_52 rfl (by decide) ?_
            refine aw_aload_n (pc2 := 54) hk dX4_on_53 rfl rfl ?_
            refine aw_get (pc2 := 57) hk ckX4 2 dX4_on_54 rfl fl_X4_15 (by decide) (o_X4 ha) rfl ?_
            refine aw_iload (pc2 := 59) hk dX4_on_57 rfl rfl ?_
            refine h_iald (pc2 := 60) hk dX4_on_59 rfl ha2 rfl (by omega) (by decide) ?_
            refine aw_istore_n (pc2 := 61) hk dX4_on_60 rfl (by decide) ?_
            first
              | (have e9 : onS (I (a + 1)) (I (a + 2)) x (i + 1) = onS (I (a + 1)) (I (a + 2)) x i := by (conv => lhs; unfold onS); rw [if_neg (fun h9 => by have h8 := h9.1; rw [i_le] at h8; rw [i_lt] at c31; omega)]
                 rw [← e9])
              | (have e9 : onS (I (a + 1)) (I (a + 2)) x (i + 1) = onS (I (a + 1)) (I (a + 2)) x i := by (conv => lhs; unfold onS); rw [if_neg (fun h9 => by have h8 := h9.2; rw [i_lt] at h8; rw [i_le] at c42; omega)]
                 rw [← e9])
              | (have e9 : onS (I (a + 1)) (I (a + 2)) x (i + 1) = (I (a + 1) i, I (a + 2) i) := by (conv => lhs; unfold onS); rw [if_pos ⟨by rw [i_le]; rw [i_lt] at c31; omega, by rw [i_lt]; rw [i_le] at c42; omega⟩]
                 rw [show I (a + 1) i = (onS (I (a + 1)) (I (a + 2)) x (i + 1)).1 by rw [e9], show I (a + 2) i = (onS (I (a + 1)) (I (a + 2)) x (i + 1)).2 by rw [e9]])
            refine aw_iinc1 (pc2 := 64) hk dX4_on_61 rfl rfl (by decide) ?_
            refine aw_goto (tgt := 7) hk dX4_on_64 (by decide) ?_
            exact ih (i + 1) (by omega) (by omega)
  refine aw_iconst (v := -1) (pc2 := 1) hk dX4_on_0 rfl (by decide) ?_
  refine aw_istore_n (pc2 := 2) hk dX4_on_1 rfl (by decide) ?_
  refine aw_iconst (v := 0) (pc2 := 3) hk dX4_on_2 rfl (by decide) ?_
  refine aw_istore_n (pc2 := 4) hk dX4_on_3 rfl (by decide) ?_
  refine aw_iconst (v := 0) (pc2 := 5) hk dX4_on_4 rfl (by decide) ?_
  refine aw_istore (pc2 := 7) hk dX4_on_5 rfl (by decide) ?_
  exact loop (c + 1) 0 (by omega) (by omega)
end
section
def anyB (g : Nat → Bool) : Nat → Bool
  | 0 => false
  | n + 1 => anyB g n || g n
def allB (g : Nat → Bool) : Nat → Bool
  | 0 => true
  | n + 1 => allB g n && g n
theorem anyB_t {g : Nat → Bool} : ∀ n, anyB g n = true ↔ ∃ j, j < n ∧ g j = true := by
  intro n
  induction n with
  | zero => simp [anyB]
  | succ n ih =>
    unfold anyB
    rw [Bool.or_eq_true, ih]
    constructor
    · rintro (⟨j, h1, h2⟩ | h)
      · exact ⟨j, by omega, h2⟩
      · exact ⟨n, by omega, h⟩
    · rintro ⟨j, h1, h2⟩
      by_cases h : j = n
      · subst h; exact Or.inr h2
      · exact Or.inl ⟨j, by omega, h2⟩
theorem allB_t {g : Nat → Bool} : ∀ n, allB g n = true ↔ ∀ j, j < n → g j = true := by
  intro n
  induction n with
  | zero => simp [allB]
  | succ n ih =>
    unfold allB
    rw [Bool.and_eq_true, ih]
    constructor
    · rintro ⟨h1, h2⟩ j hj
      by_cases h : j = n
      · subst h; exact h2
      · exact h1 j (by omega)
    · intro h
      exact ⟨fun j hj => h j (by omega), h n (by omega)⟩
theorem anyB_eq {g g' : Nat → Bool} (n : Nat) (h : ∀ i, i < n → g i = g' i) : anyB g n = anyB g' n := by
  induction n with
  | zero => rfl
  | succ n ih => unfold anyB; rw [ih (fun i hi => h i (by omega)), h n (by omega)]
theorem allB_eq {g g' : Nat → Bool} (n : Nat) (h : ∀ i, i < n → g i = g' i) : allB g n = allB g' n := by
  induction n with
  | zero => rfl
  | succ n ih => unfold allB; rw [ih (fun i hi => h i (by omega)), h n (by omega)]
/-- an order's cells: its object at a, m cases at the cells ca k -/
def ordOK (d : D2) (S : M2) (R : R2) (a m : Nat) (ca : Nat → Nat) : Prop := kd d a = (13, 0) ∧ kd d (a + 1) = (7, 12) ∧ m ≤ 12 ∧ S a 2 = nI m ∧ ∀ k, k < m → R (a + 1) k = some (ca k) ∧ kd d (ca k) = (10, 0) ∧ kd d (ca k + 1) = (3, 4)
def dnS (x : Int32) : Bool := x == 4 || x == 3
set_option maxHeartbeats 4000000 in
set_option maxRecDepth 100000 in
theorem t_ordBegin {n : Nat} {d : D2} {I : M2} {J : J2} {S : M2} {L : J2} {R : R2} {Q : QT} {a z : Nat} (ha : kd d a = (13, z)) {x y : Int32} (hq : Q none n (H5 d I J (u2 (u2 (u2 S a 0 x) a 1 y) a 2 0) L R)) : Calls yX3_begin cX3_begin 3 none rmX3_begin [.ref a, .int x, .int y] n (H5 d I J S L R) Q := by
  refine Calls.of (by decide) (Nat.le_of_ble_eq_true rfl) ?_
  intro K hk
  show AW K Q 0 0 0 [some (.ref a), some (.int x), some (.int y)] [] n (H5 d I J S L R)
  refine aw_aload_n (pc2 := 1) hk dX3_begin_0 rfl rfl ?_
  refine aw_iload_n (pc2 := 2) hk dX3_begin_1 rfl rfl ?_
  refine aw_put (pc2 := 5) hk ckX3 0 dX3_begin_2 rfl fl_X3_17 (by decide) rfl (o_X3 ha) (fun _ => rfl) (fun _ => rfl) (Nat.le_of_ble_eq_true rfl) ?_
  rw [p_X3_0 ha]
  refine aw_aload_n (pc2 := 6) hk dX3_begin_5 rfl rfl ?_
  refine aw_iload_n (pc2 := 7) hk dX3_begin_6 rfl rfl ?_
  refine aw_put (pc2 := 10) hk ckX3 1 dX3_begin_7 rfl fl_X3_21 (by decide) rfl (o_X3 ha) (fun _ => rfl) (fun _ => rfl) (Nat.le_of_ble_eq_true rfl) ?_
  rw [p_X3_1 ha]
  refine aw_aload_n (pc2 := 11) hk dX3_begin_10 rfl rfl ?_
  refine aw_iconst (v := 0) (pc2 := 12) hk dX3_begin_11 rfl (by decide) ?_
  refine aw_put (pc2 := 15) hk ckX3 2 dX3_begin_12 rfl fl_X3_24 (by decide) rfl (o_X3 ha) (fun _ => rfl) (fun _ => rfl) (Nat.le_of_ble_eq_true rfl) ?_
  rw [p_X3_2 ha]
  refine aw_vret hk dX3_begin_15 (Nat.le_of_ble_eq_true rfl) (Nat.le_of_ble_eq_true rfl) hq
set_option maxHeartbeats 4000000 in
set_option maxRecDepth 100000 in
theorem t_noticeEnd {n : Nat} {d : D2} {I : M2} {J : J2} {S : M2} {L : J2} {R : R2} {Q : QT} {a z : Nat} (ha : kd d a = (13, z)) (hq : Q (some (.int (S a 0 + S a 1))) n (H5 d I J S L R)) : Calls yX3_noticeEnd cX3_noticeEnd 1 (some .int) rmX3_noticeEnd [.ref a] n (H5 d I J S L R) Q := by
  refine Calls.of (by decide) (Nat.le_of_ble_eq_true rfl) ?_
  intro K hk
  show AW K Q 0 0 0 [some (.ref a)] [] n (H5 d I J S L R)
  refine aw_aload_n (pc2 := 1) hk dX3_noticeEnd_0 rfl rfl ?_
  refine aw_get (pc2 := 4) hk ckX3 0 dX3_noticeEnd_1 rfl fl_X3_17 (by decide) (o_X3 ha) rfl ?_
  refine aw_aload_n (pc2 := 5) hk dX3_noticeEnd_4 rfl rfl ?_
  refine aw_get (pc2 := 8) hk ckX3 1 dX3_noticeEnd_5 rfl fl_X3_21 (by decide) (o_X3 ha) rfl ?_
  refine aw_iadd (pc2 := 9) hk dX3_noticeEnd_8 rfl ?_
  refine aw_iret hk dX3_noticeEnd_9 (Nat.le_of_ble_eq_true rfl) (Nat.le_of_ble_eq_true rfl) hq
set_option maxHeartbeats 4000000 in
set_option maxRecDepth 100000 in
theorem t_caseAt {n : Nat} {d : D2} {I : M2} {J : J2} {S : M2} {L : J2} {R : R2} {Q : QT} {a m : Nat} {ca : Nat → Nat} (ho : ordOK d S R a m ca) {x : Int32} {j : Nat} (hx : x = nI j) (hj : j < m) (hq : Q (some (.ref (ca j))) n (H5 d I J S L R)) : Calls yX3_caseAt cX3_caseAt 2 (some (.object "LandTaken$Case")) rmX3_caseAt [.ref a, .int x] n (H5 d I J S L R) Q := by
  refine Calls.of (by decide) (Nat.le_of_ble_eq_true rfl) ?_
  intro K hk
  show AW K Q 0 0 0 [some (.ref a), some (.int x)] [] n (H5 d I J S L R)
  obtain ⟨ha, ha1, hm12, hm, hca⟩ := id ho
  refine aw_iload_n (pc2 := 1) hk dX3_caseAt_0 rfl rfl ?_
  refine aw_if_lt (tgt := 27) (pc2 := 4) hk dX3_caseAt_1 (by decide) rfl (fun c1 => absurd c1 (by rw [hx]; exact nI_pos (by omega))) (fun c1 => ?_)
  refine aw_iload_n (pc2 := 5) hk dX3_caseAt_4 rfl rfl ?_
  refine aw_aload_n (pc2 := 6) hk dX3_caseAt_5 rfl rfl ?_
  refine aw_get (pc2 := 9) hk ckX3 2 dX3_caseAt_6 rfl fl_X3_24 (by decide) (o_X3 ha) rfl ?_
  refine aw_icN_ge (x := j) (y := m) (tgt := 27) (pc2 := 12) hk dX3_caseAt_9 (by decide) rfl hx hm (by omega) (by omega) (fun c9 => absurd c9 (by omega)) (fun c9 => ?_)
  refine aw_iload_n (pc2 := 13) hk dX3_caseAt_12 rfl rfl ?_
  refine aw_bipush (v := 12) (pc2 := 15) hk dX3_caseAt_13 rfl (by decide) ?_
  refine aw_icN_ge (x := j) (y := 12) (tgt := 27) (pc2 := 18) hk dX3_caseAt_15 (by decide) rfl hx rfl (by omega) (by omega) (fun c15 => absurd c15 (by omega)) (fun c15 => ?_)
  refine aw_aload_n (pc2 := 19) hk dX3_caseAt_18 rfl rfl ?_
  refine aw_get (pc2 := 22) hk ckX3 3 dX3_caseAt_19 rfl fl_X3_11 (by decide) (o_X3 ha) rfl ?_
  refine aw_iload_n (pc2 := 23) hk dX3_caseAt_22 rfl rfl ?_
  refine h_aald (pc2 := 24) hk dX3_caseAt_23 rfl (Or.inr (Or.inr (Or.inr rfl))) ha1 hx (by omega) (by decide) (by rw [(hca j hj).1]) ?_
  refine aw_goto (tgt := 28) hk dX3_caseAt_24 (by decide) ?_
  refine aw_aret hk dX3_caseAt_28 (Nat.le_of_ble_eq_true rfl) (Nat.le_of_ble_eq_true rfl) hq
set_option maxHeartbeats 4000000 in
set_option maxRecDepth 100000 in
theorem t_caseAtN {n : Nat} {d : D2} {I : M2} {J : J2} {S : M2} {L : J2} {R : R2} {Q : QT} {a m : Nat} {ca : Nat → Nat} (ho : ordOK d S R a m ca) {x : Int32} (hx : ∀ j, x = nI j → ¬ j < m) (hq : Q (some .null) n (H5 d I J S L R)) : Calls yX3_caseAt cX3_caseAt 2 (some (.object "LandTaken$Case")) rmX3_caseAt [.ref a, .int x] n (H5 d I J S L R) Q := by
  refine Calls.of (by decide) (Nat.le_of_ble_eq_true rfl) ?_
  intro K hk
  show AW K Q 0 0 0 [some (.ref a), some (.int x)] [] n (H5 d I J S L R)
  obtain ⟨ha, ha1, hm12, hm, hca⟩ := id ho
  refine aw_iload_n (pc2 := 1) hk dX3_caseAt_0 rfl rfl ?_
  refine aw_if_lt (tgt := 27) (pc2 := 4) hk dX3_caseAt_1 (by decide) rfl (fun c1 => ?_) (fun c1 => ?_)
  · refine aw_null (pc2 := 28) hk dX3_caseAt_27 rfl ?_
    refine aw_aretN hk dX3_caseAt_28 (Nat.le_of_ble_eq_true rfl) (Nat.le_of_ble_eq_true rfl) hq
  · refine aw_iload_n (pc2 := 5) hk dX3_caseAt_4 rfl rfl ?_
    refine aw_aload_n (pc2 := 6) hk dX3_caseAt_5 rfl rfl ?_
    refine aw_get (pc2 := 9) hk ckX3 2 dX3_caseAt_6 rfl fl_X3_24 (by decide) (o_X3 ha) rfl ?_
    refine aw_icmp_ge (tgt := 27) (pc2 := 12) hk dX3_caseAt_9 (by decide) rfl (fun c9 => ?_) (fun c9 => ?_)
    · refine aw_null (pc2 := 28) hk dX3_caseAt_27 rfl ?_
      refine aw_aretN hk dX3_caseAt_28 (Nat.le_of_ble_eq_true rfl) (Nat.le_of_ble_eq_true rfl) hq
    · refine aw_iload_n (pc2 := 13) hk dX3_caseAt_12 rfl rfl ?_
      refine aw_bipush (v := 12) (pc2 := 15) hk dX3_caseAt_13 rfl (by decide) ?_
      refine aw_icmp_ge (tgt := 27) (pc2 := 18) hk dX3_caseAt_15 (by decide) rfl (fun c15 => absurd c15 (by rw [i_le, l12]; rw [hm, i_le, nI_toInt (by omega)] at c9; omega)) (fun c15 => ?_)
      exfalso
      rw [i_lt, l0] at c1
      rw [hm, i_le, nI_toInt (by omega)] at c9
      exact hx x.toInt.toNat (i_eq (by omega)) (by omega)
      
set_option maxHeartbeats 4000000 in
set_option maxRecDepth 100000 in
theorem t_hasReady {n : Nat} {d : D2} {I : M2} {J : J2} {S : M2} {L : J2} {R : R2} {Q : QT} {a m : Nat} {ca : Nat → Nat} (ho : ordOK d S R a m ca) (hq : Q (some (.int (bi (anyB (fun k => rdy (S (ca k) 2)) m)))) n (H5 d I J S L R)) : Calls yX3_hasReady cX3_hasReady 3 (some .boolean) rmX3_hasReady [.ref a] n (H5 d I J S L R) Q := by
  refine Calls.of (by decide) (Nat.le_of_ble_eq_true rfl) ?_
  intro K hk
  show AW K Q 0 0 0 [some (.ref a), none, none] [] n (H5 d I J S L R)
  obtain ⟨ha, ha1, hm12, hm, hca⟩ := id ho
  have loop : ∀ (k i : Nat), i ≤ m → m + 1 ≤ i + k → (∀ j, j < i → rdy (S (ca j) 2) = false) → AW K Q 0 0 2 [some (.ref a), some (.int (nI i)), none] [] n (H5 d I J S L R) := by
    intro k
    induction k with
    | zero => intro i h1 h2; omega
    | succ k ih =>
      intro i hi hn hno
      refine aw_iload_n (pc2 := 3) hk dX3_hasReady_2 rfl rfl ?_
      refine aw_aload_n (pc2 := 4) hk dX3_hasReady_3 rfl rfl ?_
      refine aw_get (pc2 := 7) hk ckX3 2 dX3_hasReady_4 rfl fl_X3_24 (by decide) (o_X3 ha) rfl ?_
      refine aw_icN_ge (x := i) (y := m) (tgt := 35) (pc2 := 10) hk dX3_hasReady_7 (by decide) rfl rfl hm (by omega) (by omega) (fun c7 => ?_) (fun c7 => ?_)
      · obtain rfl : i = m := by omega
        have hff : anyB (fun k => rdy (S (ca k) 2)) i = false := by
          apply Bool.eq_false_iff.mpr
          intro hh9
          obtain ⟨j, h1, h2⟩ := (anyB_t _).mp hh9
          rw [hno j h1] at h2
          cases h2
        refine aw_iconst (v := 0) (pc2 := 36) hk dX3_hasReady_35 rfl (by decide) ?_
        refine aw_zret (by first | exact Or.inl rfl | exact Or.inr rfl) hk dX3_hasReady_36 (Nat.le_of_ble_eq_true rfl) (Nat.le_of_ble_eq_true rfl) (by rw [hff] at hq; exact hq)
      · refine aw_aload_n (pc2 := 11) hk dX3_hasReady_10 rfl rfl ?_
        refine aw_iload_n (pc2 := 12) hk dX3_hasReady_11 rfl rfl ?_
        refine aw_cV (rm2 := rmX3_caseAt) (pc2 := 15) hk veX3_caseAt dX3_hasReady_12 rfl ml_X3_32 ⟨(Nat.le_of_ble_eq_true rfl), (Nat.le_of_ble_eq_true rfl)⟩ [_] rfl rfl (Nat.le_of_ble_eq_true rfl) (Nat.le_of_ble_eq_true rfl) (Nat.le_of_ble_eq_true rfl) (o_X3 ha) (t_caseAt ho rfl (by omega) ?_)
        refine aw_astore_n (pc2 := 16) hk dX3_hasReady_15 rfl (by decide) ?_
        refine aw_aload_n (pc2 := 17) hk dX3_hasReady_16 rfl rfl ?_
        refine aw_ifnull_r (pc2 := 20) hk dX3_hasReady_17 rfl ?_
        refine aw_aload_n (pc2 := 21) hk dX3_hasReady_20 rfl rfl ?_
        refine aw_cV (rm2 := rmX0_isReady) (pc2 := 24) hk veX0_isReady dX3_hasReady_21 rfl ml_X3_36 ⟨(Nat.le_of_ble_eq_true rfl), (Nat.le_of_ble_eq_true rfl)⟩ [] rfl rfl (Nat.le_of_ble_eq_true rfl) (Nat.le_of_ble_eq_true rfl) (Nat.le_of_ble_eq_true rfl) (o_X0 (hca i c7).2.1) (t_isReady (hca i c7).2.1 ?_)
        refine aw_if_eq (tgt := 29) (pc2 := 27) hk dX3_hasReady_24 (by decide) rfl (fun c24 => ?_) (fun c24 => ?_)
        · refine aw_iinc1 (pc2 := 32) hk dX3_hasReady_29 rfl rfl (by decide) ?_
          refine aw_goto (tgt := 2) hk dX3_hasReady_32 (by decide) ?_
          refine aw_fg 2 ?_
          exact ih (i + 1) (by omega) (by omega) (fun j hj => by by_cases h9 : j = i; (subst h9; exact bi_ff c24); exact hno j (by omega))
        · refine aw_iconst (v := 1) (pc2 := 28) hk dX3_hasReady_27 rfl (by decide) ?_
          refine aw_zret (by first | exact Or.inl rfl | exact Or.inr rfl) hk dX3_hasReady_28 (Nat.le_of_ble_eq_true rfl) (Nat.le_of_ble_eq_true rfl) (by rw [show anyB (fun k => rdy (S (ca k) 2)) m = true from (anyB_t m).mpr ⟨i, c7, bi_tt c24⟩] at hq; exact hq)
  refine aw_iconst (v := 0) (pc2 := 1) hk dX3_hasReady_0 rfl (by decide) ?_
  refine aw_istore_n (pc2 := 2) hk dX3_hasReady_1 rfl (by decide) ?_
  exact loop (m + 1) 0 (by omega) (by omega) (fun j hj => absurd hj (by omega))
set_option maxHeartbeats 4000000 in
set_option maxRecDepth 100000 in
theorem t_isDone {n : Nat} {d : D2} {I : M2} {J : J2} {S : M2} {L : J2} {R : R2} {Q : QT} {a m : Nat} {ca : Nat → Nat} (ho : ordOK d S R a m ca) (hq : Q (some (.int (bi (allB (fun k => dnS (S (ca k) 2)) m)))) n (H5 d I J S L R)) : Calls yX3_isDone cX3_isDone 3 (some .boolean) rmX3_isDone [.ref a] n (H5 d I J S L R) Q := by
  refine Calls.of (by decide) (Nat.le_of_ble_eq_true rfl) ?_
  intro K hk
  show AW K Q 0 0 0 [some (.ref a), none, none] [] n (H5 d I J S L R)
  obtain ⟨ha, ha1, hm12, hm, hca⟩ := id ho
  have loop : ∀ (k i : Nat), i ≤ m → m + 1 ≤ i + k → (∀ j, j < i → dnS (S (ca j) 2) = true) → AW K Q 0 0 2 [some (.ref a), some (.int (nI i)), none] [] n (H5 d I J S L R) := by
    intro k
    induction k with
    | zero => intro i h1 h2; omega
    | succ k ih =>
      intro i hi hn hyes
      refine aw_iload_n (pc2 := 3) hk dX3_isDone_2 rfl rfl ?_
      refine aw_aload_n (pc2 := 4) hk dX3_isDone_3 rfl rfl ?_
      refine aw_get (pc2 := 7) hk ckX3 2 dX3_isDone_4 rfl fl_X3_24 (by decide) (o_X3 ha) rfl ?_
      refine aw_icN_ge (x := i) (y := m) (tgt := 44) (pc2 := 10) hk dX3_isDone_7 (by decide) rfl rfl hm (by omega) (by omega) (fun c7 => ?_) (fun c7 => ?_)
      · obtain rfl : i = m := by omega
        refine aw_iconst (v := 1) (pc2 := 45) hk dX3_isDone_44 rfl (by decide) ?_
        refine aw_zret (by first | exact Or.inl rfl | exact Or.inr rfl) hk dX3_isDone_45 (Nat.le_of_ble_eq_true rfl) (Nat.le_of_ble_eq_true rfl) (by rw [(allB_t i).mpr hyes] at hq; exact hq)
      · refine aw_aload_n (pc2 := 11) hk dX3_isDone_10 rfl rfl ?_
        refine aw_iload_n (pc2 := 12) hk dX3_isDone_11 rfl rfl ?_
        refine aw_cV (rm2 := rmX3_caseAt) (pc2 := 15) hk veX3_caseAt dX3_isDone_12 rfl ml_X3_32 ⟨(Nat.le_of_ble_eq_true rfl), (Nat.le_of_ble_eq_true rfl)⟩ [_] rfl rfl (Nat.le_of_ble_eq_true rfl) (Nat.le_of_ble_eq_true rfl) (Nat.le_of_ble_eq_true rfl) (o_X3 ha) (t_caseAt ho rfl (by omega) ?_)
        refine aw_astore_n (pc2 := 16) hk dX3_isDone_15 rfl (by decide) ?_
        refine aw_aload_n (pc2 := 17) hk dX3_isDone_16 rfl rfl ?_
        refine aw_ifnull_r (pc2 := 20) hk dX3_isDone_17 rfl ?_
        refine aw_aload_n (pc2 := 21) hk dX3_isDone_20 rfl rfl ?_
        refine aw_get (pc2 := 24) hk ckX0 2 dX3_isDone_21 rfl fl_X3_40 (by decide) (o_X0 (hca i c7).2.1) rfl ?_
        refine aw_iconst (v := 4) (pc2 := 25) hk dX3_isDone_24 rfl (by decide) ?_
        refine aw_icmp_eq (tgt := 38) (pc2 := 28) hk dX3_isDone_25 (by decide) rfl (fun c25 => ?_) (fun c25 => ?_)
        · refine aw_iinc1 (pc2 := 41) hk dX3_isDone_38 rfl rfl (by decide) ?_
          refine aw_goto (tgt := 2) hk dX3_isDone_41 (by decide) ?_
          refine aw_fg 2 ?_
          exact ih (i + 1) (by omega) (by omega) (fun j hj => by by_cases h9 : j = i; (subst h9; simp [dnS, *]); exact hyes j (by omega))
        · refine aw_aload_n (pc2 := 29) hk dX3_isDone_28 rfl rfl ?_
          refine aw_get (pc2 := 32) hk ckX0 2 dX3_isDone_29 rfl fl_X3_40 (by decide) (o_X0 (hca i c7).2.1) rfl ?_
          refine aw_iconst (v := 3) (pc2 := 33) hk dX3_isDone_32 rfl (by decide) ?_
          refine aw_icmp_eq (tgt := 38) (pc2 := 36) hk dX3_isDone_33 (by decide) rfl (fun c33 => ?_) (fun c33 => ?_)
          · refine aw_iinc1 (pc2 := 41) hk dX3_isDone_38 rfl rfl (by decide) ?_
            refine aw_goto (tgt := 2) hk dX3_isDone_41 (by decide) ?_
            refine aw_fg 2 ?_
            exact ih (i + 1) (by omega) (by omega) (fun j hj => by by_cases h9 : j = i; (subst h9; simp [dnS, *]); exact hyes j (by omega))
          · have hff : allB (fun k => dnS (S (ca k) 2)) m = false := by
              apply Bool.eq_false_iff.mpr
              intro h9
              have := (allB_t m).mp h9 i c7
              simp [dnS, c25, c33] at this
            refine aw_iconst (v := 0) (pc2 := 37) hk dX3_isDone_36 rfl (by decide) ?_
            refine aw_zret (by first | exact Or.inl rfl | exact Or.inr rfl) hk dX3_isDone_37 (Nat.le_of_ble_eq_true rfl) (Nat.le_of_ble_eq_true rfl) (by rw [hff] at hq; exact hq)
  refine aw_iconst (v := 0) (pc2 := 1) hk dX3_isDone_0 rfl (by decide) ?_
  refine aw_istore_n (pc2 := 2) hk dX3_isDone_1 rfl (by decide) ?_
  exact loop (m + 1) 0 (by omega) (by omega) (fun j hj => absurd hj (by omega))
set_option maxHeartbeats 4000000 in
set_option maxRecDepth 100000 in
theorem t_lossOf {n : Nat} {d : D2} {I : M2} {J : J2} {S : M2} {L : J2} {R : R2} {Q : QT} {a m : Nat} {ca : Nat → Nat} (ho : ordOK d S R a m ca) {f : Int32} (hq : Q (some (.long (sL (fun k => if S (ca k) 0 = f then L (ca k) 7 else 0) m))) n (H5 d I J S L R)) : Calls yX3_lossOf cX3_lossOf 6 (some .long) rmX3_lossOf [.ref a, .int f] n (H5 d I J S L R) Q := by
  refine Calls.of (by decide) (Nat.le_of_ble_eq_true rfl) ?_
  intro K hk
  show AW K Q 0 0 0 [some (.ref a), some (.int f), none, none, none, none] [] n (H5 d I J S L R)
  obtain ⟨ha, ha1, hm12, hm, hca⟩ := id ho
  have loop : ∀ (k i : Nat), i ≤ m → m + 1 ≤ i + k → AW K Q 0 0 5 [some (.ref a), some (.int f), some (.long (sL (fun k => if S (ca k) 0 = f then L (ca k) 7 else 0) i)), none, some (.int (nI i)), none] [] n (H5 d I J S L R) := by
    intro k
    induction k with
    | zero => intro i h1 h2; omega
    | succ k ih =>
      intro i hi hn
      refine aw_iload (pc2 := 7) hk dX3_lossOf_5 rfl rfl ?_
      refine aw_aload_n (pc2 := 8) hk dX3_lossOf_7 rfl rfl ?_
      refine aw_get (pc2 := 11) hk ckX3 2 dX3_lossOf_8 rfl fl_X3_24 (by decide) (o_X3 ha) rfl ?_
      refine aw_icN_ge (x := i) (y := m) (tgt := 50) (pc2 := 14) hk dX3_lossOf_11 (by decide) rfl rfl hm (by omega) (by omega) (fun c11 => ?_) (fun c11 => ?_)
      · obtain rfl : i = m := by omega
        refine aw_lload_n (pc2 := 51) hk dX3_lossOf_50 rfl rfl ?_
        refine aw_lret hk dX3_lossOf_51 (Nat.le_of_ble_eq_true rfl) (Nat.le_of_ble_eq_true rfl) hq
      · refine aw_aload_n (pc2 := 15) hk dX3_lossOf_14 rfl rfl ?_
        refine aw_iload (pc2 := 17) hk dX3_lossOf_15 rfl rfl ?_
        refine aw_cV (rm2 := rmX3_caseAt) (pc2 := 20) hk veX3_caseAt dX3_lossOf_17 rfl ml_X3_32 ⟨(Nat.le_of_ble_eq_true rfl), (Nat.le_of_ble_eq_true rfl)⟩ [_] rfl rfl (Nat.le_of_ble_eq_true rfl) (Nat.le_of_ble_eq_true rfl) (Nat.le_of_ble_eq_true rfl) (o_X3 ha) (t_caseAt ho rfl (by omega) ?_)
        refine aw_astore (pc2 := 22) hk dX3_lossOf_20 rfl (by decide) ?_
        refine aw_aload (pc2 := 24) hk dX3_lossOf_22 rfl rfl ?_
        refine aw_ifnull_r (pc2 := 27) hk dX3_lossOf_24 rfl ?_
        refine aw_aload (pc2 := 29) hk dX3_lossOf_27 rfl rfl ?_
        refine aw_get (pc2 := 32) hk ckX0 0 dX3_lossOf_29 rfl fl_X3_43 (by decide) (o_X0 (hca i c11).2.1) rfl ?_
        refine aw_iload_n (pc2 := 33) hk dX3_lossOf_32 rfl rfl ?_
        refine aw_icmp_ne (tgt := 44) (pc2 := 36) hk dX3_lossOf_33 (by decide) rfl (fun c33 => ?_) (fun c33 => ?_)
        · first
            | (have e9 : sL (fun k => if S (ca k) 0 = f then L (ca k) 7 else 0) i = sL (fun k => if S (ca k) 0 = f then L (ca k) 7 else 0) (i + 1) := by (show _ = _ + (if _ then _ else _)); rw [if_neg c33]; exact (Int64.add_zero _).symm
               rw [e9])
            | (have e9 : sL (fun k => if S (ca k) 0 = f then L (ca k) 7 else 0) i + L (ca i) 7 = sL (fun k => if S (ca k) 0 = f then L (ca k) 7 else 0) (i + 1) := by (show _ = _ + (if _ then _ else _)); rw [if_pos c33]
               rw [e9])
          refine aw_iinc1 (pc2 := 47) hk dX3_lossOf_44 rfl rfl (by decide) ?_
          refine aw_goto (tgt := 5) hk dX3_lossOf_47 (by decide) ?_
          refine aw_fg 5 ?_
          exact ih (i + 1) (by omega) (by omega)
        · refine aw_lload_n (pc2 := 37) hk dX3_lossOf_36 rfl rfl ?_
          refine aw_aload (pc2 := 39) hk dX3_lossOf_37 rfl rfl ?_
          refine aw_get (pc2 := 42) hk ckX0 7 dX3_lossOf_39 rfl fl_X3_46 (by decide) (o_X0 (hca i c11).2.1) rfl ?_
          refine aw_ladd (pc2 := 43) hk dX3_lossOf_42 rfl ?_
          refine aw_lstore_n (pc2 := 44) hk dX3_lossOf_43 rfl (by decide) ?_
          first
            | (have e9 : sL (fun k => if S (ca k) 0 = f then L (ca k) 7 else 0) i = sL (fun k => if S (ca k) 0 = f then L (ca k) 7 else 0) (i + 1) := by (show _ = _ + (if _ then _ else _)); rw [if_neg c33]; exact (Int64.add_zero _).symm
               rw [e9])
            | (have e9 : sL (fun k => if S (ca k) 0 = f then L (ca k) 7 else 0) i + L (ca i) 7 = sL (fun k => if S (ca k) 0 = f then L (ca k) 7 else 0) (i + 1) := by (show _ = _ + (if _ then _ else _)); rw [if_pos c33]
               rw [e9])
          refine aw_iinc1 (pc2 := 47) hk dX3_lossOf_44 rfl rfl (by decide) ?_
          refine aw_goto (tgt := 5) hk dX3_lossOf_47 (by decide) ?_
          refine aw_fg 5 ?_
          exact ih (i + 1) (by omega) (by omega)
  refine aw_lconst (v := 0) (pc2 := 1) hk dX3_lossOf_0 rfl (by decide) ?_
  refine aw_lstore_n (pc2 := 2) hk dX3_lossOf_1 rfl (by decide) ?_
  refine aw_iconst (v := 0) (pc2 := 3) hk dX3_lossOf_2 rfl (by decide) ?_
  refine aw_istore (pc2 := 5) hk dX3_lossOf_3 rfl (by decide) ?_
  exact loop (m + 1) 0 (by omega) (by omega)
/-- the number of the largest piece, of like ones the first, by their sizes s -/
def bst (s : Nat → Int32) : Nat → Option Nat
  | 0 => none
  | k + 1 => match bst s k with
    | none => some k
    | some b => if s b < s k then some k else some b
theorem bst_lt (s : Nat → Int32) : ∀ k b, bst s k = some b → b < k := by
  intro k
  induction k with
  | zero => intro b h; cases h
  | succ k ih =>
    intro b h
    unfold bst at h
    split at h
    · cases h; omega
    · rename_i c hc
      have := ih c hc
      split at h <;> cases h <;> omega
theorem bst_eq {s s' : Nat → Int32} : ∀ k, (∀ j, j < k → s j = s' j) → bst s k = bst s' k := by
  intro k
  induction k with
  | zero => intro _; rfl
  | succ k ih =>
    intro h
    unfold bst
    rw [ih (fun j hj => h j (by omega))]
    split
    · rfl
    · rename_i b hb
      rw [h k (by omega), h b (by have := bst_lt s' k b hb; omega)]
/-- MAIN: by the house's place, else the largest -/
def mnC (pa s : Nat → Int32) (house : Int32) (k : Nat) : Int32 := if 0 ≤ house.toInt ∧ house.toInt < 256 ∧ pa house.toInt.toNat ≠ -1 then pa house.toInt.toNat else opI (bst s k)
set_option maxHeartbeats 4000000 in
set_option maxRecDepth 100000 in
theorem t_chosenMain {n : Nat} {d : D2} {I : M2} {J : J2} {S : M2} {L : J2} {R : R2} {Q : QT} {np : Nat} (hk0 : S 7 0 = nI np) (hk6 : np ≤ 256) {x : Int32} (hq : Q (some (.int (mnC (I 8) (I 9) x np))) n (H5 d I J S L R)) : Calls yX5_chosenMain cX5_chosenMain 4 (some .int) rmX5_chosenMain [.ref 7, .int x] n (H5 d I J S L R) Q := by
  refine Calls.of (by decide) (Nat.le_of_ble_eq_true rfl) ?_
  intro K hk
  show AW K Q 0 0 0 [some (.ref 7), some (.int x), none, none] [] n (H5 d I J S L R)
  have hN : ¬ (0 ≤ x.toInt ∧ x.toInt < 256 ∧ I 8 x.toInt.toNat ≠ -1) → AW K Q 0 0 28 [some (.ref 7), some (.int x), none, none] [] n (H5 d I J S L R) := by
    intro hno
    have hq2 : Q (some (.int (opI (bst (I 9) np)))) n (H5 d I J S L R) := by rw [show mnC (I 8) (I 9) x np = opI (bst (I 9) np) from if_neg hno] at hq; exact hq
    have loop : ∀ (k i : Nat), i ≤ np → np + 1 ≤ i + k → AW K Q 0 0 32 [some (.ref 7), some (.int x), some (.int (opI (bst (I 9) i))), some (.int (nI i))] [] n (H5 d I J S L R) := by
      intro k
      induction k with
      | zero => intro i h1 h2; omega
      | succ k ih =>
        intro i hi hn
        refine aw_iload_n (pc2 := 33) hk dX5_chosenMain_32 rfl rfl ?_
        refine aw_aload_n (pc2 := 34) hk dX5_chosenMain_33 rfl rfl ?_
        refine aw_get (pc2 := 37) hk ckX5 0 dX5_chosenMain_34 rfl fl_X5_28 (by decide) (o_X5 rfl) rfl ?_
        refine aw_icN_ge (x := i) (y := np) (tgt := 68) (pc2 := 40) hk dX5_chosenMain_37 (by decide) rfl rfl hk0 (by omega) (by omega) (fun c37 => ?_) (fun c37 => ?_)
        · obtain rfl : i = np := by omega
          refine aw_iload_n (pc2 := 69) hk dX5_chosenMain_68 rfl rfl ?_
          refine aw_iret hk dX5_chosenMain_69 (Nat.le_of_ble_eq_true rfl) (Nat.le_of_ble_eq_true rfl) hq2
        · refine aw_iload_n (pc2 := 41) hk dX5_chosenMain_40 rfl rfl ?_
          refine aw_iconst (v := -1) (pc2 := 42) hk dX5_chosenMain_41 rfl (by decide) ?_
          refine aw_icmp_eq (tgt := 60) (pc2 := 45) hk dX5_chosenMain_42 (by decide) rfl (fun c42 => ?_) (fun c42 => ?_)
          · refine aw_iload_n (pc2 := 61) hk dX5_chosenMain_60 rfl rfl ?_
            refine aw_istore_n (pc2 := 62) hk dX5_chosenMain_61 rfl (by decide) ?_
            first
              | (have e9 : opI (bst (I 9) i) = opI (bst (I 9) (i + 1)) := by (conv => rhs; unfold bst); rw [hq1]; simp only []; rw [if_neg (fun h9 => by rw [i_lt] at h9; rw [i_le] at c57; omega)]
                 rw [e9])
              | (have e9 : nI i = opI (bst (I 9) (i + 1)) := by (conv => rhs; unfold bst); rw [hq1]; simp only []; rw [if_pos (by rw [i_lt]; rw [i_le] at c57; omega)]; rfl
                 refine aw_lv [some (Value.ref 7), some (Value.int x), some (Value.int (opI (bst (I 9) (i + 1)))), some (Value.int (nI i))] (by rw [← e9]; rfl) ?_)
              | (have e9 : nI i = opI (bst (I 9) (i + 1)) := by (conv => rhs; unfold bst); rw [opI_none c42 (fun q h => by have := bst_lt _ _ _ h; omega)]; rfl
                 refine aw_lv [some (Value.ref 7), some (Value.int x), some (Value.int (opI (bst (I 9) (i + 1)))), some (Value.int (nI i))] (by rw [← e9]; rfl) ?_)
            refine aw_iinc1 (pc2 := 65) hk dX5_chosenMain_62 rfl rfl (by decide) ?_
            refine aw_goto (tgt := 32) hk dX5_chosenMain_65 (by decide) ?_
            exact ih (i + 1) (by omega) (by omega)
          · obtain ⟨q, hq1, hq2⟩ := opI_some c42
            have hq3 := bst_lt _ _ _ hq1
            refine aw_aload_n (pc2 := 46) hk dX5_chosenMain_45 rfl rfl ?_
            refine aw_get (v := .ref 9) (pc2 := 49) hk ckX5 3 dX5_chosenMain_46 rfl fl_X5_15 (by decide) (o_X5 rfl) rfl ?_
            refine aw_iload_n (pc2 := 50) hk dX5_chosenMain_49 rfl rfl ?_
            refine h_iald (pc2 := 51) hk dX5_chosenMain_50 rfl rfl rfl (by omega) (by decide) ?_
            refine aw_aload_n (pc2 := 52) hk dX5_chosenMain_51 rfl rfl ?_
            refine aw_get (v := .ref 9) (pc2 := 55) hk ckX5 3 dX5_chosenMain_52 rfl fl_X5_15 (by decide) (o_X5 rfl) rfl ?_
            refine aw_iload_n (pc2 := 56) hk dX5_chosenMain_55 rfl rfl ?_
            refine h_iald (pc2 := 57) hk dX5_chosenMain_56 rfl rfl hq2 (by omega) (by decide) ?_
            refine aw_icmp_le (tgt := 62) (pc2 := 60) hk dX5_chosenMain_57 (by decide) rfl (fun c57 => ?_) (fun c57 => ?_)
            · first
                | (have e9 : opI (bst (I 9) i) = opI (bst (I 9) (i + 1)) := by (conv => rhs; unfold bst); rw [hq1]; simp only []; rw [if_neg (fun h9 => by rw [i_lt] at h9; rw [i_le] at c57; omega)]
                   rw [e9])
                | (have e9 : nI i = opI (bst (I 9) (i + 1)) := by (conv => rhs; unfold bst); rw [hq1]; simp only []; rw [if_pos (by rw [i_lt]; rw [i_le] at c57; omega)]; rfl
                   refine aw_lv [some (Value.ref 7), some (Value.int x), some (Value.int (opI (bst (I 9) (i + 1)))), some (Value.int (nI i))] (by rw [← e9]; rfl) ?_)
                | (have e9 : nI i = opI (bst (I 9) (i + 1)) := by (conv => rhs; unfold bst); rw [opI_none c42 (fun q h => by have := bst_lt _ _ _ h; omega)]; rfl
                   refine aw_lv [some (Value.ref 7), some (Value.int x), some (Value.int (opI (bst (I 9) (i + 1)))), some (Value.int (nI i))] (by rw [← e9]; rfl) ?_)
              refine aw_iinc1 (pc2 := 65) hk dX5_chosenMain_62 rfl rfl (by decide) ?_
              refine aw_goto (tgt := 32) hk dX5_chosenMain_65 (by decide) ?_
              exact ih (i + 1) (by omega) (by omega)
            · refine aw_iload_n (pc2 := 61) hk dX5_chosenMain_60 rfl rfl ?_
              refine aw_istore_n (pc2 := 62) hk dX5_chosenMain_61 rfl (by decide) ?_
              first
                | (have e9 : opI (bst (I 9) i) = opI (bst (I 9) (i + 1)) := by (conv => rhs; unfold bst); rw [hq1]; simp only []; rw [if_neg (fun h9 => by rw [i_lt] at h9; rw [i_le] at c57; omega)]
                   rw [e9])
                | (have e9 : nI i = opI (bst (I 9) (i + 1)) := by (conv => rhs; unfold bst); rw [hq1]; simp only []; rw [if_pos (by rw [i_lt]; rw [i_le] at c57; omega)]; rfl
                   refine aw_lv [some (Value.ref 7), some (Value.int x), some (Value.int (opI (bst (I 9) (i + 1)))), some (Value.int (nI i))] (by rw [← e9]; rfl) ?_)
                | (have e9 : nI i = opI (bst (I 9) (i + 1)) := by (conv => rhs; unfold bst); rw [opI_none c42 (fun q h => by have := bst_lt _ _ _ h; omega)]; rfl
                   refine aw_lv [some (Value.ref 7), some (Value.int x), some (Value.int (opI (bst (I 9) (i + 1)))), some (Value.int (nI i))] (by rw [← e9]; rfl) ?_)
              refine aw_iinc1 (pc2 := 65) hk dX5_chosenMain_62 rfl rfl (by decide) ?_
              refine aw_goto (tgt := 32) hk dX5_chosenMain_65 (by decide) ?_
              exact ih (i + 1) (by omega) (by omega)
    refine aw_iconst (v := -1) (pc2 := 29) hk dX5_chosenMain_28 rfl (by decide) ?_
    refine aw_istore_n (pc2 := 30) hk dX5_chosenMain_29 rfl (by decide) ?_
    refine aw_iconst (v := 0) (pc2 := 31) hk dX5_chosenMain_30 rfl (by decide) ?_
    refine aw_istore_n (pc2 := 32) hk dX5_chosenMain_31 rfl (by decide) ?_
    exact loop (np + 1) 0 (by omega) (by omega)
  refine aw_iload_n (pc2 := 1) hk dX5_chosenMain_0 rfl rfl ?_
  refine aw_if_lt (tgt := 28) (pc2 := 4) hk dX5_chosenMain_1 (by decide) rfl (fun c1 => ?_) (fun c1 => ?_)
  · first
      | exact hN (fun h9 => by simp only [i_lt, i_le, l0, l256] at *; omega)
      | exact hN (fun h9 => h9.2.2 c18)
  · refine aw_iload_n (pc2 := 5) hk dX5_chosenMain_4 rfl rfl ?_
    refine aw_sipush (v := 256) (pc2 := 8) hk dX5_chosenMain_5 rfl (by decide) ?_
    refine aw_icmp_ge (tgt := 28) (pc2 := 11) hk dX5_chosenMain_8 (by decide) rfl (fun c8 => ?_) (fun c8 => ?_)
    · first
        | exact hN (fun h9 => by simp only [i_lt, i_le, l0, l256] at *; omega)
        | exact hN (fun h9 => h9.2.2 c18)
    · have hin : 0 ≤ x.toInt ∧ x.toInt < 256 := by simp only [i_lt, i_le, l0, l256] at *; omega
      have ex : x = nI x.toInt.toNat := i_eq (by omega)
      refine aw_aload_n (pc2 := 12) hk dX5_chosenMain_11 rfl rfl ?_
      refine aw_get (v := .ref 8) (pc2 := 15) hk ckX5 2 dX5_chosenMain_12 rfl fl_X5_9 (by decide) (o_X5 rfl) rfl ?_
      refine aw_iload_n (pc2 := 16) hk dX5_chosenMain_15 rfl rfl ?_
      refine h_iald (pc2 := 17) hk dX5_chosenMain_16 rfl rfl ex (by omega) (by decide) ?_
      refine aw_iconst (v := -1) (pc2 := 18) hk dX5_chosenMain_17 rfl (by decide) ?_
      refine aw_icmp_eq (tgt := 28) (pc2 := 21) hk dX5_chosenMain_18 (by decide) rfl (fun c18 => ?_) (fun c18 => ?_)
      · first
          | exact hN (fun h9 => by simp only [i_lt, i_le, l0, l256] at *; omega)
          | exact hN (fun h9 => h9.2.2 c18)
      · refine aw_aload_n (pc2 := 22) hk dX5_chosenMain_21 rfl rfl ?_
        refine aw_get (v := .ref 8) (pc2 := 25) hk ckX5 2 dX5_chosenMain_22 rfl fl_X5_9 (by decide) (o_X5 rfl) rfl ?_
        refine aw_iload_n (pc2 := 26) hk dX5_chosenMain_25 rfl rfl ?_
        refine h_iald (pc2 := 27) hk dX5_chosenMain_26 rfl rfl ex (by omega) (by decide) ?_
        refine aw_iret hk dX5_chosenMain_27 (Nat.le_of_ble_eq_true rfl) (Nat.le_of_ble_eq_true rfl) (by rw [show mnC (I 8) (I 9) x np = I 8 x.toInt.toNat from if_pos ⟨hin.1, hin.2, c18⟩] at hq; exact hq)
set_option maxHeartbeats 4000000 in
set_option maxRecDepth 100000 in
theorem t_hasWay {n : Nat} {d : D2} {I : M2} {J : J2} {S : M2} {L : J2} {R : R2} {Q : QT} {np : Nat} (hk0 : S 7 0 = nI np) (hk6 : np ≤ 256) {x : Int32} {j : Nat} (hx : x = nI j) (hj : j < np) (hq : Q (some (.int (bi (I 11 j != 0)))) n (H5 d I J S L R)) : Calls yX5_hasWay cX5_hasWay 2 (some .boolean) rmX5_hasWay [.ref 7, .int x] n (H5 d I J S L R) Q := by
  refine Calls.of (by decide) (Nat.le_of_ble_eq_true rfl) ?_
  intro K hk
  show AW K Q 0 0 0 [some (.ref 7), some (.int x)] [] n (H5 d I J S L R)
  refine aw_iload_n (pc2 := 1) hk dX5_hasWay_0 rfl rfl ?_
  refine aw_if_lt (tgt := 25) (pc2 := 4) hk dX5_hasWay_1 (by decide) rfl (fun c1 => absurd c1 (by rw [hx]; exact nI_pos (by omega))) (fun c1 => ?_)
  refine aw_iload_n (pc2 := 5) hk dX5_hasWay_4 rfl rfl ?_
  refine aw_aload_n (pc2 := 6) hk dX5_hasWay_5 rfl rfl ?_
  refine aw_get (pc2 := 9) hk ckX5 0 dX5_hasWay_6 rfl fl_X5_28 (by decide) (o_X5 rfl) rfl ?_
  refine aw_icN_ge (x := j) (y := np) (tgt := 25) (pc2 := 12) hk dX5_hasWay_9 (by decide) rfl hx hk0 (by omega) (by omega) (fun c9 => absurd c9 (by omega)) (fun c9 => ?_)
  refine aw_aload_n (pc2 := 13) hk dX5_hasWay_12 rfl rfl ?_
  refine aw_get (v := .ref 11) (pc2 := 16) hk ckX5 5 dX5_hasWay_13 rfl fl_X5_21 (by decide) (o_X5 rfl) rfl ?_
  refine aw_iload_n (pc2 := 17) hk dX5_hasWay_16 rfl rfl ?_
  refine h_zald (pc2 := 18) hk dX5_hasWay_17 rfl rfl hx (by omega) (by decide) ?_
  refine aw_if_eq (tgt := 25) (pc2 := 21) hk dX5_hasWay_18 (by decide) rfl (fun c18 => ?_) (fun c18 => ?_)
  · refine aw_iconst (v := 0) (pc2 := 26) hk dX5_hasWay_25 rfl (by decide) ?_
    refine aw_zret (by first | exact Or.inl rfl | exact Or.inr rfl) hk dX5_hasWay_26 (Nat.le_of_ble_eq_true rfl) (Nat.le_of_ble_eq_true rfl) (by simpa [bi, c18] using hq)
  · refine aw_iconst (v := 1) (pc2 := 22) hk dX5_hasWay_21 rfl (by decide) ?_
    refine aw_goto (tgt := 26) hk dX5_hasWay_22 (by decide) ?_
    refine aw_zret (by first | exact Or.inl rfl | exact Or.inr rfl) hk dX5_hasWay_26 (Nat.le_of_ble_eq_true rfl) (Nat.le_of_ble_eq_true rfl) (by simpa [bi, c18] using hq)
set_option maxHeartbeats 4000000 in
set_option maxRecDepth 100000 in
theorem t_hasWayN {n : Nat} {d : D2} {I : M2} {J : J2} {S : M2} {L : J2} {R : R2} {Q : QT} (hq : Q (some (.int 0)) n (H5 d I J S L R)) : Calls yX5_hasWay cX5_hasWay 2 (some .boolean) rmX5_hasWay [.ref 7, .int (-1)] n (H5 d I J S L R) Q := by
  refine Calls.of (by decide) (Nat.le_of_ble_eq_true rfl) ?_
  intro K hk
  show AW K Q 0 0 0 [some (.ref 7), some (.int (-1))] [] n (H5 d I J S L R)
  refine aw_iload_n (pc2 := 1) hk dX5_hasWay_0 rfl rfl ?_
  refine aw_if_lt (tgt := 25) (pc2 := 4) hk dX5_hasWay_1 (by decide) rfl (fun c1 => ?_) (fun c1 => absurd (by decide) c1)
  refine aw_iconst (v := 0) (pc2 := 26) hk dX5_hasWay_25 rfl (by decide) ?_
  refine aw_zret (by first | exact Or.inl rfl | exact Or.inr rfl) hk dX5_hasWay_26 (Nat.le_of_ble_eq_true rfl) (Nat.le_of_ble_eq_true rfl) hq
set_option maxHeartbeats 4000000 in
set_option maxRecDepth 100000 in
theorem t_worth {n : Nat} {d : D2} {I : M2} {J : J2} {S : M2} {L : J2} {R : R2} {Q : QT} {x : Int32} {j a : Nat} (hx : x = nI j) (hj : j < 256) (ha : kd d a = (1, 4)) (hso : ∀ p, p < 256 → ∃ k, k < 4 ∧ I 3 p = nI k) (hq : Q (some (.long (sL (fun c => if I 8 c = nI j then (prI I a c).toInt64 else 0) 256))) n (H5 d I J S L R)) : Calls yX5_worth cX5_worth 7 (some .long) rmX5_worth [.ref 7, .int x, .ref 1, .ref a] n (H5 d I J S L R) Q := by
  refine Calls.of (by decide) (Nat.le_of_ble_eq_true rfl) ?_
  intro K hk
  show AW K Q 0 0 0 [some (.ref 7), some (.int x), some (.ref 1), some (.ref a), none, none, none] [] n (H5 d I J S L R)
  subst hx
  have loop : ∀ (k i : Nat), i ≤ 256 → 256 + 1 ≤ i + k → AW K Q 0 0 13 [some (.ref 7), some (.int (nI j)), some (.ref 1), some (.ref a), some (.long (sL (fun c => if I 8 c = nI j then (prI I a c).toInt64 else 0) i)), none, some (.int (nI i))] [] n (H5 d I J S L R) := by
    intro k
    induction k with
    | zero => intro i h1 h2; omega
    | succ k ih =>
      intro i hi hn
      refine aw_iload (pc2 := 15) hk dX5_worth_13 rfl rfl ?_
      refine aw_sipush (v := 256) (pc2 := 18) hk dX5_worth_15 rfl (by decide) ?_
      refine aw_icN_ge (y := 256) (tgt := 51) (pc2 := 21) hk dX5_worth_18 (by decide) rfl rfl rfl (by omega) (by omega) (fun c18 => ?_) (fun c18 => ?_)
      · obtain rfl : i = 256 := by omega
        refine aw_lload (pc2 := 53) hk dX5_worth_51 rfl rfl ?_
        refine aw_lret hk dX5_worth_53 (Nat.le_of_ble_eq_true rfl) (Nat.le_of_ble_eq_true rfl) hq
      · refine aw_aload_n (pc2 := 22) hk dX5_worth_21 rfl rfl ?_
        refine aw_get (v := .ref 8) (pc2 := 25) hk ckX5 2 dX5_worth_22 rfl fl_X5_9 (by decide) (o_X5 rfl) rfl ?_
        refine aw_iload (pc2 := 27) hk dX5_worth_25 rfl rfl ?_
        refine h_iald (pc2 := 28) hk dX5_worth_27 rfl rfl rfl (by omega) (by decide) ?_
        refine aw_iload_n (pc2 := 29) hk dX5_worth_28 rfl rfl ?_
        refine aw_icmp_ne (tgt := 45) (pc2 := 32) hk dX5_worth_29 (by decide) rfl (fun c29 => ?_) (fun c29 => ?_)
        · first
            | (have e9 : sL (fun c => if I 8 c = nI j then (prI I a c).toInt64 else 0) i = sL (fun c => if I 8 c = nI j then (prI I a c).toInt64 else 0) (i + 1) := by (show _ = _ + (if _ then _ else _)); rw [if_neg c29]; exact (Int64.add_zero _).symm
               rw [e9])
            | (have e9 : sL (fun c => if I 8 c = nI j then (prI I a c).toInt64 else 0) i + (prI I a i).toInt64 = sL (fun c => if I 8 c = nI j then (prI I a c).toInt64 else 0) (i + 1) := by (show _ = _ + (if _ then _ else _)); rw [if_pos c29]
               rw [e9])
          refine aw_iinc1 (pc2 := 48) hk dX5_worth_45 rfl rfl (by decide) ?_
          refine aw_goto (tgt := 13) hk dX5_worth_48 (by decide) ?_
          exact ih (i + 1) (by omega) (by omega)
        · refine aw_lload (pc2 := 34) hk dX5_worth_32 rfl rfl ?_
          refine aw_aload_n (pc2 := 35) hk dX5_worth_34 rfl rfl ?_
          refine aw_iload (pc2 := 37) hk dX5_worth_35 rfl rfl ?_
          refine aw_aload_n (pc2 := 38) hk dX5_worth_37 rfl rfl ?_
          refine aw_cV (rm2 := rmX2_priceAt) (pc2 := 41) hk veX2_priceAt dX5_worth_38 rfl ml_X5_57 ⟨(Nat.le_of_ble_eq_true rfl), (Nat.le_of_ble_eq_true rfl)⟩ [_, _] rfl rfl (Nat.le_of_ble_eq_true rfl) (Nat.le_of_ble_eq_true rfl) (Nat.le_of_ble_eq_true rfl) (o_X2 rfl) (t_priceAt (by omega) ha (hso i (by omega)) ?_)
          refine aw_i2l (pc2 := 42) hk dX5_worth_41 rfl ?_
          refine aw_ladd (pc2 := 43) hk dX5_worth_42 rfl ?_
          refine aw_lstore (pc2 := 45) hk dX5_worth_43 rfl (by decide) ?_
          first
            | (have e9 : sL (fun c => if I 8 c = nI j then (prI I a c).toInt64 else 0) i = sL (fun c => if I 8 c = nI j then (prI I a c).toInt64 else 0) (i + 1) := by (show _ = _ + (if _ then _ else _)); rw [if_neg c29]; exact (Int64.add_zero _).symm
               rw [e9])
            | (have e9 : sL (fun c => if I 8 c = nI j then (prI I a c).toInt64 else 0) i + (prI I a i).toInt64 = sL (fun c => if I 8 c = nI j then (prI I a c).toInt64 else 0) (i + 1) := by (show _ = _ + (if _ then _ else _)); rw [if_pos c29]
               rw [e9])
          refine aw_iinc1 (pc2 := 48) hk dX5_worth_45 rfl rfl (by decide) ?_
          refine aw_goto (tgt := 13) hk dX5_worth_48 (by decide) ?_
          exact ih (i + 1) (by omega) (by omega)
  refine aw_iload_n (pc2 := 1) hk dX5_worth_0 rfl rfl ?_
  refine aw_iconst (v := -1) (pc2 := 2) hk dX5_worth_1 rfl (by decide) ?_
  refine aw_icmp_ne (tgt := 7) (pc2 := 5) hk dX5_worth_2 (by decide) rfl (fun c2 => ?_) (fun c2 => absurd c2 (nI_m1 (by omega)))
  refine aw_lconst (v := 0) (pc2 := 8) hk dX5_worth_7 rfl (by decide) ?_
  refine aw_lstore (pc2 := 10) hk dX5_worth_8 rfl (by decide) ?_
  refine aw_iconst (v := 0) (pc2 := 11) hk dX5_worth_10 rfl (by decide) ?_
  refine aw_istore (pc2 := 13) hk dX5_worth_11 rfl (by decide) ?_
  exact loop 257 0 (by omega) (by omega)
set_option maxHeartbeats 4000000 in
set_option maxRecDepth 100000 in
theorem t_worthN {n : Nat} {d : D2} {I : M2} {J : J2} {S : M2} {L : J2} {R : R2} {Q : QT} {a : Nat} (hq : Q (some (.long 0)) n (H5 d I J S L R)) : Calls yX5_worth cX5_worth 7 (some .long) rmX5_worth [.ref 7, .int (-1), .ref 1, .ref a] n (H5 d I J S L R) Q := by
  refine Calls.of (by decide) (Nat.le_of_ble_eq_true rfl) ?_
  intro K hk
  show AW K Q 0 0 0 [some (.ref 7), some (.int (-1)), some (.ref 1), some (.ref a), none, none, none] [] n (H5 d I J S L R)
  refine aw_iload_n (pc2 := 1) hk dX5_worth_0 rfl rfl ?_
  refine aw_iconst (v := -1) (pc2 := 2) hk dX5_worth_1 rfl (by decide) ?_
  refine aw_icmp_ne (tgt := 7) (pc2 := 5) hk dX5_worth_2 (by decide) rfl (fun c2 => absurd rfl c2) (fun c2 => ?_)
  refine aw_lconst (v := 0) (pc2 := 6) hk dX5_worth_5 rfl (by decide) ?_
  refine aw_lret hk dX5_worth_6 (Nat.le_of_ble_eq_true rfl) (Nat.le_of_ble_eq_true rfl) hq
def ptl (I S : M2) (i k : Nat) : Int32 := match k with
  | 0 => I 9 i
  | 1 => I 10 i
  | 2 => if nI i = S 7 1 then 1 else 0
  | _ => bi (I 11 i != 0)
set_option maxHeartbeats 4000000 in
set_option maxRecDepth 100000 in
theorem t_ptell {n : Nat} {d : D2} {I : M2} {J : J2} {S : M2} {L : J2} {R : R2} {Q : QT} {i k : Nat} (hi : i < 256) (hk4 : k < 4) (hq : Q (some (.int (ptl I S i k))) n (H5 d I J S L R)) : Calls yX5_tell cX5_tell 3 (some .int) rmX5_tell [.ref 7, .int (nI i), .int (nI k)] n (H5 d I J S L R) Q := by
  refine Calls.of (by decide) (Nat.le_of_ble_eq_true rfl) ?_
  intro K hk
  show AW K Q 0 0 0 [some (.ref 7), some (.int (nI i)), some (.int (nI k))] [] n (H5 d I J S L R)
  refine aw_iload_n (pc2 := 1) hk dX5_tell_0 rfl rfl ?_
  match k, hk4 with
  | 0, _ =>
    refine aw_tableIn (tgt := 28) (off := 27) hk dX5_tell_1 (by decide) (by decide) (by decide) (by decide) ?_
    refine aw_aload_n (pc2 := 29) hk dX5_tell_28 rfl rfl ?_
    refine aw_get (v := .ref 9) (pc2 := 32) hk ckX5 3 dX5_tell_29 rfl fl_X5_15 (by decide) (o_X5 rfl) rfl ?_
    refine aw_iload_n (pc2 := 33) hk dX5_tell_32 rfl rfl ?_
    refine h_iald (pc2 := 34) hk dX5_tell_33 rfl rfl rfl hi (by decide) ?_
    refine aw_iret hk dX5_tell_34 (Nat.le_of_ble_eq_true rfl) (Nat.le_of_ble_eq_true rfl) hq
  | 1, _ =>
    refine aw_tableIn (tgt := 35) (off := 34) hk dX5_tell_1 (by decide) (by decide) (by decide) (by decide) ?_
    refine aw_aload_n (pc2 := 36) hk dX5_tell_35 rfl rfl ?_
    refine aw_get (v := .ref 10) (pc2 := 39) hk ckX5 4 dX5_tell_36 rfl fl_X5_18 (by decide) (o_X5 rfl) rfl ?_
    refine aw_iload_n (pc2 := 40) hk dX5_tell_39 rfl rfl ?_
    refine h_iald (pc2 := 41) hk dX5_tell_40 rfl rfl rfl hi (by decide) ?_
    refine aw_iret hk dX5_tell_41 (Nat.le_of_ble_eq_true rfl) (Nat.le_of_ble_eq_true rfl) hq
  | 2, _ =>
    refine aw_tableIn (tgt := 42) (off := 41) hk dX5_tell_1 (by decide) (by decide) (by decide) (by decide) ?_
    refine aw_iload_n (pc2 := 43) hk dX5_tell_42 rfl rfl ?_
    refine aw_aload_n (pc2 := 44) hk dX5_tell_43 rfl rfl ?_
    refine aw_get (pc2 := 47) hk ckX5 1 dX5_tell_44 rfl fl_X5_46 (by decide) (o_X5 rfl) rfl ?_
    refine aw_icmp_ne (tgt := 54) (pc2 := 50) hk dX5_tell_47 (by decide) rfl (fun c47 => ?_) (fun c47 => ?_)
    · refine aw_iconst (v := 0) (pc2 := 55) hk dX5_tell_54 rfl (by decide) ?_
      refine aw_iret hk dX5_tell_55 (Nat.le_of_ble_eq_true rfl) (Nat.le_of_ble_eq_true rfl) (by first | (rw [show ptl I S i 2 = 1 from if_pos c47] at hq; exact hq) | (rw [show ptl I S i 2 = 0 from if_neg c47] at hq; exact hq))
    · refine aw_iconst (v := 1) (pc2 := 51) hk dX5_tell_50 rfl (by decide) ?_
      refine aw_goto (tgt := 55) hk dX5_tell_51 (by decide) ?_
      refine aw_iret hk dX5_tell_55 (Nat.le_of_ble_eq_true rfl) (Nat.le_of_ble_eq_true rfl) (by first | (rw [show ptl I S i 2 = 1 from if_pos c47] at hq; exact hq) | (rw [show ptl I S i 2 = 0 from if_neg c47] at hq; exact hq))
  | 3, _ =>
    refine aw_tableOut (tgt := 56) hk dX5_tell_1 (by decide) (by decide) ?_
    refine aw_aload_n (pc2 := 57) hk dX5_tell_56 rfl rfl ?_
    refine aw_get (v := .ref 11) (pc2 := 60) hk ckX5 5 dX5_tell_57 rfl fl_X5_21 (by decide) (o_X5 rfl) rfl ?_
    refine aw_iload_n (pc2 := 61) hk dX5_tell_60 rfl rfl ?_
    refine h_zald (pc2 := 62) hk dX5_tell_61 rfl rfl rfl hi (by decide) ?_
    refine aw_if_eq (tgt := 69) (pc2 := 65) hk dX5_tell_62 (by decide) rfl (fun c62 => ?_) (fun c62 => ?_)
    · refine aw_iconst (v := 0) (pc2 := 70) hk dX5_tell_69 rfl (by decide) ?_
      refine aw_iret hk dX5_tell_70 (Nat.le_of_ble_eq_true rfl) (Nat.le_of_ble_eq_true rfl) (by rw [show ptl I S i 3 = bi (I 11 i != 0) from rfl] at hq; simpa [bi, c62] using hq)
    · refine aw_iconst (v := 1) (pc2 := 66) hk dX5_tell_65 rfl (by decide) ?_
      refine aw_goto (tgt := 70) hk dX5_tell_66 (by decide) ?_
      refine aw_iret hk dX5_tell_70 (Nat.le_of_ble_eq_true rfl) (Nat.le_of_ble_eq_true rfl) (by rw [show ptl I S i 3 = bi (I 11 i != 0) from rfl] at hq; simpa [bi, c62] using hq)
end
