section
-- ===== PART A: goes FIRST, ahead of the names: the tables' words, and 'selects' of the private methods out of them =====
/-- a private method of a class that the tables say can be made, by its rows of tables_1 -/
def lw_okq (q : MethodName × Nat) : Prop := (q.1.cls ≠ "java/lang/invoke/MethodHandle" ∧ q.1.cls ≠ "java/lang/invoke/VarHandle") ∧ Cond.instantiable q.1.cls q.2 ∈ tables_1 ∧ Cond.privateMethod q.1 ∈ tables_1 ∧ Cond.instanceMethod q.1 ∈ tables_1
theorem lw_p0 : lw_okq (⟨"FlightDesk$Book", "leadBurnsOn", "(I)V"⟩, 15) := ⟨⟨by decide +kernel, by decide +kernel⟩, List.mem_of_getElem? (i := 77) (by decide +kernel), List.mem_of_getElem? (i := 197) (by decide +kernel), List.mem_of_getElem? (i := 198) (by decide +kernel)⟩
theorem lw_p1 : lw_okq (⟨"FlightDesk$Book", "leadWindsOn", "()V"⟩, 15) := ⟨⟨by decide +kernel, by decide +kernel⟩, List.mem_of_getElem? (i := 77) (by decide +kernel), List.mem_of_getElem? (i := 204) (by decide +kernel), List.mem_of_getElem? (i := 205) (by decide +kernel)⟩
theorem lw_p2 : lw_okq (⟨"FlightDesk$Scanner", "skipBlanks", "()I"⟩, 6) := ⟨⟨by decide +kernel, by decide +kernel⟩, List.mem_of_getElem? (i := 48) (by decide +kernel), List.mem_of_getElem? (i := 374) (by decide +kernel), List.mem_of_getElem? (i := 375) (by decide +kernel)⟩
theorem lw_p3 : lw_okq (⟨"FlightDesk$Scanner", "scanToken", "(I)I"⟩, 6) := ⟨⟨by decide +kernel, by decide +kernel⟩, List.mem_of_getElem? (i := 48) (by decide +kernel), List.mem_of_getElem? (i := 385) (by decide +kernel), List.mem_of_getElem? (i := 386) (by decide +kernel)⟩
theorem lw_p4 : lw_okq (⟨"FlightDesk$Scanner", "scanWord", "(I)I"⟩, 6) := ⟨⟨by decide +kernel, by decide +kernel⟩, List.mem_of_getElem? (i := 48) (by decide +kernel), List.mem_of_getElem? (i := 392) (by decide +kernel), List.mem_of_getElem? (i := 393) (by decide +kernel)⟩
theorem lw_p5 : lw_okq (⟨"FlightDesk$Scanner", "scanNumber", "(IZ)I"⟩, 6) := ⟨⟨by decide +kernel, by decide +kernel⟩, List.mem_of_getElem? (i := 48) (by decide +kernel), List.mem_of_getElem? (i := 399) (by decide +kernel), List.mem_of_getElem? (i := 400) (by decide +kernel)⟩
theorem lw_p6 : lw_okq (⟨"FlightDesk$Reader", "readLine", "()V"⟩, 5) := ⟨⟨by decide +kernel, by decide +kernel⟩, List.mem_of_getElem? (i := 42) (by decide +kernel), List.mem_of_getElem? (i := 403) (by decide +kernel), List.mem_of_getElem? (i := 404) (by decide +kernel)⟩
theorem lw_p7 : lw_okq (⟨"FlightDesk$Reader", "refuseToken", "()V"⟩, 5) := ⟨⟨by decide +kernel, by decide +kernel⟩, List.mem_of_getElem? (i := 42) (by decide +kernel), List.mem_of_getElem? (i := 407) (by decide +kernel), List.mem_of_getElem? (i := 408) (by decide +kernel)⟩
theorem lw_p8 : lw_okq (⟨"FlightDesk$Reader", "refuse", "(I)V"⟩, 5) := ⟨⟨by decide +kernel, by decide +kernel⟩, List.mem_of_getElem? (i := 42) (by decide +kernel), List.mem_of_getElem? (i := 411) (by decide +kernel), List.mem_of_getElem? (i := 412) (by decide +kernel)⟩
theorem lw_p9 : lw_okq (⟨"FlightDesk$Reader", "readLeg", "()V"⟩, 5) := ⟨⟨by decide +kernel, by decide +kernel⟩, List.mem_of_getElem? (i := 42) (by decide +kernel), List.mem_of_getElem? (i := 468) (by decide +kernel), List.mem_of_getElem? (i := 469) (by decide +kernel)⟩
theorem lw_p10 : lw_okq (⟨"FlightDesk$Reader", "number", "(II)I"⟩, 5) := ⟨⟨by decide +kernel, by decide +kernel⟩, List.mem_of_getElem? (i := 42) (by decide +kernel), List.mem_of_getElem? (i := 472) (by decide +kernel), List.mem_of_getElem? (i := 473) (by decide +kernel)⟩
theorem lw_p11 : lw_okq (⟨"FlightDesk$Reader", "nextToken", "()V"⟩, 5) := ⟨⟨by decide +kernel, by decide +kernel⟩, List.mem_of_getElem? (i := 42) (by decide +kernel), List.mem_of_getElem? (i := 476) (by decide +kernel), List.mem_of_getElem? (i := 477) (by decide +kernel)⟩
theorem lw_p12 : lw_okq (⟨"FlightDesk$Reader", "readLast", "([IIII)I"⟩, 5) := ⟨⟨by decide +kernel, by decide +kernel⟩, List.mem_of_getElem? (i := 42) (by decide +kernel), List.mem_of_getElem? (i := 483) (by decide +kernel), List.mem_of_getElem? (i := 484) (by decide +kernel)⟩
theorem lw_p13 : lw_okq (⟨"FlightDesk$Reader", "readWind", "()V"⟩, 5) := ⟨⟨by decide +kernel, by decide +kernel⟩, List.mem_of_getElem? (i := 42) (by decide +kernel), List.mem_of_getElem? (i := 488) (by decide +kernel), List.mem_of_getElem? (i := 489) (by decide +kernel)⟩
theorem lw_p14 : lw_okq (⟨"FlightDesk$Reader", "readBurn", "()V"⟩, 5) := ⟨⟨by decide +kernel, by decide +kernel⟩, List.mem_of_getElem? (i := 42) (by decide +kernel), List.mem_of_getElem? (i := 494) (by decide +kernel), List.mem_of_getElem? (i := 495) (by decide +kernel)⟩
theorem lw_p15 : lw_okq (⟨"FlightDesk$Reader", "toldBurnBelow", "(II)I"⟩, 5) := ⟨⟨by decide +kernel, by decide +kernel⟩, List.mem_of_getElem? (i := 42) (by decide +kernel), List.mem_of_getElem? (i := 498) (by decide +kernel), List.mem_of_getElem? (i := 499) (by decide +kernel)⟩
def lw_privs_1 : List (MethodName × Nat) := [(⟨"FlightDesk$Book", "leadBurnsOn", "(I)V"⟩, 15), (⟨"FlightDesk$Book", "leadWindsOn", "()V"⟩, 15), (⟨"FlightDesk$Scanner", "skipBlanks", "()I"⟩, 6), (⟨"FlightDesk$Scanner", "scanToken", "(I)I"⟩, 6), (⟨"FlightDesk$Scanner", "scanWord", "(I)I"⟩, 6), (⟨"FlightDesk$Scanner", "scanNumber", "(IZ)I"⟩, 6), (⟨"FlightDesk$Reader", "readLine", "()V"⟩, 5), (⟨"FlightDesk$Reader", "refuseToken", "()V"⟩, 5), (⟨"FlightDesk$Reader", "refuse", "(I)V"⟩, 5), (⟨"FlightDesk$Reader", "readLeg", "()V"⟩, 5), (⟨"FlightDesk$Reader", "number", "(II)I"⟩, 5), (⟨"FlightDesk$Reader", "nextToken", "()V"⟩, 5), (⟨"FlightDesk$Reader", "readLast", "([IIII)I"⟩, 5), (⟨"FlightDesk$Reader", "readWind", "()V"⟩, 5), (⟨"FlightDesk$Reader", "readBurn", "()V"⟩, 5), (⟨"FlightDesk$Reader", "toldBurnBelow", "(II)I"⟩, 5)]
theorem lw_r1 : ∀ q ∈ lw_privs_1, lw_okq q := List.forall_mem_cons.mpr ⟨lw_p0, List.forall_mem_cons.mpr ⟨lw_p1, List.forall_mem_cons.mpr ⟨lw_p2, List.forall_mem_cons.mpr ⟨lw_p3, List.forall_mem_cons.mpr ⟨lw_p4, List.forall_mem_cons.mpr ⟨lw_p5, List.forall_mem_cons.mpr ⟨lw_p6, List.forall_mem_cons.mpr ⟨lw_p7, List.forall_mem_cons.mpr ⟨lw_p8, List.forall_mem_cons.mpr ⟨lw_p9, List.forall_mem_cons.mpr ⟨lw_p10, List.forall_mem_cons.mpr ⟨lw_p11, List.forall_mem_cons.mpr ⟨lw_p12, List.forall_mem_cons.mpr ⟨lw_p13, List.forall_mem_cons.mpr ⟨lw_p14, List.forall_mem_cons.mpr ⟨lw_p15, fun _ h => absurd h List.not_mem_nil⟩⟩⟩⟩⟩⟩⟩⟩⟩⟩⟩⟩⟩⟩⟩⟩
theorem lw_p16 : lw_okq (⟨"FlightDesk$Reader", "toldBurnAbove", "(II)I"⟩, 5) := ⟨⟨by decide +kernel, by decide +kernel⟩, List.mem_of_getElem? (i := 42) (by decide +kernel), List.mem_of_getElem? (i := 503) (by decide +kernel), List.mem_of_getElem? (i := 504) (by decide +kernel)⟩
theorem lw_p17 : lw_okq (⟨"FlightDesk$Reader", "limitTold", "()I"⟩, 5) := ⟨⟨by decide +kernel, by decide +kernel⟩, List.mem_of_getElem? (i := 42) (by decide +kernel), List.mem_of_getElem? (i := 508) (by decide +kernel), List.mem_of_getElem? (i := 509) (by decide +kernel)⟩
theorem lw_p18 : lw_okq (⟨"FlightDesk$Reader", "wantSign", "()V"⟩, 5) := ⟨⟨by decide +kernel, by decide +kernel⟩, List.mem_of_getElem? (i := 42) (by decide +kernel), List.mem_of_getElem? (i := 517) (by decide +kernel), List.mem_of_getElem? (i := 518) (by decide +kernel)⟩
theorem lw_p19 : lw_okq (⟨"FlightDesk", "forgetPlans", "()V"⟩, 5) := ⟨⟨by decide +kernel, by decide +kernel⟩, List.mem_of_getElem? (i := 18) (by decide +kernel), List.mem_of_getElem? (i := 535) (by decide +kernel), List.mem_of_getElem? (i := 536) (by decide +kernel)⟩
theorem lw_p20 : lw_okq (⟨"FlightDesk", "planOf", "(I)LFlightDesk$Plan;"⟩, 5) := ⟨⟨by decide +kernel, by decide +kernel⟩, List.mem_of_getElem? (i := 18) (by decide +kernel), List.mem_of_getElem? (i := 590) (by decide +kernel), List.mem_of_getElem? (i := 591) (by decide +kernel)⟩
theorem lw_p21 : lw_okq (⟨"FlightDesk$Plan", "reckonTo", "(I[I)V"⟩, 13) := ⟨⟨by decide +kernel, by decide +kernel⟩, List.mem_of_getElem? (i := 246) (by decide +kernel), List.mem_of_getElem? (i := 602) (by decide +kernel), List.mem_of_getElem? (i := 603) (by decide +kernel)⟩
theorem lw_p22 : lw_okq (⟨"FlightDesk$Plan", "lower", "(II[I)Z"⟩, 13) := ⟨⟨by decide +kernel, by decide +kernel⟩, List.mem_of_getElem? (i := 246) (by decide +kernel), List.mem_of_getElem? (i := 611) (by decide +kernel), List.mem_of_getElem? (i := 612) (by decide +kernel)⟩
theorem lw_p23 : lw_okq (⟨"FlightDesk$Plan", "aheadOf", "(II[I)I"⟩, 13) := ⟨⟨by decide +kernel, by decide +kernel⟩, List.mem_of_getElem? (i := 246) (by decide +kernel), List.mem_of_getElem? (i := 615) (by decide +kernel), List.mem_of_getElem? (i := 616) (by decide +kernel)⟩
theorem lw_p24 : lw_okq (⟨"FlightDesk$Plan", "findBest", "()V"⟩, 13) := ⟨⟨by decide +kernel, by decide +kernel⟩, List.mem_of_getElem? (i := 246) (by decide +kernel), List.mem_of_getElem? (i := 627) (by decide +kernel), List.mem_of_getElem? (i := 628) (by decide +kernel)⟩
theorem lw_p25 : lw_okq (⟨"FlightDesk$Plan", "firstThatKeeps", "(III)I"⟩, 13) := ⟨⟨by decide +kernel, by decide +kernel⟩, List.mem_of_getElem? (i := 246) (by decide +kernel), List.mem_of_getElem? (i := 635) (by decide +kernel), List.mem_of_getElem? (i := 636) (by decide +kernel)⟩
theorem lw_p26 : lw_okq (⟨"FlightDesk", "greatestNeed", "(LFlightDesk$Way;I)I"⟩, 5) := ⟨⟨by decide +kernel, by decide +kernel⟩, List.mem_of_getElem? (i := 18) (by decide +kernel), List.mem_of_getElem? (i := 671) (by decide +kernel), List.mem_of_getElem? (i := 672) (by decide +kernel)⟩
theorem lw_p27 : lw_okq (⟨"FlightDesk$Plan", "reckonCarry", "()V"⟩, 13) := ⟨⟨by decide +kernel, by decide +kernel⟩, List.mem_of_getElem? (i := 246) (by decide +kernel), List.mem_of_getElem? (i := 721) (by decide +kernel), List.mem_of_getElem? (i := 722) (by decide +kernel)⟩
theorem lw_p28 : lw_okq (⟨"FlightDeskModel", "clear", "(I)V"⟩, 40) := ⟨⟨by decide +kernel, by decide +kernel⟩, List.mem_of_getElem? (i := 731) (by decide +kernel), List.mem_of_getElem? (i := 737) (by decide +kernel), List.mem_of_getElem? (i := 738) (by decide +kernel)⟩
theorem lw_p29 : lw_okq (⟨"FlightDeskModel", "next", "()V"⟩, 40) := ⟨⟨by decide +kernel, by decide +kernel⟩, List.mem_of_getElem? (i := 731) (by decide +kernel), List.mem_of_getElem? (i := 867) (by decide +kernel), List.mem_of_getElem? (i := 868) (by decide +kernel)⟩
theorem lw_p30 : lw_okq (⟨"FlightDeskModel", "sign", "(I)I"⟩, 40) := ⟨⟨by decide +kernel, by decide +kernel⟩, List.mem_of_getElem? (i := 731) (by decide +kernel), List.mem_of_getElem? (i := 871) (by decide +kernel), List.mem_of_getElem? (i := 872) (by decide +kernel)⟩
theorem lw_p31 : lw_okq (⟨"FlightDeskModel", "readNumber", "(Z)V"⟩, 40) := ⟨⟨by decide +kernel, by decide +kernel⟩, List.mem_of_getElem? (i := 731) (by decide +kernel), List.mem_of_getElem? (i := 881) (by decide +kernel), List.mem_of_getElem? (i := 882) (by decide +kernel)⟩
def lw_privs_2 : List (MethodName × Nat) := [(⟨"FlightDesk$Reader", "toldBurnAbove", "(II)I"⟩, 5), (⟨"FlightDesk$Reader", "limitTold", "()I"⟩, 5), (⟨"FlightDesk$Reader", "wantSign", "()V"⟩, 5), (⟨"FlightDesk", "forgetPlans", "()V"⟩, 5), (⟨"FlightDesk", "planOf", "(I)LFlightDesk$Plan;"⟩, 5), (⟨"FlightDesk$Plan", "reckonTo", "(I[I)V"⟩, 13), (⟨"FlightDesk$Plan", "lower", "(II[I)Z"⟩, 13), (⟨"FlightDesk$Plan", "aheadOf", "(II[I)I"⟩, 13), (⟨"FlightDesk$Plan", "findBest", "()V"⟩, 13), (⟨"FlightDesk$Plan", "firstThatKeeps", "(III)I"⟩, 13), (⟨"FlightDesk", "greatestNeed", "(LFlightDesk$Way;I)I"⟩, 5), (⟨"FlightDesk$Plan", "reckonCarry", "()V"⟩, 13), (⟨"FlightDeskModel", "clear", "(I)V"⟩, 40), (⟨"FlightDeskModel", "next", "()V"⟩, 40), (⟨"FlightDeskModel", "sign", "(I)I"⟩, 40), (⟨"FlightDeskModel", "readNumber", "(Z)V"⟩, 40)]
theorem lw_r2 : ∀ q ∈ lw_privs_2, lw_okq q := List.forall_mem_cons.mpr ⟨lw_p16, List.forall_mem_cons.mpr ⟨lw_p17, List.forall_mem_cons.mpr ⟨lw_p18, List.forall_mem_cons.mpr ⟨lw_p19, List.forall_mem_cons.mpr ⟨lw_p20, List.forall_mem_cons.mpr ⟨lw_p21, List.forall_mem_cons.mpr ⟨lw_p22, List.forall_mem_cons.mpr ⟨lw_p23, List.forall_mem_cons.mpr ⟨lw_p24, List.forall_mem_cons.mpr ⟨lw_p25, List.forall_mem_cons.mpr ⟨lw_p26, List.forall_mem_cons.mpr ⟨lw_p27, List.forall_mem_cons.mpr ⟨lw_p28, List.forall_mem_cons.mpr ⟨lw_p29, List.forall_mem_cons.mpr ⟨lw_p30, List.forall_mem_cons.mpr ⟨lw_p31, fun _ h => absurd h List.not_mem_nil⟩⟩⟩⟩⟩⟩⟩⟩⟩⟩⟩⟩⟩⟩⟩⟩
theorem lw_p32 : lw_okq (⟨"FlightDeskModel", "isGood", "()Z"⟩, 40) := ⟨⟨by decide +kernel, by decide +kernel⟩, List.mem_of_getElem? (i := 731) (by decide +kernel), List.mem_of_getElem? (i := 885) (by decide +kernel), List.mem_of_getElem? (i := 886) (by decide +kernel)⟩
theorem lw_p33 : lw_okq (⟨"FlightDeskModel", "readLine", "()V"⟩, 40) := ⟨⟨by decide +kernel, by decide +kernel⟩, List.mem_of_getElem? (i := 731) (by decide +kernel), List.mem_of_getElem? (i := 889) (by decide +kernel), List.mem_of_getElem? (i := 890) (by decide +kernel)⟩
theorem lw_p34 : lw_okq (⟨"FlightDeskModel", "limitHere", "()I"⟩, 40) := ⟨⟨by decide +kernel, by decide +kernel⟩, List.mem_of_getElem? (i := 731) (by decide +kernel), List.mem_of_getElem? (i := 893) (by decide +kernel), List.mem_of_getElem? (i := 894) (by decide +kernel)⟩
theorem lw_p35 : lw_okq (⟨"FlightDeskModel", "isWord", "(J)Z"⟩, 40) := ⟨⟨by decide +kernel, by decide +kernel⟩, List.mem_of_getElem? (i := 731) (by decide +kernel), List.mem_of_getElem? (i := 898) (by decide +kernel), List.mem_of_getElem? (i := 899) (by decide +kernel)⟩
theorem lw_p36 : lw_okq (⟨"FlightDeskModel", "wrong", "()V"⟩, 40) := ⟨⟨by decide +kernel, by decide +kernel⟩, List.mem_of_getElem? (i := 731) (by decide +kernel), List.mem_of_getElem? (i := 910) (by decide +kernel), List.mem_of_getElem? (i := 911) (by decide +kernel)⟩
theorem lw_p37 : lw_okq (⟨"FlightDeskModel", "fails", "(II)V"⟩, 40) := ⟨⟨by decide +kernel, by decide +kernel⟩, List.mem_of_getElem? (i := 731) (by decide +kernel), List.mem_of_getElem? (i := 914) (by decide +kernel), List.mem_of_getElem? (i := 915) (by decide +kernel)⟩
theorem lw_p38 : lw_okq (⟨"FlightDeskModel", "numeral", "(II)I"⟩, 40) := ⟨⟨by decide +kernel, by decide +kernel⟩, List.mem_of_getElem? (i := 731) (by decide +kernel), List.mem_of_getElem? (i := 919) (by decide +kernel), List.mem_of_getElem? (i := 920) (by decide +kernel)⟩
theorem lw_p39 : lw_okq (⟨"FlightDeskModel", "readLeg", "()V"⟩, 40) := ⟨⟨by decide +kernel, by decide +kernel⟩, List.mem_of_getElem? (i := 731) (by decide +kernel), List.mem_of_getElem? (i := 923) (by decide +kernel), List.mem_of_getElem? (i := 924) (by decide +kernel)⟩
theorem lw_p40 : lw_okq (⟨"FlightDeskModel", "readOne", "([III)V"⟩, 40) := ⟨⟨by decide +kernel, by decide +kernel⟩, List.mem_of_getElem? (i := 731) (by decide +kernel), List.mem_of_getElem? (i := 929) (by decide +kernel), List.mem_of_getElem? (i := 930) (by decide +kernel)⟩
theorem lw_p41 : lw_okq (⟨"FlightDeskModel", "twice", "(Z)V"⟩, 40) := ⟨⟨by decide +kernel, by decide +kernel⟩, List.mem_of_getElem? (i := 731) (by decide +kernel), List.mem_of_getElem? (i := 933) (by decide +kernel), List.mem_of_getElem? (i := 934) (by decide +kernel)⟩
theorem lw_p42 : lw_okq (⟨"FlightDeskModel", "readWind", "()V"⟩, 40) := ⟨⟨by decide +kernel, by decide +kernel⟩, List.mem_of_getElem? (i := 731) (by decide +kernel), List.mem_of_getElem? (i := 937) (by decide +kernel), List.mem_of_getElem? (i := 938) (by decide +kernel)⟩
theorem lw_p43 : lw_okq (⟨"FlightDeskModel", "readBurn", "()V"⟩, 40) := ⟨⟨by decide +kernel, by decide +kernel⟩, List.mem_of_getElem? (i := 731) (by decide +kernel), List.mem_of_getElem? (i := 944) (by decide +kernel), List.mem_of_getElem? (i := 945) (by decide +kernel)⟩
theorem lw_p44 : lw_okq (⟨"FlightDeskModel", "speed", "(I)I"⟩, 40) := ⟨⟨by decide +kernel, by decide +kernel⟩, List.mem_of_getElem? (i := 731) (by decide +kernel), List.mem_of_getElem? (i := 959) (by decide +kernel), List.mem_of_getElem? (i := 960) (by decide +kernel)⟩
theorem lw_p45 : lw_okq (⟨"FlightDeskModel", "isLeg", "(I)Z"⟩, 40) := ⟨⟨by decide +kernel, by decide +kernel⟩, List.mem_of_getElem? (i := 731) (by decide +kernel), List.mem_of_getElem? (i := 966) (by decide +kernel), List.mem_of_getElem? (i := 967) (by decide +kernel)⟩
theorem lw_p46 : lw_okq (⟨"FlightDeskModel", "wind", "(III)I"⟩, 40) := ⟨⟨by decide +kernel, by decide +kernel⟩, List.mem_of_getElem? (i := 731) (by decide +kernel), List.mem_of_getElem? (i := 970) (by decide +kernel), List.mem_of_getElem? (i := 971) (by decide +kernel)⟩
theorem lw_p47 : lw_okq (⟨"FlightDeskModel", "burn", "(II)I"⟩, 40) := ⟨⟨by decide +kernel, by decide +kernel⟩, List.mem_of_getElem? (i := 731) (by decide +kernel), List.mem_of_getElem? (i := 974) (by decide +kernel), List.mem_of_getElem? (i := 975) (by decide +kernel)⟩
def lw_privs_3 : List (MethodName × Nat) := [(⟨"FlightDeskModel", "isGood", "()Z"⟩, 40), (⟨"FlightDeskModel", "readLine", "()V"⟩, 40), (⟨"FlightDeskModel", "limitHere", "()I"⟩, 40), (⟨"FlightDeskModel", "isWord", "(J)Z"⟩, 40), (⟨"FlightDeskModel", "wrong", "()V"⟩, 40), (⟨"FlightDeskModel", "fails", "(II)V"⟩, 40), (⟨"FlightDeskModel", "numeral", "(II)I"⟩, 40), (⟨"FlightDeskModel", "readLeg", "()V"⟩, 40), (⟨"FlightDeskModel", "readOne", "([III)V"⟩, 40), (⟨"FlightDeskModel", "twice", "(Z)V"⟩, 40), (⟨"FlightDeskModel", "readWind", "()V"⟩, 40), (⟨"FlightDeskModel", "readBurn", "()V"⟩, 40), (⟨"FlightDeskModel", "speed", "(I)I"⟩, 40), (⟨"FlightDeskModel", "isLeg", "(I)Z"⟩, 40), (⟨"FlightDeskModel", "wind", "(III)I"⟩, 40), (⟨"FlightDeskModel", "burn", "(II)I"⟩, 40)]
theorem lw_r3 : ∀ q ∈ lw_privs_3, lw_okq q := List.forall_mem_cons.mpr ⟨lw_p32, List.forall_mem_cons.mpr ⟨lw_p33, List.forall_mem_cons.mpr ⟨lw_p34, List.forall_mem_cons.mpr ⟨lw_p35, List.forall_mem_cons.mpr ⟨lw_p36, List.forall_mem_cons.mpr ⟨lw_p37, List.forall_mem_cons.mpr ⟨lw_p38, List.forall_mem_cons.mpr ⟨lw_p39, List.forall_mem_cons.mpr ⟨lw_p40, List.forall_mem_cons.mpr ⟨lw_p41, List.forall_mem_cons.mpr ⟨lw_p42, List.forall_mem_cons.mpr ⟨lw_p43, List.forall_mem_cons.mpr ⟨lw_p44, List.forall_mem_cons.mpr ⟨lw_p45, List.forall_mem_cons.mpr ⟨lw_p46, List.forall_mem_cons.mpr ⟨lw_p47, fun _ h => absurd h List.not_mem_nil⟩⟩⟩⟩⟩⟩⟩⟩⟩⟩⟩⟩⟩⟩⟩⟩
theorem lw_p48 : lw_okq (⟨"FlightDeskModel", "climb", "(I)I"⟩, 40) := ⟨⟨by decide +kernel, by decide +kernel⟩, List.mem_of_getElem? (i := 731) (by decide +kernel), List.mem_of_getElem? (i := 978) (by decide +kernel), List.mem_of_getElem? (i := 979) (by decide +kernel)⟩
theorem lw_p49 : lw_okq (⟨"FlightDeskModel", "limit", "(I)I"⟩, 40) := ⟨⟨by decide +kernel, by decide +kernel⟩, List.mem_of_getElem? (i := 731) (by decide +kernel), List.mem_of_getElem? (i := 982) (by decide +kernel), List.mem_of_getElem? (i := 983) (by decide +kernel)⟩
theorem lw_p50 : lw_okq (⟨"FlightDeskModel", "canAsk", "(III)Z"⟩, 40) := ⟨⟨by decide +kernel, by decide +kernel⟩, List.mem_of_getElem? (i := 731) (by decide +kernel), List.mem_of_getElem? (i := 997) (by decide +kernel), List.mem_of_getElem? (i := 998) (by decide +kernel)⟩
theorem lw_p51 : lw_okq (⟨"FlightDeskModel", "takes", "(III)I"⟩, 40) := ⟨⟨by decide +kernel, by decide +kernel⟩, List.mem_of_getElem? (i := 731) (by decide +kernel), List.mem_of_getElem? (i := 1001) (by decide +kernel), List.mem_of_getElem? (i := 1002) (by decide +kernel)⟩
theorem lw_p52 : lw_okq (⟨"FlightDeskModel", "burnt", "(III)I"⟩, 40) := ⟨⟨by decide +kernel, by decide +kernel⟩, List.mem_of_getElem? (i := 731) (by decide +kernel), List.mem_of_getElem? (i := 1009) (by decide +kernel), List.mem_of_getElem? (i := 1010) (by decide +kernel)⟩
theorem lw_p53 : lw_okq (⟨"FlightDeskModel", "seek", "(I)Z"⟩, 40) := ⟨⟨by decide +kernel, by decide +kernel⟩, List.mem_of_getElem? (i := 731) (by decide +kernel), List.mem_of_getElem? (i := 1017) (by decide +kernel), List.mem_of_getElem? (i := 1018) (by decide +kernel)⟩
theorem lw_p54 : lw_okq (⟨"FlightDeskModel", "reckon", "(II)V"⟩, 40) := ⟨⟨by decide +kernel, by decide +kernel⟩, List.mem_of_getElem? (i := 731) (by decide +kernel), List.mem_of_getElem? (i := 1021) (by decide +kernel), List.mem_of_getElem? (i := 1022) (by decide +kernel)⟩
theorem lw_p55 : lw_okq (⟨"FlightDeskModel", "needFrom", "(II)I"⟩, 40) := ⟨⟨by decide +kernel, by decide +kernel⟩, List.mem_of_getElem? (i := 731) (by decide +kernel), List.mem_of_getElem? (i := 1026) (by decide +kernel), List.mem_of_getElem? (i := 1027) (by decide +kernel)⟩
theorem lw_p56 : lw_okq (⟨"FlightDeskModel", "climbsTo", "(II)I"⟩, 40) := ⟨⟨by decide +kernel, by decide +kernel⟩, List.mem_of_getElem? (i := 731) (by decide +kernel), List.mem_of_getElem? (i := 1030) (by decide +kernel), List.mem_of_getElem? (i := 1031) (by decide +kernel)⟩
theorem lw_p57 : lw_okq (⟨"FlightDeskModel", "needAlong", "(III)I"⟩, 40) := ⟨⟨by decide +kernel, by decide +kernel⟩, List.mem_of_getElem? (i := 731) (by decide +kernel), List.mem_of_getElem? (i := 1042) (by decide +kernel), List.mem_of_getElem? (i := 1043) (by decide +kernel)⟩
theorem lw_p58 : lw_okq (⟨"FlightDeskModel", "breaks", "(II)I"⟩, 40) := ⟨⟨by decide +kernel, by decide +kernel⟩, List.mem_of_getElem? (i := 731) (by decide +kernel), List.mem_of_getElem? (i := 1054) (by decide +kernel), List.mem_of_getElem? (i := 1055) (by decide +kernel)⟩
theorem lw_p59 : lw_okq (⟨"FlightDeskModel", "fly", "(II)Z"⟩, 40) := ⟨⟨by decide +kernel, by decide +kernel⟩, List.mem_of_getElem? (i := 731) (by decide +kernel), List.mem_of_getElem? (i := 1066) (by decide +kernel), List.mem_of_getElem? (i := 1067) (by decide +kernel)⟩
theorem lw_p60 : lw_okq (⟨"FlightDeskModel", "homeFrom", "(I)I"⟩, 40) := ⟨⟨by decide +kernel, by decide +kernel⟩, List.mem_of_getElem? (i := 731) (by decide +kernel), List.mem_of_getElem? (i := 1074) (by decide +kernel), List.mem_of_getElem? (i := 1075) (by decide +kernel)⟩
def lw_privs_4 : List (MethodName × Nat) := [(⟨"FlightDeskModel", "climb", "(I)I"⟩, 40), (⟨"FlightDeskModel", "limit", "(I)I"⟩, 40), (⟨"FlightDeskModel", "canAsk", "(III)Z"⟩, 40), (⟨"FlightDeskModel", "takes", "(III)I"⟩, 40), (⟨"FlightDeskModel", "burnt", "(III)I"⟩, 40), (⟨"FlightDeskModel", "seek", "(I)Z"⟩, 40), (⟨"FlightDeskModel", "reckon", "(II)V"⟩, 40), (⟨"FlightDeskModel", "needFrom", "(II)I"⟩, 40), (⟨"FlightDeskModel", "climbsTo", "(II)I"⟩, 40), (⟨"FlightDeskModel", "needAlong", "(III)I"⟩, 40), (⟨"FlightDeskModel", "breaks", "(II)I"⟩, 40), (⟨"FlightDeskModel", "fly", "(II)Z"⟩, 40), (⟨"FlightDeskModel", "homeFrom", "(I)I"⟩, 40)]
theorem lw_r4 : ∀ q ∈ lw_privs_4, lw_okq q := List.forall_mem_cons.mpr ⟨lw_p48, List.forall_mem_cons.mpr ⟨lw_p49, List.forall_mem_cons.mpr ⟨lw_p50, List.forall_mem_cons.mpr ⟨lw_p51, List.forall_mem_cons.mpr ⟨lw_p52, List.forall_mem_cons.mpr ⟨lw_p53, List.forall_mem_cons.mpr ⟨lw_p54, List.forall_mem_cons.mpr ⟨lw_p55, List.forall_mem_cons.mpr ⟨lw_p56, List.forall_mem_cons.mpr ⟨lw_p57, List.forall_mem_cons.mpr ⟨lw_p58, List.forall_mem_cons.mpr ⟨lw_p59, List.forall_mem_cons.mpr ⟨lw_p60, fun _ h => absurd h List.not_mem_nil⟩⟩⟩⟩⟩⟩⟩⟩⟩⟩⟩⟩⟩
def lw_privs : List (MethodName × Nat) := lw_privs_1 ++ (lw_privs_2 ++ (lw_privs_3 ++ (lw_privs_4)))
def lw_tbl : List Cond := k2_sels lw_privs ++ tables_1
theorem lw_privs_ok : ∀ q ∈ lw_privs, lw_okq q := by
  show ∀ q ∈ lw_privs_1 ++ (lw_privs_2 ++ (lw_privs_3 ++ (lw_privs_4))), lw_okq q
  exact List.forall_mem_append.mpr ⟨lw_r1, List.forall_mem_append.mpr ⟨lw_r2, List.forall_mem_append.mpr ⟨lw_r3, lw_r4⟩⟩⟩
end
section
/-! ===== BEGIN words of one list among another's, by their places ===== -/
theorem goodIn_r {big : List Cond} (ws : List Cond) (ps : List Nat) (hp : ws = ps.filterMap (fun i => big[i]?)) (h : ws.all goodWord = true) : GoodIn big ws := by
  intro w hw
  have h1 := List.all_eq_true.mp h w hw
  rw [hp] at hw
  obtain ⟨i, -, hi⟩ := List.mem_filterMap.mp hw
  have hm : w ∈ big := by first | exact List.mem_of_getElem? hi | exact List.getElem?_mem hi
  exact ⟨hm, good_of_word h1⟩
theorem goodIn_app {big a b : List Cond} (ha : GoodIn big a) (hb : GoodIn big b) : GoodIn big (a ++ b) := fun w h => (List.mem_append.mp h).elim (ha w) (hb w)
theorem goodIn_ca {big a b : List Cond} {c : Cond} (ha : GoodIn big (c :: a)) (hb : GoodIn big b) : GoodIn big (c :: (a ++ b)) := fun w h => (List.mem_cons.mp h).elim (fun e => ha w (List.mem_cons.mpr (Or.inl e))) (fun h => (List.mem_append.mp h).elim (fun h => ha w (List.mem_cons.mpr (Or.inr h))) (hb w))
theorem goodIn_sub {big ws : List Cond} (hm : ∀ w ∈ ws, w ∈ big) (h : ws.all goodWord = true) : GoodIn big ws := fun w hw => ⟨hm w hw, good_of_word (List.all_eq_true.mp h w hw)⟩
/-! ===== END ===== -/

/-! ===== BEGIN printed: names, fields, word lists, decode rows ===== -/
def RX0 : String := "FlightDesk$Book"
def TX0 : u_T := fun k => match k with
  | 0 => ("FlightDesk$Book", "legCount", "I", false)
  | 1 => ("FlightDesk$Book", "lineCount", "I", false)
  | 2 => ("FlightDesk$Book", "from", "[I", true)
  | 3 => ("FlightDesk$Book", "to", "[I", true)
  | 4 => ("FlightDesk$Book", "miles", "[I", true)
  | 5 => ("FlightDesk$Book", "lowest", "[I", true)
  | 6 => ("FlightDesk$Book", "highest", "[I", true)
  | 7 => ("FlightDesk$Book", "firstDay", "[I", true)
  | 8 => ("FlightDesk$Book", "lastDay", "[I", true)
  | 9 => ("FlightDesk$Book", "speed", "[I", true)
  | 10 => ("FlightDesk$Book", "wind", "[I", true)
  | 11 => ("FlightDesk$Book", "burn", "[I", true)
  | 12 => ("FlightDesk$Book", "climb", "[I", true)
  | 13 => ("FlightDesk$Book", "limit", "[I", true)
  | _ => ("FlightDesk$Book", "height", "[I", true)
def tyX0 : Nat → FieldType := fun k => match k with
  | 0 => .int
  | 1 => .int
  | 2 => .array .int
  | 3 => .array .int
  | 4 => .array .int
  | 5 => .array .int
  | 6 => .array .int
  | 7 => .array .int
  | 8 => .array .int
  | 9 => .array .int
  | 10 => .array .int
  | 11 => .array .int
  | 12 => .array .int
  | 13 => .array .int
  | _ => .array .int
abbrev wsX00 : List Cond := u_ws RX0 TX0 15
theorem nmX0 : ∀ a, a < 15 → ∀ b, b < 15 → a ≠ b → (TX0 a).2.1 ≠ (TX0 b).2.1 := by decide +kernel
theorem tyX0_ok : ∀ k, k < 15 → parseFieldDescriptor (TX0 k).2.2.1 = some (tyX0 k) := by decide +kernel
abbrev cX0_init : ByteArray := prog_2_method_1_code
def yX0_init : MethodName := ⟨RX0, "<init>", "()V"⟩
abbrev cX0_clear : ByteArray := prog_2_method_2_code
def yX0_clear : MethodName := ⟨RX0, "clear", "()V"⟩
abbrev cX0_leadOn : ByteArray := prog_2_method_3_code
def yX0_leadOn : MethodName := ⟨RX0, "leadOn", "()V"⟩
abbrev cX0_take : ByteArray := prog_2_method_4_code
def yX0_take : MethodName := ⟨RX0, "take", "(LFlightDesk$Book;)V"⟩
abbrev cX0_climbsTo : ByteArray := prog_2_method_5_code
def yX0_climbsTo : MethodName := ⟨RX0, "climbsTo", "(II)I"⟩
abbrev cX0_leadBurnsOn : ByteArray := prog_2_method_6_code
def yX0_leadBurnsOn : MethodName := ⟨RX0, "leadBurnsOn", "(I)V"⟩
abbrev cX0_leadWindsOn : ByteArray := prog_2_method_7_code
def yX0_leadWindsOn : MethodName := ⟨RX0, "leadWindsOn", "()V"⟩
abbrev cX0_putIfUntold : ByteArray := prog_2_method_8_code
def yX0_putIfUntold : MethodName := ⟨RX0, "putIfUntold", "([III)V"⟩
abbrev cX0_copy : ByteArray := prog_2_method_9_code
def yX0_copy : MethodName := ⟨RX0, "copy", "([I[I)V"⟩
def RX1 : String := "FlightDesk$Flight"
def TX1 : u_T := fun k => match k with
  | 0 => ("FlightDesk$Flight", "book", "LFlightDesk$Book;", true)
  | 1 => ("FlightDesk$Flight", "isSet", "Z", false)
  | 2 => ("FlightDesk$Flight", "from", "I", false)
  | 3 => ("FlightDesk$Flight", "to", "I", false)
  | 4 => ("FlightDesk$Flight", "day", "I", false)
  | 5 => ("FlightDesk$Flight", "reserve", "I", false)
  | _ => ("FlightDesk$Flight", "weight", "I", false)
def tyX1 : Nat → FieldType := fun k => match k with
  | 0 => .object "FlightDesk$Book"
  | 1 => .boolean
  | 2 => .int
  | 3 => .int
  | 4 => .int
  | 5 => .int
  | _ => .int
abbrev wsX10 : List Cond := u_ws RX1 TX1 7
theorem nmX1 : ∀ a, a < 7 → ∀ b, b < 7 → a ≠ b → (TX1 a).2.1 ≠ (TX1 b).2.1 := by decide +kernel
theorem tyX1_ok : ∀ k, k < 7 → parseFieldDescriptor (TX1 k).2.2.1 = some (tyX1 k) := by decide +kernel
abbrev cX1_init : ByteArray := prog_3_method_1_code
def yX1_init : MethodName := ⟨RX1, "<init>", "(LFlightDesk$Book;)V"⟩
abbrev cX1_set : ByteArray := prog_3_method_2_code
def yX1_set : MethodName := ⟨RX1, "set", "(IIIII)V"⟩
abbrev cX1_minutesOf : ByteArray := prog_3_method_3_code
def yX1_minutesOf : MethodName := ⟨RX1, "minutesOf", "(III)I"⟩
abbrev cX1_fuelOf : ByteArray := prog_3_method_4_code
def yX1_fuelOf : MethodName := ⟨RX1, "fuelOf", "(III)I"⟩
abbrev cX1_greatestLeft : ByteArray := prog_3_method_5_code
def yX1_greatestLeft : MethodName := ⟨RX1, "greatestLeft", "(III)I"⟩
abbrev cX1_brokenLaw : ByteArray := prog_3_method_6_code
def yX1_brokenLaw : MethodName := ⟨RX1, "brokenLaw", "(II)I"⟩
def RX2 : String := "FlightDesk$Plan"
def TX2 : u_T := fun k => match k with
  | 0 => ("FlightDesk$Plan", "book", "LFlightDesk$Book;", true)
  | 1 => ("FlightDesk$Plan", "flight", "LFlightDesk$Flight;", true)
  | 2 => ("FlightDesk$Plan", "world", "I", true)
  | 3 => ("FlightDesk$Plan", "best", "LFlightDesk$Way;", true)
  | 4 => ("FlightDesk$Plan", "hasWay", "Z", false)
  | 5 => ("FlightDesk$Plan", "isPrepared", "Z", false)
  | 6 => ("FlightDesk$Plan", "isBackReckoned", "Z", false)
  | 7 => ("FlightDesk$Plan", "isCarryReckoned", "Z", false)
  | 8 => ("FlightDesk$Plan", "carriable", "I", false)
  | 9 => ("FlightDesk$Plan", "minutes", "[I", true)
  | 10 => ("FlightDesk$Plan", "onward", "[I", true)
  | 11 => ("FlightDesk$Plan", "back", "[I", true)
  | _ => ("FlightDesk$Plan", "groundCarrying", "[I", true)
def tyX2 : Nat → FieldType := fun k => match k with
  | 0 => .object "FlightDesk$Book"
  | 1 => .object "FlightDesk$Flight"
  | 2 => .int
  | 3 => .object "FlightDesk$Way"
  | 4 => .boolean
  | 5 => .boolean
  | 6 => .boolean
  | 7 => .boolean
  | 8 => .int
  | 9 => .array .int
  | 10 => .array .int
  | 11 => .array .int
  | _ => .array .int
abbrev wsX20 : List Cond := u_ws RX2 TX2 13
theorem nmX2 : ∀ a, a < 13 → ∀ b, b < 13 → a ≠ b → (TX2 a).2.1 ≠ (TX2 b).2.1 := by decide +kernel
theorem tyX2_ok : ∀ k, k < 13 → parseFieldDescriptor (TX2 k).2.2.1 = some (tyX2 k) := by decide +kernel
abbrev cX2_init : ByteArray := prog_4_method_1_code
def yX2_init : MethodName := ⟨RX2, "<init>", "(LFlightDesk$Book;LFlightDesk$Flight;I)V"⟩
abbrev cX2_forget : ByteArray := prog_4_method_2_code
def yX2_forget : MethodName := ⟨RX2, "forget", "()V"⟩
abbrev cX2_prepare : ByteArray := prog_4_method_3_code
def yX2_prepare : MethodName := ⟨RX2, "prepare", "()V"⟩
abbrev cX2_minutesAlong : ByteArray := prog_4_method_4_code
def yX2_minutesAlong : MethodName := ⟨RX2, "minutesAlong", "(I)I"⟩
abbrev cX2_canStartWith : ByteArray := prog_4_method_5_code
def yX2_canStartWith : MethodName := ⟨RX2, "canStartWith", "(I)Z"⟩
abbrev cX2_fuelBehind : ByteArray := prog_4_method_6_code
def yX2_fuelBehind : MethodName := ⟨RX2, "fuelBehind", "(II)I"⟩
abbrev cX2_fuelHome : ByteArray := prog_4_method_7_code
def yX2_fuelHome : MethodName := ⟨RX2, "fuelHome", "(I)I"⟩
abbrev cX2_groundFor : ByteArray := prog_4_method_8_code
def yX2_groundFor : MethodName := ⟨RX2, "groundFor", "(LFlightDesk$Way;I)I"⟩
abbrev cX2_cheapestCarried : ByteArray := prog_4_method_9_code
def yX2_cheapestCarried : MethodName := ⟨RX2, "cheapestCarried", "(II)I"⟩
abbrev cX2_reckonCarry : ByteArray := prog_4_method_10_code
def yX2_reckonCarry : MethodName := ⟨RX2, "reckonCarry", "()V"⟩
abbrev cX2_reckonTo : ByteArray := prog_4_method_11_code
def yX2_reckonTo : MethodName := ⟨RX2, "reckonTo", "(I[I)V"⟩
abbrev cX2_lower : ByteArray := prog_4_method_12_code
def yX2_lower : MethodName := ⟨RX2, "lower", "(II[I)Z"⟩
abbrev cX2_aheadOf : ByteArray := prog_4_method_13_code
def yX2_aheadOf : MethodName := ⟨RX2, "aheadOf", "(II[I)I"⟩
abbrev cX2_findBest : ByteArray := prog_4_method_14_code
def yX2_findBest : MethodName := ⟨RX2, "findBest", "()V"⟩
abbrev cX2_firstThatKeeps : ByteArray := prog_4_method_15_code
def yX2_firstThatKeeps : MethodName := ⟨RX2, "firstThatKeeps", "(III)I"⟩
def RX3 : String := "FlightDesk$Reader"
def TX3 : u_T := fun k => match k with
  | 0 => ("FlightDesk$Reader", "scanner", "LFlightDesk$Scanner;", true)
  | 1 => ("FlightDesk$Reader", "draft", "LFlightDesk$Book;", true)
  | 2 => ("FlightDesk$Reader", "found", "I", false)
  | 3 => ("FlightDesk$Reader", "foundAt", "I", false)
  | _ => ("FlightDesk$Reader", "current", "I", false)
def tyX3 : Nat → FieldType := fun k => match k with
  | 0 => .object "FlightDesk$Scanner"
  | 1 => .object "FlightDesk$Book"
  | 2 => .int
  | 3 => .int
  | _ => .int
abbrev wsX30 : List Cond := u_ws RX3 TX3 5
theorem nmX3 : ∀ a, a < 5 → ∀ b, b < 5 → a ≠ b → (TX3 a).2.1 ≠ (TX3 b).2.1 := by decide +kernel
theorem tyX3_ok : ∀ k, k < 5 → parseFieldDescriptor (TX3 k).2.2.1 = some (tyX3 k) := by decide +kernel
abbrev cX3_init : ByteArray := prog_5_method_1_code
def yX3_init : MethodName := ⟨RX3, "<init>", "(LFlightDesk$Tape;)V"⟩
abbrev cX3_readTape : ByteArray := prog_5_method_2_code
def yX3_readTape : MethodName := ⟨RX3, "readTape", "()Z"⟩
abbrev cX3_readLine : ByteArray := prog_5_method_3_code
def yX3_readLine : MethodName := ⟨RX3, "readLine", "()V"⟩
abbrev cX3_readLeg : ByteArray := prog_5_method_4_code
def yX3_readLeg : MethodName := ⟨RX3, "readLeg", "()V"⟩
abbrev cX3_readWind : ByteArray := prog_5_method_5_code
def yX3_readWind : MethodName := ⟨RX3, "readWind", "()V"⟩
abbrev cX3_readBurn : ByteArray := prog_5_method_6_code
def yX3_readBurn : MethodName := ⟨RX3, "readBurn", "()V"⟩
abbrev cX3_readLast : ByteArray := prog_5_method_7_code
def yX3_readLast : MethodName := ⟨RX3, "readLast", "([IIII)I"⟩
abbrev cX3_limitTold : ByteArray := prog_5_method_8_code
def yX3_limitTold : MethodName := ⟨RX3, "limitTold", "()I"⟩
abbrev cX3_toldBurnBelow : ByteArray := prog_5_method_9_code
def yX3_toldBurnBelow : MethodName := ⟨RX3, "toldBurnBelow", "(II)I"⟩
abbrev cX3_toldBurnAbove : ByteArray := prog_5_method_10_code
def yX3_toldBurnAbove : MethodName := ⟨RX3, "toldBurnAbove", "(II)I"⟩
abbrev cX3_number : ByteArray := prog_5_method_11_code
def yX3_number : MethodName := ⟨RX3, "number", "(II)I"⟩
abbrev cX3_wantSign : ByteArray := prog_5_method_12_code
def yX3_wantSign : MethodName := ⟨RX3, "wantSign", "()V"⟩
abbrev cX3_nextToken : ByteArray := prog_5_method_13_code
def yX3_nextToken : MethodName := ⟨RX3, "nextToken", "()V"⟩
abbrev cX3_refuseToken : ByteArray := prog_5_method_14_code
def yX3_refuseToken : MethodName := ⟨RX3, "refuseToken", "()V"⟩
abbrev cX3_refuse : ByteArray := prog_5_method_15_code
def yX3_refuse : MethodName := ⟨RX3, "refuse", "(I)V"⟩
def RX4 : String := "FlightDesk$Scanner"
def TX4 : u_T := fun k => match k with
  | 0 => ("FlightDesk$Scanner", "tape", "LFlightDesk$Tape;", true)
  | 1 => ("FlightDesk$Scanner", "count", "I", false)
  | 2 => ("FlightDesk$Scanner", "kind", "[I", true)
  | 3 => ("FlightDesk$Scanner", "place", "[I", true)
  | 4 => ("FlightDesk$Scanner", "value", "[I", true)
  | _ => ("FlightDesk$Scanner", "next", "I", false)
def tyX4 : Nat → FieldType := fun k => match k with
  | 0 => .object "FlightDesk$Tape"
  | 1 => .int
  | 2 => .array .int
  | 3 => .array .int
  | 4 => .array .int
  | _ => .int
abbrev wsX40 : List Cond := u_ws RX4 TX4 6
theorem nmX4 : ∀ a, a < 6 → ∀ b, b < 6 → a ≠ b → (TX4 a).2.1 ≠ (TX4 b).2.1 := by decide +kernel
theorem tyX4_ok : ∀ k, k < 6 → parseFieldDescriptor (TX4 k).2.2.1 = some (tyX4 k) := by decide +kernel
abbrev cX4_init : ByteArray := prog_6_method_1_code
def yX4_init : MethodName := ⟨RX4, "<init>", "(LFlightDesk$Tape;)V"⟩
abbrev cX4_restart : ByteArray := prog_6_method_2_code
def yX4_restart : MethodName := ⟨RX4, "restart", "()V"⟩
abbrev cX4_scanLine : ByteArray := prog_6_method_3_code
def yX4_scanLine : MethodName := ⟨RX4, "scanLine", "()V"⟩
abbrev cX4_isWord : ByteArray := prog_6_method_4_code
def yX4_isWord : MethodName := ⟨RX4, "isWord", "(ILjava/lang/String;)Z"⟩
abbrev cX4_skipBlanks : ByteArray := prog_6_method_5_code
def yX4_skipBlanks : MethodName := ⟨RX4, "skipBlanks", "()I"⟩
abbrev cX4_scanToken : ByteArray := prog_6_method_6_code
def yX4_scanToken : MethodName := ⟨RX4, "scanToken", "(I)I"⟩
abbrev cX4_scanWord : ByteArray := prog_6_method_7_code
def yX4_scanWord : MethodName := ⟨RX4, "scanWord", "(I)I"⟩
abbrev cX4_scanNumber : ByteArray := prog_6_method_8_code
def yX4_scanNumber : MethodName := ⟨RX4, "scanNumber", "(IZ)I"⟩
abbrev cX4_isBlank : ByteArray := prog_6_method_9_code
def yX4_isBlank : MethodName := ⟨RX4, "isBlank", "(I)Z"⟩
abbrev cX4_isLetter : ByteArray := prog_6_method_10_code
def yX4_isLetter : MethodName := ⟨RX4, "isLetter", "(I)Z"⟩
abbrev cX4_isDigit : ByteArray := prog_6_method_11_code
def yX4_isDigit : MethodName := ⟨RX4, "isDigit", "(I)Z"⟩
def RX5 : String := "FlightDesk$Tape"
def TX5 : u_T := fun k => match k with
  | 0 => ("FlightDesk$Tape", "bytes", "[I", true)
  | _ => ("FlightDesk$Tape", "length", "I", false)
def tyX5 : Nat → FieldType := fun k => match k with
  | 0 => .array .int
  | _ => .int
abbrev wsX50 : List Cond := u_ws RX5 TX5 2
theorem nmX5 : ∀ a, a < 2 → ∀ b, b < 2 → a ≠ b → (TX5 a).2.1 ≠ (TX5 b).2.1 := by decide +kernel
theorem tyX5_ok : ∀ k, k < 2 → parseFieldDescriptor (TX5 k).2.2.1 = some (tyX5 k) := by decide +kernel
abbrev cX5_init : ByteArray := prog_7_method_1_code
def yX5_init : MethodName := ⟨RX5, "<init>", "()V"⟩
abbrev cX5_hasRoomFor : ByteArray := prog_7_method_2_code
def yX5_hasRoomFor : MethodName := ⟨RX5, "hasRoomFor", "(I)Z"⟩
abbrev cX5_put : ByteArray := prog_7_method_3_code
def yX5_put : MethodName := ⟨RX5, "put", "(I)V"⟩
abbrev cX5_byteAt : ByteArray := prog_7_method_4_code
def yX5_byteAt : MethodName := ⟨RX5, "byteAt", "(I)I"⟩
def RX6 : String := "FlightDesk$Way"
def TX6 : u_T := fun k => match k with
  | 0 => ("FlightDesk$Way", "count", "I", false)
  | 1 => ("FlightDesk$Way", "ground", "I", false)
  | 2 => ("FlightDesk$Way", "leg", "[I", true)
  | 3 => ("FlightDesk$Way", "level", "[I", true)
  | _ => ("FlightDesk$Way", "left", "[I", true)
def tyX6 : Nat → FieldType := fun k => match k with
  | 0 => .int
  | 1 => .int
  | 2 => .array .int
  | 3 => .array .int
  | _ => .array .int
abbrev wsX60 : List Cond := u_ws RX6 TX6 5
theorem nmX6 : ∀ a, a < 5 → ∀ b, b < 5 → a ≠ b → (TX6 a).2.1 ≠ (TX6 b).2.1 := by decide +kernel
theorem tyX6_ok : ∀ k, k < 5 → parseFieldDescriptor (TX6 k).2.2.1 = some (tyX6 k) := by decide +kernel
abbrev cX6_init : ByteArray := prog_8_method_1_code
def yX6_init : MethodName := ⟨RX6, "<init>", "()V"⟩
abbrev cX6_stageAhead : ByteArray := prog_8_method_2_code
def yX6_stageAhead : MethodName := ⟨RX6, "stageAhead", "(I)I"⟩
abbrev cX6_add : ByteArray := prog_8_method_3_code
def yX6_add : MethodName := ⟨RX6, "add", "(III)V"⟩
def RX7 : String := "FlightDesk"
def TX7 : u_T := fun k => match k with
  | 0 => ("FlightDesk", "tape", "LFlightDesk$Tape;", true)
  | 1 => ("FlightDesk", "reader", "LFlightDesk$Reader;", true)
  | 2 => ("FlightDesk", "book", "LFlightDesk$Book;", true)
  | 3 => ("FlightDesk", "flight", "LFlightDesk$Flight;", true)
  | _ => ("FlightDesk", "plans", "[LFlightDesk$Plan;", true)
def tyX7 : Nat → FieldType := fun k => match k with
  | 0 => .object "FlightDesk$Tape"
  | 1 => .object "FlightDesk$Reader"
  | 2 => .object "FlightDesk$Book"
  | 3 => .object "FlightDesk$Flight"
  | _ => .array (.object "FlightDesk$Plan")
abbrev wsX70 : List Cond := u_ws RX7 TX7 5
theorem nmX7 : ∀ a, a < 5 → ∀ b, b < 5 → a ≠ b → (TX7 a).2.1 ≠ (TX7 b).2.1 := by decide +kernel
theorem tyX7_ok : ∀ k, k < 5 → parseFieldDescriptor (TX7 k).2.2.1 = some (tyX7 k) := by decide +kernel
abbrev cX7_init : ByteArray := prog_1_method_1_code
def yX7_init : MethodName := ⟨RX7, "<init>", "()V"⟩
abbrev cX7_feed : ByteArray := prog_1_method_2_code
def yX7_feed : MethodName := ⟨RX7, "feed", "(IIIII)I"⟩
abbrev cX7_end : ByteArray := prog_1_method_3_code
def yX7_end : MethodName := ⟨RX7, "end", "(I)I"⟩
abbrev cX7_book : ByteArray := prog_1_method_4_code
def yX7_book : MethodName := ⟨RX7, "book", "()I"⟩
abbrev cX7_fault : ByteArray := prog_1_method_5_code
def yX7_fault : MethodName := ⟨RX7, "fault", "(I)I"⟩
abbrev cX7_flight : ByteArray := prog_1_method_6_code
def yX7_flight : MethodName := ⟨RX7, "flight", "(IIIII)Z"⟩
abbrev cX7_told : ByteArray := prog_1_method_7_code
def yX7_told : MethodName := ⟨RX7, "told", "(IIII)I"⟩
abbrev cX7_minutes : ByteArray := prog_1_method_8_code
def yX7_minutes : MethodName := ⟨RX7, "minutes", "(III)I"⟩
abbrev cX7_fuel : ByteArray := prog_1_method_9_code
def yX7_fuel : MethodName := ⟨RX7, "fuel", "(IIII)I"⟩
abbrev cX7_need : ByteArray := prog_1_method_10_code
def yX7_need : MethodName := ⟨RX7, "need", "(I)I"⟩
abbrev cX7_legs : ByteArray := prog_1_method_11_code
def yX7_legs : MethodName := ⟨RX7, "legs", "(I)I"⟩
abbrev cX7_leg : ByteArray := prog_1_method_12_code
def yX7_leg : MethodName := ⟨RX7, "leg", "(III)I"⟩
abbrev cX7_time : ByteArray := prog_1_method_13_code
def yX7_time : MethodName := ⟨RX7, "time", "(I)I"⟩
abbrev cX7_legal : ByteArray := prog_1_method_14_code
def yX7_legal : MethodName := ⟨RX7, "legal", "(I)I"⟩
abbrev cX7_borne : ByteArray := prog_1_method_15_code
def yX7_borne : MethodName := ⟨RX7, "borne", "(I)I"⟩
abbrev cX7_at : ByteArray := prog_1_method_16_code
def yX7_at : MethodName := ⟨RX7, "at", "(III)I"⟩
abbrev cX7_home : ByteArray := prog_1_method_17_code
def yX7_home : MethodName := ⟨RX7, "home", "(II)I"⟩
abbrev cX7_lastReturn : ByteArray := prog_1_method_18_code
def yX7_lastReturn : MethodName := ⟨RX7, "lastReturn", "(II)I"⟩
abbrev cX7_carry : ByteArray := prog_1_method_19_code
def yX7_carry : MethodName := ⟨RX7, "carry", "(III)I"⟩
abbrev cX7_about : ByteArray := prog_1_method_20_code
def yX7_about : MethodName := ⟨RX7, "about", "(I)I"⟩
abbrev cX7_forgetPlans : ByteArray := prog_1_method_21_code
def yX7_forgetPlans : MethodName := ⟨RX7, "forgetPlans", "()V"⟩
abbrev cX7_planOf : ByteArray := prog_1_method_22_code
def yX7_planOf : MethodName := ⟨RX7, "planOf", "(I)LFlightDesk$Plan;"⟩
abbrev cX7_greatestNeed : ByteArray := prog_1_method_23_code
def yX7_greatestNeed : MethodName := ⟨RX7, "greatestNeed", "(LFlightDesk$Way;I)I"⟩
abbrev cX7_within : ByteArray := prog_1_method_24_code
def yX7_within : MethodName := ⟨RX7, "within", "(II)Z"⟩
abbrev cX7_windIndex : ByteArray := prog_1_method_25_code
def yX7_windIndex : MethodName := ⟨RX7, "windIndex", "(III)I"⟩
abbrev cX7_burnIndex : ByteArray := prog_1_method_26_code
def yX7_burnIndex : MethodName := ⟨RX7, "burnIndex", "(II)I"⟩
abbrev cX7_legIndex : ByteArray := prog_1_method_27_code
def yX7_legIndex : MethodName := ⟨RX7, "legIndex", "(II)I"⟩
abbrev cX7_stageIndex : ByteArray := prog_1_method_28_code
def yX7_stageIndex : MethodName := ⟨RX7, "stageIndex", "(II)I"⟩
def RX8 : String := "FlightDeskModel"
def TX8 : u_T := fun k => match k with
  | 0 => ("FlightDeskModel", "tape", "[B", true)
  | 1 => ("FlightDeskModel", "text", "[B", true)
  | 2 => ("FlightDeskModel", "taped", "I", false)
  | 3 => ("FlightDeskModel", "size", "I", false)
  | 4 => ("FlightDeskModel", "faultKind", "I", false)
  | 5 => ("FlightDeskModel", "faultPlace", "I", false)
  | 6 => ("FlightDeskModel", "at", "I", false)
  | 7 => ("FlightDeskModel", "end", "I", false)
  | 8 => ("FlightDeskModel", "token", "I", false)
  | 9 => ("FlightDeskModel", "number", "I", false)
  | 10 => ("FlightDeskModel", "name", "J", false)
  | 11 => ("FlightDeskModel", "lineMany", "[I", true)
  | 12 => ("FlightDeskModel", "legMany", "[I", true)
  | 13 => ("FlightDeskModel", "lFrom", "[I", true)
  | 14 => ("FlightDeskModel", "lTo", "[I", true)
  | 15 => ("FlightDeskModel", "lMiles", "[I", true)
  | 16 => ("FlightDeskModel", "lLow", "[I", true)
  | 17 => ("FlightDeskModel", "lHigh", "[I", true)
  | 18 => ("FlightDeskModel", "lFirst", "[I", true)
  | 19 => ("FlightDeskModel", "lLast", "[I", true)
  | 20 => ("FlightDeskModel", "speeds", "[I", true)
  | 21 => ("FlightDeskModel", "winds", "[I", true)
  | 22 => ("FlightDeskModel", "burns", "[I", true)
  | 23 => ("FlightDeskModel", "climbs", "[I", true)
  | 24 => ("FlightDeskModel", "limits", "[I", true)
  | 25 => ("FlightDeskModel", "bank", "I", false)
  | 26 => ("FlightDeskModel", "rb", "I", false)
  | 27 => ("FlightDeskModel", "lastAt", "I", false)
  | 28 => ("FlightDeskModel", "start", "I", false)
  | 29 => ("FlightDeskModel", "goal", "I", false)
  | 30 => ("FlightDeskModel", "day", "I", false)
  | 31 => ("FlightDeskModel", "payload", "I", false)
  | 32 => ("FlightDeskModel", "reserve", "I", false)
  | 33 => ("FlightDeskModel", "hasFlight", "Z", false)
  | 34 => ("FlightDeskModel", "needs", "[I", true)
  | 35 => ("FlightDeskModel", "wLeg", "[I", true)
  | 36 => ("FlightDeskModel", "wLevel", "[I", true)
  | 37 => ("FlightDeskModel", "wMany", "I", false)
  | 38 => ("FlightDeskModel", "wNeed", "I", false)
  | _ => ("FlightDeskModel", "fuels", "[I", true)
def tyX8 : Nat → FieldType := fun k => match k with
  | 0 => .array .byte
  | 1 => .array .byte
  | 2 => .int
  | 3 => .int
  | 4 => .int
  | 5 => .int
  | 6 => .int
  | 7 => .int
  | 8 => .int
  | 9 => .int
  | 10 => .long
  | 11 => .array .int
  | 12 => .array .int
  | 13 => .array .int
  | 14 => .array .int
  | 15 => .array .int
  | 16 => .array .int
  | 17 => .array .int
  | 18 => .array .int
  | 19 => .array .int
  | 20 => .array .int
  | 21 => .array .int
  | 22 => .array .int
  | 23 => .array .int
  | 24 => .array .int
  | 25 => .int
  | 26 => .int
  | 27 => .int
  | 28 => .int
  | 29 => .int
  | 30 => .int
  | 31 => .int
  | 32 => .int
  | 33 => .boolean
  | 34 => .array .int
  | 35 => .array .int
  | 36 => .array .int
  | 37 => .int
  | 38 => .int
  | _ => .array .int
abbrev wsX80 : List Cond := u_ws RX8 TX8 40
theorem nmX8 : ∀ a, a < 40 → ∀ b, b < 40 → a ≠ b → (TX8 a).2.1 ≠ (TX8 b).2.1 := by decide +kernel
theorem tyX8_ok : ∀ k, k < 40 → parseFieldDescriptor (TX8 k).2.2.1 = some (tyX8 k) := by decide +kernel
abbrev cX8_sign : ByteArray := prog_10_method_1_code
def yX8_sign : MethodName := ⟨RX8, "sign", "(I)I"⟩
abbrev cX8_isLetter : ByteArray := prog_10_method_2_code
def yX8_isLetter : MethodName := ⟨RX8, "isLetter", "(I)Z"⟩
abbrev cX8_isDigit : ByteArray := prog_10_method_3_code
def yX8_isDigit : MethodName := ⟨RX8, "isDigit", "(I)Z"⟩
abbrev cX8_fails : ByteArray := prog_10_method_4_code
def yX8_fails : MethodName := ⟨RX8, "fails", "(II)V"⟩
abbrev cX8_isGood : ByteArray := prog_10_method_5_code
def yX8_isGood : MethodName := ⟨RX8, "isGood", "()Z"⟩
abbrev cX8_next : ByteArray := prog_10_method_6_code
def yX8_next : MethodName := ⟨RX8, "next", "()V"⟩
abbrev cX8_readNumber : ByteArray := prog_10_method_7_code
def yX8_readNumber : MethodName := ⟨RX8, "readNumber", "(Z)V"⟩
abbrev cX8_isWord : ByteArray := prog_10_method_8_code
def yX8_isWord : MethodName := ⟨RX8, "isWord", "(J)Z"⟩
abbrev cX8_wrong : ByteArray := prog_10_method_9_code
def yX8_wrong : MethodName := ⟨RX8, "wrong", "()V"⟩
abbrev cX8_init : ByteArray := prog_10_method_10_code
def yX8_init : MethodName := ⟨RX8, "<init>", "()V"⟩
abbrev cX8_clear : ByteArray := prog_10_method_11_code
def yX8_clear : MethodName := ⟨RX8, "clear", "(I)V"⟩
abbrev cX8_book : ByteArray := prog_10_method_12_code
def yX8_book : MethodName := ⟨RX8, "book", "()I"⟩
abbrev cX8_numeral : ByteArray := prog_10_method_13_code
def yX8_numeral : MethodName := ⟨RX8, "numeral", "(II)I"⟩
abbrev cX8_twice : ByteArray := prog_10_method_14_code
def yX8_twice : MethodName := ⟨RX8, "twice", "(Z)V"⟩
abbrev cX8_limitHere : ByteArray := prog_10_method_15_code
def yX8_limitHere : MethodName := ⟨RX8, "limitHere", "()I"⟩
abbrev cX8_readLine : ByteArray := prog_10_method_16_code
def yX8_readLine : MethodName := ⟨RX8, "readLine", "()V"⟩
abbrev cX8_readOne : ByteArray := prog_10_method_17_code
def yX8_readOne : MethodName := ⟨RX8, "readOne", "([III)V"⟩
abbrev cX8_readLeg : ByteArray := prog_10_method_18_code
def yX8_readLeg : MethodName := ⟨RX8, "readLeg", "()V"⟩
abbrev cX8_windSpot : ByteArray := prog_10_method_19_code
def yX8_windSpot : MethodName := ⟨RX8, "windSpot", "(IIII)I"⟩
abbrev cX8_readWind : ByteArray := prog_10_method_20_code
def yX8_readWind : MethodName := ⟨RX8, "readWind", "()V"⟩
abbrev cX8_readBurn : ByteArray := prog_10_method_21_code
def yX8_readBurn : MethodName := ⟨RX8, "readBurn", "()V"⟩
abbrev cX8_fault : ByteArray := prog_10_method_22_code
def yX8_fault : MethodName := ⟨RX8, "fault", "(I)I"⟩
abbrev cX8_speed : ByteArray := prog_10_method_23_code
def yX8_speed : MethodName := ⟨RX8, "speed", "(I)I"⟩
abbrev cX8_wind : ByteArray := prog_10_method_24_code
def yX8_wind : MethodName := ⟨RX8, "wind", "(III)I"⟩
abbrev cX8_burn : ByteArray := prog_10_method_25_code
def yX8_burn : MethodName := ⟨RX8, "burn", "(II)I"⟩
abbrev cX8_climb : ByteArray := prog_10_method_26_code
def yX8_climb : MethodName := ⟨RX8, "climb", "(I)I"⟩
abbrev cX8_limit : ByteArray := prog_10_method_27_code
def yX8_limit : MethodName := ⟨RX8, "limit", "(I)I"⟩
abbrev cX8_isLevel : ByteArray := prog_10_method_28_code
def yX8_isLevel : MethodName := ⟨RX8, "isLevel", "(I)Z"⟩
abbrev cX8_isWorld : ByteArray := prog_10_method_29_code
def yX8_isWorld : MethodName := ⟨RX8, "isWorld", "(I)Z"⟩
abbrev cX8_isLeg : ByteArray := prog_10_method_30_code
def yX8_isLeg : MethodName := ⟨RX8, "isLeg", "(I)Z"⟩
abbrev cX8_told : ByteArray := prog_10_method_31_code
def yX8_told : MethodName := ⟨RX8, "told", "(IIII)I"⟩
abbrev cX8_isPoint : ByteArray := prog_10_method_32_code
def yX8_isPoint : MethodName := ⟨RX8, "isPoint", "(I)Z"⟩
abbrev cX8_flight : ByteArray := prog_10_method_33_code
def yX8_flight : MethodName := ⟨RX8, "flight", "(IIIII)Z"⟩
abbrev cX8_takes : ByteArray := prog_10_method_34_code
def yX8_takes : MethodName := ⟨RX8, "takes", "(III)I"⟩
abbrev cX8_burnt : ByteArray := prog_10_method_35_code
def yX8_burnt : MethodName := ⟨RX8, "burnt", "(III)I"⟩
abbrev cX8_canAsk : ByteArray := prog_10_method_36_code
def yX8_canAsk : MethodName := ⟨RX8, "canAsk", "(III)Z"⟩
abbrev cX8_minutes : ByteArray := prog_10_method_37_code
def yX8_minutes : MethodName := ⟨RX8, "minutes", "(III)I"⟩
abbrev cX8_fuel : ByteArray := prog_10_method_38_code
def yX8_fuel : MethodName := ⟨RX8, "fuel", "(IIII)I"⟩
abbrev cX8_climbsTo : ByteArray := prog_10_method_39_code
def yX8_climbsTo : MethodName := ⟨RX8, "climbsTo", "(II)I"⟩
abbrev cX8_needFrom : ByteArray := prog_10_method_40_code
def yX8_needFrom : MethodName := ⟨RX8, "needFrom", "(II)I"⟩
abbrev cX8_reckon : ByteArray := prog_10_method_41_code
def yX8_reckon : MethodName := ⟨RX8, "reckon", "(II)V"⟩
abbrev cX8_seek : ByteArray := prog_10_method_42_code
def yX8_seek : MethodName := ⟨RX8, "seek", "(I)Z"⟩
abbrev cX8_need : ByteArray := prog_10_method_43_code
def yX8_need : MethodName := ⟨RX8, "need", "(I)I"⟩
abbrev cX8_legs : ByteArray := prog_10_method_44_code
def yX8_legs : MethodName := ⟨RX8, "legs", "(I)I"⟩
abbrev cX8_needAlong : ByteArray := prog_10_method_45_code
def yX8_needAlong : MethodName := ⟨RX8, "needAlong", "(III)I"⟩
abbrev cX8_leg : ByteArray := prog_10_method_46_code
def yX8_leg : MethodName := ⟨RX8, "leg", "(III)I"⟩
abbrev cX8_time : ByteArray := prog_10_method_47_code
def yX8_time : MethodName := ⟨RX8, "time", "(I)I"⟩
abbrev cX8_breaks : ByteArray := prog_10_method_48_code
def yX8_breaks : MethodName := ⟨RX8, "breaks", "(II)I"⟩
abbrev cX8_legal : ByteArray := prog_10_method_49_code
def yX8_legal : MethodName := ⟨RX8, "legal", "(I)I"⟩
abbrev cX8_borne : ByteArray := prog_10_method_50_code
def yX8_borne : MethodName := ⟨RX8, "borne", "(I)I"⟩
abbrev cX8_fly : ByteArray := prog_10_method_51_code
def yX8_fly : MethodName := ⟨RX8, "fly", "(II)Z"⟩
abbrev cX8_at : ByteArray := prog_10_method_52_code
def yX8_at : MethodName := ⟨RX8, "at", "(III)I"⟩
abbrev cX8_homeFrom : ByteArray := prog_10_method_53_code
def yX8_homeFrom : MethodName := ⟨RX8, "homeFrom", "(I)I"⟩
abbrev cX8_home : ByteArray := prog_10_method_54_code
def yX8_home : MethodName := ⟨RX8, "home", "(II)I"⟩
abbrev cX8_lastReturn : ByteArray := prog_10_method_55_code
def yX8_lastReturn : MethodName := ⟨RX8, "lastReturn", "(II)I"⟩
abbrev cX8_carry : ByteArray := prog_10_method_56_code
def yX8_carry : MethodName := ⟨RX8, "carry", "(III)I"⟩
abbrev cX8_about : ByteArray := prog_10_method_57_code
def yX8_about : MethodName := ⟨RX8, "about", "(I)I"⟩
abbrev cX8_feed : ByteArray := prog_10_method_58_code
def yX8_feed : MethodName := ⟨RX8, "feed", "(IIIII)I"⟩
abbrev cX8_end : ByteArray := prog_10_method_59_code
def yX8_end : MethodName := ⟨RX8, "end", "(I)I"⟩
def RJ9 : String := "java/lang/Math"
def TJ9 : u_T := fun k => match k with
  | _ => ("", "", "", false)
def tyJ9 : Nat → FieldType := fun k => match k with
  | _ => .int
abbrev wsJ90 : List Cond := u_ws RJ9 TJ9 0
theorem nmJ9 : ∀ a, a < 0 → ∀ b, b < 0 → a ≠ b → (TJ9 a).2.1 ≠ (TJ9 b).2.1 := by decide +kernel
theorem tyJ9_ok : ∀ k, k < 0 → parseFieldDescriptor (TJ9 k).2.2.1 = some (tyJ9 k) := by decide +kernel
abbrev cJ9_max_7cf53 : ByteArray := prog_11_method_65_code
def yJ9_max_7cf53 : MethodName := ⟨RJ9, "max", "(II)I"⟩
abbrev cJ9_min_7cf53 : ByteArray := prog_11_method_69_code
def yJ9_min_7cf53 : MethodName := ⟨RJ9, "min", "(II)I"⟩
def RJ0 : String := "java/lang/String"
def TJ0 : u_T := fun k => match k with
  | _ => ("", "", "", false)
def tyJ0 : Nat → FieldType := fun k => match k with
  | _ => .int
abbrev wsJ00 : List Cond := u_ws RJ0 TJ0 0
theorem nmJ0 : ∀ a, a < 0 → ∀ b, b < 0 → a ≠ b → (TJ0 a).2.1 ≠ (TJ0 b).2.1 := by decide +kernel
theorem tyJ0_ok : ∀ k, k < 0 → parseFieldDescriptor (TJ0 k).2.2.1 = some (tyJ0 k) := by decide +kernel
abbrev cJ0_length_8abf5 : ByteArray := prog_12_method_54_code
def yJ0_length_8abf5 : MethodName := ⟨RJ0, "length", "()I"⟩
abbrev cJ0_charAt_5068e : ByteArray := prog_12_method_56_code
def yJ0_charAt_5068e : MethodName := ⟨RJ0, "charAt", "(I)C"⟩
abbrev cJ0_coder_7d493 : ByteArray := prog_12_method_152_code
def yJ0_coder_7d493 : MethodName := ⟨RJ0, "coder", "()B"⟩
abbrev cJ0_isLatin1_aae02 : ByteArray := prog_12_method_154_code
def yJ0_isLatin1_aae02 : MethodName := ⟨RJ0, "isLatin1", "()Z"⟩
abbrev cJ0_checkIndex_df160 : ByteArray := prog_12_method_155_code
def yJ0_checkIndex_df160 : MethodName := ⟨RJ0, "checkIndex", "(II)V"⟩
def RJ1 : String := "java/lang/StringLatin1"
def TJ1 : u_T := fun k => match k with
  | _ => ("", "", "", false)
def tyJ1 : Nat → FieldType := fun k => match k with
  | _ => .int
abbrev wsJ10 : List Cond := u_ws RJ1 TJ1 0
theorem nmJ1 : ∀ a, a < 0 → ∀ b, b < 0 → a ≠ b → (TJ1 a).2.1 ≠ (TJ1 b).2.1 := by decide +kernel
theorem tyJ1_ok : ∀ k, k < 0 → parseFieldDescriptor (TJ1 k).2.2.1 = some (tyJ1 k) := by decide +kernel
abbrev cJ1_charAt_3b067 : ByteArray := prog_13_method_2_code
def yJ1_charAt_3b067 : MethodName := ⟨RJ1, "charAt", "([BI)C"⟩
def RJ2 : String := "java/lang/StringUTF16"
def TJ2 : u_T := fun k => match k with
  | _ => ("", "", "", false)
def tyJ2 : Nat → FieldType := fun k => match k with
  | _ => .int
abbrev wsJ20 : List Cond := u_ws RJ2 TJ2 0
theorem nmJ2 : ∀ a, a < 0 → ∀ b, b < 0 → a ≠ b → (TJ2 a).2.1 ≠ (TJ2 b).2.1 := by decide +kernel
theorem tyJ2_ok : ∀ k, k < 0 → parseFieldDescriptor (TJ2 k).2.2.1 = some (tyJ2 k) := by decide +kernel
abbrev cJ2_getChar_3b067 : ByteArray := prog_14_method_5_code
def yJ2_getChar_3b067 : MethodName := ⟨RJ2, "getChar", "([BI)C"⟩
abbrev cJ2_length_9d52b : ByteArray := prog_14_method_6_code
def yJ2_length_9d52b : MethodName := ⟨RJ2, "length", "([B)I"⟩
abbrev cJ2_charAt_3b067 : ByteArray := prog_14_method_83_code
def yJ2_charAt_3b067 : MethodName := ⟨RJ2, "charAt", "([BI)C"⟩
abbrev cJ2_checkIndex_2214a : ByteArray := prog_14_method_91_code
def yJ2_checkIndex_2214a : MethodName := ⟨RJ2, "checkIndex", "(I[B)V"⟩
def RJ10 : String := "java/lang/System"
def TJ10 : u_T := fun k => match k with
  | _ => ("", "", "", false)
def tyJ10 : Nat → FieldType := fun k => match k with
  | _ => .int
abbrev wsJ100 : List Cond := u_ws RJ10 TJ10 0
theorem nmJ10 : ∀ a, a < 0 → ∀ b, b < 0 → a ≠ b → (TJ10 a).2.1 ≠ (TJ10 b).2.1 := by decide +kernel
theorem tyJ10_ok : ∀ k, k < 0 → parseFieldDescriptor (TJ10 k).2.2.1 = some (tyJ10 k) := by decide +kernel
def RJ7 : String := "java/util/Arrays"
def TJ7 : u_T := fun k => match k with
  | _ => ("", "", "", false)
def tyJ7 : Nat → FieldType := fun k => match k with
  | _ => .int
abbrev wsJ70 : List Cond := u_ws RJ7 TJ7 0
theorem nmJ7 : ∀ a, a < 0 → ∀ b, b < 0 → a ≠ b → (TJ7 a).2.1 ≠ (TJ7 b).2.1 := by decide +kernel
theorem tyJ7_ok : ∀ k, k < 0 → parseFieldDescriptor (TJ7 k).2.2.1 = some (tyJ7 k) := by decide +kernel
abbrev cJ7_fill_53178 : ByteArray := prog_16_method_103_code
def yJ7_fill_53178 : MethodName := ⟨RJ7, "fill", "([II)V"⟩
def RJ3 : String := "jdk/internal/util/Preconditions"
def TJ3 : u_T := fun k => match k with
  | _ => ("", "", "", false)
def tyJ3 : Nat → FieldType := fun k => match k with
  | _ => .int
abbrev wsJ30 : List Cond := u_ws RJ3 TJ3 0
theorem nmJ3 : ∀ a, a < 0 → ∀ b, b < 0 → a ≠ b → (TJ3 a).2.1 ≠ (TJ3 b).2.1 := by decide +kernel
theorem tyJ3_ok : ∀ k, k < 0 → parseFieldDescriptor (TJ3 k).2.2.1 = some (tyJ3 k) := by decide +kernel
abbrev cJ3_checkIndex_8e157 : ByteArray := prog_17_method_11_code
def yJ3_checkIndex_8e157 : MethodName := ⟨RJ3, "checkIndex", "(IILjava/util/function/BiFunction;)I"⟩
def RL : String := "FlightDeskLaw"
abbrev cL_law : ByteArray := code
def yL_law : MethodName := ⟨RL, "law", "([I)Z"⟩
abbrev vwCl : List vw_C := [(RX0, TX0, 15), (RX1, TX1, 7), (RX2, TX2, 13), (RX3, TX3, 5), (RX4, TX4, 6), (RX5, TX5, 2), (RX6, TX6, 5), (RX7, TX7, 5), (RX8, TX8, 40)]
end
section
theorem dX0_init_0 : decode cX0_init 0 = .ok (.aload_n 0, 1) := by decide +kernel
theorem dX0_init_1 : decode cX0_init 1 = .ok (.invokespecial 3, 3) := by decide +kernel
theorem dX0_init_4 : decode cX0_init 4 = .ok (.aload_n 0, 1) := by decide +kernel
theorem dX0_init_5 : decode cX0_init 5 = .ok (.bipush 16, 2) := by decide +kernel
theorem dX0_init_7 : decode cX0_init 7 = .ok (.newarray .int, 2) := by decide +kernel
theorem dX0_init_9 : decode cX0_init 9 = .ok (.putfield 9, 3) := by decide +kernel
theorem dX0_init_12 : decode cX0_init 12 = .ok (.aload_n 0, 1) := by decide +kernel
theorem dX0_init_13 : decode cX0_init 13 = .ok (.bipush 16, 2) := by decide +kernel
theorem dX0_init_15 : decode cX0_init 15 = .ok (.newarray .int, 2) := by decide +kernel
theorem dX0_init_17 : decode cX0_init 17 = .ok (.putfield 15, 3) := by decide +kernel
theorem dX0_init_20 : decode cX0_init 20 = .ok (.aload_n 0, 1) := by decide +kernel
theorem dX0_init_21 : decode cX0_init 21 = .ok (.bipush 16, 2) := by decide +kernel
theorem dX0_init_23 : decode cX0_init 23 = .ok (.newarray .int, 2) := by decide +kernel
theorem dX0_init_25 : decode cX0_init 25 = .ok (.putfield 18, 3) := by decide +kernel
theorem dX0_init_28 : decode cX0_init 28 = .ok (.aload_n 0, 1) := by decide +kernel
theorem dX0_init_29 : decode cX0_init 29 = .ok (.bipush 16, 2) := by decide +kernel
theorem dX0_init_31 : decode cX0_init 31 = .ok (.newarray .int, 2) := by decide +kernel
theorem dX0_init_33 : decode cX0_init 33 = .ok (.putfield 21, 3) := by decide +kernel
theorem dX0_init_36 : decode cX0_init 36 = .ok (.aload_n 0, 1) := by decide +kernel
theorem dX0_init_37 : decode cX0_init 37 = .ok (.bipush 16, 2) := by decide +kernel
theorem dX0_init_39 : decode cX0_init 39 = .ok (.newarray .int, 2) := by decide +kernel
theorem dX0_init_41 : decode cX0_init 41 = .ok (.putfield 24, 3) := by decide +kernel
theorem dX0_init_44 : decode cX0_init 44 = .ok (.aload_n 0, 1) := by decide +kernel
theorem dX0_init_45 : decode cX0_init 45 = .ok (.bipush 16, 2) := by decide +kernel
theorem dX0_init_47 : decode cX0_init 47 = .ok (.newarray .int, 2) := by decide +kernel
theorem dX0_init_49 : decode cX0_init 49 = .ok (.putfield 27, 3) := by decide +kernel
theorem dX0_init_52 : decode cX0_init 52 = .ok (.aload_n 0, 1) := by decide +kernel
theorem dX0_init_53 : decode cX0_init 53 = .ok (.bipush 16, 2) := by decide +kernel
theorem dX0_init_55 : decode cX0_init 55 = .ok (.newarray .int, 2) := by decide +kernel
theorem dX0_init_57 : decode cX0_init 57 = .ok (.putfield 30, 3) := by decide +kernel
theorem dX0_init_60 : decode cX0_init 60 = .ok (.aload_n 0, 1) := by decide +kernel
theorem dX0_init_61 : decode cX0_init 61 = .ok (.bipush 6, 2) := by decide +kernel
theorem dX0_init_63 : decode cX0_init 63 = .ok (.newarray .int, 2) := by decide +kernel
theorem dX0_init_65 : decode cX0_init 65 = .ok (.putfield 33, 3) := by decide +kernel
theorem dX0_init_68 : decode cX0_init 68 = .ok (.aload_n 0, 1) := by decide +kernel
theorem dX0_init_69 : decode cX0_init 69 = .ok (.sipush 288, 3) := by decide +kernel
theorem dX0_init_72 : decode cX0_init 72 = .ok (.newarray .int, 2) := by decide +kernel
theorem dX0_init_74 : decode cX0_init 74 = .ok (.putfield 36, 3) := by decide +kernel
theorem dX0_init_77 : decode cX0_init 77 = .ok (.aload_n 0, 1) := by decide +kernel
theorem dX0_init_78 : decode cX0_init 78 = .ok (.bipush 30, 2) := by decide +kernel
theorem dX0_init_80 : decode cX0_init 80 = .ok (.newarray .int, 2) := by decide +kernel
theorem dX0_init_82 : decode cX0_init 82 = .ok (.putfield 39, 3) := by decide +kernel
theorem dX0_init_85 : decode cX0_init 85 = .ok (.aload_n 0, 1) := by decide +kernel
theorem dX0_init_86 : decode cX0_init 86 = .ok (.bipush 6, 2) := by decide +kernel
theorem dX0_init_88 : decode cX0_init 88 = .ok (.newarray .int, 2) := by decide +kernel
theorem dX0_init_90 : decode cX0_init 90 = .ok (.putfield 42, 3) := by decide +kernel
theorem dX0_init_93 : decode cX0_init 93 = .ok (.aload_n 0, 1) := by decide +kernel
theorem dX0_init_94 : decode cX0_init 94 = .ok (.iconst 4, 1) := by decide +kernel
theorem dX0_init_95 : decode cX0_init 95 = .ok (.newarray .int, 2) := by decide +kernel
theorem dX0_init_97 : decode cX0_init 97 = .ok (.putfield 45, 3) := by decide +kernel
theorem dX0_init_100 : decode cX0_init 100 = .ok (.aload_n 0, 1) := by decide +kernel
theorem dX0_init_101 : decode cX0_init 101 = .ok (.bipush 7, 2) := by decide +kernel
theorem dX0_init_103 : decode cX0_init 103 = .ok (.newarray .int, 2) := by decide +kernel
theorem dX0_init_105 : decode cX0_init 105 = .ok (.putfield 48, 3) := by decide +kernel
theorem dX0_init_108 : decode cX0_init 108 = .ok (.aload_n 0, 1) := by decide +kernel
theorem dX0_init_109 : decode cX0_init 109 = .ok (.invokevirtual 51, 3) := by decide +kernel
theorem dX0_init_112 : decode cX0_init 112 = .ok (.return_, 1) := by decide +kernel
theorem dX0_clear_0 : decode cX0_clear 0 = .ok (.aload_n 0, 1) := by decide +kernel
theorem dX0_clear_1 : decode cX0_clear 1 = .ok (.iconst 0, 1) := by decide +kernel
theorem dX0_clear_2 : decode cX0_clear 2 = .ok (.putfield 54, 3) := by decide +kernel
theorem dX0_clear_5 : decode cX0_clear 5 = .ok (.aload_n 0, 1) := by decide +kernel
theorem dX0_clear_6 : decode cX0_clear 6 = .ok (.iconst 0, 1) := by decide +kernel
theorem dX0_clear_7 : decode cX0_clear 7 = .ok (.putfield 58, 3) := by decide +kernel
theorem dX0_clear_10 : decode cX0_clear 10 = .ok (.aload_n 0, 1) := by decide +kernel
theorem dX0_clear_11 : decode cX0_clear 11 = .ok (.getfield 33, 3) := by decide +kernel
theorem dX0_clear_14 : decode cX0_clear 14 = .ok (.sipush (-1000), 3) := by decide +kernel
theorem dX0_clear_17 : decode cX0_clear 17 = .ok (.invokestatic 61, 3) := by decide +kernel
theorem dX0_clear_20 : decode cX0_clear 20 = .ok (.aload_n 0, 1) := by decide +kernel
theorem dX0_clear_21 : decode cX0_clear 21 = .ok (.getfield 36, 3) := by decide +kernel
theorem dX0_clear_24 : decode cX0_clear 24 = .ok (.sipush (-1000), 3) := by decide +kernel
theorem dX0_clear_27 : decode cX0_clear 27 = .ok (.invokestatic 61, 3) := by decide +kernel
theorem dX0_clear_30 : decode cX0_clear 30 = .ok (.aload_n 0, 1) := by decide +kernel
theorem dX0_clear_31 : decode cX0_clear 31 = .ok (.getfield 39, 3) := by decide +kernel
theorem dX0_clear_34 : decode cX0_clear 34 = .ok (.sipush (-1000), 3) := by decide +kernel
theorem dX0_clear_37 : decode cX0_clear 37 = .ok (.invokestatic 61, 3) := by decide +kernel
theorem dX0_clear_40 : decode cX0_clear 40 = .ok (.aload_n 0, 1) := by decide +kernel
theorem dX0_clear_41 : decode cX0_clear 41 = .ok (.getfield 42, 3) := by decide +kernel
theorem dX0_clear_44 : decode cX0_clear 44 = .ok (.sipush (-1000), 3) := by decide +kernel
theorem dX0_clear_47 : decode cX0_clear 47 = .ok (.invokestatic 61, 3) := by decide +kernel
theorem dX0_clear_50 : decode cX0_clear 50 = .ok (.aload_n 0, 1) := by decide +kernel
theorem dX0_clear_51 : decode cX0_clear 51 = .ok (.getfield 45, 3) := by decide +kernel
theorem dX0_clear_54 : decode cX0_clear 54 = .ok (.sipush (-1000), 3) := by decide +kernel
theorem dX0_clear_57 : decode cX0_clear 57 = .ok (.invokestatic 61, 3) := by decide +kernel
theorem dX0_clear_60 : decode cX0_clear 60 = .ok (.return_, 1) := by decide +kernel
theorem dX0_leadOn_0 : decode cX0_leadOn 0 = .ok (.iconst 0, 1) := by decide +kernel
theorem dX0_leadOn_1 : decode cX0_leadOn 1 = .ok (.istore_n 1, 1) := by decide +kernel
theorem dX0_leadOn_2 : decode cX0_leadOn 2 = .ok (.iload_n 1, 1) := by decide +kernel
theorem dX0_leadOn_3 : decode cX0_leadOn 3 = .ok (.bipush 6, 2) := by decide +kernel
theorem dX0_leadOn_5 : decode cX0_leadOn 5 = .ok (.if_icmp .ge 55, 3) := by decide +kernel
theorem dX0_leadOn_8 : decode cX0_leadOn 8 = .ok (.aload_n 0, 1) := by decide +kernel
theorem dX0_leadOn_9 : decode cX0_leadOn 9 = .ok (.getfield 33, 3) := by decide +kernel
theorem dX0_leadOn_12 : decode cX0_leadOn 12 = .ok (.iload_n 1, 1) := by decide +kernel
theorem dX0_leadOn_13 : decode cX0_leadOn 13 = .ok (.sipush 400, 3) := by decide +kernel
theorem dX0_leadOn_16 : decode cX0_leadOn 16 = .ok (.invokestatic 67, 3) := by decide +kernel
theorem dX0_leadOn_19 : decode cX0_leadOn 19 = .ok (.aload_n 0, 1) := by decide +kernel
theorem dX0_leadOn_20 : decode cX0_leadOn 20 = .ok (.getfield 42, 3) := by decide +kernel
theorem dX0_leadOn_23 : decode cX0_leadOn 23 = .ok (.iload_n 1, 1) := by decide +kernel
theorem dX0_leadOn_24 : decode cX0_leadOn 24 = .ok (.iconst 0, 1) := by decide +kernel
theorem dX0_leadOn_25 : decode cX0_leadOn 25 = .ok (.invokestatic 67, 3) := by decide +kernel
theorem dX0_leadOn_28 : decode cX0_leadOn 28 = .ok (.aload_n 0, 1) := by decide +kernel
theorem dX0_leadOn_29 : decode cX0_leadOn 29 = .ok (.getfield 48, 3) := by decide +kernel
theorem dX0_leadOn_32 : decode cX0_leadOn 32 = .ok (.iload_n 1, 1) := by decide +kernel
theorem dX0_leadOn_33 : decode cX0_leadOn 33 = .ok (.iconst 1, 1) := by decide +kernel
theorem dX0_leadOn_34 : decode cX0_leadOn 34 = .ok (.iadd, 1) := by decide +kernel
theorem dX0_leadOn_35 : decode cX0_leadOn 35 = .ok (.aload_n 0, 1) := by decide +kernel
theorem dX0_leadOn_36 : decode cX0_leadOn 36 = .ok (.getfield 48, 3) := by decide +kernel
theorem dX0_leadOn_39 : decode cX0_leadOn 39 = .ok (.iload_n 1, 1) := by decide +kernel
theorem dX0_leadOn_40 : decode cX0_leadOn 40 = .ok (.iaload, 1) := by decide +kernel
theorem dX0_leadOn_41 : decode cX0_leadOn 41 = .ok (.aload_n 0, 1) := by decide +kernel
theorem dX0_leadOn_42 : decode cX0_leadOn 42 = .ok (.getfield 42, 3) := by decide +kernel
theorem dX0_leadOn_45 : decode cX0_leadOn 45 = .ok (.iload_n 1, 1) := by decide +kernel
theorem dX0_leadOn_46 : decode cX0_leadOn 46 = .ok (.iaload, 1) := by decide +kernel
theorem dX0_leadOn_47 : decode cX0_leadOn 47 = .ok (.iadd, 1) := by decide +kernel
theorem dX0_leadOn_48 : decode cX0_leadOn 48 = .ok (.iastore, 1) := by decide +kernel
theorem dX0_leadOn_49 : decode cX0_leadOn 49 = .ok (.aload_n 0, 1) := by decide +kernel
theorem dX0_leadOn_50 : decode cX0_leadOn 50 = .ok (.iload_n 1, 1) := by decide +kernel
theorem dX0_leadOn_51 : decode cX0_leadOn 51 = .ok (.invokevirtual 71, 3) := by decide +kernel
theorem dX0_leadOn_54 : decode cX0_leadOn 54 = .ok (.iinc 1 1, 3) := by decide +kernel
theorem dX0_leadOn_57 : decode cX0_leadOn 57 = .ok (.goto (-55), 3) := by decide +kernel
theorem dX0_leadOn_60 : decode cX0_leadOn 60 = .ok (.aload_n 0, 1) := by decide +kernel
theorem dX0_leadOn_61 : decode cX0_leadOn 61 = .ok (.invokevirtual 75, 3) := by decide +kernel
theorem dX0_leadOn_64 : decode cX0_leadOn 64 = .ok (.aload_n 0, 1) := by decide +kernel
theorem dX0_leadOn_65 : decode cX0_leadOn 65 = .ok (.getfield 45, 3) := by decide +kernel
theorem dX0_leadOn_68 : decode cX0_leadOn 68 = .ok (.iconst 0, 1) := by decide +kernel
theorem dX0_leadOn_69 : decode cX0_leadOn 69 = .ok (.sipush 30000, 3) := by decide +kernel
theorem dX0_leadOn_72 : decode cX0_leadOn 72 = .ok (.invokestatic 67, 3) := by decide +kernel
theorem dX0_leadOn_75 : decode cX0_leadOn 75 = .ok (.aload_n 0, 1) := by decide +kernel
theorem dX0_leadOn_76 : decode cX0_leadOn 76 = .ok (.getfield 45, 3) := by decide +kernel
theorem dX0_leadOn_79 : decode cX0_leadOn 79 = .ok (.iconst 1, 1) := by decide +kernel
theorem dX0_leadOn_80 : decode cX0_leadOn 80 = .ok (.ldc 78, 2) := by decide +kernel
theorem dX0_leadOn_82 : decode cX0_leadOn 82 = .ok (.invokestatic 67, 3) := by decide +kernel
theorem dX0_leadOn_85 : decode cX0_leadOn 85 = .ok (.aload_n 0, 1) := by decide +kernel
theorem dX0_leadOn_86 : decode cX0_leadOn 86 = .ok (.getfield 45, 3) := by decide +kernel
theorem dX0_leadOn_89 : decode cX0_leadOn 89 = .ok (.iconst 2, 1) := by decide +kernel
theorem dX0_leadOn_90 : decode cX0_leadOn 90 = .ok (.ldc 78, 2) := by decide +kernel
theorem dX0_leadOn_92 : decode cX0_leadOn 92 = .ok (.invokestatic 67, 3) := by decide +kernel
theorem dX0_leadOn_95 : decode cX0_leadOn 95 = .ok (.aload_n 0, 1) := by decide +kernel
theorem dX0_leadOn_96 : decode cX0_leadOn 96 = .ok (.getfield 45, 3) := by decide +kernel
theorem dX0_leadOn_99 : decode cX0_leadOn 99 = .ok (.iconst 3, 1) := by decide +kernel
theorem dX0_leadOn_100 : decode cX0_leadOn 100 = .ok (.iconst 0, 1) := by decide +kernel
theorem dX0_leadOn_101 : decode cX0_leadOn 101 = .ok (.invokestatic 67, 3) := by decide +kernel
theorem dX0_leadOn_104 : decode cX0_leadOn 104 = .ok (.return_, 1) := by decide +kernel
theorem dX0_take_0 : decode cX0_take 0 = .ok (.aload_n 0, 1) := by decide +kernel
theorem dX0_take_1 : decode cX0_take 1 = .ok (.aload_n 1, 1) := by decide +kernel
theorem dX0_take_2 : decode cX0_take 2 = .ok (.getfield 54, 3) := by decide +kernel
theorem dX0_take_5 : decode cX0_take 5 = .ok (.putfield 54, 3) := by decide +kernel
theorem dX0_take_8 : decode cX0_take 8 = .ok (.aload_n 0, 1) := by decide +kernel
theorem dX0_take_9 : decode cX0_take 9 = .ok (.aload_n 1, 1) := by decide +kernel
theorem dX0_take_10 : decode cX0_take 10 = .ok (.getfield 58, 3) := by decide +kernel
theorem dX0_take_13 : decode cX0_take 13 = .ok (.putfield 58, 3) := by decide +kernel
theorem dX0_take_16 : decode cX0_take 16 = .ok (.aload_n 1, 1) := by decide +kernel
theorem dX0_take_17 : decode cX0_take 17 = .ok (.getfield 9, 3) := by decide +kernel
theorem dX0_take_20 : decode cX0_take 20 = .ok (.aload_n 0, 1) := by decide +kernel
theorem dX0_take_21 : decode cX0_take 21 = .ok (.getfield 9, 3) := by decide +kernel
theorem dX0_take_24 : decode cX0_take 24 = .ok (.invokestatic 79, 3) := by decide +kernel
theorem dX0_take_27 : decode cX0_take 27 = .ok (.aload_n 1, 1) := by decide +kernel
theorem dX0_take_28 : decode cX0_take 28 = .ok (.getfield 15, 3) := by decide +kernel
theorem dX0_take_31 : decode cX0_take 31 = .ok (.aload_n 0, 1) := by decide +kernel
theorem dX0_take_32 : decode cX0_take 32 = .ok (.getfield 15, 3) := by decide +kernel
theorem dX0_take_35 : decode cX0_take 35 = .ok (.invokestatic 79, 3) := by decide +kernel
theorem dX0_take_38 : decode cX0_take 38 = .ok (.aload_n 1, 1) := by decide +kernel
theorem dX0_take_39 : decode cX0_take 39 = .ok (.getfield 18, 3) := by decide +kernel
theorem dX0_take_42 : decode cX0_take 42 = .ok (.aload_n 0, 1) := by decide +kernel
theorem dX0_take_43 : decode cX0_take 43 = .ok (.getfield 18, 3) := by decide +kernel
theorem dX0_take_46 : decode cX0_take 46 = .ok (.invokestatic 79, 3) := by decide +kernel
theorem dX0_take_49 : decode cX0_take 49 = .ok (.aload_n 1, 1) := by decide +kernel
theorem dX0_take_50 : decode cX0_take 50 = .ok (.getfield 21, 3) := by decide +kernel
theorem dX0_take_53 : decode cX0_take 53 = .ok (.aload_n 0, 1) := by decide +kernel
theorem dX0_take_54 : decode cX0_take 54 = .ok (.getfield 21, 3) := by decide +kernel
theorem dX0_take_57 : decode cX0_take 57 = .ok (.invokestatic 79, 3) := by decide +kernel
theorem dX0_take_60 : decode cX0_take 60 = .ok (.aload_n 1, 1) := by decide +kernel
theorem dX0_take_61 : decode cX0_take 61 = .ok (.getfield 24, 3) := by decide +kernel
theorem dX0_take_64 : decode cX0_take 64 = .ok (.aload_n 0, 1) := by decide +kernel
theorem dX0_take_65 : decode cX0_take 65 = .ok (.getfield 24, 3) := by decide +kernel
theorem dX0_take_68 : decode cX0_take 68 = .ok (.invokestatic 79, 3) := by decide +kernel
theorem dX0_take_71 : decode cX0_take 71 = .ok (.aload_n 1, 1) := by decide +kernel
theorem dX0_take_72 : decode cX0_take 72 = .ok (.getfield 27, 3) := by decide +kernel
theorem dX0_take_75 : decode cX0_take 75 = .ok (.aload_n 0, 1) := by decide +kernel
theorem dX0_take_76 : decode cX0_take 76 = .ok (.getfield 27, 3) := by decide +kernel
theorem dX0_take_79 : decode cX0_take 79 = .ok (.invokestatic 79, 3) := by decide +kernel
theorem dX0_take_82 : decode cX0_take 82 = .ok (.aload_n 1, 1) := by decide +kernel
theorem dX0_take_83 : decode cX0_take 83 = .ok (.getfield 30, 3) := by decide +kernel
theorem dX0_take_86 : decode cX0_take 86 = .ok (.aload_n 0, 1) := by decide +kernel
theorem dX0_take_87 : decode cX0_take 87 = .ok (.getfield 30, 3) := by decide +kernel
theorem dX0_take_90 : decode cX0_take 90 = .ok (.invokestatic 79, 3) := by decide +kernel
theorem dX0_take_93 : decode cX0_take 93 = .ok (.aload_n 1, 1) := by decide +kernel
theorem dX0_take_94 : decode cX0_take 94 = .ok (.getfield 33, 3) := by decide +kernel
theorem dX0_take_97 : decode cX0_take 97 = .ok (.aload_n 0, 1) := by decide +kernel
theorem dX0_take_98 : decode cX0_take 98 = .ok (.getfield 33, 3) := by decide +kernel
theorem dX0_take_101 : decode cX0_take 101 = .ok (.invokestatic 79, 3) := by decide +kernel
theorem dX0_take_104 : decode cX0_take 104 = .ok (.aload_n 1, 1) := by decide +kernel
theorem dX0_take_105 : decode cX0_take 105 = .ok (.getfield 36, 3) := by decide +kernel
theorem dX0_take_108 : decode cX0_take 108 = .ok (.aload_n 0, 1) := by decide +kernel
theorem dX0_take_109 : decode cX0_take 109 = .ok (.getfield 36, 3) := by decide +kernel
theorem dX0_take_112 : decode cX0_take 112 = .ok (.invokestatic 79, 3) := by decide +kernel
theorem dX0_take_115 : decode cX0_take 115 = .ok (.aload_n 1, 1) := by decide +kernel
theorem dX0_take_116 : decode cX0_take 116 = .ok (.getfield 39, 3) := by decide +kernel
theorem dX0_take_119 : decode cX0_take 119 = .ok (.aload_n 0, 1) := by decide +kernel
theorem dX0_take_120 : decode cX0_take 120 = .ok (.getfield 39, 3) := by decide +kernel
theorem dX0_take_123 : decode cX0_take 123 = .ok (.invokestatic 79, 3) := by decide +kernel
theorem dX0_take_126 : decode cX0_take 126 = .ok (.aload_n 1, 1) := by decide +kernel
theorem dX0_take_127 : decode cX0_take 127 = .ok (.getfield 42, 3) := by decide +kernel
theorem dX0_take_130 : decode cX0_take 130 = .ok (.aload_n 0, 1) := by decide +kernel
theorem dX0_take_131 : decode cX0_take 131 = .ok (.getfield 42, 3) := by decide +kernel
theorem dX0_take_134 : decode cX0_take 134 = .ok (.invokestatic 79, 3) := by decide +kernel
theorem dX0_take_137 : decode cX0_take 137 = .ok (.aload_n 1, 1) := by decide +kernel
theorem dX0_take_138 : decode cX0_take 138 = .ok (.getfield 45, 3) := by decide +kernel
theorem dX0_take_141 : decode cX0_take 141 = .ok (.aload_n 0, 1) := by decide +kernel
theorem dX0_take_142 : decode cX0_take 142 = .ok (.getfield 45, 3) := by decide +kernel
theorem dX0_take_145 : decode cX0_take 145 = .ok (.invokestatic 79, 3) := by decide +kernel
theorem dX0_take_148 : decode cX0_take 148 = .ok (.aload_n 1, 1) := by decide +kernel
theorem dX0_take_149 : decode cX0_take 149 = .ok (.getfield 48, 3) := by decide +kernel
theorem dX0_take_152 : decode cX0_take 152 = .ok (.aload_n 0, 1) := by decide +kernel
theorem dX0_take_153 : decode cX0_take 153 = .ok (.getfield 48, 3) := by decide +kernel
theorem dX0_take_156 : decode cX0_take 156 = .ok (.invokestatic 79, 3) := by decide +kernel
theorem dX0_take_159 : decode cX0_take 159 = .ok (.return_, 1) := by decide +kernel
theorem dX0_leadBurnsOn_0 : decode cX0_leadBurnsOn 0 = .ok (.sipush 1000, 3) := by decide +kernel
theorem dX0_leadBurnsOn_3 : decode cX0_leadBurnsOn 3 = .ok (.istore_n 2, 1) := by decide +kernel
theorem dX0_leadBurnsOn_4 : decode cX0_leadBurnsOn 4 = .ok (.iconst 4, 1) := by decide +kernel
theorem dX0_leadBurnsOn_5 : decode cX0_leadBurnsOn 5 = .ok (.istore_n 3, 1) := by decide +kernel
theorem dX0_leadBurnsOn_6 : decode cX0_leadBurnsOn 6 = .ok (.iload_n 3, 1) := by decide +kernel
theorem dX0_leadBurnsOn_7 : decode cX0_leadBurnsOn 7 = .ok (.ifCond .lt 36, 3) := by decide +kernel
theorem dX0_leadBurnsOn_10 : decode cX0_leadBurnsOn 10 = .ok (.aload_n 0, 1) := by decide +kernel
theorem dX0_leadBurnsOn_11 : decode cX0_leadBurnsOn 11 = .ok (.getfield 39, 3) := by decide +kernel
theorem dX0_leadBurnsOn_14 : decode cX0_leadBurnsOn 14 = .ok (.iload_n 1, 1) := by decide +kernel
theorem dX0_leadBurnsOn_15 : decode cX0_leadBurnsOn 15 = .ok (.iload_n 3, 1) := by decide +kernel
theorem dX0_leadBurnsOn_16 : decode cX0_leadBurnsOn 16 = .ok (.invokestatic 89, 3) := by decide +kernel
theorem dX0_leadBurnsOn_19 : decode cX0_leadBurnsOn 19 = .ok (.iaload, 1) := by decide +kernel
theorem dX0_leadBurnsOn_20 : decode cX0_leadBurnsOn 20 = .ok (.istore 4, 2) := by decide +kernel
theorem dX0_leadBurnsOn_22 : decode cX0_leadBurnsOn 22 = .ok (.iload 4, 2) := by decide +kernel
theorem dX0_leadBurnsOn_24 : decode cX0_leadBurnsOn 24 = .ok (.sipush (-1000), 3) := by decide +kernel
theorem dX0_leadBurnsOn_27 : decode cX0_leadBurnsOn 27 = .ok (.if_icmp .ne 7, 3) := by decide +kernel
theorem dX0_leadBurnsOn_30 : decode cX0_leadBurnsOn 30 = .ok (.iload_n 2, 1) := by decide +kernel
theorem dX0_leadBurnsOn_31 : decode cX0_leadBurnsOn 31 = .ok (.goto 5, 3) := by decide +kernel
theorem dX0_leadBurnsOn_34 : decode cX0_leadBurnsOn 34 = .ok (.iload 4, 2) := by decide +kernel
theorem dX0_leadBurnsOn_36 : decode cX0_leadBurnsOn 36 = .ok (.istore_n 2, 1) := by decide +kernel
theorem dX0_leadBurnsOn_37 : decode cX0_leadBurnsOn 37 = .ok (.iinc 3 (-1), 3) := by decide +kernel
theorem dX0_leadBurnsOn_40 : decode cX0_leadBurnsOn 40 = .ok (.goto (-34), 3) := by decide +kernel
theorem dX0_leadBurnsOn_43 : decode cX0_leadBurnsOn 43 = .ok (.iconst 0, 1) := by decide +kernel
theorem dX0_leadBurnsOn_44 : decode cX0_leadBurnsOn 44 = .ok (.istore_n 3, 1) := by decide +kernel
theorem dX0_leadBurnsOn_45 : decode cX0_leadBurnsOn 45 = .ok (.iload_n 3, 1) := by decide +kernel
theorem dX0_leadBurnsOn_46 : decode cX0_leadBurnsOn 46 = .ok (.iconst 5, 1) := by decide +kernel
theorem dX0_leadBurnsOn_47 : decode cX0_leadBurnsOn 47 = .ok (.if_icmp .ge 33, 3) := by decide +kernel
theorem dX0_leadBurnsOn_50 : decode cX0_leadBurnsOn 50 = .ok (.aload_n 0, 1) := by decide +kernel
theorem dX0_leadBurnsOn_51 : decode cX0_leadBurnsOn 51 = .ok (.getfield 39, 3) := by decide +kernel
theorem dX0_leadBurnsOn_54 : decode cX0_leadBurnsOn 54 = .ok (.iload_n 1, 1) := by decide +kernel
theorem dX0_leadBurnsOn_55 : decode cX0_leadBurnsOn 55 = .ok (.iload_n 3, 1) := by decide +kernel
theorem dX0_leadBurnsOn_56 : decode cX0_leadBurnsOn 56 = .ok (.invokestatic 89, 3) := by decide +kernel
theorem dX0_leadBurnsOn_59 : decode cX0_leadBurnsOn 59 = .ok (.iload_n 2, 1) := by decide +kernel
theorem dX0_leadBurnsOn_60 : decode cX0_leadBurnsOn 60 = .ok (.invokestatic 67, 3) := by decide +kernel
theorem dX0_leadBurnsOn_63 : decode cX0_leadBurnsOn 63 = .ok (.aload_n 0, 1) := by decide +kernel
theorem dX0_leadBurnsOn_64 : decode cX0_leadBurnsOn 64 = .ok (.getfield 39, 3) := by decide +kernel
theorem dX0_leadBurnsOn_67 : decode cX0_leadBurnsOn 67 = .ok (.iload_n 1, 1) := by decide +kernel
theorem dX0_leadBurnsOn_68 : decode cX0_leadBurnsOn 68 = .ok (.iload_n 3, 1) := by decide +kernel
theorem dX0_leadBurnsOn_69 : decode cX0_leadBurnsOn 69 = .ok (.invokestatic 89, 3) := by decide +kernel
theorem dX0_leadBurnsOn_72 : decode cX0_leadBurnsOn 72 = .ok (.iaload, 1) := by decide +kernel
theorem dX0_leadBurnsOn_73 : decode cX0_leadBurnsOn 73 = .ok (.istore_n 2, 1) := by decide +kernel
theorem dX0_leadBurnsOn_74 : decode cX0_leadBurnsOn 74 = .ok (.iinc 3 1, 3) := by decide +kernel
theorem dX0_leadBurnsOn_77 : decode cX0_leadBurnsOn 77 = .ok (.goto (-32), 3) := by decide +kernel
theorem dX0_leadBurnsOn_80 : decode cX0_leadBurnsOn 80 = .ok (.return_, 1) := by decide +kernel
theorem dX0_leadWindsOn_0 : decode cX0_leadWindsOn 0 = .ok (.iconst 0, 1) := by decide +kernel
theorem dX0_leadWindsOn_1 : decode cX0_leadWindsOn 1 = .ok (.istore_n 1, 1) := by decide +kernel
theorem dX0_leadWindsOn_2 : decode cX0_leadWindsOn 2 = .ok (.iload_n 1, 1) := by decide +kernel
theorem dX0_leadWindsOn_3 : decode cX0_leadWindsOn 3 = .ok (.iconst 3, 1) := by decide +kernel
theorem dX0_leadWindsOn_4 : decode cX0_leadWindsOn 4 = .ok (.if_icmp .ge 71, 3) := by decide +kernel
theorem dX0_leadWindsOn_7 : decode cX0_leadWindsOn 7 = .ok (.iconst 0, 1) := by decide +kernel
theorem dX0_leadWindsOn_8 : decode cX0_leadWindsOn 8 = .ok (.istore_n 2, 1) := by decide +kernel
theorem dX0_leadWindsOn_9 : decode cX0_leadWindsOn 9 = .ok (.iload_n 2, 1) := by decide +kernel
theorem dX0_leadWindsOn_10 : decode cX0_leadWindsOn 10 = .ok (.aload_n 0, 1) := by decide +kernel
theorem dX0_leadWindsOn_11 : decode cX0_leadWindsOn 11 = .ok (.getfield 54, 3) := by decide +kernel
theorem dX0_leadWindsOn_14 : decode cX0_leadWindsOn 14 = .ok (.if_icmp .ge 55, 3) := by decide +kernel
theorem dX0_leadWindsOn_17 : decode cX0_leadWindsOn 17 = .ok (.iconst 0, 1) := by decide +kernel
theorem dX0_leadWindsOn_18 : decode cX0_leadWindsOn 18 = .ok (.istore_n 3, 1) := by decide +kernel
theorem dX0_leadWindsOn_19 : decode cX0_leadWindsOn 19 = .ok (.iconst 0, 1) := by decide +kernel
theorem dX0_leadWindsOn_20 : decode cX0_leadWindsOn 20 = .ok (.istore 4, 2) := by decide +kernel
theorem dX0_leadWindsOn_22 : decode cX0_leadWindsOn 22 = .ok (.iload 4, 2) := by decide +kernel
theorem dX0_leadWindsOn_24 : decode cX0_leadWindsOn 24 = .ok (.bipush 6, 2) := by decide +kernel
theorem dX0_leadWindsOn_26 : decode cX0_leadWindsOn 26 = .ok (.if_icmp .ge 37, 3) := by decide +kernel
theorem dX0_leadWindsOn_29 : decode cX0_leadWindsOn 29 = .ok (.aload_n 0, 1) := by decide +kernel
theorem dX0_leadWindsOn_30 : decode cX0_leadWindsOn 30 = .ok (.getfield 36, 3) := by decide +kernel
theorem dX0_leadWindsOn_33 : decode cX0_leadWindsOn 33 = .ok (.iload_n 1, 1) := by decide +kernel
theorem dX0_leadWindsOn_34 : decode cX0_leadWindsOn 34 = .ok (.iload 4, 2) := by decide +kernel
theorem dX0_leadWindsOn_36 : decode cX0_leadWindsOn 36 = .ok (.iload_n 2, 1) := by decide +kernel
theorem dX0_leadWindsOn_37 : decode cX0_leadWindsOn 37 = .ok (.invokestatic 92, 3) := by decide +kernel
theorem dX0_leadWindsOn_40 : decode cX0_leadWindsOn 40 = .ok (.iload_n 3, 1) := by decide +kernel
theorem dX0_leadWindsOn_41 : decode cX0_leadWindsOn 41 = .ok (.invokestatic 67, 3) := by decide +kernel
theorem dX0_leadWindsOn_44 : decode cX0_leadWindsOn 44 = .ok (.aload_n 0, 1) := by decide +kernel
theorem dX0_leadWindsOn_45 : decode cX0_leadWindsOn 45 = .ok (.getfield 36, 3) := by decide +kernel
theorem dX0_leadWindsOn_48 : decode cX0_leadWindsOn 48 = .ok (.iload_n 1, 1) := by decide +kernel
theorem dX0_leadWindsOn_49 : decode cX0_leadWindsOn 49 = .ok (.iload 4, 2) := by decide +kernel
theorem dX0_leadWindsOn_51 : decode cX0_leadWindsOn 51 = .ok (.iload_n 2, 1) := by decide +kernel
theorem dX0_leadWindsOn_52 : decode cX0_leadWindsOn 52 = .ok (.invokestatic 92, 3) := by decide +kernel
theorem dX0_leadWindsOn_55 : decode cX0_leadWindsOn 55 = .ok (.iaload, 1) := by decide +kernel
theorem dX0_leadWindsOn_56 : decode cX0_leadWindsOn 56 = .ok (.istore_n 3, 1) := by decide +kernel
theorem dX0_leadWindsOn_57 : decode cX0_leadWindsOn 57 = .ok (.iinc 4 1, 3) := by decide +kernel
theorem dX0_leadWindsOn_60 : decode cX0_leadWindsOn 60 = .ok (.goto (-38), 3) := by decide +kernel
theorem dX0_leadWindsOn_63 : decode cX0_leadWindsOn 63 = .ok (.iinc 2 1, 3) := by decide +kernel
theorem dX0_leadWindsOn_66 : decode cX0_leadWindsOn 66 = .ok (.goto (-57), 3) := by decide +kernel
theorem dX0_leadWindsOn_69 : decode cX0_leadWindsOn 69 = .ok (.iinc 1 1, 3) := by decide +kernel
theorem dX0_leadWindsOn_72 : decode cX0_leadWindsOn 72 = .ok (.goto (-70), 3) := by decide +kernel
theorem dX0_leadWindsOn_75 : decode cX0_leadWindsOn 75 = .ok (.return_, 1) := by decide +kernel
theorem dX0_putIfUntold_0 : decode cX0_putIfUntold 0 = .ok (.iload_n 1, 1) := by decide +kernel
theorem dX0_putIfUntold_1 : decode cX0_putIfUntold 1 = .ok (.ifCond .lt 22, 3) := by decide +kernel
theorem dX0_putIfUntold_4 : decode cX0_putIfUntold 4 = .ok (.iload_n 1, 1) := by decide +kernel
theorem dX0_putIfUntold_5 : decode cX0_putIfUntold 5 = .ok (.aload_n 0, 1) := by decide +kernel
theorem dX0_putIfUntold_6 : decode cX0_putIfUntold 6 = .ok (.arraylength, 1) := by decide +kernel
theorem dX0_putIfUntold_7 : decode cX0_putIfUntold 7 = .ok (.if_icmp .ge 16, 3) := by decide +kernel
theorem dX0_putIfUntold_10 : decode cX0_putIfUntold 10 = .ok (.aload_n 0, 1) := by decide +kernel
theorem dX0_putIfUntold_11 : decode cX0_putIfUntold 11 = .ok (.iload_n 1, 1) := by decide +kernel
theorem dX0_putIfUntold_12 : decode cX0_putIfUntold 12 = .ok (.iaload, 1) := by decide +kernel
theorem dX0_putIfUntold_13 : decode cX0_putIfUntold 13 = .ok (.sipush (-1000), 3) := by decide +kernel
theorem dX0_putIfUntold_16 : decode cX0_putIfUntold 16 = .ok (.if_icmp .ne 7, 3) := by decide +kernel
theorem dX0_putIfUntold_19 : decode cX0_putIfUntold 19 = .ok (.aload_n 0, 1) := by decide +kernel
theorem dX0_putIfUntold_20 : decode cX0_putIfUntold 20 = .ok (.iload_n 1, 1) := by decide +kernel
theorem dX0_putIfUntold_21 : decode cX0_putIfUntold 21 = .ok (.iload_n 2, 1) := by decide +kernel
theorem dX0_putIfUntold_22 : decode cX0_putIfUntold 22 = .ok (.iastore, 1) := by decide +kernel
theorem dX0_putIfUntold_23 : decode cX0_putIfUntold 23 = .ok (.return_, 1) := by decide +kernel
theorem dX0_copy_0 : decode cX0_copy 0 = .ok (.aload_n 0, 1) := by decide +kernel
theorem dX0_copy_1 : decode cX0_copy 1 = .ok (.iconst 0, 1) := by decide +kernel
theorem dX0_copy_2 : decode cX0_copy 2 = .ok (.aload_n 1, 1) := by decide +kernel
theorem dX0_copy_3 : decode cX0_copy 3 = .ok (.iconst 0, 1) := by decide +kernel
theorem dX0_copy_4 : decode cX0_copy 4 = .ok (.aload_n 0, 1) := by decide +kernel
theorem dX0_copy_5 : decode cX0_copy 5 = .ok (.arraylength, 1) := by decide +kernel
theorem dX0_copy_6 : decode cX0_copy 6 = .ok (.aload_n 1, 1) := by decide +kernel
theorem dX0_copy_7 : decode cX0_copy 7 = .ok (.arraylength, 1) := by decide +kernel
theorem dX0_copy_8 : decode cX0_copy 8 = .ok (.invokestatic 96, 3) := by decide +kernel
theorem dX0_copy_11 : decode cX0_copy 11 = .ok (.invokestatic 99, 3) := by decide +kernel
theorem dX0_copy_14 : decode cX0_copy 14 = .ok (.return_, 1) := by decide +kernel
theorem dX1_init_0 : decode cX1_init 0 = .ok (.aload_n 0, 1) := by decide +kernel
theorem dX1_init_1 : decode cX1_init 1 = .ok (.invokespecial 3, 3) := by decide +kernel
theorem dX1_init_4 : decode cX1_init 4 = .ok (.aload_n 0, 1) := by decide +kernel
theorem dX1_init_5 : decode cX1_init 5 = .ok (.aload_n 1, 1) := by decide +kernel
theorem dX1_init_6 : decode cX1_init 6 = .ok (.putfield 9, 3) := by decide +kernel
theorem dX1_init_9 : decode cX1_init 9 = .ok (.return_, 1) := by decide +kernel
theorem dX1_set_0 : decode cX1_set 0 = .ok (.aload_n 0, 1) := by decide +kernel
theorem dX1_set_1 : decode cX1_set 1 = .ok (.iconst 1, 1) := by decide +kernel
theorem dX1_set_2 : decode cX1_set 2 = .ok (.putfield 15, 3) := by decide +kernel
theorem dX1_set_5 : decode cX1_set 5 = .ok (.aload_n 0, 1) := by decide +kernel
theorem dX1_set_6 : decode cX1_set 6 = .ok (.iload_n 1, 1) := by decide +kernel
theorem dX1_set_7 : decode cX1_set 7 = .ok (.putfield 19, 3) := by decide +kernel
theorem dX1_set_10 : decode cX1_set 10 = .ok (.aload_n 0, 1) := by decide +kernel
theorem dX1_set_11 : decode cX1_set 11 = .ok (.iload_n 2, 1) := by decide +kernel
theorem dX1_set_12 : decode cX1_set 12 = .ok (.putfield 23, 3) := by decide +kernel
theorem dX1_set_15 : decode cX1_set 15 = .ok (.aload_n 0, 1) := by decide +kernel
theorem dX1_set_16 : decode cX1_set 16 = .ok (.iload_n 3, 1) := by decide +kernel
theorem dX1_set_17 : decode cX1_set 17 = .ok (.putfield 26, 3) := by decide +kernel
theorem dX1_set_20 : decode cX1_set 20 = .ok (.aload_n 0, 1) := by decide +kernel
theorem dX1_set_21 : decode cX1_set 21 = .ok (.iload 5, 2) := by decide +kernel
theorem dX1_set_23 : decode cX1_set 23 = .ok (.putfield 29, 3) := by decide +kernel
theorem dX1_set_26 : decode cX1_set 26 = .ok (.aload_n 0, 1) := by decide +kernel
theorem dX1_set_27 : decode cX1_set 27 = .ok (.aload_n 0, 1) := by decide +kernel
theorem dX1_set_28 : decode cX1_set 28 = .ok (.getfield 9, 3) := by decide +kernel
theorem dX1_set_31 : decode cX1_set 31 = .ok (.getfield 32, 3) := by decide +kernel
theorem dX1_set_34 : decode cX1_set 34 = .ok (.iconst 3, 1) := by decide +kernel
theorem dX1_set_35 : decode cX1_set 35 = .ok (.iaload, 1) := by decide +kernel
theorem dX1_set_36 : decode cX1_set 36 = .ok (.iload 4, 2) := by decide +kernel
theorem dX1_set_38 : decode cX1_set 38 = .ok (.iadd, 1) := by decide +kernel
theorem dX1_set_39 : decode cX1_set 39 = .ok (.putfield 38, 3) := by decide +kernel
theorem dX1_set_42 : decode cX1_set 42 = .ok (.return_, 1) := by decide +kernel
theorem dX2_init_0 : decode cX2_init 0 = .ok (.aload_n 0, 1) := by decide +kernel
theorem dX2_init_1 : decode cX2_init 1 = .ok (.invokespecial 3, 3) := by decide +kernel
theorem dX2_init_4 : decode cX2_init 4 = .ok (.aload_n 0, 1) := by decide +kernel
theorem dX2_init_5 : decode cX2_init 5 = .ok (.new 9, 3) := by decide +kernel
theorem dX2_init_8 : decode cX2_init 8 = .ok (.dup, 1) := by decide +kernel
theorem dX2_init_9 : decode cX2_init 9 = .ok (.invokespecial 11, 3) := by decide +kernel
theorem dX2_init_12 : decode cX2_init 12 = .ok (.putfield 12, 3) := by decide +kernel
theorem dX2_init_15 : decode cX2_init 15 = .ok (.aload_n 0, 1) := by decide +kernel
theorem dX2_init_16 : decode cX2_init 16 = .ok (.bipush 96, 2) := by decide +kernel
theorem dX2_init_18 : decode cX2_init 18 = .ok (.newarray .int, 2) := by decide +kernel
theorem dX2_init_20 : decode cX2_init 20 = .ok (.putfield 18, 3) := by decide +kernel
theorem dX2_init_23 : decode cX2_init 23 = .ok (.aload_n 0, 1) := by decide +kernel
theorem dX2_init_24 : decode cX2_init 24 = .ok (.bipush 70, 2) := by decide +kernel
theorem dX2_init_26 : decode cX2_init 26 = .ok (.newarray .int, 2) := by decide +kernel
theorem dX2_init_28 : decode cX2_init 28 = .ok (.putfield 22, 3) := by decide +kernel
theorem dX2_init_31 : decode cX2_init 31 = .ok (.aload_n 0, 1) := by decide +kernel
theorem dX2_init_32 : decode cX2_init 32 = .ok (.bipush 70, 2) := by decide +kernel
theorem dX2_init_34 : decode cX2_init 34 = .ok (.newarray .int, 2) := by decide +kernel
theorem dX2_init_36 : decode cX2_init 36 = .ok (.putfield 25, 3) := by decide +kernel
theorem dX2_init_39 : decode cX2_init 39 = .ok (.aload_n 0, 1) := by decide +kernel
theorem dX2_init_40 : decode cX2_init 40 = .ok (.sipush 501, 3) := by decide +kernel
theorem dX2_init_43 : decode cX2_init 43 = .ok (.newarray .int, 2) := by decide +kernel
theorem dX2_init_45 : decode cX2_init 45 = .ok (.putfield 28, 3) := by decide +kernel
theorem dX2_init_48 : decode cX2_init 48 = .ok (.aload_n 0, 1) := by decide +kernel
theorem dX2_init_49 : decode cX2_init 49 = .ok (.aload_n 1, 1) := by decide +kernel
theorem dX2_init_50 : decode cX2_init 50 = .ok (.putfield 31, 3) := by decide +kernel
theorem dX2_init_53 : decode cX2_init 53 = .ok (.aload_n 0, 1) := by decide +kernel
theorem dX2_init_54 : decode cX2_init 54 = .ok (.aload_n 2, 1) := by decide +kernel
theorem dX2_init_55 : decode cX2_init 55 = .ok (.putfield 35, 3) := by decide +kernel
theorem dX2_init_58 : decode cX2_init 58 = .ok (.aload_n 0, 1) := by decide +kernel
theorem dX2_init_59 : decode cX2_init 59 = .ok (.iload_n 3, 1) := by decide +kernel
theorem dX2_init_60 : decode cX2_init 60 = .ok (.putfield 39, 3) := by decide +kernel
theorem dX2_init_63 : decode cX2_init 63 = .ok (.return_, 1) := by decide +kernel
theorem dX2_forget_0 : decode cX2_forget 0 = .ok (.aload_n 0, 1) := by decide +kernel
theorem dX2_forget_1 : decode cX2_forget 1 = .ok (.iconst 0, 1) := by decide +kernel
theorem dX2_forget_2 : decode cX2_forget 2 = .ok (.putfield 43, 3) := by decide +kernel
theorem dX2_forget_5 : decode cX2_forget 5 = .ok (.aload_n 0, 1) := by decide +kernel
theorem dX2_forget_6 : decode cX2_forget 6 = .ok (.iconst 0, 1) := by decide +kernel
theorem dX2_forget_7 : decode cX2_forget 7 = .ok (.putfield 47, 3) := by decide +kernel
theorem dX2_forget_10 : decode cX2_forget 10 = .ok (.aload_n 0, 1) := by decide +kernel
theorem dX2_forget_11 : decode cX2_forget 11 = .ok (.iconst 0, 1) := by decide +kernel
theorem dX2_forget_12 : decode cX2_forget 12 = .ok (.putfield 50, 3) := by decide +kernel
theorem dX2_forget_15 : decode cX2_forget 15 = .ok (.aload_n 0, 1) := by decide +kernel
theorem dX2_forget_16 : decode cX2_forget 16 = .ok (.iconst 0, 1) := by decide +kernel
theorem dX2_forget_17 : decode cX2_forget 17 = .ok (.putfield 53, 3) := by decide +kernel
theorem dX2_forget_20 : decode cX2_forget 20 = .ok (.return_, 1) := by decide +kernel
theorem dX3_init_0 : decode cX3_init 0 = .ok (.aload_n 0, 1) := by decide +kernel
theorem dX3_init_1 : decode cX3_init 1 = .ok (.invokespecial 3, 3) := by decide +kernel
theorem dX3_init_4 : decode cX3_init 4 = .ok (.aload_n 0, 1) := by decide +kernel
theorem dX3_init_5 : decode cX3_init 5 = .ok (.new 9, 3) := by decide +kernel
theorem dX3_init_8 : decode cX3_init 8 = .ok (.dup, 1) := by decide +kernel
theorem dX3_init_9 : decode cX3_init 9 = .ok (.aload_n 1, 1) := by decide +kernel
theorem dX3_init_10 : decode cX3_init 10 = .ok (.invokespecial 11, 3) := by decide +kernel
theorem dX3_init_13 : decode cX3_init 13 = .ok (.putfield 14, 3) := by decide +kernel
theorem dX3_init_16 : decode cX3_init 16 = .ok (.aload_n 0, 1) := by decide +kernel
theorem dX3_init_17 : decode cX3_init 17 = .ok (.new 20, 3) := by decide +kernel
theorem dX3_init_20 : decode cX3_init 20 = .ok (.dup, 1) := by decide +kernel
theorem dX3_init_21 : decode cX3_init 21 = .ok (.invokespecial 22, 3) := by decide +kernel
theorem dX3_init_24 : decode cX3_init 24 = .ok (.putfield 23, 3) := by decide +kernel
theorem dX3_init_27 : decode cX3_init 27 = .ok (.aload_n 0, 1) := by decide +kernel
theorem dX3_init_28 : decode cX3_init 28 = .ok (.iconst 0, 1) := by decide +kernel
theorem dX3_init_29 : decode cX3_init 29 = .ok (.putfield 27, 3) := by decide +kernel
theorem dX3_init_32 : decode cX3_init 32 = .ok (.aload_n 0, 1) := by decide +kernel
theorem dX3_init_33 : decode cX3_init 33 = .ok (.iconst (-1), 1) := by decide +kernel
theorem dX3_init_34 : decode cX3_init 34 = .ok (.putfield 31, 3) := by decide +kernel
theorem dX3_init_37 : decode cX3_init 37 = .ok (.return_, 1) := by decide +kernel
theorem dX3_readTape_0 : decode cX3_readTape 0 = .ok (.aload_n 0, 1) := by decide +kernel
theorem dX3_readTape_1 : decode cX3_readTape 1 = .ok (.getfield 14, 3) := by decide +kernel
theorem dX3_readTape_4 : decode cX3_readTape 4 = .ok (.invokevirtual 34, 3) := by decide +kernel
theorem dX3_readTape_7 : decode cX3_readTape 7 = .ok (.aload_n 0, 1) := by decide +kernel
theorem dX3_readTape_8 : decode cX3_readTape 8 = .ok (.getfield 23, 3) := by decide +kernel
theorem dX3_readTape_11 : decode cX3_readTape 11 = .ok (.invokevirtual 37, 3) := by decide +kernel
theorem dX3_readTape_14 : decode cX3_readTape 14 = .ok (.aload_n 0, 1) := by decide +kernel
theorem dX3_readTape_15 : decode cX3_readTape 15 = .ok (.iconst 0, 1) := by decide +kernel
theorem dX3_readTape_16 : decode cX3_readTape 16 = .ok (.putfield 27, 3) := by decide +kernel
theorem dX3_readTape_19 : decode cX3_readTape 19 = .ok (.aload_n 0, 1) := by decide +kernel
theorem dX3_readTape_20 : decode cX3_readTape 20 = .ok (.iconst (-1), 1) := by decide +kernel
theorem dX3_readTape_21 : decode cX3_readTape 21 = .ok (.putfield 31, 3) := by decide +kernel
theorem dX3_readTape_24 : decode cX3_readTape 24 = .ok (.iconst 0, 1) := by decide +kernel
theorem dX3_readTape_25 : decode cX3_readTape 25 = .ok (.istore_n 1, 1) := by decide +kernel
theorem dX3_readTape_26 : decode cX3_readTape 26 = .ok (.iload_n 1, 1) := by decide +kernel
theorem dX3_readTape_27 : decode cX3_readTape 27 = .ok (.bipush 60, 2) := by decide +kernel
theorem dX3_readTape_29 : decode cX3_readTape 29 = .ok (.if_icmp .gt 47, 3) := by decide +kernel
theorem dX3_readTape_32 : decode cX3_readTape 32 = .ok (.aload_n 0, 1) := by decide +kernel
theorem dX3_readTape_33 : decode cX3_readTape 33 = .ok (.getfield 27, 3) := by decide +kernel
theorem dX3_readTape_36 : decode cX3_readTape 36 = .ok (.ifCond .ne 40, 3) := by decide +kernel
theorem dX3_readTape_39 : decode cX3_readTape 39 = .ok (.aload_n 0, 1) := by decide +kernel
theorem dX3_readTape_40 : decode cX3_readTape 40 = .ok (.getfield 14, 3) := by decide +kernel
theorem dX3_readTape_43 : decode cX3_readTape 43 = .ok (.invokevirtual 40, 3) := by decide +kernel
theorem dX3_readTape_46 : decode cX3_readTape 46 = .ok (.aload_n 0, 1) := by decide +kernel
theorem dX3_readTape_47 : decode cX3_readTape 47 = .ok (.iconst 0, 1) := by decide +kernel
theorem dX3_readTape_48 : decode cX3_readTape 48 = .ok (.putfield 43, 3) := by decide +kernel
theorem dX3_readTape_51 : decode cX3_readTape 51 = .ok (.aload_n 0, 1) := by decide +kernel
theorem dX3_readTape_52 : decode cX3_readTape 52 = .ok (.getfield 14, 3) := by decide +kernel
theorem dX3_readTape_55 : decode cX3_readTape 55 = .ok (.getfield 46, 3) := by decide +kernel
theorem dX3_readTape_58 : decode cX3_readTape 58 = .ok (.iconst 0, 1) := by decide +kernel
theorem dX3_readTape_59 : decode cX3_readTape 59 = .ok (.iaload, 1) := by decide +kernel
theorem dX3_readTape_60 : decode cX3_readTape 60 = .ok (.ifCond .ne 6, 3) := by decide +kernel
theorem dX3_readTape_63 : decode cX3_readTape 63 = .ok (.goto 13, 3) := by decide +kernel
theorem dX3_readTape_66 : decode cX3_readTape 66 = .ok (.aload_n 0, 1) := by decide +kernel
theorem dX3_readTape_67 : decode cX3_readTape 67 = .ok (.invokevirtual 50, 3) := by decide +kernel
theorem dX3_readTape_70 : decode cX3_readTape 70 = .ok (.iinc 1 1, 3) := by decide +kernel
theorem dX3_readTape_73 : decode cX3_readTape 73 = .ok (.goto (-47), 3) := by decide +kernel
theorem dX3_readTape_76 : decode cX3_readTape 76 = .ok (.aload_n 0, 1) := by decide +kernel
theorem dX3_readTape_77 : decode cX3_readTape 77 = .ok (.getfield 27, 3) := by decide +kernel
theorem dX3_readTape_80 : decode cX3_readTape 80 = .ok (.ifCond .eq 5, 3) := by decide +kernel
theorem dX3_readTape_83 : decode cX3_readTape 83 = .ok (.iconst 0, 1) := by decide +kernel
theorem dX3_readTape_84 : decode cX3_readTape 84 = .ok (.ireturn, 1) := by decide +kernel
theorem dX3_readTape_85 : decode cX3_readTape 85 = .ok (.aload_n 0, 1) := by decide +kernel
theorem dX3_readTape_86 : decode cX3_readTape 86 = .ok (.getfield 23, 3) := by decide +kernel
theorem dX3_readTape_89 : decode cX3_readTape 89 = .ok (.invokevirtual 53, 3) := by decide +kernel
theorem dX3_readTape_92 : decode cX3_readTape 92 = .ok (.iconst 1, 1) := by decide +kernel
theorem dX3_readTape_93 : decode cX3_readTape 93 = .ok (.ireturn, 1) := by decide +kernel
theorem dX4_init_0 : decode cX4_init 0 = .ok (.aload_n 0, 1) := by decide +kernel
theorem dX4_init_1 : decode cX4_init 1 = .ok (.invokespecial 3, 3) := by decide +kernel
theorem dX4_init_4 : decode cX4_init 4 = .ok (.aload_n 0, 1) := by decide +kernel
theorem dX4_init_5 : decode cX4_init 5 = .ok (.bipush 12, 2) := by decide +kernel
theorem dX4_init_7 : decode cX4_init 7 = .ok (.newarray .int, 2) := by decide +kernel
theorem dX4_init_9 : decode cX4_init 9 = .ok (.putfield 11, 3) := by decide +kernel
theorem dX4_init_12 : decode cX4_init 12 = .ok (.aload_n 0, 1) := by decide +kernel
theorem dX4_init_13 : decode cX4_init 13 = .ok (.bipush 12, 2) := by decide +kernel
theorem dX4_init_15 : decode cX4_init 15 = .ok (.newarray .int, 2) := by decide +kernel
theorem dX4_init_17 : decode cX4_init 17 = .ok (.putfield 15, 3) := by decide +kernel
theorem dX4_init_20 : decode cX4_init 20 = .ok (.aload_n 0, 1) := by decide +kernel
theorem dX4_init_21 : decode cX4_init 21 = .ok (.bipush 12, 2) := by decide +kernel
theorem dX4_init_23 : decode cX4_init 23 = .ok (.newarray .int, 2) := by decide +kernel
theorem dX4_init_25 : decode cX4_init 25 = .ok (.putfield 18, 3) := by decide +kernel
theorem dX4_init_28 : decode cX4_init 28 = .ok (.aload_n 0, 1) := by decide +kernel
theorem dX4_init_29 : decode cX4_init 29 = .ok (.aload_n 1, 1) := by decide +kernel
theorem dX4_init_30 : decode cX4_init 30 = .ok (.putfield 21, 3) := by decide +kernel
theorem dX4_init_33 : decode cX4_init 33 = .ok (.return_, 1) := by decide +kernel
theorem dX4_restart_0 : decode cX4_restart 0 = .ok (.aload_n 0, 1) := by decide +kernel
theorem dX4_restart_1 : decode cX4_restart 1 = .ok (.iconst 0, 1) := by decide +kernel
theorem dX4_restart_2 : decode cX4_restart 2 = .ok (.putfield 25, 3) := by decide +kernel
theorem dX4_restart_5 : decode cX4_restart 5 = .ok (.aload_n 0, 1) := by decide +kernel
theorem dX4_restart_6 : decode cX4_restart 6 = .ok (.iconst 0, 1) := by decide +kernel
theorem dX4_restart_7 : decode cX4_restart 7 = .ok (.putfield 29, 3) := by decide +kernel
theorem dX4_restart_10 : decode cX4_restart 10 = .ok (.return_, 1) := by decide +kernel
theorem dX4_scanLine_0 : decode cX4_scanLine 0 = .ok (.aload_n 0, 1) := by decide +kernel
theorem dX4_scanLine_1 : decode cX4_scanLine 1 = .ok (.iconst 0, 1) := by decide +kernel
theorem dX4_scanLine_2 : decode cX4_scanLine 2 = .ok (.putfield 25, 3) := by decide +kernel
theorem dX4_scanLine_5 : decode cX4_scanLine 5 = .ok (.iconst 0, 1) := by decide +kernel
theorem dX4_scanLine_6 : decode cX4_scanLine 6 = .ok (.istore_n 1, 1) := by decide +kernel
theorem dX4_scanLine_7 : decode cX4_scanLine 7 = .ok (.iload_n 1, 1) := by decide +kernel
theorem dX4_scanLine_8 : decode cX4_scanLine 8 = .ok (.bipush 12, 2) := by decide +kernel
theorem dX4_scanLine_10 : decode cX4_scanLine 10 = .ok (.if_icmp .ge 60, 3) := by decide +kernel
theorem dX4_scanLine_13 : decode cX4_scanLine 13 = .ok (.aload_n 0, 1) := by decide +kernel
theorem dX4_scanLine_14 : decode cX4_scanLine 14 = .ok (.getfield 15, 3) := by decide +kernel
theorem dX4_scanLine_17 : decode cX4_scanLine 17 = .ok (.iload_n 1, 1) := by decide +kernel
theorem dX4_scanLine_18 : decode cX4_scanLine 18 = .ok (.aload_n 0, 1) := by decide +kernel
theorem dX4_scanLine_19 : decode cX4_scanLine 19 = .ok (.invokevirtual 32, 3) := by decide +kernel
theorem dX4_scanLine_22 : decode cX4_scanLine 22 = .ok (.iastore, 1) := by decide +kernel
theorem dX4_scanLine_23 : decode cX4_scanLine 23 = .ok (.aload_n 0, 1) := by decide +kernel
theorem dX4_scanLine_24 : decode cX4_scanLine 24 = .ok (.getfield 11, 3) := by decide +kernel
theorem dX4_scanLine_27 : decode cX4_scanLine 27 = .ok (.iload_n 1, 1) := by decide +kernel
theorem dX4_scanLine_28 : decode cX4_scanLine 28 = .ok (.aload_n 0, 1) := by decide +kernel
theorem dX4_scanLine_29 : decode cX4_scanLine 29 = .ok (.iload_n 1, 1) := by decide +kernel
theorem dX4_scanLine_30 : decode cX4_scanLine 30 = .ok (.invokevirtual 36, 3) := by decide +kernel
theorem dX4_scanLine_33 : decode cX4_scanLine 33 = .ok (.iastore, 1) := by decide +kernel
theorem dX4_scanLine_34 : decode cX4_scanLine 34 = .ok (.aload_n 0, 1) := by decide +kernel
theorem dX4_scanLine_35 : decode cX4_scanLine 35 = .ok (.iload_n 1, 1) := by decide +kernel
theorem dX4_scanLine_36 : decode cX4_scanLine 36 = .ok (.iconst 1, 1) := by decide +kernel
theorem dX4_scanLine_37 : decode cX4_scanLine 37 = .ok (.iadd, 1) := by decide +kernel
theorem dX4_scanLine_38 : decode cX4_scanLine 38 = .ok (.putfield 25, 3) := by decide +kernel
theorem dX4_scanLine_41 : decode cX4_scanLine 41 = .ok (.aload_n 0, 1) := by decide +kernel
theorem dX4_scanLine_42 : decode cX4_scanLine 42 = .ok (.getfield 11, 3) := by decide +kernel
theorem dX4_scanLine_45 : decode cX4_scanLine 45 = .ok (.iload_n 1, 1) := by decide +kernel
theorem dX4_scanLine_46 : decode cX4_scanLine 46 = .ok (.iaload, 1) := by decide +kernel
theorem dX4_scanLine_47 : decode cX4_scanLine 47 = .ok (.iconst 1, 1) := by decide +kernel
theorem dX4_scanLine_48 : decode cX4_scanLine 48 = .ok (.if_icmp .eq 16, 3) := by decide +kernel
theorem dX4_scanLine_51 : decode cX4_scanLine 51 = .ok (.aload_n 0, 1) := by decide +kernel
theorem dX4_scanLine_52 : decode cX4_scanLine 52 = .ok (.getfield 11, 3) := by decide +kernel
theorem dX4_scanLine_55 : decode cX4_scanLine 55 = .ok (.iload_n 1, 1) := by decide +kernel
theorem dX4_scanLine_56 : decode cX4_scanLine 56 = .ok (.iaload, 1) := by decide +kernel
theorem dX4_scanLine_57 : decode cX4_scanLine 57 = .ok (.iconst 2, 1) := by decide +kernel
theorem dX4_scanLine_58 : decode cX4_scanLine 58 = .ok (.if_icmp .eq 6, 3) := by decide +kernel
theorem dX4_scanLine_61 : decode cX4_scanLine 61 = .ok (.goto 9, 3) := by decide +kernel
theorem dX4_scanLine_64 : decode cX4_scanLine 64 = .ok (.iinc 1 1, 3) := by decide +kernel
theorem dX4_scanLine_67 : decode cX4_scanLine 67 = .ok (.goto (-60), 3) := by decide +kernel
theorem dX4_scanLine_70 : decode cX4_scanLine 70 = .ok (.return_, 1) := by decide +kernel
theorem dX4_skipBlanks_0 : decode cX4_skipBlanks 0 = .ok (.aload_n 0, 1) := by decide +kernel
theorem dX4_skipBlanks_1 : decode cX4_skipBlanks 1 = .ok (.getfield 29, 3) := by decide +kernel
theorem dX4_skipBlanks_4 : decode cX4_skipBlanks 4 = .ok (.aload_n 0, 1) := by decide +kernel
theorem dX4_skipBlanks_5 : decode cX4_skipBlanks 5 = .ok (.getfield 21, 3) := by decide +kernel
theorem dX4_skipBlanks_8 : decode cX4_skipBlanks 8 = .ok (.getfield 54, 3) := by decide +kernel
theorem dX4_skipBlanks_11 : decode cX4_skipBlanks 11 = .ok (.if_icmp .ge 33, 3) := by decide +kernel
theorem dX4_skipBlanks_14 : decode cX4_skipBlanks 14 = .ok (.aload_n 0, 1) := by decide +kernel
theorem dX4_skipBlanks_15 : decode cX4_skipBlanks 15 = .ok (.getfield 21, 3) := by decide +kernel
theorem dX4_skipBlanks_18 : decode cX4_skipBlanks 18 = .ok (.aload_n 0, 1) := by decide +kernel
theorem dX4_skipBlanks_19 : decode cX4_skipBlanks 19 = .ok (.getfield 29, 3) := by decide +kernel
theorem dX4_skipBlanks_22 : decode cX4_skipBlanks 22 = .ok (.invokevirtual 45, 3) := by decide +kernel
theorem dX4_skipBlanks_25 : decode cX4_skipBlanks 25 = .ok (.invokestatic 56, 3) := by decide +kernel
theorem dX4_skipBlanks_28 : decode cX4_skipBlanks 28 = .ok (.ifCond .eq 16, 3) := by decide +kernel
theorem dX4_skipBlanks_31 : decode cX4_skipBlanks 31 = .ok (.aload_n 0, 1) := by decide +kernel
theorem dX4_skipBlanks_32 : decode cX4_skipBlanks 32 = .ok (.dup, 1) := by decide +kernel
theorem dX4_skipBlanks_33 : decode cX4_skipBlanks 33 = .ok (.getfield 29, 3) := by decide +kernel
theorem dX4_skipBlanks_36 : decode cX4_skipBlanks 36 = .ok (.iconst 1, 1) := by decide +kernel
theorem dX4_skipBlanks_37 : decode cX4_skipBlanks 37 = .ok (.iadd, 1) := by decide +kernel
theorem dX4_skipBlanks_38 : decode cX4_skipBlanks 38 = .ok (.putfield 29, 3) := by decide +kernel
theorem dX4_skipBlanks_41 : decode cX4_skipBlanks 41 = .ok (.goto (-41), 3) := by decide +kernel
theorem dX4_skipBlanks_44 : decode cX4_skipBlanks 44 = .ok (.aload_n 0, 1) := by decide +kernel
theorem dX4_skipBlanks_45 : decode cX4_skipBlanks 45 = .ok (.getfield 29, 3) := by decide +kernel
theorem dX4_skipBlanks_48 : decode cX4_skipBlanks 48 = .ok (.ireturn, 1) := by decide +kernel
theorem dX4_scanToken_0 : decode cX4_scanToken 0 = .ok (.aload_n 0, 1) := by decide +kernel
theorem dX4_scanToken_1 : decode cX4_scanToken 1 = .ok (.getfield 21, 3) := by decide +kernel
theorem dX4_scanToken_4 : decode cX4_scanToken 4 = .ok (.aload_n 0, 1) := by decide +kernel
theorem dX4_scanToken_5 : decode cX4_scanToken 5 = .ok (.getfield 29, 3) := by decide +kernel
theorem dX4_scanToken_8 : decode cX4_scanToken 8 = .ok (.invokevirtual 45, 3) := by decide +kernel
theorem dX4_scanToken_11 : decode cX4_scanToken 11 = .ok (.istore_n 2, 1) := by decide +kernel
theorem dX4_scanToken_12 : decode cX4_scanToken 12 = .ok (.iload_n 2, 1) := by decide +kernel
theorem dX4_scanToken_13 : decode cX4_scanToken 13 = .ok (.iconst (-1), 1) := by decide +kernel
theorem dX4_scanToken_14 : decode cX4_scanToken 14 = .ok (.if_icmp .ne 5, 3) := by decide +kernel
theorem dX4_scanToken_17 : decode cX4_scanToken 17 = .ok (.iconst 0, 1) := by decide +kernel
theorem dX4_scanToken_18 : decode cX4_scanToken 18 = .ok (.ireturn, 1) := by decide +kernel
theorem dX4_scanToken_19 : decode cX4_scanToken 19 = .ok (.iload_n 2, 1) := by decide +kernel
theorem dX4_scanToken_20 : decode cX4_scanToken 20 = .ok (.invokestatic 60, 3) := by decide +kernel
theorem dX4_scanToken_23 : decode cX4_scanToken 23 = .ok (.ifCond .eq 9, 3) := by decide +kernel
theorem dX4_scanToken_26 : decode cX4_scanToken 26 = .ok (.aload_n 0, 1) := by decide +kernel
theorem dX4_scanToken_27 : decode cX4_scanToken 27 = .ok (.iload_n 1, 1) := by decide +kernel
theorem dX4_scanToken_28 : decode cX4_scanToken 28 = .ok (.invokevirtual 63, 3) := by decide +kernel
theorem dX4_scanToken_31 : decode cX4_scanToken 31 = .ok (.ireturn, 1) := by decide +kernel
theorem dX4_scanToken_32 : decode cX4_scanToken 32 = .ok (.iload_n 2, 1) := by decide +kernel
theorem dX4_scanToken_33 : decode cX4_scanToken 33 = .ok (.bipush 45, 2) := by decide +kernel
theorem dX4_scanToken_35 : decode cX4_scanToken 35 = .ok (.if_icmp .eq 10, 3) := by decide +kernel
theorem dX4_scanToken_38 : decode cX4_scanToken 38 = .ok (.iload_n 2, 1) := by decide +kernel
theorem dX4_scanToken_39 : decode cX4_scanToken 39 = .ok (.invokestatic 66, 3) := by decide +kernel
theorem dX4_scanToken_42 : decode cX4_scanToken 42 = .ok (.ifCond .eq 20, 3) := by decide +kernel
theorem dX4_scanToken_45 : decode cX4_scanToken 45 = .ok (.aload_n 0, 1) := by decide +kernel
theorem dX4_scanToken_46 : decode cX4_scanToken 46 = .ok (.iload_n 1, 1) := by decide +kernel
theorem dX4_scanToken_47 : decode cX4_scanToken 47 = .ok (.iload_n 2, 1) := by decide +kernel
theorem dX4_scanToken_48 : decode cX4_scanToken 48 = .ok (.bipush 45, 2) := by decide +kernel
theorem dX4_scanToken_50 : decode cX4_scanToken 50 = .ok (.if_icmp .ne 7, 3) := by decide +kernel
theorem dX4_scanToken_53 : decode cX4_scanToken 53 = .ok (.iconst 1, 1) := by decide +kernel
theorem dX4_scanToken_54 : decode cX4_scanToken 54 = .ok (.goto 4, 3) := by decide +kernel
theorem dX4_scanToken_57 : decode cX4_scanToken 57 = .ok (.iconst 0, 1) := by decide +kernel
theorem dX4_scanToken_58 : decode cX4_scanToken 58 = .ok (.invokevirtual 69, 3) := by decide +kernel
theorem dX4_scanToken_61 : decode cX4_scanToken 61 = .ok (.ireturn, 1) := by decide +kernel
theorem dX4_scanToken_62 : decode cX4_scanToken 62 = .ok (.aload_n 0, 1) := by decide +kernel
theorem dX4_scanToken_63 : decode cX4_scanToken 63 = .ok (.dup, 1) := by decide +kernel
theorem dX4_scanToken_64 : decode cX4_scanToken 64 = .ok (.getfield 29, 3) := by decide +kernel
theorem dX4_scanToken_67 : decode cX4_scanToken 67 = .ok (.iconst 1, 1) := by decide +kernel
end
section
theorem dX4_scanToken_68 : decode cX4_scanToken 68 = .ok (.iadd, 1) := by decide +kernel
theorem dX4_scanToken_69 : decode cX4_scanToken 69 = .ok (.putfield 29, 3) := by decide +kernel
theorem dX4_scanToken_72 : decode cX4_scanToken 72 = .ok (.iload_n 2, 1) := by decide +kernel
theorem dX4_scanToken_73 : decode cX4_scanToken 73 = .ok (.bipush 59, 2) := by decide +kernel
theorem dX4_scanToken_75 : decode cX4_scanToken 75 = .ok (.if_icmp .ne 7, 3) := by decide +kernel
theorem dX4_scanToken_78 : decode cX4_scanToken 78 = .ok (.iconst 3, 1) := by decide +kernel
theorem dX4_scanToken_79 : decode cX4_scanToken 79 = .ok (.goto 4, 3) := by decide +kernel
theorem dX4_scanToken_82 : decode cX4_scanToken 82 = .ok (.iconst 4, 1) := by decide +kernel
theorem dX4_scanToken_83 : decode cX4_scanToken 83 = .ok (.ireturn, 1) := by decide +kernel
theorem dX5_init_0 : decode cX5_init 0 = .ok (.aload_n 0, 1) := by decide +kernel
theorem dX5_init_1 : decode cX5_init 1 = .ok (.invokespecial 3, 3) := by decide +kernel
theorem dX5_init_4 : decode cX5_init 4 = .ok (.aload_n 0, 1) := by decide +kernel
theorem dX5_init_5 : decode cX5_init 5 = .ok (.sipush 1000, 3) := by decide +kernel
theorem dX5_init_8 : decode cX5_init 8 = .ok (.newarray .int, 2) := by decide +kernel
theorem dX5_init_10 : decode cX5_init 10 = .ok (.putfield 9, 3) := by decide +kernel
theorem dX5_init_13 : decode cX5_init 13 = .ok (.return_, 1) := by decide +kernel
theorem dX5_hasRoomFor_0 : decode cX5_hasRoomFor 0 = .ok (.aload_n 0, 1) := by decide +kernel
theorem dX5_hasRoomFor_1 : decode cX5_hasRoomFor 1 = .ok (.getfield 15, 3) := by decide +kernel
theorem dX5_hasRoomFor_4 : decode cX5_hasRoomFor 4 = .ok (.iload_n 1, 1) := by decide +kernel
theorem dX5_hasRoomFor_5 : decode cX5_hasRoomFor 5 = .ok (.iadd, 1) := by decide +kernel
theorem dX5_hasRoomFor_6 : decode cX5_hasRoomFor 6 = .ok (.sipush 1000, 3) := by decide +kernel
theorem dX5_hasRoomFor_9 : decode cX5_hasRoomFor 9 = .ok (.if_icmp .gt 7, 3) := by decide +kernel
theorem dX5_hasRoomFor_12 : decode cX5_hasRoomFor 12 = .ok (.iconst 1, 1) := by decide +kernel
theorem dX5_hasRoomFor_13 : decode cX5_hasRoomFor 13 = .ok (.goto 4, 3) := by decide +kernel
theorem dX5_hasRoomFor_16 : decode cX5_hasRoomFor 16 = .ok (.iconst 0, 1) := by decide +kernel
theorem dX5_hasRoomFor_17 : decode cX5_hasRoomFor 17 = .ok (.ireturn, 1) := by decide +kernel
theorem dX5_put_0 : decode cX5_put 0 = .ok (.aload_n 0, 1) := by decide +kernel
theorem dX5_put_1 : decode cX5_put 1 = .ok (.iconst 4, 1) := by decide +kernel
theorem dX5_put_2 : decode cX5_put 2 = .ok (.invokevirtual 19, 3) := by decide +kernel
theorem dX5_put_5 : decode cX5_put 5 = .ok (.ifCond .ne 4, 3) := by decide +kernel
theorem dX5_put_8 : decode cX5_put 8 = .ok (.return_, 1) := by decide +kernel
theorem dX5_put_9 : decode cX5_put 9 = .ok (.bipush 24, 2) := by decide +kernel
theorem dX5_put_11 : decode cX5_put 11 = .ok (.istore_n 2, 1) := by decide +kernel
theorem dX5_put_12 : decode cX5_put 12 = .ok (.iload_n 2, 1) := by decide +kernel
theorem dX5_put_13 : decode cX5_put 13 = .ok (.ifCond .lt 35, 3) := by decide +kernel
theorem dX5_put_16 : decode cX5_put 16 = .ok (.aload_n 0, 1) := by decide +kernel
theorem dX5_put_17 : decode cX5_put 17 = .ok (.getfield 9, 3) := by decide +kernel
theorem dX5_put_20 : decode cX5_put 20 = .ok (.aload_n 0, 1) := by decide +kernel
theorem dX5_put_21 : decode cX5_put 21 = .ok (.getfield 15, 3) := by decide +kernel
theorem dX5_put_24 : decode cX5_put 24 = .ok (.iload_n 1, 1) := by decide +kernel
theorem dX5_put_25 : decode cX5_put 25 = .ok (.iload_n 2, 1) := by decide +kernel
theorem dX5_put_26 : decode cX5_put 26 = .ok (.iushr, 1) := by decide +kernel
theorem dX5_put_27 : decode cX5_put 27 = .ok (.sipush 255, 3) := by decide +kernel
theorem dX5_put_30 : decode cX5_put 30 = .ok (.iand, 1) := by decide +kernel
theorem dX5_put_31 : decode cX5_put 31 = .ok (.iastore, 1) := by decide +kernel
theorem dX5_put_32 : decode cX5_put 32 = .ok (.aload_n 0, 1) := by decide +kernel
theorem dX5_put_33 : decode cX5_put 33 = .ok (.dup, 1) := by decide +kernel
theorem dX5_put_34 : decode cX5_put 34 = .ok (.getfield 15, 3) := by decide +kernel
theorem dX5_put_37 : decode cX5_put 37 = .ok (.iconst 1, 1) := by decide +kernel
theorem dX5_put_38 : decode cX5_put 38 = .ok (.iadd, 1) := by decide +kernel
theorem dX5_put_39 : decode cX5_put 39 = .ok (.putfield 15, 3) := by decide +kernel
theorem dX5_put_42 : decode cX5_put 42 = .ok (.iinc 2 (-8), 3) := by decide +kernel
theorem dX5_put_45 : decode cX5_put 45 = .ok (.goto (-33), 3) := by decide +kernel
theorem dX5_put_48 : decode cX5_put 48 = .ok (.return_, 1) := by decide +kernel
theorem dX5_byteAt_0 : decode cX5_byteAt 0 = .ok (.iload_n 1, 1) := by decide +kernel
theorem dX5_byteAt_1 : decode cX5_byteAt 1 = .ok (.ifCond .lt 20, 3) := by decide +kernel
theorem dX5_byteAt_4 : decode cX5_byteAt 4 = .ok (.iload_n 1, 1) := by decide +kernel
theorem dX5_byteAt_5 : decode cX5_byteAt 5 = .ok (.aload_n 0, 1) := by decide +kernel
theorem dX5_byteAt_6 : decode cX5_byteAt 6 = .ok (.getfield 15, 3) := by decide +kernel
theorem dX5_byteAt_9 : decode cX5_byteAt 9 = .ok (.if_icmp .ge 12, 3) := by decide +kernel
theorem dX5_byteAt_12 : decode cX5_byteAt 12 = .ok (.aload_n 0, 1) := by decide +kernel
theorem dX5_byteAt_13 : decode cX5_byteAt 13 = .ok (.getfield 9, 3) := by decide +kernel
theorem dX5_byteAt_16 : decode cX5_byteAt 16 = .ok (.iload_n 1, 1) := by decide +kernel
theorem dX5_byteAt_17 : decode cX5_byteAt 17 = .ok (.iaload, 1) := by decide +kernel
theorem dX5_byteAt_18 : decode cX5_byteAt 18 = .ok (.goto 4, 3) := by decide +kernel
theorem dX5_byteAt_21 : decode cX5_byteAt 21 = .ok (.iconst (-1), 1) := by decide +kernel
theorem dX5_byteAt_22 : decode cX5_byteAt 22 = .ok (.ireturn, 1) := by decide +kernel
theorem dX6_init_0 : decode cX6_init 0 = .ok (.aload_n 0, 1) := by decide +kernel
theorem dX6_init_1 : decode cX6_init 1 = .ok (.invokespecial 3, 3) := by decide +kernel
theorem dX6_init_4 : decode cX6_init 4 = .ok (.aload_n 0, 1) := by decide +kernel
theorem dX6_init_5 : decode cX6_init 5 = .ok (.bipush 16, 2) := by decide +kernel
theorem dX6_init_7 : decode cX6_init 7 = .ok (.newarray .int, 2) := by decide +kernel
theorem dX6_init_9 : decode cX6_init 9 = .ok (.putfield 9, 3) := by decide +kernel
theorem dX6_init_12 : decode cX6_init 12 = .ok (.aload_n 0, 1) := by decide +kernel
theorem dX6_init_13 : decode cX6_init 13 = .ok (.bipush 16, 2) := by decide +kernel
theorem dX6_init_15 : decode cX6_init 15 = .ok (.newarray .int, 2) := by decide +kernel
theorem dX6_init_17 : decode cX6_init 17 = .ok (.putfield 15, 3) := by decide +kernel
theorem dX6_init_20 : decode cX6_init 20 = .ok (.aload_n 0, 1) := by decide +kernel
theorem dX6_init_21 : decode cX6_init 21 = .ok (.bipush 16, 2) := by decide +kernel
theorem dX6_init_23 : decode cX6_init 23 = .ok (.newarray .int, 2) := by decide +kernel
theorem dX6_init_25 : decode cX6_init 25 = .ok (.putfield 18, 3) := by decide +kernel
theorem dX6_init_28 : decode cX6_init 28 = .ok (.return_, 1) := by decide +kernel
theorem dX7_init_0 : decode cX7_init 0 = .ok (.aload_n 0, 1) := by decide +kernel
theorem dX7_init_1 : decode cX7_init 1 = .ok (.invokespecial 3, 3) := by decide +kernel
theorem dX7_init_4 : decode cX7_init 4 = .ok (.aload_n 0, 1) := by decide +kernel
theorem dX7_init_5 : decode cX7_init 5 = .ok (.new 9, 3) := by decide +kernel
theorem dX7_init_8 : decode cX7_init 8 = .ok (.dup, 1) := by decide +kernel
theorem dX7_init_9 : decode cX7_init 9 = .ok (.invokespecial 11, 3) := by decide +kernel
theorem dX7_init_12 : decode cX7_init 12 = .ok (.putfield 12, 3) := by decide +kernel
theorem dX7_init_15 : decode cX7_init 15 = .ok (.aload_n 0, 1) := by decide +kernel
theorem dX7_init_16 : decode cX7_init 16 = .ok (.new 16, 3) := by decide +kernel
theorem dX7_init_19 : decode cX7_init 19 = .ok (.dup, 1) := by decide +kernel
theorem dX7_init_20 : decode cX7_init 20 = .ok (.aload_n 0, 1) := by decide +kernel
theorem dX7_init_21 : decode cX7_init 21 = .ok (.getfield 12, 3) := by decide +kernel
theorem dX7_init_24 : decode cX7_init 24 = .ok (.invokespecial 18, 3) := by decide +kernel
theorem dX7_init_27 : decode cX7_init 27 = .ok (.putfield 21, 3) := by decide +kernel
theorem dX7_init_30 : decode cX7_init 30 = .ok (.aload_n 0, 1) := by decide +kernel
theorem dX7_init_31 : decode cX7_init 31 = .ok (.new 25, 3) := by decide +kernel
theorem dX7_init_34 : decode cX7_init 34 = .ok (.dup, 1) := by decide +kernel
theorem dX7_init_35 : decode cX7_init 35 = .ok (.invokespecial 27, 3) := by decide +kernel
theorem dX7_init_38 : decode cX7_init 38 = .ok (.putfield 28, 3) := by decide +kernel
theorem dX7_init_41 : decode cX7_init 41 = .ok (.aload_n 0, 1) := by decide +kernel
theorem dX7_init_42 : decode cX7_init 42 = .ok (.getfield 28, 3) := by decide +kernel
theorem dX7_init_45 : decode cX7_init 45 = .ok (.invokevirtual 32, 3) := by decide +kernel
theorem dX7_init_48 : decode cX7_init 48 = .ok (.aload_n 0, 1) := by decide +kernel
theorem dX7_init_49 : decode cX7_init 49 = .ok (.new 35, 3) := by decide +kernel
theorem dX7_init_52 : decode cX7_init 52 = .ok (.dup, 1) := by decide +kernel
theorem dX7_init_53 : decode cX7_init 53 = .ok (.aload_n 0, 1) := by decide +kernel
theorem dX7_init_54 : decode cX7_init 54 = .ok (.getfield 28, 3) := by decide +kernel
theorem dX7_init_57 : decode cX7_init 57 = .ok (.invokespecial 37, 3) := by decide +kernel
theorem dX7_init_60 : decode cX7_init 60 = .ok (.putfield 40, 3) := by decide +kernel
theorem dX7_init_63 : decode cX7_init 63 = .ok (.aload_n 0, 1) := by decide +kernel
theorem dX7_init_64 : decode cX7_init 64 = .ok (.iconst 3, 1) := by decide +kernel
theorem dX7_init_65 : decode cX7_init 65 = .ok (.anewarray 44, 3) := by decide +kernel
theorem dX7_init_68 : decode cX7_init 68 = .ok (.putfield 46, 3) := by decide +kernel
theorem dX7_init_71 : decode cX7_init 71 = .ok (.iconst 0, 1) := by decide +kernel
theorem dX7_init_72 : decode cX7_init 72 = .ok (.istore_n 1, 1) := by decide +kernel
theorem dX7_init_73 : decode cX7_init 73 = .ok (.iload_n 1, 1) := by decide +kernel
theorem dX7_init_74 : decode cX7_init 74 = .ok (.iconst 3, 1) := by decide +kernel
theorem dX7_init_75 : decode cX7_init 75 = .ok (.if_icmp .ge 31, 3) := by decide +kernel
theorem dX7_init_78 : decode cX7_init 78 = .ok (.aload_n 0, 1) := by decide +kernel
theorem dX7_init_79 : decode cX7_init 79 = .ok (.getfield 46, 3) := by decide +kernel
theorem dX7_init_82 : decode cX7_init 82 = .ok (.iload_n 1, 1) := by decide +kernel
theorem dX7_init_83 : decode cX7_init 83 = .ok (.new 44, 3) := by decide +kernel
theorem dX7_init_86 : decode cX7_init 86 = .ok (.dup, 1) := by decide +kernel
theorem dX7_init_87 : decode cX7_init 87 = .ok (.aload_n 0, 1) := by decide +kernel
theorem dX7_init_88 : decode cX7_init 88 = .ok (.getfield 28, 3) := by decide +kernel
theorem dX7_init_91 : decode cX7_init 91 = .ok (.aload_n 0, 1) := by decide +kernel
theorem dX7_init_92 : decode cX7_init 92 = .ok (.getfield 40, 3) := by decide +kernel
theorem dX7_init_95 : decode cX7_init 95 = .ok (.iload_n 1, 1) := by decide +kernel
theorem dX7_init_96 : decode cX7_init 96 = .ok (.invokespecial 50, 3) := by decide +kernel
theorem dX7_init_99 : decode cX7_init 99 = .ok (.aastore, 1) := by decide +kernel
theorem dX7_init_100 : decode cX7_init 100 = .ok (.iinc 1 1, 3) := by decide +kernel
theorem dX7_init_103 : decode cX7_init 103 = .ok (.goto (-30), 3) := by decide +kernel
theorem dX7_init_106 : decode cX7_init 106 = .ok (.return_, 1) := by decide +kernel
theorem dX7_feed_0 : decode cX7_feed 0 = .ok (.aload_n 0, 1) := by decide +kernel
theorem dX7_feed_1 : decode cX7_feed 1 = .ok (.getfield 12, 3) := by decide +kernel
theorem dX7_feed_4 : decode cX7_feed 4 = .ok (.bipush 20, 2) := by decide +kernel
theorem dX7_feed_6 : decode cX7_feed 6 = .ok (.invokevirtual 53, 3) := by decide +kernel
theorem dX7_feed_9 : decode cX7_feed 9 = .ok (.ifCond .ne 5, 3) := by decide +kernel
theorem dX7_feed_12 : decode cX7_feed 12 = .ok (.iconst (-1), 1) := by decide +kernel
theorem dX7_feed_13 : decode cX7_feed 13 = .ok (.ireturn, 1) := by decide +kernel
theorem dX7_feed_14 : decode cX7_feed 14 = .ok (.aload_n 0, 1) := by decide +kernel
theorem dX7_feed_15 : decode cX7_feed 15 = .ok (.getfield 12, 3) := by decide +kernel
theorem dX7_feed_18 : decode cX7_feed 18 = .ok (.iload_n 1, 1) := by decide +kernel
theorem dX7_feed_19 : decode cX7_feed 19 = .ok (.invokevirtual 57, 3) := by decide +kernel
theorem dX7_feed_22 : decode cX7_feed 22 = .ok (.aload_n 0, 1) := by decide +kernel
theorem dX7_feed_23 : decode cX7_feed 23 = .ok (.getfield 12, 3) := by decide +kernel
theorem dX7_feed_26 : decode cX7_feed 26 = .ok (.iload_n 2, 1) := by decide +kernel
theorem dX7_feed_27 : decode cX7_feed 27 = .ok (.invokevirtual 57, 3) := by decide +kernel
theorem dX7_feed_30 : decode cX7_feed 30 = .ok (.aload_n 0, 1) := by decide +kernel
theorem dX7_feed_31 : decode cX7_feed 31 = .ok (.getfield 12, 3) := by decide +kernel
theorem dX7_feed_34 : decode cX7_feed 34 = .ok (.iload_n 3, 1) := by decide +kernel
theorem dX7_feed_35 : decode cX7_feed 35 = .ok (.invokevirtual 57, 3) := by decide +kernel
theorem dX7_feed_38 : decode cX7_feed 38 = .ok (.aload_n 0, 1) := by decide +kernel
theorem dX7_feed_39 : decode cX7_feed 39 = .ok (.getfield 12, 3) := by decide +kernel
theorem dX7_feed_42 : decode cX7_feed 42 = .ok (.iload 4, 2) := by decide +kernel
theorem dX7_feed_44 : decode cX7_feed 44 = .ok (.invokevirtual 57, 3) := by decide +kernel
theorem dX7_feed_47 : decode cX7_feed 47 = .ok (.aload_n 0, 1) := by decide +kernel
theorem dX7_feed_48 : decode cX7_feed 48 = .ok (.getfield 12, 3) := by decide +kernel
theorem dX7_feed_51 : decode cX7_feed 51 = .ok (.iload 5, 2) := by decide +kernel
theorem dX7_feed_53 : decode cX7_feed 53 = .ok (.invokevirtual 57, 3) := by decide +kernel
theorem dX7_feed_56 : decode cX7_feed 56 = .ok (.aload_n 0, 1) := by decide +kernel
theorem dX7_feed_57 : decode cX7_feed 57 = .ok (.getfield 12, 3) := by decide +kernel
theorem dX7_feed_60 : decode cX7_feed 60 = .ok (.getfield 61, 3) := by decide +kernel
theorem dX7_feed_63 : decode cX7_feed 63 = .ok (.ireturn, 1) := by decide +kernel
theorem dX7_end_0 : decode cX7_end 0 = .ok (.iload_n 1, 1) := by decide +kernel
theorem dX7_end_1 : decode cX7_end 1 = .ok (.ifCond .lt 14, 3) := by decide +kernel
theorem dX7_end_4 : decode cX7_end 4 = .ok (.iload_n 1, 1) := by decide +kernel
theorem dX7_end_5 : decode cX7_end 5 = .ok (.aload_n 0, 1) := by decide +kernel
theorem dX7_end_6 : decode cX7_end 6 = .ok (.getfield 12, 3) := by decide +kernel
theorem dX7_end_9 : decode cX7_end 9 = .ok (.getfield 61, 3) := by decide +kernel
theorem dX7_end_12 : decode cX7_end 12 = .ok (.if_icmp .le 5, 3) := by decide +kernel
theorem dX7_end_15 : decode cX7_end 15 = .ok (.iconst (-1), 1) := by decide +kernel
theorem dX7_end_16 : decode cX7_end 16 = .ok (.ireturn, 1) := by decide +kernel
theorem dX7_end_17 : decode cX7_end 17 = .ok (.aload_n 0, 1) := by decide +kernel
theorem dX7_end_18 : decode cX7_end 18 = .ok (.getfield 12, 3) := by decide +kernel
theorem dX7_end_21 : decode cX7_end 21 = .ok (.iload_n 1, 1) := by decide +kernel
theorem dX7_end_22 : decode cX7_end 22 = .ok (.putfield 61, 3) := by decide +kernel
theorem dX7_end_25 : decode cX7_end 25 = .ok (.iload_n 1, 1) := by decide +kernel
theorem dX7_end_26 : decode cX7_end 26 = .ok (.ireturn, 1) := by decide +kernel
theorem dX7_book_0 : decode cX7_book 0 = .ok (.aload_n 0, 1) := by decide +kernel
theorem dX7_book_1 : decode cX7_book 1 = .ok (.getfield 21, 3) := by decide +kernel
theorem dX7_book_4 : decode cX7_book 4 = .ok (.invokevirtual 65, 3) := by decide +kernel
theorem dX7_book_7 : decode cX7_book 7 = .ok (.ifCond .ne 5, 3) := by decide +kernel
theorem dX7_book_10 : decode cX7_book 10 = .ok (.iconst (-1), 1) := by decide +kernel
theorem dX7_book_11 : decode cX7_book 11 = .ok (.ireturn, 1) := by decide +kernel
theorem dX7_book_12 : decode cX7_book 12 = .ok (.aload_n 0, 1) := by decide +kernel
theorem dX7_book_13 : decode cX7_book 13 = .ok (.getfield 28, 3) := by decide +kernel
theorem dX7_book_16 : decode cX7_book 16 = .ok (.aload_n 0, 1) := by decide +kernel
theorem dX7_book_17 : decode cX7_book 17 = .ok (.getfield 21, 3) := by decide +kernel
theorem dX7_book_20 : decode cX7_book 20 = .ok (.getfield 69, 3) := by decide +kernel
theorem dX7_book_23 : decode cX7_book 23 = .ok (.invokevirtual 72, 3) := by decide +kernel
theorem dX7_book_26 : decode cX7_book 26 = .ok (.aload_n 0, 1) := by decide +kernel
theorem dX7_book_27 : decode cX7_book 27 = .ok (.getfield 12, 3) := by decide +kernel
theorem dX7_book_30 : decode cX7_book 30 = .ok (.iconst 0, 1) := by decide +kernel
theorem dX7_book_31 : decode cX7_book 31 = .ok (.putfield 61, 3) := by decide +kernel
theorem dX7_book_34 : decode cX7_book 34 = .ok (.aload_n 0, 1) := by decide +kernel
theorem dX7_book_35 : decode cX7_book 35 = .ok (.getfield 40, 3) := by decide +kernel
theorem dX7_book_38 : decode cX7_book 38 = .ok (.iconst 0, 1) := by decide +kernel
theorem dX7_book_39 : decode cX7_book 39 = .ok (.putfield 75, 3) := by decide +kernel
theorem dX7_book_42 : decode cX7_book 42 = .ok (.aload_n 0, 1) := by decide +kernel
theorem dX7_book_43 : decode cX7_book 43 = .ok (.invokevirtual 79, 3) := by decide +kernel
theorem dX7_book_46 : decode cX7_book 46 = .ok (.aload_n 0, 1) := by decide +kernel
theorem dX7_book_47 : decode cX7_book 47 = .ok (.getfield 28, 3) := by decide +kernel
theorem dX7_book_50 : decode cX7_book 50 = .ok (.getfield 82, 3) := by decide +kernel
theorem dX7_book_53 : decode cX7_book 53 = .ok (.ireturn, 1) := by decide +kernel
theorem dX7_fault_0 : decode cX7_fault 0 = .ok (.iload_n 1, 1) := by decide +kernel
theorem dX7_fault_1 : decode cX7_fault 1 = .ok (.lookupswitch 43 #[(0, 27), (1, 35)], 27) := by decide +kernel
theorem dX7_fault_28 : decode cX7_fault 28 = .ok (.aload_n 0, 1) := by decide +kernel
theorem dX7_fault_29 : decode cX7_fault 29 = .ok (.getfield 21, 3) := by decide +kernel
theorem dX7_fault_32 : decode cX7_fault 32 = .ok (.getfield 85, 3) := by decide +kernel
theorem dX7_fault_35 : decode cX7_fault 35 = .ok (.ireturn, 1) := by decide +kernel
theorem dX7_fault_36 : decode cX7_fault 36 = .ok (.aload_n 0, 1) := by decide +kernel
theorem dX7_fault_37 : decode cX7_fault 37 = .ok (.getfield 21, 3) := by decide +kernel
theorem dX7_fault_40 : decode cX7_fault 40 = .ok (.getfield 88, 3) := by decide +kernel
theorem dX7_fault_43 : decode cX7_fault 43 = .ok (.ireturn, 1) := by decide +kernel
theorem dX7_fault_44 : decode cX7_fault 44 = .ok (.iconst (-1), 1) := by decide +kernel
theorem dX7_fault_45 : decode cX7_fault 45 = .ok (.ireturn, 1) := by decide +kernel
theorem dX7_flight_0 : decode cX7_flight 0 = .ok (.iload_n 1, 1) := by decide +kernel
theorem dX7_flight_1 : decode cX7_flight 1 = .ok (.bipush 10, 2) := by decide +kernel
theorem dX7_flight_3 : decode cX7_flight 3 = .ok (.invokestatic 91, 3) := by decide +kernel
theorem dX7_flight_6 : decode cX7_flight 6 = .ok (.ifCond .eq 53, 3) := by decide +kernel
theorem dX7_flight_9 : decode cX7_flight 9 = .ok (.iload_n 2, 1) := by decide +kernel
theorem dX7_flight_10 : decode cX7_flight 10 = .ok (.bipush 10, 2) := by decide +kernel
theorem dX7_flight_12 : decode cX7_flight 12 = .ok (.invokestatic 91, 3) := by decide +kernel
theorem dX7_flight_15 : decode cX7_flight 15 = .ok (.ifCond .eq 44, 3) := by decide +kernel
theorem dX7_flight_18 : decode cX7_flight 18 = .ok (.iload_n 1, 1) := by decide +kernel
theorem dX7_flight_19 : decode cX7_flight 19 = .ok (.iload_n 2, 1) := by decide +kernel
theorem dX7_flight_20 : decode cX7_flight 20 = .ok (.if_icmp .eq 39, 3) := by decide +kernel
theorem dX7_flight_23 : decode cX7_flight 23 = .ok (.iload_n 3, 1) := by decide +kernel
theorem dX7_flight_24 : decode cX7_flight 24 = .ok (.sipush 1000, 3) := by decide +kernel
theorem dX7_flight_27 : decode cX7_flight 27 = .ok (.invokestatic 91, 3) := by decide +kernel
theorem dX7_flight_30 : decode cX7_flight 30 = .ok (.ifCond .eq 29, 3) := by decide +kernel
theorem dX7_flight_33 : decode cX7_flight 33 = .ok (.iload 4, 2) := by decide +kernel
theorem dX7_flight_35 : decode cX7_flight 35 = .ok (.sipush 30001, 3) := by decide +kernel
theorem dX7_flight_38 : decode cX7_flight 38 = .ok (.invokestatic 91, 3) := by decide +kernel
theorem dX7_flight_41 : decode cX7_flight 41 = .ok (.ifCond .eq 18, 3) := by decide +kernel
theorem dX7_flight_44 : decode cX7_flight 44 = .ok (.iload 5, 2) := by decide +kernel
theorem dX7_flight_46 : decode cX7_flight 46 = .ok (.sipush 10001, 3) := by decide +kernel
theorem dX7_flight_49 : decode cX7_flight 49 = .ok (.invokestatic 91, 3) := by decide +kernel
theorem dX7_flight_52 : decode cX7_flight 52 = .ok (.ifCond .eq 7, 3) := by decide +kernel
theorem dX7_flight_55 : decode cX7_flight 55 = .ok (.iconst 1, 1) := by decide +kernel
theorem dX7_flight_56 : decode cX7_flight 56 = .ok (.goto 4, 3) := by decide +kernel
theorem dX7_flight_59 : decode cX7_flight 59 = .ok (.iconst 0, 1) := by decide +kernel
theorem dX7_flight_60 : decode cX7_flight 60 = .ok (.istore 6, 2) := by decide +kernel
theorem dX7_flight_62 : decode cX7_flight 62 = .ok (.iload 6, 2) := by decide +kernel
theorem dX7_flight_64 : decode cX7_flight 64 = .ok (.ifCond .ne 5, 3) := by decide +kernel
theorem dX7_flight_67 : decode cX7_flight 67 = .ok (.iconst 0, 1) := by decide +kernel
theorem dX7_flight_68 : decode cX7_flight 68 = .ok (.ireturn, 1) := by decide +kernel
theorem dX7_flight_69 : decode cX7_flight 69 = .ok (.aload_n 0, 1) := by decide +kernel
theorem dX7_flight_70 : decode cX7_flight 70 = .ok (.getfield 40, 3) := by decide +kernel
theorem dX7_flight_73 : decode cX7_flight 73 = .ok (.iload_n 1, 1) := by decide +kernel
theorem dX7_flight_74 : decode cX7_flight 74 = .ok (.iload_n 2, 1) := by decide +kernel
theorem dX7_flight_75 : decode cX7_flight 75 = .ok (.iload_n 3, 1) := by decide +kernel
theorem dX7_flight_76 : decode cX7_flight 76 = .ok (.iload 4, 2) := by decide +kernel
theorem dX7_flight_78 : decode cX7_flight 78 = .ok (.iload 5, 2) := by decide +kernel
theorem dX7_flight_80 : decode cX7_flight 80 = .ok (.invokevirtual 95, 3) := by decide +kernel
theorem dX7_flight_83 : decode cX7_flight 83 = .ok (.aload_n 0, 1) := by decide +kernel
theorem dX7_flight_84 : decode cX7_flight 84 = .ok (.invokevirtual 79, 3) := by decide +kernel
theorem dX7_flight_87 : decode cX7_flight 87 = .ok (.iconst 1, 1) := by decide +kernel
theorem dX7_flight_88 : decode cX7_flight 88 = .ok (.ireturn, 1) := by decide +kernel
theorem dX7_told_0 : decode cX7_told 0 = .ok (.iload_n 1, 1) := by decide +kernel
theorem dX7_told_1 : decode cX7_told 1 = .ok (.tableswitch 228 0 7 #[47, 72, 126, 163, 188, 198, 208, 218], 47) := by decide +kernel
theorem dX7_told_48 : decode cX7_told 48 = .ok (.iload_n 2, 1) := by decide +kernel
theorem dX7_told_49 : decode cX7_told 49 = .ok (.bipush 6, 2) := by decide +kernel
theorem dX7_told_51 : decode cX7_told 51 = .ok (.invokestatic 91, 3) := by decide +kernel
theorem dX7_told_54 : decode cX7_told 54 = .ok (.ifCond .eq 15, 3) := by decide +kernel
theorem dX7_told_57 : decode cX7_told 57 = .ok (.aload_n 0, 1) := by decide +kernel
theorem dX7_told_58 : decode cX7_told 58 = .ok (.getfield 28, 3) := by decide +kernel
theorem dX7_told_61 : decode cX7_told 61 = .ok (.getfield 99, 3) := by decide +kernel
theorem dX7_told_64 : decode cX7_told 64 = .ok (.iload_n 2, 1) := by decide +kernel
theorem dX7_told_65 : decode cX7_told 65 = .ok (.iaload, 1) := by decide +kernel
theorem dX7_told_66 : decode cX7_told 66 = .ok (.goto 6, 3) := by decide +kernel
theorem dX7_told_69 : decode cX7_told 69 = .ok (.sipush (-1000), 3) := by decide +kernel
theorem dX7_told_72 : decode cX7_told 72 = .ok (.ireturn, 1) := by decide +kernel
theorem dX7_told_73 : decode cX7_told 73 = .ok (.iload_n 2, 1) := by decide +kernel
theorem dX7_told_74 : decode cX7_told 74 = .ok (.iconst 3, 1) := by decide +kernel
theorem dX7_told_75 : decode cX7_told 75 = .ok (.invokestatic 91, 3) := by decide +kernel
theorem dX7_told_78 : decode cX7_told 78 = .ok (.ifCond .eq 45, 3) := by decide +kernel
theorem dX7_told_81 : decode cX7_told 81 = .ok (.iload_n 3, 1) := by decide +kernel
theorem dX7_told_82 : decode cX7_told 82 = .ok (.bipush 6, 2) := by decide +kernel
theorem dX7_told_84 : decode cX7_told 84 = .ok (.invokestatic 91, 3) := by decide +kernel
theorem dX7_told_87 : decode cX7_told 87 = .ok (.ifCond .eq 36, 3) := by decide +kernel
theorem dX7_told_90 : decode cX7_told 90 = .ok (.iload 4, 2) := by decide +kernel
theorem dX7_told_92 : decode cX7_told 92 = .ok (.aload_n 0, 1) := by decide +kernel
theorem dX7_told_93 : decode cX7_told 93 = .ok (.getfield 28, 3) := by decide +kernel
theorem dX7_told_96 : decode cX7_told 96 = .ok (.getfield 82, 3) := by decide +kernel
theorem dX7_told_99 : decode cX7_told 99 = .ok (.invokestatic 91, 3) := by decide +kernel
theorem dX7_told_102 : decode cX7_told 102 = .ok (.ifCond .eq 21, 3) := by decide +kernel
theorem dX7_told_105 : decode cX7_told 105 = .ok (.aload_n 0, 1) := by decide +kernel
theorem dX7_told_106 : decode cX7_told 106 = .ok (.getfield 28, 3) := by decide +kernel
theorem dX7_told_109 : decode cX7_told 109 = .ok (.getfield 103, 3) := by decide +kernel
theorem dX7_told_112 : decode cX7_told 112 = .ok (.iload_n 2, 1) := by decide +kernel
theorem dX7_told_113 : decode cX7_told 113 = .ok (.iload_n 3, 1) := by decide +kernel
theorem dX7_told_114 : decode cX7_told 114 = .ok (.iload 4, 2) := by decide +kernel
theorem dX7_told_116 : decode cX7_told 116 = .ok (.invokestatic 106, 3) := by decide +kernel
theorem dX7_told_119 : decode cX7_told 119 = .ok (.iaload, 1) := by decide +kernel
theorem dX7_told_120 : decode cX7_told 120 = .ok (.goto 6, 3) := by decide +kernel
theorem dX7_told_123 : decode cX7_told 123 = .ok (.sipush (-1000), 3) := by decide +kernel
theorem dX7_told_126 : decode cX7_told 126 = .ok (.ireturn, 1) := by decide +kernel
theorem dX7_told_127 : decode cX7_told 127 = .ok (.iload_n 2, 1) := by decide +kernel
theorem dX7_told_128 : decode cX7_told 128 = .ok (.bipush 6, 2) := by decide +kernel
theorem dX7_told_130 : decode cX7_told 130 = .ok (.invokestatic 91, 3) := by decide +kernel
theorem dX7_told_133 : decode cX7_told 133 = .ok (.ifCond .eq 27, 3) := by decide +kernel
theorem dX7_told_136 : decode cX7_told 136 = .ok (.iload_n 3, 1) := by decide +kernel
theorem dX7_told_137 : decode cX7_told 137 = .ok (.iconst 5, 1) := by decide +kernel
theorem dX7_told_138 : decode cX7_told 138 = .ok (.invokestatic 91, 3) := by decide +kernel
theorem dX7_told_141 : decode cX7_told 141 = .ok (.ifCond .eq 19, 3) := by decide +kernel
theorem dX7_told_144 : decode cX7_told 144 = .ok (.aload_n 0, 1) := by decide +kernel
theorem dX7_told_145 : decode cX7_told 145 = .ok (.getfield 28, 3) := by decide +kernel
theorem dX7_told_148 : decode cX7_told 148 = .ok (.getfield 110, 3) := by decide +kernel
theorem dX7_told_151 : decode cX7_told 151 = .ok (.iload_n 2, 1) := by decide +kernel
theorem dX7_told_152 : decode cX7_told 152 = .ok (.iload_n 3, 1) := by decide +kernel
theorem dX7_told_153 : decode cX7_told 153 = .ok (.invokestatic 113, 3) := by decide +kernel
theorem dX7_told_156 : decode cX7_told 156 = .ok (.iaload, 1) := by decide +kernel
theorem dX7_told_157 : decode cX7_told 157 = .ok (.goto 6, 3) := by decide +kernel
theorem dX7_told_160 : decode cX7_told 160 = .ok (.sipush (-1000), 3) := by decide +kernel
theorem dX7_told_163 : decode cX7_told 163 = .ok (.ireturn, 1) := by decide +kernel
theorem dX7_told_164 : decode cX7_told 164 = .ok (.iload_n 2, 1) := by decide +kernel
theorem dX7_told_165 : decode cX7_told 165 = .ok (.bipush 6, 2) := by decide +kernel
theorem dX7_told_167 : decode cX7_told 167 = .ok (.invokestatic 91, 3) := by decide +kernel
theorem dX7_told_170 : decode cX7_told 170 = .ok (.ifCond .eq 15, 3) := by decide +kernel
theorem dX7_told_173 : decode cX7_told 173 = .ok (.aload_n 0, 1) := by decide +kernel
theorem dX7_told_174 : decode cX7_told 174 = .ok (.getfield 28, 3) := by decide +kernel
theorem dX7_told_177 : decode cX7_told 177 = .ok (.getfield 117, 3) := by decide +kernel
theorem dX7_told_180 : decode cX7_told 180 = .ok (.iload_n 2, 1) := by decide +kernel
theorem dX7_told_181 : decode cX7_told 181 = .ok (.iaload, 1) := by decide +kernel
theorem dX7_told_182 : decode cX7_told 182 = .ok (.goto 6, 3) := by decide +kernel
theorem dX7_told_185 : decode cX7_told 185 = .ok (.sipush (-1000), 3) := by decide +kernel
theorem dX7_told_188 : decode cX7_told 188 = .ok (.ireturn, 1) := by decide +kernel
theorem dX7_told_189 : decode cX7_told 189 = .ok (.aload_n 0, 1) := by decide +kernel
theorem dX7_told_190 : decode cX7_told 190 = .ok (.getfield 28, 3) := by decide +kernel
theorem dX7_told_193 : decode cX7_told 193 = .ok (.getfield 120, 3) := by decide +kernel
theorem dX7_told_196 : decode cX7_told 196 = .ok (.iconst 0, 1) := by decide +kernel
theorem dX7_told_197 : decode cX7_told 197 = .ok (.iaload, 1) := by decide +kernel
theorem dX7_told_198 : decode cX7_told 198 = .ok (.ireturn, 1) := by decide +kernel
theorem dX7_told_199 : decode cX7_told 199 = .ok (.aload_n 0, 1) := by decide +kernel
theorem dX7_told_200 : decode cX7_told 200 = .ok (.getfield 28, 3) := by decide +kernel
theorem dX7_told_203 : decode cX7_told 203 = .ok (.getfield 120, 3) := by decide +kernel
theorem dX7_told_206 : decode cX7_told 206 = .ok (.iconst 1, 1) := by decide +kernel
theorem dX7_told_207 : decode cX7_told 207 = .ok (.iaload, 1) := by decide +kernel
theorem dX7_told_208 : decode cX7_told 208 = .ok (.ireturn, 1) := by decide +kernel
theorem dX7_told_209 : decode cX7_told 209 = .ok (.aload_n 0, 1) := by decide +kernel
theorem dX7_told_210 : decode cX7_told 210 = .ok (.getfield 28, 3) := by decide +kernel
theorem dX7_told_213 : decode cX7_told 213 = .ok (.getfield 120, 3) := by decide +kernel
theorem dX7_told_216 : decode cX7_told 216 = .ok (.iconst 2, 1) := by decide +kernel
theorem dX7_told_217 : decode cX7_told 217 = .ok (.iaload, 1) := by decide +kernel
theorem dX7_told_218 : decode cX7_told 218 = .ok (.ireturn, 1) := by decide +kernel
theorem dX7_told_219 : decode cX7_told 219 = .ok (.aload_n 0, 1) := by decide +kernel
theorem dX7_told_220 : decode cX7_told 220 = .ok (.getfield 28, 3) := by decide +kernel
theorem dX7_told_223 : decode cX7_told 223 = .ok (.getfield 120, 3) := by decide +kernel
theorem dX7_told_226 : decode cX7_told 226 = .ok (.iconst 3, 1) := by decide +kernel
theorem dX7_told_227 : decode cX7_told 227 = .ok (.iaload, 1) := by decide +kernel
theorem dX7_told_228 : decode cX7_told 228 = .ok (.ireturn, 1) := by decide +kernel
theorem dX7_told_229 : decode cX7_told 229 = .ok (.sipush (-1000), 3) := by decide +kernel
theorem dX7_told_232 : decode cX7_told 232 = .ok (.ireturn, 1) := by decide +kernel
theorem dX7_minutes_0 : decode cX7_minutes 0 = .ok (.aload_n 0, 1) := by decide +kernel
theorem dX7_minutes_1 : decode cX7_minutes 1 = .ok (.getfield 40, 3) := by decide +kernel
theorem dX7_minutes_4 : decode cX7_minutes 4 = .ok (.getfield 75, 3) := by decide +kernel
theorem dX7_minutes_7 : decode cX7_minutes 7 = .ok (.ifCond .eq 34, 3) := by decide +kernel
theorem dX7_minutes_10 : decode cX7_minutes 10 = .ok (.iload_n 1, 1) := by decide +kernel
theorem dX7_minutes_11 : decode cX7_minutes 11 = .ok (.aload_n 0, 1) := by decide +kernel
theorem dX7_minutes_12 : decode cX7_minutes 12 = .ok (.getfield 28, 3) := by decide +kernel
theorem dX7_minutes_15 : decode cX7_minutes 15 = .ok (.getfield 82, 3) := by decide +kernel
theorem dX7_minutes_18 : decode cX7_minutes 18 = .ok (.invokestatic 91, 3) := by decide +kernel
theorem dX7_minutes_21 : decode cX7_minutes 21 = .ok (.ifCond .eq 20, 3) := by decide +kernel
theorem dX7_minutes_24 : decode cX7_minutes 24 = .ok (.iload_n 2, 1) := by decide +kernel
theorem dX7_minutes_25 : decode cX7_minutes 25 = .ok (.bipush 6, 2) := by decide +kernel
theorem dX7_minutes_27 : decode cX7_minutes 27 = .ok (.invokestatic 91, 3) := by decide +kernel
theorem dX7_minutes_30 : decode cX7_minutes 30 = .ok (.ifCond .eq 11, 3) := by decide +kernel
theorem dX7_minutes_33 : decode cX7_minutes 33 = .ok (.iload_n 3, 1) := by decide +kernel
theorem dX7_minutes_34 : decode cX7_minutes 34 = .ok (.iconst 3, 1) := by decide +kernel
theorem dX7_minutes_35 : decode cX7_minutes 35 = .ok (.invokestatic 91, 3) := by decide +kernel
theorem dX7_minutes_38 : decode cX7_minutes 38 = .ok (.ifCond .ne 5, 3) := by decide +kernel
theorem dX7_minutes_41 : decode cX7_minutes 41 = .ok (.iconst (-1), 1) := by decide +kernel
theorem dX7_minutes_42 : decode cX7_minutes 42 = .ok (.ireturn, 1) := by decide +kernel
theorem dX7_minutes_43 : decode cX7_minutes 43 = .ok (.aload_n 0, 1) := by decide +kernel
theorem dX7_minutes_44 : decode cX7_minutes 44 = .ok (.getfield 40, 3) := by decide +kernel
theorem dX7_minutes_47 : decode cX7_minutes 47 = .ok (.iload_n 1, 1) := by decide +kernel
theorem dX7_minutes_48 : decode cX7_minutes 48 = .ok (.iload_n 2, 1) := by decide +kernel
theorem dX7_minutes_49 : decode cX7_minutes 49 = .ok (.iload_n 3, 1) := by decide +kernel
theorem dX7_minutes_50 : decode cX7_minutes 50 = .ok (.invokevirtual 123, 3) := by decide +kernel
theorem dX7_minutes_53 : decode cX7_minutes 53 = .ok (.ireturn, 1) := by decide +kernel
theorem dX7_fuel_0 : decode cX7_fuel 0 = .ok (.aload_n 0, 1) := by decide +kernel
theorem dX7_fuel_1 : decode cX7_fuel 1 = .ok (.iload_n 1, 1) := by decide +kernel
theorem dX7_fuel_2 : decode cX7_fuel 2 = .ok (.iload_n 2, 1) := by decide +kernel
theorem dX7_fuel_3 : decode cX7_fuel 3 = .ok (.iload_n 3, 1) := by decide +kernel
theorem dX7_fuel_4 : decode cX7_fuel 4 = .ok (.invokevirtual 126, 3) := by decide +kernel
theorem dX7_fuel_7 : decode cX7_fuel 7 = .ok (.istore 5, 2) := by decide +kernel
theorem dX7_fuel_9 : decode cX7_fuel 9 = .ok (.iload 5, 2) := by decide +kernel
theorem dX7_fuel_11 : decode cX7_fuel 11 = .ok (.iconst (-1), 1) := by decide +kernel
theorem dX7_fuel_12 : decode cX7_fuel 12 = .ok (.if_icmp .eq 13, 3) := by decide +kernel
theorem dX7_fuel_15 : decode cX7_fuel 15 = .ok (.iload 4, 2) := by decide +kernel
theorem dX7_fuel_17 : decode cX7_fuel 17 = .ok (.ldc 129, 2) := by decide +kernel
theorem dX7_fuel_19 : decode cX7_fuel 19 = .ok (.invokestatic 91, 3) := by decide +kernel
theorem dX7_fuel_22 : decode cX7_fuel 22 = .ok (.ifCond .ne 5, 3) := by decide +kernel
theorem dX7_fuel_25 : decode cX7_fuel 25 = .ok (.iconst (-1), 1) := by decide +kernel
theorem dX7_fuel_26 : decode cX7_fuel 26 = .ok (.ireturn, 1) := by decide +kernel
theorem dX7_fuel_27 : decode cX7_fuel 27 = .ok (.aload_n 0, 1) := by decide +kernel
theorem dX7_fuel_28 : decode cX7_fuel 28 = .ok (.getfield 40, 3) := by decide +kernel
theorem dX7_fuel_31 : decode cX7_fuel 31 = .ok (.iload 5, 2) := by decide +kernel
theorem dX7_fuel_33 : decode cX7_fuel 33 = .ok (.iload_n 2, 1) := by decide +kernel
theorem dX7_fuel_34 : decode cX7_fuel 34 = .ok (.iload 4, 2) := by decide +kernel
theorem dX7_fuel_36 : decode cX7_fuel 36 = .ok (.invokevirtual 130, 3) := by decide +kernel
theorem dX7_fuel_39 : decode cX7_fuel 39 = .ok (.ireturn, 1) := by decide +kernel
theorem dX7_need_0 : decode cX7_need 0 = .ok (.aload_n 0, 1) := by decide +kernel
theorem dX7_need_1 : decode cX7_need 1 = .ok (.iload_n 1, 1) := by decide +kernel
theorem dX7_need_2 : decode cX7_need 2 = .ok (.invokevirtual 133, 3) := by decide +kernel
theorem dX7_need_5 : decode cX7_need 5 = .ok (.astore_n 2, 1) := by decide +kernel
theorem dX7_need_6 : decode cX7_need 6 = .ok (.aload_n 2, 1) := by decide +kernel
theorem dX7_need_7 : decode cX7_need 7 = .ok (.ifnonnull 7, 3) := by decide +kernel
theorem dX7_need_10 : decode cX7_need 10 = .ok (.iconst (-1), 1) := by decide +kernel
theorem dX7_need_11 : decode cX7_need 11 = .ok (.goto 10, 3) := by decide +kernel
theorem dX7_need_14 : decode cX7_need 14 = .ok (.aload_n 2, 1) := by decide +kernel
theorem dX7_need_15 : decode cX7_need 15 = .ok (.getfield 137, 3) := by decide +kernel
theorem dX7_need_18 : decode cX7_need 18 = .ok (.getfield 141, 3) := by decide +kernel
theorem dX7_need_21 : decode cX7_need 21 = .ok (.ireturn, 1) := by decide +kernel
theorem dX7_legs_0 : decode cX7_legs 0 = .ok (.aload_n 0, 1) := by decide +kernel
theorem dX7_legs_1 : decode cX7_legs 1 = .ok (.iload_n 1, 1) := by decide +kernel
theorem dX7_legs_2 : decode cX7_legs 2 = .ok (.invokevirtual 133, 3) := by decide +kernel
theorem dX7_legs_5 : decode cX7_legs 5 = .ok (.astore_n 2, 1) := by decide +kernel
theorem dX7_legs_6 : decode cX7_legs 6 = .ok (.aload_n 2, 1) := by decide +kernel
theorem dX7_legs_7 : decode cX7_legs 7 = .ok (.ifnonnull 7, 3) := by decide +kernel
theorem dX7_legs_10 : decode cX7_legs 10 = .ok (.iconst (-1), 1) := by decide +kernel
theorem dX7_legs_11 : decode cX7_legs 11 = .ok (.goto 10, 3) := by decide +kernel
theorem dX7_legs_14 : decode cX7_legs 14 = .ok (.aload_n 2, 1) := by decide +kernel
theorem dX7_legs_15 : decode cX7_legs 15 = .ok (.getfield 137, 3) := by decide +kernel
theorem dX7_legs_18 : decode cX7_legs 18 = .ok (.getfield 146, 3) := by decide +kernel
theorem dX7_legs_21 : decode cX7_legs 21 = .ok (.ireturn, 1) := by decide +kernel
theorem dX7_leg_0 : decode cX7_leg 0 = .ok (.aload_n 0, 1) := by decide +kernel
theorem dX7_leg_1 : decode cX7_leg 1 = .ok (.iload_n 1, 1) := by decide +kernel
theorem dX7_leg_2 : decode cX7_leg 2 = .ok (.invokevirtual 133, 3) := by decide +kernel
theorem dX7_leg_5 : decode cX7_leg 5 = .ok (.astore 4, 2) := by decide +kernel
theorem dX7_leg_7 : decode cX7_leg 7 = .ok (.aload 4, 2) := by decide +kernel
theorem dX7_leg_9 : decode cX7_leg 9 = .ok (.ifnull 18, 3) := by decide +kernel
theorem dX7_leg_12 : decode cX7_leg 12 = .ok (.iload_n 2, 1) := by decide +kernel
theorem dX7_leg_13 : decode cX7_leg 13 = .ok (.aload 4, 2) := by decide +kernel
theorem dX7_leg_15 : decode cX7_leg 15 = .ok (.getfield 137, 3) := by decide +kernel
theorem dX7_leg_18 : decode cX7_leg 18 = .ok (.getfield 146, 3) := by decide +kernel
theorem dX7_leg_21 : decode cX7_leg 21 = .ok (.invokestatic 91, 3) := by decide +kernel
theorem dX7_leg_24 : decode cX7_leg 24 = .ok (.ifCond .ne 5, 3) := by decide +kernel
theorem dX7_leg_27 : decode cX7_leg 27 = .ok (.iconst (-1), 1) := by decide +kernel
theorem dX7_leg_28 : decode cX7_leg 28 = .ok (.ireturn, 1) := by decide +kernel
theorem dX7_leg_29 : decode cX7_leg 29 = .ok (.iload_n 3, 1) := by decide +kernel
theorem dX7_leg_30 : decode cX7_leg 30 = .ok (.tableswitch 93 0 3 #[30, 41, 52, 59], 30) := by decide +kernel
theorem dX7_leg_60 : decode cX7_leg 60 = .ok (.aload 4, 2) := by decide +kernel
theorem dX7_leg_62 : decode cX7_leg 62 = .ok (.getfield 137, 3) := by decide +kernel
theorem dX7_leg_65 : decode cX7_leg 65 = .ok (.getfield 149, 3) := by decide +kernel
theorem dX7_leg_68 : decode cX7_leg 68 = .ok (.iload_n 2, 1) := by decide +kernel
theorem dX7_leg_69 : decode cX7_leg 69 = .ok (.iaload, 1) := by decide +kernel
theorem dX7_leg_70 : decode cX7_leg 70 = .ok (.ireturn, 1) := by decide +kernel
theorem dX7_leg_71 : decode cX7_leg 71 = .ok (.aload 4, 2) := by decide +kernel
theorem dX7_leg_73 : decode cX7_leg 73 = .ok (.getfield 137, 3) := by decide +kernel
theorem dX7_leg_76 : decode cX7_leg 76 = .ok (.getfield 152, 3) := by decide +kernel
theorem dX7_leg_79 : decode cX7_leg 79 = .ok (.iload_n 2, 1) := by decide +kernel
theorem dX7_leg_80 : decode cX7_leg 80 = .ok (.iaload, 1) := by decide +kernel
theorem dX7_leg_81 : decode cX7_leg 81 = .ok (.ireturn, 1) := by decide +kernel
theorem dX7_leg_82 : decode cX7_leg 82 = .ok (.aload 4, 2) := by decide +kernel
theorem dX7_leg_84 : decode cX7_leg 84 = .ok (.iload_n 2, 1) := by decide +kernel
theorem dX7_leg_85 : decode cX7_leg 85 = .ok (.invokevirtual 155, 3) := by decide +kernel
theorem dX7_leg_88 : decode cX7_leg 88 = .ok (.ireturn, 1) := by decide +kernel
theorem dX7_leg_89 : decode cX7_leg 89 = .ok (.aload_n 0, 1) := by decide +kernel
theorem dX7_leg_90 : decode cX7_leg 90 = .ok (.getfield 40, 3) := by decide +kernel
theorem dX7_leg_93 : decode cX7_leg 93 = .ok (.aload 4, 2) := by decide +kernel
theorem dX7_leg_95 : decode cX7_leg 95 = .ok (.iload_n 2, 1) := by decide +kernel
theorem dX7_leg_96 : decode cX7_leg 96 = .ok (.invokevirtual 155, 3) := by decide +kernel
theorem dX7_leg_99 : decode cX7_leg 99 = .ok (.aload 4, 2) := by decide +kernel
theorem dX7_leg_101 : decode cX7_leg 101 = .ok (.getfield 137, 3) := by decide +kernel
theorem dX7_leg_104 : decode cX7_leg 104 = .ok (.getfield 152, 3) := by decide +kernel
theorem dX7_leg_107 : decode cX7_leg 107 = .ok (.iload_n 2, 1) := by decide +kernel
theorem dX7_leg_108 : decode cX7_leg 108 = .ok (.iaload, 1) := by decide +kernel
theorem dX7_leg_109 : decode cX7_leg 109 = .ok (.aload 4, 2) := by decide +kernel
theorem dX7_leg_111 : decode cX7_leg 111 = .ok (.getfield 137, 3) := by decide +kernel
theorem dX7_leg_114 : decode cX7_leg 114 = .ok (.getfield 159, 3) := by decide +kernel
theorem dX7_leg_117 : decode cX7_leg 117 = .ok (.iload_n 2, 1) := by decide +kernel
theorem dX7_leg_118 : decode cX7_leg 118 = .ok (.iaload, 1) := by decide +kernel
theorem dX7_leg_119 : decode cX7_leg 119 = .ok (.invokevirtual 130, 3) := by decide +kernel
theorem dX7_leg_122 : decode cX7_leg 122 = .ok (.ireturn, 1) := by decide +kernel
theorem dX7_leg_123 : decode cX7_leg 123 = .ok (.iconst (-1), 1) := by decide +kernel
theorem dX7_leg_124 : decode cX7_leg 124 = .ok (.ireturn, 1) := by decide +kernel
theorem dX7_time_0 : decode cX7_time 0 = .ok (.aload_n 0, 1) := by decide +kernel
theorem dX7_time_1 : decode cX7_time 1 = .ok (.iload_n 1, 1) := by decide +kernel
theorem dX7_time_2 : decode cX7_time 2 = .ok (.invokevirtual 133, 3) := by decide +kernel
theorem dX7_time_5 : decode cX7_time 5 = .ok (.astore_n 2, 1) := by decide +kernel
theorem dX7_time_6 : decode cX7_time 6 = .ok (.aload_n 2, 1) := by decide +kernel
theorem dX7_time_7 : decode cX7_time 7 = .ok (.ifnonnull 5, 3) := by decide +kernel
theorem dX7_time_10 : decode cX7_time 10 = .ok (.iconst (-1), 1) := by decide +kernel
theorem dX7_time_11 : decode cX7_time 11 = .ok (.ireturn, 1) := by decide +kernel
theorem dX7_time_12 : decode cX7_time 12 = .ok (.iconst 0, 1) := by decide +kernel
theorem dX7_time_13 : decode cX7_time 13 = .ok (.istore_n 3, 1) := by decide +kernel
theorem dX7_time_14 : decode cX7_time 14 = .ok (.iconst 0, 1) := by decide +kernel
theorem dX7_time_15 : decode cX7_time 15 = .ok (.istore 4, 2) := by decide +kernel
theorem dX7_time_17 : decode cX7_time 17 = .ok (.iload 4, 2) := by decide +kernel
theorem dX7_time_19 : decode cX7_time 19 = .ok (.aload_n 2, 1) := by decide +kernel
theorem dX7_time_20 : decode cX7_time 20 = .ok (.getfield 137, 3) := by decide +kernel
theorem dX7_time_23 : decode cX7_time 23 = .ok (.getfield 146, 3) := by decide +kernel
theorem dX7_time_26 : decode cX7_time 26 = .ok (.if_icmp .ge 18, 3) := by decide +kernel
theorem dX7_time_29 : decode cX7_time 29 = .ok (.iload_n 3, 1) := by decide +kernel
theorem dX7_time_30 : decode cX7_time 30 = .ok (.aload_n 2, 1) := by decide +kernel
theorem dX7_time_31 : decode cX7_time 31 = .ok (.iload 4, 2) := by decide +kernel
theorem dX7_time_33 : decode cX7_time 33 = .ok (.invokevirtual 155, 3) := by decide +kernel
theorem dX7_time_36 : decode cX7_time 36 = .ok (.iadd, 1) := by decide +kernel
theorem dX7_time_37 : decode cX7_time 37 = .ok (.istore_n 3, 1) := by decide +kernel
theorem dX7_time_38 : decode cX7_time 38 = .ok (.iinc 4 1, 3) := by decide +kernel
theorem dX7_time_41 : decode cX7_time 41 = .ok (.goto (-24), 3) := by decide +kernel
theorem dX7_time_44 : decode cX7_time 44 = .ok (.iload_n 3, 1) := by decide +kernel
theorem dX7_time_45 : decode cX7_time 45 = .ok (.ireturn, 1) := by decide +kernel
theorem dX7_legal_0 : decode cX7_legal 0 = .ok (.aload_n 0, 1) := by decide +kernel
theorem dX7_legal_1 : decode cX7_legal 1 = .ok (.iload_n 1, 1) := by decide +kernel
theorem dX7_legal_2 : decode cX7_legal 2 = .ok (.invokevirtual 133, 3) := by decide +kernel
theorem dX7_legal_5 : decode cX7_legal 5 = .ok (.astore_n 2, 1) := by decide +kernel
theorem dX7_legal_6 : decode cX7_legal 6 = .ok (.aload_n 2, 1) := by decide +kernel
theorem dX7_legal_7 : decode cX7_legal 7 = .ok (.ifnonnull 7, 3) := by decide +kernel
theorem dX7_legal_10 : decode cX7_legal 10 = .ok (.iconst (-1), 1) := by decide +kernel
theorem dX7_legal_11 : decode cX7_legal 11 = .ok (.goto 24, 3) := by decide +kernel
theorem dX7_legal_14 : decode cX7_legal 14 = .ok (.aload_n 0, 1) := by decide +kernel
theorem dX7_legal_15 : decode cX7_legal 15 = .ok (.getfield 40, 3) := by decide +kernel
theorem dX7_legal_18 : decode cX7_legal 18 = .ok (.aload_n 2, 1) := by decide +kernel
theorem dX7_legal_19 : decode cX7_legal 19 = .ok (.getfield 137, 3) := by decide +kernel
theorem dX7_legal_22 : decode cX7_legal 22 = .ok (.getfield 141, 3) := by decide +kernel
theorem dX7_legal_25 : decode cX7_legal 25 = .ok (.aload_n 0, 1) := by decide +kernel
theorem dX7_legal_26 : decode cX7_legal 26 = .ok (.getfield 40, 3) := by decide +kernel
theorem dX7_legal_29 : decode cX7_legal 29 = .ok (.getfield 162, 3) := by decide +kernel
theorem dX7_legal_32 : decode cX7_legal 32 = .ok (.invokevirtual 165, 3) := by decide +kernel
theorem dX7_legal_35 : decode cX7_legal 35 = .ok (.ireturn, 1) := by decide +kernel
theorem dX7_borne_0 : decode cX7_borne 0 = .ok (.iload_n 1, 1) := by decide +kernel
theorem dX7_borne_1 : decode cX7_borne 1 = .ok (.iconst 1, 1) := by decide +kernel
theorem dX7_borne_2 : decode cX7_borne 2 = .ok (.if_icmp .lt 8, 3) := by decide +kernel
theorem dX7_borne_5 : decode cX7_borne 5 = .ok (.iload_n 1, 1) := by decide +kernel
theorem dX7_borne_6 : decode cX7_borne 6 = .ok (.iconst 3, 1) := by decide +kernel
theorem dX7_borne_7 : decode cX7_borne 7 = .ok (.if_icmp .le 5, 3) := by decide +kernel
theorem dX7_borne_10 : decode cX7_borne 10 = .ok (.iconst (-1), 1) := by decide +kernel
theorem dX7_borne_11 : decode cX7_borne 11 = .ok (.ireturn, 1) := by decide +kernel
theorem dX7_borne_12 : decode cX7_borne 12 = .ok (.iconst 0, 1) := by decide +kernel
theorem dX7_borne_13 : decode cX7_borne 13 = .ok (.istore_n 2, 1) := by decide +kernel
theorem dX7_borne_14 : decode cX7_borne 14 = .ok (.iload_n 2, 1) := by decide +kernel
theorem dX7_borne_15 : decode cX7_borne 15 = .ok (.iload_n 1, 1) := by decide +kernel
theorem dX7_borne_16 : decode cX7_borne 16 = .ok (.if_icmp .ge 19, 3) := by decide +kernel
theorem dX7_borne_19 : decode cX7_borne 19 = .ok (.aload_n 0, 1) := by decide +kernel
theorem dX7_borne_20 : decode cX7_borne 20 = .ok (.iload_n 2, 1) := by decide +kernel
theorem dX7_borne_21 : decode cX7_borne 21 = .ok (.invokevirtual 133, 3) := by decide +kernel
theorem dX7_borne_24 : decode cX7_borne 24 = .ok (.ifnonnull 5, 3) := by decide +kernel
theorem dX7_borne_27 : decode cX7_borne 27 = .ok (.iconst (-1), 1) := by decide +kernel
theorem dX7_borne_28 : decode cX7_borne 28 = .ok (.ireturn, 1) := by decide +kernel
theorem dX7_borne_29 : decode cX7_borne 29 = .ok (.iinc 2 1, 3) := by decide +kernel
theorem dX7_borne_32 : decode cX7_borne 32 = .ok (.goto (-18), 3) := by decide +kernel
theorem dX7_borne_35 : decode cX7_borne 35 = .ok (.iconst (-1), 1) := by decide +kernel
theorem dX7_borne_36 : decode cX7_borne 36 = .ok (.istore_n 2, 1) := by decide +kernel
theorem dX7_borne_37 : decode cX7_borne 37 = .ok (.iconst 0, 1) := by decide +kernel
theorem dX7_borne_38 : decode cX7_borne 38 = .ok (.istore_n 3, 1) := by decide +kernel
theorem dX7_borne_39 : decode cX7_borne 39 = .ok (.iload_n 3, 1) := by decide +kernel
theorem dX7_borne_40 : decode cX7_borne 40 = .ok (.iload_n 1, 1) := by decide +kernel
theorem dX7_borne_41 : decode cX7_borne 41 = .ok (.if_icmp .ge 45, 3) := by decide +kernel
theorem dX7_borne_44 : decode cX7_borne 44 = .ok (.aload_n 0, 1) := by decide +kernel
theorem dX7_borne_45 : decode cX7_borne 45 = .ok (.aload_n 0, 1) := by decide +kernel
theorem dX7_borne_46 : decode cX7_borne 46 = .ok (.getfield 46, 3) := by decide +kernel
theorem dX7_borne_49 : decode cX7_borne 49 = .ok (.iload_n 3, 1) := by decide +kernel
theorem dX7_borne_50 : decode cX7_borne 50 = .ok (.aaload, 1) := by decide +kernel
theorem dX7_borne_51 : decode cX7_borne 51 = .ok (.getfield 137, 3) := by decide +kernel
theorem dX7_borne_54 : decode cX7_borne 54 = .ok (.iload_n 1, 1) := by decide +kernel
theorem dX7_borne_55 : decode cX7_borne 55 = .ok (.invokevirtual 168, 3) := by decide +kernel
theorem dX7_borne_58 : decode cX7_borne 58 = .ok (.istore 4, 2) := by decide +kernel
theorem dX7_borne_60 : decode cX7_borne 60 = .ok (.iload 4, 2) := by decide +kernel
theorem dX7_borne_62 : decode cX7_borne 62 = .ok (.iconst (-1), 1) := by decide +kernel
theorem dX7_borne_63 : decode cX7_borne 63 = .ok (.if_icmp .eq 17, 3) := by decide +kernel
theorem dX7_borne_66 : decode cX7_borne 66 = .ok (.iload_n 2, 1) := by decide +kernel
theorem dX7_borne_67 : decode cX7_borne 67 = .ok (.iconst (-1), 1) := by decide +kernel
theorem dX7_borne_68 : decode cX7_borne 68 = .ok (.if_icmp .eq 9, 3) := by decide +kernel
theorem dX7_borne_71 : decode cX7_borne 71 = .ok (.iload 4, 2) := by decide +kernel
theorem dX7_borne_73 : decode cX7_borne 73 = .ok (.iload_n 2, 1) := by decide +kernel
theorem dX7_borne_74 : decode cX7_borne 74 = .ok (.if_icmp .ge 6, 3) := by decide +kernel
theorem dX7_borne_77 : decode cX7_borne 77 = .ok (.iload 4, 2) := by decide +kernel
theorem dX7_borne_79 : decode cX7_borne 79 = .ok (.istore_n 2, 1) := by decide +kernel
theorem dX7_borne_80 : decode cX7_borne 80 = .ok (.iinc 3 1, 3) := by decide +kernel
theorem dX7_borne_83 : decode cX7_borne 83 = .ok (.goto (-44), 3) := by decide +kernel
theorem dX7_borne_86 : decode cX7_borne 86 = .ok (.iload_n 2, 1) := by decide +kernel
theorem dX7_borne_87 : decode cX7_borne 87 = .ok (.ireturn, 1) := by decide +kernel
theorem dX7_at_0 : decode cX7_at 0 = .ok (.aload_n 0, 1) := by decide +kernel
theorem dX7_at_1 : decode cX7_at 1 = .ok (.iload_n 1, 1) := by decide +kernel
theorem dX7_at_2 : decode cX7_at 2 = .ok (.invokevirtual 133, 3) := by decide +kernel
theorem dX7_at_5 : decode cX7_at 5 = .ok (.astore 4, 2) := by decide +kernel
theorem dX7_at_7 : decode cX7_at 7 = .ok (.aload 4, 2) := by decide +kernel
theorem dX7_at_9 : decode cX7_at 9 = .ok (.ifnull 28, 3) := by decide +kernel
theorem dX7_at_12 : decode cX7_at 12 = .ok (.aload 4, 2) := by decide +kernel
theorem dX7_at_14 : decode cX7_at 14 = .ok (.iload_n 2, 1) := by decide +kernel
theorem dX7_at_15 : decode cX7_at 15 = .ok (.invokevirtual 172, 3) := by decide +kernel
theorem dX7_at_18 : decode cX7_at 18 = .ok (.ifCond .eq 19, 3) := by decide +kernel
theorem dX7_at_21 : decode cX7_at 21 = .ok (.iload_n 3, 1) := by decide +kernel
theorem dX7_at_22 : decode cX7_at 22 = .ok (.ifCond .lt 15, 3) := by decide +kernel
theorem dX7_at_25 : decode cX7_at 25 = .ok (.iload_n 3, 1) := by decide +kernel
theorem dX7_at_26 : decode cX7_at 26 = .ok (.aload 4, 2) := by decide +kernel
theorem dX7_at_28 : decode cX7_at 28 = .ok (.getfield 137, 3) := by decide +kernel
theorem dX7_at_31 : decode cX7_at 31 = .ok (.getfield 146, 3) := by decide +kernel
theorem dX7_at_34 : decode cX7_at 34 = .ok (.if_icmp .le 5, 3) := by decide +kernel
theorem dX7_at_37 : decode cX7_at 37 = .ok (.iconst (-1), 1) := by decide +kernel
theorem dX7_at_38 : decode cX7_at 38 = .ok (.ireturn, 1) := by decide +kernel
theorem dX7_at_39 : decode cX7_at 39 = .ok (.iload_n 2, 1) := by decide +kernel
theorem dX7_at_40 : decode cX7_at 40 = .ok (.istore 5, 2) := by decide +kernel
theorem dX7_at_42 : decode cX7_at 42 = .ok (.iconst 0, 1) := by decide +kernel
end
section
theorem dX7_at_43 : decode cX7_at 43 = .ok (.istore 6, 2) := by decide +kernel
theorem dX7_at_45 : decode cX7_at 45 = .ok (.iload 6, 2) := by decide +kernel
theorem dX7_at_47 : decode cX7_at 47 = .ok (.iload_n 3, 1) := by decide +kernel
theorem dX7_at_48 : decode cX7_at 48 = .ok (.if_icmp .ge 20, 3) := by decide +kernel
theorem dX7_at_51 : decode cX7_at 51 = .ok (.aload 4, 2) := by decide +kernel
theorem dX7_at_53 : decode cX7_at 53 = .ok (.iload 6, 2) := by decide +kernel
theorem dX7_at_55 : decode cX7_at 55 = .ok (.iload 5, 2) := by decide +kernel
theorem dX7_at_57 : decode cX7_at 57 = .ok (.invokevirtual 175, 3) := by decide +kernel
theorem dX7_at_60 : decode cX7_at 60 = .ok (.istore 5, 2) := by decide +kernel
theorem dX7_at_62 : decode cX7_at 62 = .ok (.iinc 6 1, 3) := by decide +kernel
theorem dX7_at_65 : decode cX7_at 65 = .ok (.goto (-20), 3) := by decide +kernel
theorem dX7_at_68 : decode cX7_at 68 = .ok (.iload 5, 2) := by decide +kernel
theorem dX7_at_70 : decode cX7_at 70 = .ok (.ireturn, 1) := by decide +kernel
theorem dX7_home_0 : decode cX7_home 0 = .ok (.aload_n 0, 1) := by decide +kernel
theorem dX7_home_1 : decode cX7_home 1 = .ok (.iload_n 1, 1) := by decide +kernel
theorem dX7_home_2 : decode cX7_home 2 = .ok (.invokevirtual 133, 3) := by decide +kernel
theorem dX7_home_5 : decode cX7_home 5 = .ok (.astore_n 3, 1) := by decide +kernel
theorem dX7_home_6 : decode cX7_home 6 = .ok (.aload_n 3, 1) := by decide +kernel
theorem dX7_home_7 : decode cX7_home 7 = .ok (.ifnull 18, 3) := by decide +kernel
theorem dX7_home_10 : decode cX7_home 10 = .ok (.iload_n 2, 1) := by decide +kernel
theorem dX7_home_11 : decode cX7_home 11 = .ok (.ifCond .lt 14, 3) := by decide +kernel
theorem dX7_home_14 : decode cX7_home 14 = .ok (.iload_n 2, 1) := by decide +kernel
theorem dX7_home_15 : decode cX7_home 15 = .ok (.aload_n 3, 1) := by decide +kernel
theorem dX7_home_16 : decode cX7_home 16 = .ok (.getfield 137, 3) := by decide +kernel
theorem dX7_home_19 : decode cX7_home 19 = .ok (.getfield 146, 3) := by decide +kernel
theorem dX7_home_22 : decode cX7_home 22 = .ok (.if_icmp .le 5, 3) := by decide +kernel
theorem dX7_home_25 : decode cX7_home 25 = .ok (.iconst (-1), 1) := by decide +kernel
theorem dX7_home_26 : decode cX7_home 26 = .ok (.ireturn, 1) := by decide +kernel
theorem dX7_home_27 : decode cX7_home 27 = .ok (.aload_n 3, 1) := by decide +kernel
theorem dX7_home_28 : decode cX7_home 28 = .ok (.iload_n 2, 1) := by decide +kernel
theorem dX7_home_29 : decode cX7_home 29 = .ok (.invokevirtual 178, 3) := by decide +kernel
theorem dX7_home_32 : decode cX7_home 32 = .ok (.istore 4, 2) := by decide +kernel
theorem dX7_home_34 : decode cX7_home 34 = .ok (.iload 4, 2) := by decide +kernel
theorem dX7_home_36 : decode cX7_home 36 = .ok (.ldc 181, 2) := by decide +kernel
theorem dX7_home_38 : decode cX7_home 38 = .ok (.if_icmp .ne 7, 3) := by decide +kernel
theorem dX7_home_41 : decode cX7_home 41 = .ok (.iconst (-1), 1) := by decide +kernel
theorem dX7_home_42 : decode cX7_home 42 = .ok (.goto 5, 3) := by decide +kernel
theorem dX7_home_45 : decode cX7_home 45 = .ok (.iload 4, 2) := by decide +kernel
theorem dX7_home_47 : decode cX7_home 47 = .ok (.ireturn, 1) := by decide +kernel
theorem dX7_lastReturn_0 : decode cX7_lastReturn 0 = .ok (.aload_n 0, 1) := by decide +kernel
theorem dX7_lastReturn_1 : decode cX7_lastReturn 1 = .ok (.iload_n 1, 1) := by decide +kernel
theorem dX7_lastReturn_2 : decode cX7_lastReturn 2 = .ok (.invokevirtual 133, 3) := by decide +kernel
theorem dX7_lastReturn_5 : decode cX7_lastReturn 5 = .ok (.astore_n 3, 1) := by decide +kernel
theorem dX7_lastReturn_6 : decode cX7_lastReturn 6 = .ok (.aload_n 3, 1) := by decide +kernel
theorem dX7_lastReturn_7 : decode cX7_lastReturn 7 = .ok (.ifnull 11, 3) := by decide +kernel
theorem dX7_lastReturn_10 : decode cX7_lastReturn 10 = .ok (.aload_n 3, 1) := by decide +kernel
theorem dX7_lastReturn_11 : decode cX7_lastReturn 11 = .ok (.iload_n 2, 1) := by decide +kernel
theorem dX7_lastReturn_12 : decode cX7_lastReturn 12 = .ok (.invokevirtual 172, 3) := by decide +kernel
theorem dX7_lastReturn_15 : decode cX7_lastReturn 15 = .ok (.ifCond .ne 5, 3) := by decide +kernel
theorem dX7_lastReturn_18 : decode cX7_lastReturn 18 = .ok (.iconst (-1), 1) := by decide +kernel
theorem dX7_lastReturn_19 : decode cX7_lastReturn 19 = .ok (.ireturn, 1) := by decide +kernel
theorem dX7_lastReturn_20 : decode cX7_lastReturn 20 = .ok (.iload_n 2, 1) := by decide +kernel
theorem dX7_lastReturn_21 : decode cX7_lastReturn 21 = .ok (.istore 4, 2) := by decide +kernel
theorem dX7_lastReturn_23 : decode cX7_lastReturn 23 = .ok (.iconst 0, 1) := by decide +kernel
theorem dX7_lastReturn_24 : decode cX7_lastReturn 24 = .ok (.istore 5, 2) := by decide +kernel
theorem dX7_lastReturn_26 : decode cX7_lastReturn 26 = .ok (.iconst 1, 1) := by decide +kernel
theorem dX7_lastReturn_27 : decode cX7_lastReturn 27 = .ok (.istore 6, 2) := by decide +kernel
theorem dX7_lastReturn_29 : decode cX7_lastReturn 29 = .ok (.iload 6, 2) := by decide +kernel
theorem dX7_lastReturn_31 : decode cX7_lastReturn 31 = .ok (.aload_n 3, 1) := by decide +kernel
theorem dX7_lastReturn_32 : decode cX7_lastReturn 32 = .ok (.getfield 137, 3) := by decide +kernel
theorem dX7_lastReturn_35 : decode cX7_lastReturn 35 = .ok (.getfield 146, 3) := by decide +kernel
theorem dX7_lastReturn_38 : decode cX7_lastReturn 38 = .ok (.if_icmp .gt 39, 3) := by decide +kernel
theorem dX7_lastReturn_41 : decode cX7_lastReturn 41 = .ok (.aload_n 3, 1) := by decide +kernel
theorem dX7_lastReturn_42 : decode cX7_lastReturn 42 = .ok (.iload 6, 2) := by decide +kernel
theorem dX7_lastReturn_44 : decode cX7_lastReturn 44 = .ok (.iconst 1, 1) := by decide +kernel
theorem dX7_lastReturn_45 : decode cX7_lastReturn 45 = .ok (.isub, 1) := by decide +kernel
theorem dX7_lastReturn_46 : decode cX7_lastReturn 46 = .ok (.iload 4, 2) := by decide +kernel
theorem dX7_lastReturn_48 : decode cX7_lastReturn 48 = .ok (.invokevirtual 175, 3) := by decide +kernel
theorem dX7_lastReturn_51 : decode cX7_lastReturn 51 = .ok (.istore 4, 2) := by decide +kernel
theorem dX7_lastReturn_53 : decode cX7_lastReturn 53 = .ok (.iload 4, 2) := by decide +kernel
theorem dX7_lastReturn_55 : decode cX7_lastReturn 55 = .ok (.aload_n 3, 1) := by decide +kernel
theorem dX7_lastReturn_56 : decode cX7_lastReturn 56 = .ok (.iload 6, 2) := by decide +kernel
theorem dX7_lastReturn_58 : decode cX7_lastReturn 58 = .ok (.invokevirtual 178, 3) := by decide +kernel
theorem dX7_lastReturn_61 : decode cX7_lastReturn 61 = .ok (.if_icmp .ge 6, 3) := by decide +kernel
theorem dX7_lastReturn_64 : decode cX7_lastReturn 64 = .ok (.goto 13, 3) := by decide +kernel
theorem dX7_lastReturn_67 : decode cX7_lastReturn 67 = .ok (.iload 6, 2) := by decide +kernel
theorem dX7_lastReturn_69 : decode cX7_lastReturn 69 = .ok (.istore 5, 2) := by decide +kernel
theorem dX7_lastReturn_71 : decode cX7_lastReturn 71 = .ok (.iinc 6 1, 3) := by decide +kernel
theorem dX7_lastReturn_74 : decode cX7_lastReturn 74 = .ok (.goto (-45), 3) := by decide +kernel
theorem dX7_lastReturn_77 : decode cX7_lastReturn 77 = .ok (.iload 5, 2) := by decide +kernel
theorem dX7_lastReturn_79 : decode cX7_lastReturn 79 = .ok (.ireturn, 1) := by decide +kernel
theorem dX7_carry_0 : decode cX7_carry 0 = .ok (.aload_n 0, 1) := by decide +kernel
theorem dX7_carry_1 : decode cX7_carry 1 = .ok (.iload_n 1, 1) := by decide +kernel
theorem dX7_carry_2 : decode cX7_carry 2 = .ok (.invokevirtual 133, 3) := by decide +kernel
theorem dX7_carry_5 : decode cX7_carry 5 = .ok (.astore 4, 2) := by decide +kernel
theorem dX7_carry_7 : decode cX7_carry 7 = .ok (.aload 4, 2) := by decide +kernel
theorem dX7_carry_9 : decode cX7_carry 9 = .ok (.ifnull 23, 3) := by decide +kernel
theorem dX7_carry_12 : decode cX7_carry 12 = .ok (.iload_n 2, 1) := by decide +kernel
theorem dX7_carry_13 : decode cX7_carry 13 = .ok (.sipush 1001, 3) := by decide +kernel
theorem dX7_carry_16 : decode cX7_carry 16 = .ok (.invokestatic 91, 3) := by decide +kernel
theorem dX7_carry_19 : decode cX7_carry 19 = .ok (.ifCond .eq 13, 3) := by decide +kernel
theorem dX7_carry_22 : decode cX7_carry 22 = .ok (.iload_n 3, 1) := by decide +kernel
theorem dX7_carry_23 : decode cX7_carry 23 = .ok (.sipush 1001, 3) := by decide +kernel
theorem dX7_carry_26 : decode cX7_carry 26 = .ok (.invokestatic 91, 3) := by decide +kernel
theorem dX7_carry_29 : decode cX7_carry 29 = .ok (.ifCond .ne 5, 3) := by decide +kernel
theorem dX7_carry_32 : decode cX7_carry 32 = .ok (.iconst (-1), 1) := by decide +kernel
theorem dX7_carry_33 : decode cX7_carry 33 = .ok (.ireturn, 1) := by decide +kernel
theorem dX7_carry_34 : decode cX7_carry 34 = .ok (.aload 4, 2) := by decide +kernel
theorem dX7_carry_36 : decode cX7_carry 36 = .ok (.iload_n 2, 1) := by decide +kernel
theorem dX7_carry_37 : decode cX7_carry 37 = .ok (.iload_n 3, 1) := by decide +kernel
theorem dX7_carry_38 : decode cX7_carry 38 = .ok (.invokevirtual 182, 3) := by decide +kernel
theorem dX7_carry_41 : decode cX7_carry 41 = .ok (.ireturn, 1) := by decide +kernel
theorem dX7_about_0 : decode cX7_about 0 = .ok (.iload_n 1, 1) := by decide +kernel
theorem dX7_about_1 : decode cX7_about 1 = .ok (.tableswitch 71 0 3 #[31, 39, 47, 63], 31) := by decide +kernel
theorem dX7_about_32 : decode cX7_about 32 = .ok (.aload_n 0, 1) := by decide +kernel
theorem dX7_about_33 : decode cX7_about 33 = .ok (.getfield 28, 3) := by decide +kernel
theorem dX7_about_36 : decode cX7_about 36 = .ok (.getfield 82, 3) := by decide +kernel
theorem dX7_about_39 : decode cX7_about 39 = .ok (.ireturn, 1) := by decide +kernel
theorem dX7_about_40 : decode cX7_about 40 = .ok (.aload_n 0, 1) := by decide +kernel
theorem dX7_about_41 : decode cX7_about 41 = .ok (.getfield 28, 3) := by decide +kernel
theorem dX7_about_44 : decode cX7_about 44 = .ok (.getfield 185, 3) := by decide +kernel
theorem dX7_about_47 : decode cX7_about 47 = .ok (.ireturn, 1) := by decide +kernel
theorem dX7_about_48 : decode cX7_about 48 = .ok (.aload_n 0, 1) := by decide +kernel
theorem dX7_about_49 : decode cX7_about 49 = .ok (.getfield 40, 3) := by decide +kernel
theorem dX7_about_52 : decode cX7_about 52 = .ok (.getfield 75, 3) := by decide +kernel
theorem dX7_about_55 : decode cX7_about 55 = .ok (.ifCond .eq 7, 3) := by decide +kernel
theorem dX7_about_58 : decode cX7_about 58 = .ok (.iconst 1, 1) := by decide +kernel
theorem dX7_about_59 : decode cX7_about 59 = .ok (.goto 4, 3) := by decide +kernel
theorem dX7_about_62 : decode cX7_about 62 = .ok (.iconst 0, 1) := by decide +kernel
theorem dX7_about_63 : decode cX7_about 63 = .ok (.ireturn, 1) := by decide +kernel
theorem dX7_about_64 : decode cX7_about 64 = .ok (.aload_n 0, 1) := by decide +kernel
theorem dX7_about_65 : decode cX7_about 65 = .ok (.getfield 12, 3) := by decide +kernel
theorem dX7_about_68 : decode cX7_about 68 = .ok (.getfield 61, 3) := by decide +kernel
theorem dX7_about_71 : decode cX7_about 71 = .ok (.ireturn, 1) := by decide +kernel
theorem dX7_about_72 : decode cX7_about 72 = .ok (.iconst (-1), 1) := by decide +kernel
theorem dX7_about_73 : decode cX7_about 73 = .ok (.ireturn, 1) := by decide +kernel
theorem dX7_forgetPlans_0 : decode cX7_forgetPlans 0 = .ok (.iconst 0, 1) := by decide +kernel
theorem dX7_forgetPlans_1 : decode cX7_forgetPlans 1 = .ok (.istore_n 1, 1) := by decide +kernel
theorem dX7_forgetPlans_2 : decode cX7_forgetPlans 2 = .ok (.iload_n 1, 1) := by decide +kernel
theorem dX7_forgetPlans_3 : decode cX7_forgetPlans 3 = .ok (.iconst 3, 1) := by decide +kernel
theorem dX7_forgetPlans_4 : decode cX7_forgetPlans 4 = .ok (.if_icmp .ge 18, 3) := by decide +kernel
theorem dX7_forgetPlans_7 : decode cX7_forgetPlans 7 = .ok (.aload_n 0, 1) := by decide +kernel
theorem dX7_forgetPlans_8 : decode cX7_forgetPlans 8 = .ok (.getfield 46, 3) := by decide +kernel
theorem dX7_forgetPlans_11 : decode cX7_forgetPlans 11 = .ok (.iload_n 1, 1) := by decide +kernel
theorem dX7_forgetPlans_12 : decode cX7_forgetPlans 12 = .ok (.aaload, 1) := by decide +kernel
theorem dX7_forgetPlans_13 : decode cX7_forgetPlans 13 = .ok (.invokevirtual 188, 3) := by decide +kernel
theorem dX7_forgetPlans_16 : decode cX7_forgetPlans 16 = .ok (.iinc 1 1, 3) := by decide +kernel
theorem dX7_forgetPlans_19 : decode cX7_forgetPlans 19 = .ok (.goto (-17), 3) := by decide +kernel
theorem dX7_forgetPlans_22 : decode cX7_forgetPlans 22 = .ok (.return_, 1) := by decide +kernel
theorem dX7_planOf_0 : decode cX7_planOf 0 = .ok (.aload_n 0, 1) := by decide +kernel
theorem dX7_planOf_1 : decode cX7_planOf 1 = .ok (.getfield 40, 3) := by decide +kernel
theorem dX7_planOf_4 : decode cX7_planOf 4 = .ok (.getfield 75, 3) := by decide +kernel
theorem dX7_planOf_7 : decode cX7_planOf 7 = .ok (.ifCond .eq 11, 3) := by decide +kernel
theorem dX7_planOf_10 : decode cX7_planOf 10 = .ok (.iload_n 1, 1) := by decide +kernel
theorem dX7_planOf_11 : decode cX7_planOf 11 = .ok (.iconst 3, 1) := by decide +kernel
theorem dX7_planOf_12 : decode cX7_planOf 12 = .ok (.invokestatic 91, 3) := by decide +kernel
theorem dX7_planOf_15 : decode cX7_planOf 15 = .ok (.ifCond .ne 5, 3) := by decide +kernel
theorem dX7_planOf_18 : decode cX7_planOf 18 = .ok (.aconst_null, 1) := by decide +kernel
theorem dX7_planOf_19 : decode cX7_planOf 19 = .ok (.areturn, 1) := by decide +kernel
theorem dX7_planOf_20 : decode cX7_planOf 20 = .ok (.aload_n 0, 1) := by decide +kernel
theorem dX7_planOf_21 : decode cX7_planOf 21 = .ok (.getfield 46, 3) := by decide +kernel
theorem dX7_planOf_24 : decode cX7_planOf 24 = .ok (.iload_n 1, 1) := by decide +kernel
theorem dX7_planOf_25 : decode cX7_planOf 25 = .ok (.aaload, 1) := by decide +kernel
theorem dX7_planOf_26 : decode cX7_planOf 26 = .ok (.astore_n 2, 1) := by decide +kernel
theorem dX7_planOf_27 : decode cX7_planOf 27 = .ok (.aload_n 2, 1) := by decide +kernel
theorem dX7_planOf_28 : decode cX7_planOf 28 = .ok (.invokevirtual 191, 3) := by decide +kernel
theorem dX7_planOf_31 : decode cX7_planOf 31 = .ok (.aload_n 2, 1) := by decide +kernel
theorem dX7_planOf_32 : decode cX7_planOf 32 = .ok (.getfield 194, 3) := by decide +kernel
theorem dX7_planOf_35 : decode cX7_planOf 35 = .ok (.ifCond .eq 7, 3) := by decide +kernel
theorem dX7_planOf_38 : decode cX7_planOf 38 = .ok (.aload_n 2, 1) := by decide +kernel
theorem dX7_planOf_39 : decode cX7_planOf 39 = .ok (.goto 4, 3) := by decide +kernel
theorem dX7_planOf_42 : decode cX7_planOf 42 = .ok (.aconst_null, 1) := by decide +kernel
theorem dX7_planOf_43 : decode cX7_planOf 43 = .ok (.areturn, 1) := by decide +kernel
theorem dX7_within_0 : decode cX7_within 0 = .ok (.iload_n 0, 1) := by decide +kernel
theorem dX7_within_1 : decode cX7_within 1 = .ok (.ifCond .lt 12, 3) := by decide +kernel
theorem dX7_within_4 : decode cX7_within 4 = .ok (.iload_n 0, 1) := by decide +kernel
theorem dX7_within_5 : decode cX7_within 5 = .ok (.iload_n 1, 1) := by decide +kernel
theorem dX7_within_6 : decode cX7_within 6 = .ok (.if_icmp .ge 7, 3) := by decide +kernel
theorem dX7_within_9 : decode cX7_within 9 = .ok (.iconst 1, 1) := by decide +kernel
theorem dX7_within_10 : decode cX7_within 10 = .ok (.goto 4, 3) := by decide +kernel
theorem dX7_within_13 : decode cX7_within 13 = .ok (.iconst 0, 1) := by decide +kernel
theorem dX7_within_14 : decode cX7_within 14 = .ok (.ireturn, 1) := by decide +kernel
theorem dX7_burnIndex_0 : decode cX7_burnIndex 0 = .ok (.iload_n 0, 1) := by decide +kernel
theorem dX7_burnIndex_1 : decode cX7_burnIndex 1 = .ok (.iconst 5, 1) := by decide +kernel
theorem dX7_burnIndex_2 : decode cX7_burnIndex 2 = .ok (.imul, 1) := by decide +kernel
theorem dX7_burnIndex_3 : decode cX7_burnIndex 3 = .ok (.iload_n 1, 1) := by decide +kernel
theorem dX7_burnIndex_4 : decode cX7_burnIndex 4 = .ok (.iadd, 1) := by decide +kernel
theorem dX7_burnIndex_5 : decode cX7_burnIndex 5 = .ok (.ireturn, 1) := by decide +kernel
theorem dX8_sign_0 : decode cX8_sign 0 = .ok (.iload_n 1, 1) := by decide +kernel
theorem dX8_sign_1 : decode cX8_sign 1 = .ok (.aload_n 0, 1) := by decide +kernel
theorem dX8_sign_2 : decode cX8_sign 2 = .ok (.getfield 1, 3) := by decide +kernel
theorem dX8_sign_5 : decode cX8_sign 5 = .ok (.if_icmp .ge 16, 3) := by decide +kernel
theorem dX8_sign_8 : decode cX8_sign 8 = .ok (.aload_n 0, 1) := by decide +kernel
theorem dX8_sign_9 : decode cX8_sign 9 = .ok (.getfield 7, 3) := by decide +kernel
theorem dX8_sign_12 : decode cX8_sign 12 = .ok (.iload_n 1, 1) := by decide +kernel
theorem dX8_sign_13 : decode cX8_sign 13 = .ok (.baload, 1) := by decide +kernel
theorem dX8_sign_14 : decode cX8_sign 14 = .ok (.sipush 255, 3) := by decide +kernel
theorem dX8_sign_17 : decode cX8_sign 17 = .ok (.iand, 1) := by decide +kernel
theorem dX8_sign_18 : decode cX8_sign 18 = .ok (.goto 4, 3) := by decide +kernel
theorem dX8_sign_21 : decode cX8_sign 21 = .ok (.iconst 0, 1) := by decide +kernel
theorem dX8_sign_22 : decode cX8_sign 22 = .ok (.ireturn, 1) := by decide +kernel
theorem dX8_isGood_0 : decode cX8_isGood 0 = .ok (.aload_n 0, 1) := by decide +kernel
theorem dX8_isGood_1 : decode cX8_isGood 1 = .ok (.getfield 11, 3) := by decide +kernel
theorem dX8_isGood_4 : decode cX8_isGood 4 = .ok (.ifCond .ne 7, 3) := by decide +kernel
theorem dX8_isGood_7 : decode cX8_isGood 7 = .ok (.iconst 1, 1) := by decide +kernel
theorem dX8_isGood_8 : decode cX8_isGood 8 = .ok (.goto 4, 3) := by decide +kernel
theorem dX8_isGood_11 : decode cX8_isGood 11 = .ok (.iconst 0, 1) := by decide +kernel
theorem dX8_isGood_12 : decode cX8_isGood 12 = .ok (.ireturn, 1) := by decide +kernel
theorem dX8_next_0 : decode cX8_next 0 = .ok (.aload_n 0, 1) := by decide +kernel
theorem dX8_next_1 : decode cX8_next 1 = .ok (.aload_n 0, 1) := by decide +kernel
theorem dX8_next_2 : decode cX8_next 2 = .ok (.getfield 17, 3) := by decide +kernel
theorem dX8_next_5 : decode cX8_next 5 = .ok (.putfield 20, 3) := by decide +kernel
theorem dX8_next_8 : decode cX8_next 8 = .ok (.aload_n 0, 1) := by decide +kernel
theorem dX8_next_9 : decode cX8_next 9 = .ok (.getfield 20, 3) := by decide +kernel
theorem dX8_next_12 : decode cX8_next 12 = .ok (.aload_n 0, 1) := by decide +kernel
theorem dX8_next_13 : decode cX8_next 13 = .ok (.getfield 1, 3) := by decide +kernel
theorem dX8_next_16 : decode cX8_next 16 = .ok (.if_icmp .ge 42, 3) := by decide +kernel
theorem dX8_next_19 : decode cX8_next 19 = .ok (.aload_n 0, 1) := by decide +kernel
theorem dX8_next_20 : decode cX8_next 20 = .ok (.aload_n 0, 1) := by decide +kernel
theorem dX8_next_21 : decode cX8_next 21 = .ok (.getfield 20, 3) := by decide +kernel
theorem dX8_next_24 : decode cX8_next 24 = .ok (.invokevirtual 23, 3) := by decide +kernel
theorem dX8_next_27 : decode cX8_next 27 = .ok (.bipush 32, 2) := by decide +kernel
theorem dX8_next_29 : decode cX8_next 29 = .ok (.if_icmp .eq 16, 3) := by decide +kernel
theorem dX8_next_32 : decode cX8_next 32 = .ok (.aload_n 0, 1) := by decide +kernel
theorem dX8_next_33 : decode cX8_next 33 = .ok (.aload_n 0, 1) := by decide +kernel
theorem dX8_next_34 : decode cX8_next 34 = .ok (.getfield 20, 3) := by decide +kernel
theorem dX8_next_37 : decode cX8_next 37 = .ok (.invokevirtual 23, 3) := by decide +kernel
theorem dX8_next_40 : decode cX8_next 40 = .ok (.bipush 10, 2) := by decide +kernel
theorem dX8_next_42 : decode cX8_next 42 = .ok (.if_icmp .ne 16, 3) := by decide +kernel
theorem dX8_next_45 : decode cX8_next 45 = .ok (.aload_n 0, 1) := by decide +kernel
theorem dX8_next_46 : decode cX8_next 46 = .ok (.dup, 1) := by decide +kernel
theorem dX8_next_47 : decode cX8_next 47 = .ok (.getfield 20, 3) := by decide +kernel
theorem dX8_next_50 : decode cX8_next 50 = .ok (.iconst 1, 1) := by decide +kernel
theorem dX8_next_51 : decode cX8_next 51 = .ok (.iadd, 1) := by decide +kernel
theorem dX8_next_52 : decode cX8_next 52 = .ok (.putfield 20, 3) := by decide +kernel
theorem dX8_next_55 : decode cX8_next 55 = .ok (.goto (-47), 3) := by decide +kernel
theorem dX8_next_58 : decode cX8_next 58 = .ok (.aload_n 0, 1) := by decide +kernel
theorem dX8_next_59 : decode cX8_next 59 = .ok (.aload_n 0, 1) := by decide +kernel
theorem dX8_next_60 : decode cX8_next 60 = .ok (.getfield 20, 3) := by decide +kernel
theorem dX8_next_63 : decode cX8_next 63 = .ok (.invokevirtual 23, 3) := by decide +kernel
theorem dX8_next_66 : decode cX8_next 66 = .ok (.istore_n 1, 1) := by decide +kernel
theorem dX8_next_67 : decode cX8_next 67 = .ok (.aload_n 0, 1) := by decide +kernel
theorem dX8_next_68 : decode cX8_next 68 = .ok (.aload_n 0, 1) := by decide +kernel
theorem dX8_next_69 : decode cX8_next 69 = .ok (.getfield 20, 3) := by decide +kernel
theorem dX8_next_72 : decode cX8_next 72 = .ok (.iconst 1, 1) := by decide +kernel
theorem dX8_next_73 : decode cX8_next 73 = .ok (.iadd, 1) := by decide +kernel
theorem dX8_next_74 : decode cX8_next 74 = .ok (.putfield 17, 3) := by decide +kernel
theorem dX8_next_77 : decode cX8_next 77 = .ok (.aload_n 0, 1) := by decide +kernel
theorem dX8_next_78 : decode cX8_next 78 = .ok (.getfield 20, 3) := by decide +kernel
theorem dX8_next_81 : decode cX8_next 81 = .ok (.aload_n 0, 1) := by decide +kernel
theorem dX8_next_82 : decode cX8_next 82 = .ok (.getfield 1, 3) := by decide +kernel
theorem dX8_next_85 : decode cX8_next 85 = .ok (.if_icmp .lt 27, 3) := by decide +kernel
theorem dX8_next_88 : decode cX8_next 88 = .ok (.aload_n 0, 1) := by decide +kernel
theorem dX8_next_89 : decode cX8_next 89 = .ok (.iconst 0, 1) := by decide +kernel
theorem dX8_next_90 : decode cX8_next 90 = .ok (.putfield 27, 3) := by decide +kernel
theorem dX8_next_93 : decode cX8_next 93 = .ok (.aload_n 0, 1) := by decide +kernel
theorem dX8_next_94 : decode cX8_next 94 = .ok (.aload_n 0, 1) := by decide +kernel
theorem dX8_next_95 : decode cX8_next 95 = .ok (.getfield 1, 3) := by decide +kernel
theorem dX8_next_98 : decode cX8_next 98 = .ok (.putfield 20, 3) := by decide +kernel
theorem dX8_next_101 : decode cX8_next 101 = .ok (.aload_n 0, 1) := by decide +kernel
theorem dX8_next_102 : decode cX8_next 102 = .ok (.aload_n 0, 1) := by decide +kernel
theorem dX8_next_103 : decode cX8_next 103 = .ok (.getfield 1, 3) := by decide +kernel
theorem dX8_next_106 : decode cX8_next 106 = .ok (.putfield 17, 3) := by decide +kernel
theorem dX8_next_109 : decode cX8_next 109 = .ok (.goto 178, 3) := by decide +kernel
theorem dX8_next_112 : decode cX8_next 112 = .ok (.iload_n 1, 1) := by decide +kernel
theorem dX8_next_113 : decode cX8_next 113 = .ok (.invokestatic 30, 3) := by decide +kernel
theorem dX8_next_116 : decode cX8_next 116 = .ok (.ifCond .eq 109, 3) := by decide +kernel
theorem dX8_next_119 : decode cX8_next 119 = .ok (.aload_n 0, 1) := by decide +kernel
theorem dX8_next_120 : decode cX8_next 120 = .ok (.aload_n 0, 1) := by decide +kernel
theorem dX8_next_121 : decode cX8_next 121 = .ok (.getfield 17, 3) := by decide +kernel
theorem dX8_next_124 : decode cX8_next 124 = .ok (.invokevirtual 23, 3) := by decide +kernel
theorem dX8_next_127 : decode cX8_next 127 = .ok (.invokestatic 30, 3) := by decide +kernel
theorem dX8_next_130 : decode cX8_next 130 = .ok (.ifCond .eq 16, 3) := by decide +kernel
theorem dX8_next_133 : decode cX8_next 133 = .ok (.aload_n 0, 1) := by decide +kernel
theorem dX8_next_134 : decode cX8_next 134 = .ok (.dup, 1) := by decide +kernel
theorem dX8_next_135 : decode cX8_next 135 = .ok (.getfield 17, 3) := by decide +kernel
theorem dX8_next_138 : decode cX8_next 138 = .ok (.iconst 1, 1) := by decide +kernel
theorem dX8_next_139 : decode cX8_next 139 = .ok (.iadd, 1) := by decide +kernel
theorem dX8_next_140 : decode cX8_next 140 = .ok (.putfield 17, 3) := by decide +kernel
theorem dX8_next_143 : decode cX8_next 143 = .ok (.goto (-24), 3) := by decide +kernel
theorem dX8_next_146 : decode cX8_next 146 = .ok (.aload_n 0, 1) := by decide +kernel
theorem dX8_next_147 : decode cX8_next 147 = .ok (.lconst 0, 1) := by decide +kernel
theorem dX8_next_148 : decode cX8_next 148 = .ok (.putfield 34, 3) := by decide +kernel
theorem dX8_next_151 : decode cX8_next 151 = .ok (.aload_n 0, 1) := by decide +kernel
theorem dX8_next_152 : decode cX8_next 152 = .ok (.getfield 20, 3) := by decide +kernel
theorem dX8_next_155 : decode cX8_next 155 = .ok (.istore_n 2, 1) := by decide +kernel
theorem dX8_next_156 : decode cX8_next 156 = .ok (.iload_n 2, 1) := by decide +kernel
theorem dX8_next_157 : decode cX8_next 157 = .ok (.aload_n 0, 1) := by decide +kernel
theorem dX8_next_158 : decode cX8_next 158 = .ok (.getfield 17, 3) := by decide +kernel
theorem dX8_next_161 : decode cX8_next 161 = .ok (.if_icmp .ge 38, 3) := by decide +kernel
theorem dX8_next_164 : decode cX8_next 164 = .ok (.iload_n 2, 1) := by decide +kernel
theorem dX8_next_165 : decode cX8_next 165 = .ok (.aload_n 0, 1) := by decide +kernel
theorem dX8_next_166 : decode cX8_next 166 = .ok (.getfield 20, 3) := by decide +kernel
theorem dX8_next_169 : decode cX8_next 169 = .ok (.bipush 8, 2) := by decide +kernel
theorem dX8_next_171 : decode cX8_next 171 = .ok (.iadd, 1) := by decide +kernel
theorem dX8_next_172 : decode cX8_next 172 = .ok (.if_icmp .ge 27, 3) := by decide +kernel
theorem dX8_next_175 : decode cX8_next 175 = .ok (.aload_n 0, 1) := by decide +kernel
theorem dX8_next_176 : decode cX8_next 176 = .ok (.aload_n 0, 1) := by decide +kernel
theorem dX8_next_177 : decode cX8_next 177 = .ok (.getfield 34, 3) := by decide +kernel
theorem dX8_next_180 : decode cX8_next 180 = .ok (.bipush 8, 2) := by decide +kernel
theorem dX8_next_182 : decode cX8_next 182 = .ok (.lshl, 1) := by decide +kernel
theorem dX8_next_183 : decode cX8_next 183 = .ok (.aload_n 0, 1) := by decide +kernel
theorem dX8_next_184 : decode cX8_next 184 = .ok (.iload_n 2, 1) := by decide +kernel
theorem dX8_next_185 : decode cX8_next 185 = .ok (.invokevirtual 23, 3) := by decide +kernel
theorem dX8_next_188 : decode cX8_next 188 = .ok (.i2l, 1) := by decide +kernel
theorem dX8_next_189 : decode cX8_next 189 = .ok (.lor, 1) := by decide +kernel
theorem dX8_next_190 : decode cX8_next 190 = .ok (.putfield 34, 3) := by decide +kernel
theorem dX8_next_193 : decode cX8_next 193 = .ok (.iinc 2 1, 3) := by decide +kernel
theorem dX8_next_196 : decode cX8_next 196 = .ok (.goto (-40), 3) := by decide +kernel
theorem dX8_next_199 : decode cX8_next 199 = .ok (.aload_n 0, 1) := by decide +kernel
theorem dX8_next_200 : decode cX8_next 200 = .ok (.aload_n 0, 1) := by decide +kernel
theorem dX8_next_201 : decode cX8_next 201 = .ok (.getfield 17, 3) := by decide +kernel
theorem dX8_next_204 : decode cX8_next 204 = .ok (.aload_n 0, 1) := by decide +kernel
theorem dX8_next_205 : decode cX8_next 205 = .ok (.getfield 20, 3) := by decide +kernel
theorem dX8_next_208 : decode cX8_next 208 = .ok (.isub, 1) := by decide +kernel
theorem dX8_next_209 : decode cX8_next 209 = .ok (.bipush 8, 2) := by decide +kernel
theorem dX8_next_211 : decode cX8_next 211 = .ok (.if_icmp .le 7, 3) := by decide +kernel
theorem dX8_next_214 : decode cX8_next 214 = .ok (.iconst 1, 1) := by decide +kernel
theorem dX8_next_215 : decode cX8_next 215 = .ok (.goto 4, 3) := by decide +kernel
theorem dX8_next_218 : decode cX8_next 218 = .ok (.iconst 2, 1) := by decide +kernel
theorem dX8_next_219 : decode cX8_next 219 = .ok (.putfield 27, 3) := by decide +kernel
theorem dX8_next_222 : decode cX8_next 222 = .ok (.goto 65, 3) := by decide +kernel
theorem dX8_next_225 : decode cX8_next 225 = .ok (.iload_n 1, 1) := by decide +kernel
theorem dX8_next_226 : decode cX8_next 226 = .ok (.invokestatic 38, 3) := by decide +kernel
theorem dX8_next_229 : decode cX8_next 229 = .ok (.ifCond .ne 25, 3) := by decide +kernel
theorem dX8_next_232 : decode cX8_next 232 = .ok (.iload_n 1, 1) := by decide +kernel
theorem dX8_next_233 : decode cX8_next 233 = .ok (.bipush 45, 2) := by decide +kernel
theorem dX8_next_235 : decode cX8_next 235 = .ok (.if_icmp .ne 37, 3) := by decide +kernel
theorem dX8_next_238 : decode cX8_next 238 = .ok (.aload_n 0, 1) := by decide +kernel
theorem dX8_next_239 : decode cX8_next 239 = .ok (.aload_n 0, 1) := by decide +kernel
theorem dX8_next_240 : decode cX8_next 240 = .ok (.getfield 20, 3) := by decide +kernel
theorem dX8_next_243 : decode cX8_next 243 = .ok (.iconst 1, 1) := by decide +kernel
theorem dX8_next_244 : decode cX8_next 244 = .ok (.iadd, 1) := by decide +kernel
theorem dX8_next_245 : decode cX8_next 245 = .ok (.invokevirtual 23, 3) := by decide +kernel
theorem dX8_next_248 : decode cX8_next 248 = .ok (.invokestatic 38, 3) := by decide +kernel
theorem dX8_next_251 : decode cX8_next 251 = .ok (.ifCond .eq 21, 3) := by decide +kernel
theorem dX8_next_254 : decode cX8_next 254 = .ok (.aload_n 0, 1) := by decide +kernel
theorem dX8_next_255 : decode cX8_next 255 = .ok (.iload_n 1, 1) := by decide +kernel
theorem dX8_next_256 : decode cX8_next 256 = .ok (.bipush 45, 2) := by decide +kernel
theorem dX8_next_258 : decode cX8_next 258 = .ok (.if_icmp .ne 7, 3) := by decide +kernel
theorem dX8_next_261 : decode cX8_next 261 = .ok (.iconst 1, 1) := by decide +kernel
theorem dX8_next_262 : decode cX8_next 262 = .ok (.goto 4, 3) := by decide +kernel
theorem dX8_next_265 : decode cX8_next 265 = .ok (.iconst 0, 1) := by decide +kernel
theorem dX8_next_266 : decode cX8_next 266 = .ok (.invokevirtual 41, 3) := by decide +kernel
theorem dX8_next_269 : decode cX8_next 269 = .ok (.goto 18, 3) := by decide +kernel
theorem dX8_next_272 : decode cX8_next 272 = .ok (.aload_n 0, 1) := by decide +kernel
theorem dX8_next_273 : decode cX8_next 273 = .ok (.iload_n 1, 1) := by decide +kernel
theorem dX8_next_274 : decode cX8_next 274 = .ok (.bipush 59, 2) := by decide +kernel
theorem dX8_next_276 : decode cX8_next 276 = .ok (.if_icmp .ne 7, 3) := by decide +kernel
theorem dX8_next_279 : decode cX8_next 279 = .ok (.iconst 4, 1) := by decide +kernel
theorem dX8_next_280 : decode cX8_next 280 = .ok (.goto 4, 3) := by decide +kernel
theorem dX8_next_283 : decode cX8_next 283 = .ok (.iconst 1, 1) := by decide +kernel
theorem dX8_next_284 : decode cX8_next 284 = .ok (.putfield 27, 3) := by decide +kernel
theorem dX8_next_287 : decode cX8_next 287 = .ok (.return_, 1) := by decide +kernel
theorem dX8_init_0 : decode cX8_init 0 = .ok (.aload_n 0, 1) := by decide +kernel
theorem dX8_init_1 : decode cX8_init 1 = .ok (.invokespecial 52, 3) := by decide +kernel
theorem dX8_init_4 : decode cX8_init 4 = .ok (.aload_n 0, 1) := by decide +kernel
theorem dX8_init_5 : decode cX8_init 5 = .ok (.sipush 1020, 3) := by decide +kernel
theorem dX8_init_8 : decode cX8_init 8 = .ok (.newarray .byte, 2) := by decide +kernel
theorem dX8_init_10 : decode cX8_init 10 = .ok (.putfield 58, 3) := by decide +kernel
theorem dX8_init_13 : decode cX8_init 13 = .ok (.aload_n 0, 1) := by decide +kernel
theorem dX8_init_14 : decode cX8_init 14 = .ok (.sipush 1000, 3) := by decide +kernel
theorem dX8_init_17 : decode cX8_init 17 = .ok (.newarray .byte, 2) := by decide +kernel
theorem dX8_init_19 : decode cX8_init 19 = .ok (.putfield 7, 3) := by decide +kernel
theorem dX8_init_22 : decode cX8_init 22 = .ok (.aload_n 0, 1) := by decide +kernel
theorem dX8_init_23 : decode cX8_init 23 = .ok (.iconst (-1), 1) := by decide +kernel
theorem dX8_init_24 : decode cX8_init 24 = .ok (.putfield 14, 3) := by decide +kernel
theorem dX8_init_27 : decode cX8_init 27 = .ok (.aload_n 0, 1) := by decide +kernel
theorem dX8_init_28 : decode cX8_init 28 = .ok (.iconst 2, 1) := by decide +kernel
theorem dX8_init_29 : decode cX8_init 29 = .ok (.newarray .int, 2) := by decide +kernel
theorem dX8_init_31 : decode cX8_init 31 = .ok (.putfield 61, 3) := by decide +kernel
theorem dX8_init_34 : decode cX8_init 34 = .ok (.aload_n 0, 1) := by decide +kernel
theorem dX8_init_35 : decode cX8_init 35 = .ok (.iconst 2, 1) := by decide +kernel
theorem dX8_init_36 : decode cX8_init 36 = .ok (.newarray .int, 2) := by decide +kernel
theorem dX8_init_38 : decode cX8_init 38 = .ok (.putfield 65, 3) := by decide +kernel
theorem dX8_init_41 : decode cX8_init 41 = .ok (.aload_n 0, 1) := by decide +kernel
theorem dX8_init_42 : decode cX8_init 42 = .ok (.bipush 32, 2) := by decide +kernel
theorem dX8_init_44 : decode cX8_init 44 = .ok (.newarray .int, 2) := by decide +kernel
theorem dX8_init_46 : decode cX8_init 46 = .ok (.putfield 68, 3) := by decide +kernel
theorem dX8_init_49 : decode cX8_init 49 = .ok (.aload_n 0, 1) := by decide +kernel
theorem dX8_init_50 : decode cX8_init 50 = .ok (.bipush 32, 2) := by decide +kernel
theorem dX8_init_52 : decode cX8_init 52 = .ok (.newarray .int, 2) := by decide +kernel
theorem dX8_init_54 : decode cX8_init 54 = .ok (.putfield 71, 3) := by decide +kernel
theorem dX8_init_57 : decode cX8_init 57 = .ok (.aload_n 0, 1) := by decide +kernel
theorem dX8_init_58 : decode cX8_init 58 = .ok (.bipush 32, 2) := by decide +kernel
theorem dX8_init_60 : decode cX8_init 60 = .ok (.newarray .int, 2) := by decide +kernel
theorem dX8_init_62 : decode cX8_init 62 = .ok (.putfield 74, 3) := by decide +kernel
theorem dX8_init_65 : decode cX8_init 65 = .ok (.aload_n 0, 1) := by decide +kernel
theorem dX8_init_66 : decode cX8_init 66 = .ok (.bipush 32, 2) := by decide +kernel
theorem dX8_init_68 : decode cX8_init 68 = .ok (.newarray .int, 2) := by decide +kernel
theorem dX8_init_70 : decode cX8_init 70 = .ok (.putfield 77, 3) := by decide +kernel
theorem dX8_init_73 : decode cX8_init 73 = .ok (.aload_n 0, 1) := by decide +kernel
theorem dX8_init_74 : decode cX8_init 74 = .ok (.bipush 32, 2) := by decide +kernel
theorem dX8_init_76 : decode cX8_init 76 = .ok (.newarray .int, 2) := by decide +kernel
theorem dX8_init_78 : decode cX8_init 78 = .ok (.putfield 80, 3) := by decide +kernel
theorem dX8_init_81 : decode cX8_init 81 = .ok (.aload_n 0, 1) := by decide +kernel
theorem dX8_init_82 : decode cX8_init 82 = .ok (.bipush 32, 2) := by decide +kernel
theorem dX8_init_84 : decode cX8_init 84 = .ok (.newarray .int, 2) := by decide +kernel
theorem dX8_init_86 : decode cX8_init 86 = .ok (.putfield 83, 3) := by decide +kernel
theorem dX8_init_89 : decode cX8_init 89 = .ok (.aload_n 0, 1) := by decide +kernel
theorem dX8_init_90 : decode cX8_init 90 = .ok (.bipush 32, 2) := by decide +kernel
theorem dX8_init_92 : decode cX8_init 92 = .ok (.newarray .int, 2) := by decide +kernel
theorem dX8_init_94 : decode cX8_init 94 = .ok (.putfield 86, 3) := by decide +kernel
theorem dX8_init_97 : decode cX8_init 97 = .ok (.aload_n 0, 1) := by decide +kernel
theorem dX8_init_98 : decode cX8_init 98 = .ok (.bipush 12, 2) := by decide +kernel
theorem dX8_init_100 : decode cX8_init 100 = .ok (.newarray .int, 2) := by decide +kernel
theorem dX8_init_102 : decode cX8_init 102 = .ok (.putfield 89, 3) := by decide +kernel
theorem dX8_init_105 : decode cX8_init 105 = .ok (.aload_n 0, 1) := by decide +kernel
theorem dX8_init_106 : decode cX8_init 106 = .ok (.sipush 576, 3) := by decide +kernel
theorem dX8_init_109 : decode cX8_init 109 = .ok (.newarray .int, 2) := by decide +kernel
theorem dX8_init_111 : decode cX8_init 111 = .ok (.putfield 92, 3) := by decide +kernel
theorem dX8_init_114 : decode cX8_init 114 = .ok (.aload_n 0, 1) := by decide +kernel
theorem dX8_init_115 : decode cX8_init 115 = .ok (.bipush 60, 2) := by decide +kernel
theorem dX8_init_117 : decode cX8_init 117 = .ok (.newarray .int, 2) := by decide +kernel
theorem dX8_init_119 : decode cX8_init 119 = .ok (.putfield 95, 3) := by decide +kernel
theorem dX8_init_122 : decode cX8_init 122 = .ok (.aload_n 0, 1) := by decide +kernel
theorem dX8_init_123 : decode cX8_init 123 = .ok (.bipush 12, 2) := by decide +kernel
theorem dX8_init_125 : decode cX8_init 125 = .ok (.newarray .int, 2) := by decide +kernel
theorem dX8_init_127 : decode cX8_init 127 = .ok (.putfield 98, 3) := by decide +kernel
theorem dX8_init_130 : decode cX8_init 130 = .ok (.aload_n 0, 1) := by decide +kernel
theorem dX8_init_131 : decode cX8_init 131 = .ok (.bipush 8, 2) := by decide +kernel
theorem dX8_init_133 : decode cX8_init 133 = .ok (.newarray .int, 2) := by decide +kernel
theorem dX8_init_135 : decode cX8_init 135 = .ok (.putfield 101, 3) := by decide +kernel
theorem dX8_init_138 : decode cX8_init 138 = .ok (.aload_n 0, 1) := by decide +kernel
theorem dX8_init_139 : decode cX8_init 139 = .ok (.bipush 96, 2) := by decide +kernel
theorem dX8_init_141 : decode cX8_init 141 = .ok (.newarray .int, 2) := by decide +kernel
theorem dX8_init_143 : decode cX8_init 143 = .ok (.putfield 104, 3) := by decide +kernel
theorem dX8_init_146 : decode cX8_init 146 = .ok (.aload_n 0, 1) := by decide +kernel
theorem dX8_init_147 : decode cX8_init 147 = .ok (.bipush 16, 2) := by decide +kernel
theorem dX8_init_149 : decode cX8_init 149 = .ok (.newarray .int, 2) := by decide +kernel
theorem dX8_init_151 : decode cX8_init 151 = .ok (.putfield 107, 3) := by decide +kernel
theorem dX8_init_154 : decode cX8_init 154 = .ok (.aload_n 0, 1) := by decide +kernel
theorem dX8_init_155 : decode cX8_init 155 = .ok (.bipush 16, 2) := by decide +kernel
theorem dX8_init_157 : decode cX8_init 157 = .ok (.newarray .int, 2) := by decide +kernel
theorem dX8_init_159 : decode cX8_init 159 = .ok (.putfield 110, 3) := by decide +kernel
theorem dX8_init_162 : decode cX8_init 162 = .ok (.aload_n 0, 1) := by decide +kernel
theorem dX8_init_163 : decode cX8_init 163 = .ok (.bipush 17, 2) := by decide +kernel
theorem dX8_init_165 : decode cX8_init 165 = .ok (.newarray .int, 2) := by decide +kernel
theorem dX8_init_167 : decode cX8_init 167 = .ok (.putfield 113, 3) := by decide +kernel
theorem dX8_init_170 : decode cX8_init 170 = .ok (.aload_n 0, 1) := by decide +kernel
theorem dX8_init_171 : decode cX8_init 171 = .ok (.iconst 0, 1) := by decide +kernel
theorem dX8_init_172 : decode cX8_init 172 = .ok (.invokevirtual 116, 3) := by decide +kernel
theorem dX8_init_175 : decode cX8_init 175 = .ok (.aload_n 0, 1) := by decide +kernel
theorem dX8_init_176 : decode cX8_init 176 = .ok (.iconst 1, 1) := by decide +kernel
theorem dX8_init_177 : decode cX8_init 177 = .ok (.invokevirtual 116, 3) := by decide +kernel
theorem dX8_init_180 : decode cX8_init 180 = .ok (.return_, 1) := by decide +kernel
theorem dX8_clear_0 : decode cX8_clear 0 = .ok (.aload_n 0, 1) := by decide +kernel
theorem dX8_clear_1 : decode cX8_clear 1 = .ok (.getfield 61, 3) := by decide +kernel
theorem dX8_clear_4 : decode cX8_clear 4 = .ok (.iload_n 1, 1) := by decide +kernel
theorem dX8_clear_5 : decode cX8_clear 5 = .ok (.iconst 0, 1) := by decide +kernel
theorem dX8_clear_6 : decode cX8_clear 6 = .ok (.iastore, 1) := by decide +kernel
theorem dX8_clear_7 : decode cX8_clear 7 = .ok (.aload_n 0, 1) := by decide +kernel
theorem dX8_clear_8 : decode cX8_clear 8 = .ok (.getfield 65, 3) := by decide +kernel
theorem dX8_clear_11 : decode cX8_clear 11 = .ok (.iload_n 1, 1) := by decide +kernel
theorem dX8_clear_12 : decode cX8_clear 12 = .ok (.iconst 0, 1) := by decide +kernel
theorem dX8_clear_13 : decode cX8_clear 13 = .ok (.iastore, 1) := by decide +kernel
theorem dX8_clear_14 : decode cX8_clear 14 = .ok (.iconst 0, 1) := by decide +kernel
theorem dX8_clear_15 : decode cX8_clear 15 = .ok (.istore_n 2, 1) := by decide +kernel
theorem dX8_clear_16 : decode cX8_clear 16 = .ok (.iload_n 2, 1) := by decide +kernel
theorem dX8_clear_17 : decode cX8_clear 17 = .ok (.bipush 6, 2) := by decide +kernel
theorem dX8_clear_19 : decode cX8_clear 19 = .ok (.if_icmp .ge 35, 3) := by decide +kernel
theorem dX8_clear_22 : decode cX8_clear 22 = .ok (.aload_n 0, 1) := by decide +kernel
theorem dX8_clear_23 : decode cX8_clear 23 = .ok (.getfield 89, 3) := by decide +kernel
theorem dX8_clear_26 : decode cX8_clear 26 = .ok (.bipush 6, 2) := by decide +kernel
theorem dX8_clear_28 : decode cX8_clear 28 = .ok (.iload_n 1, 1) := by decide +kernel
theorem dX8_clear_29 : decode cX8_clear 29 = .ok (.imul, 1) := by decide +kernel
theorem dX8_clear_30 : decode cX8_clear 30 = .ok (.iload_n 2, 1) := by decide +kernel
theorem dX8_clear_31 : decode cX8_clear 31 = .ok (.iadd, 1) := by decide +kernel
theorem dX8_clear_32 : decode cX8_clear 32 = .ok (.ldc 120, 2) := by decide +kernel
theorem dX8_clear_34 : decode cX8_clear 34 = .ok (.iastore, 1) := by decide +kernel
theorem dX8_clear_35 : decode cX8_clear 35 = .ok (.aload_n 0, 1) := by decide +kernel
theorem dX8_clear_36 : decode cX8_clear 36 = .ok (.getfield 98, 3) := by decide +kernel
theorem dX8_clear_39 : decode cX8_clear 39 = .ok (.bipush 6, 2) := by decide +kernel
theorem dX8_clear_41 : decode cX8_clear 41 = .ok (.iload_n 1, 1) := by decide +kernel
theorem dX8_clear_42 : decode cX8_clear 42 = .ok (.imul, 1) := by decide +kernel
theorem dX8_clear_43 : decode cX8_clear 43 = .ok (.iload_n 2, 1) := by decide +kernel
theorem dX8_clear_44 : decode cX8_clear 44 = .ok (.iadd, 1) := by decide +kernel
theorem dX8_clear_45 : decode cX8_clear 45 = .ok (.ldc 120, 2) := by decide +kernel
theorem dX8_clear_47 : decode cX8_clear 47 = .ok (.iastore, 1) := by decide +kernel
theorem dX8_clear_48 : decode cX8_clear 48 = .ok (.iinc 2 1, 3) := by decide +kernel
theorem dX8_clear_51 : decode cX8_clear 51 = .ok (.goto (-35), 3) := by decide +kernel
theorem dX8_clear_54 : decode cX8_clear 54 = .ok (.iconst 0, 1) := by decide +kernel
theorem dX8_clear_55 : decode cX8_clear 55 = .ok (.istore_n 2, 1) := by decide +kernel
theorem dX8_clear_56 : decode cX8_clear 56 = .ok (.iload_n 2, 1) := by decide +kernel
theorem dX8_clear_57 : decode cX8_clear 57 = .ok (.sipush 288, 3) := by decide +kernel
theorem dX8_clear_60 : decode cX8_clear 60 = .ok (.if_icmp .ge 23, 3) := by decide +kernel
theorem dX8_clear_63 : decode cX8_clear 63 = .ok (.aload_n 0, 1) := by decide +kernel
theorem dX8_clear_64 : decode cX8_clear 64 = .ok (.getfield 92, 3) := by decide +kernel
theorem dX8_clear_67 : decode cX8_clear 67 = .ok (.sipush 288, 3) := by decide +kernel
theorem dX8_clear_70 : decode cX8_clear 70 = .ok (.iload_n 1, 1) := by decide +kernel
theorem dX8_clear_71 : decode cX8_clear 71 = .ok (.imul, 1) := by decide +kernel
theorem dX8_clear_72 : decode cX8_clear 72 = .ok (.iload_n 2, 1) := by decide +kernel
theorem dX8_clear_73 : decode cX8_clear 73 = .ok (.iadd, 1) := by decide +kernel
theorem dX8_clear_74 : decode cX8_clear 74 = .ok (.ldc 120, 2) := by decide +kernel
theorem dX8_clear_76 : decode cX8_clear 76 = .ok (.iastore, 1) := by decide +kernel
theorem dX8_clear_77 : decode cX8_clear 77 = .ok (.iinc 2 1, 3) := by decide +kernel
theorem dX8_clear_80 : decode cX8_clear 80 = .ok (.goto (-24), 3) := by decide +kernel
theorem dX8_clear_83 : decode cX8_clear 83 = .ok (.iconst 0, 1) := by decide +kernel
theorem dX8_clear_84 : decode cX8_clear 84 = .ok (.istore_n 2, 1) := by decide +kernel
theorem dX8_clear_85 : decode cX8_clear 85 = .ok (.iload_n 2, 1) := by decide +kernel
theorem dX8_clear_86 : decode cX8_clear 86 = .ok (.bipush 30, 2) := by decide +kernel
theorem dX8_clear_88 : decode cX8_clear 88 = .ok (.if_icmp .ge 22, 3) := by decide +kernel
theorem dX8_clear_91 : decode cX8_clear 91 = .ok (.aload_n 0, 1) := by decide +kernel
theorem dX8_clear_92 : decode cX8_clear 92 = .ok (.getfield 95, 3) := by decide +kernel
theorem dX8_clear_95 : decode cX8_clear 95 = .ok (.bipush 30, 2) := by decide +kernel
theorem dX8_clear_97 : decode cX8_clear 97 = .ok (.iload_n 1, 1) := by decide +kernel
theorem dX8_clear_98 : decode cX8_clear 98 = .ok (.imul, 1) := by decide +kernel
theorem dX8_clear_99 : decode cX8_clear 99 = .ok (.iload_n 2, 1) := by decide +kernel
theorem dX8_clear_100 : decode cX8_clear 100 = .ok (.iadd, 1) := by decide +kernel
theorem dX8_clear_101 : decode cX8_clear 101 = .ok (.ldc 120, 2) := by decide +kernel
theorem dX8_clear_103 : decode cX8_clear 103 = .ok (.iastore, 1) := by decide +kernel
theorem dX8_clear_104 : decode cX8_clear 104 = .ok (.iinc 2 1, 3) := by decide +kernel
theorem dX8_clear_107 : decode cX8_clear 107 = .ok (.goto (-22), 3) := by decide +kernel
theorem dX8_clear_110 : decode cX8_clear 110 = .ok (.iconst 0, 1) := by decide +kernel
theorem dX8_clear_111 : decode cX8_clear 111 = .ok (.istore_n 2, 1) := by decide +kernel
theorem dX8_clear_112 : decode cX8_clear 112 = .ok (.iload_n 2, 1) := by decide +kernel
theorem dX8_clear_113 : decode cX8_clear 113 = .ok (.iconst 4, 1) := by decide +kernel
theorem dX8_clear_114 : decode cX8_clear 114 = .ok (.if_icmp .ge 21, 3) := by decide +kernel
theorem dX8_clear_117 : decode cX8_clear 117 = .ok (.aload_n 0, 1) := by decide +kernel
theorem dX8_clear_118 : decode cX8_clear 118 = .ok (.getfield 101, 3) := by decide +kernel
theorem dX8_clear_121 : decode cX8_clear 121 = .ok (.iconst 4, 1) := by decide +kernel
theorem dX8_clear_122 : decode cX8_clear 122 = .ok (.iload_n 1, 1) := by decide +kernel
theorem dX8_clear_123 : decode cX8_clear 123 = .ok (.imul, 1) := by decide +kernel
theorem dX8_clear_124 : decode cX8_clear 124 = .ok (.iload_n 2, 1) := by decide +kernel
theorem dX8_clear_125 : decode cX8_clear 125 = .ok (.iadd, 1) := by decide +kernel
theorem dX8_clear_126 : decode cX8_clear 126 = .ok (.ldc 120, 2) := by decide +kernel
theorem dX8_clear_128 : decode cX8_clear 128 = .ok (.iastore, 1) := by decide +kernel
theorem dX8_clear_129 : decode cX8_clear 129 = .ok (.iinc 2 1, 3) := by decide +kernel
theorem dX8_clear_132 : decode cX8_clear 132 = .ok (.goto (-20), 3) := by decide +kernel
theorem dX8_clear_135 : decode cX8_clear 135 = .ok (.return_, 1) := by decide +kernel
theorem dX8_book_0 : decode cX8_book 0 = .ok (.aload_n 0, 1) := by decide +kernel
theorem dX8_book_1 : decode cX8_book 1 = .ok (.iconst 0, 1) := by decide +kernel
theorem dX8_book_2 : decode cX8_book 2 = .ok (.putfield 11, 3) := by decide +kernel
theorem dX8_book_5 : decode cX8_book 5 = .ok (.aload_n 0, 1) := by decide +kernel
theorem dX8_book_6 : decode cX8_book 6 = .ok (.iconst (-1), 1) := by decide +kernel
theorem dX8_book_7 : decode cX8_book 7 = .ok (.putfield 14, 3) := by decide +kernel
theorem dX8_book_10 : decode cX8_book 10 = .ok (.aload_n 0, 1) := by decide +kernel
theorem dX8_book_11 : decode cX8_book 11 = .ok (.aload_n 0, 1) := by decide +kernel
theorem dX8_book_12 : decode cX8_book 12 = .ok (.getfield 121, 3) := by decide +kernel
theorem dX8_book_15 : decode cX8_book 15 = .ok (.putfield 1, 3) := by decide +kernel
theorem dX8_book_18 : decode cX8_book 18 = .ok (.iconst 0, 1) := by decide +kernel
theorem dX8_book_19 : decode cX8_book 19 = .ok (.istore_n 1, 1) := by decide +kernel
theorem dX8_book_20 : decode cX8_book 20 = .ok (.iload_n 1, 1) := by decide +kernel
theorem dX8_book_21 : decode cX8_book 21 = .ok (.aload_n 0, 1) := by decide +kernel
theorem dX8_book_22 : decode cX8_book 22 = .ok (.getfield 1, 3) := by decide +kernel
theorem dX8_book_25 : decode cX8_book 25 = .ok (.if_icmp .ge 21, 3) := by decide +kernel
theorem dX8_book_28 : decode cX8_book 28 = .ok (.aload_n 0, 1) := by decide +kernel
theorem dX8_book_29 : decode cX8_book 29 = .ok (.getfield 7, 3) := by decide +kernel
theorem dX8_book_32 : decode cX8_book 32 = .ok (.iload_n 1, 1) := by decide +kernel
theorem dX8_book_33 : decode cX8_book 33 = .ok (.aload_n 0, 1) := by decide +kernel
theorem dX8_book_34 : decode cX8_book 34 = .ok (.getfield 58, 3) := by decide +kernel
theorem dX8_book_37 : decode cX8_book 37 = .ok (.iload_n 1, 1) := by decide +kernel
theorem dX8_book_38 : decode cX8_book 38 = .ok (.baload, 1) := by decide +kernel
theorem dX8_book_39 : decode cX8_book 39 = .ok (.bastore, 1) := by decide +kernel
theorem dX8_book_40 : decode cX8_book 40 = .ok (.iinc 1 1, 3) := by decide +kernel
theorem dX8_book_43 : decode cX8_book 43 = .ok (.goto (-23), 3) := by decide +kernel
theorem dX8_book_46 : decode cX8_book 46 = .ok (.aload_n 0, 1) := by decide +kernel
theorem dX8_book_47 : decode cX8_book 47 = .ok (.iconst 0, 1) := by decide +kernel
theorem dX8_book_48 : decode cX8_book 48 = .ok (.putfield 121, 3) := by decide +kernel
theorem dX8_book_51 : decode cX8_book 51 = .ok (.aload_n 0, 1) := by decide +kernel
theorem dX8_book_52 : decode cX8_book 52 = .ok (.iconst 0, 1) := by decide +kernel
theorem dX8_book_53 : decode cX8_book 53 = .ok (.putfield 17, 3) := by decide +kernel
theorem dX8_book_56 : decode cX8_book 56 = .ok (.aload_n 0, 1) := by decide +kernel
theorem dX8_book_57 : decode cX8_book 57 = .ok (.iconst 1, 1) := by decide +kernel
theorem dX8_book_58 : decode cX8_book 58 = .ok (.aload_n 0, 1) := by decide +kernel
theorem dX8_book_59 : decode cX8_book 59 = .ok (.getfield 124, 3) := by decide +kernel
theorem dX8_book_62 : decode cX8_book 62 = .ok (.isub, 1) := by decide +kernel
theorem dX8_book_63 : decode cX8_book 63 = .ok (.putfield 127, 3) := by decide +kernel
theorem dX8_book_66 : decode cX8_book 66 = .ok (.aload_n 0, 1) := by decide +kernel
theorem dX8_book_67 : decode cX8_book 67 = .ok (.aload_n 0, 1) := by decide +kernel
theorem dX8_book_68 : decode cX8_book 68 = .ok (.getfield 127, 3) := by decide +kernel
theorem dX8_book_71 : decode cX8_book 71 = .ok (.invokevirtual 116, 3) := by decide +kernel
theorem dX8_book_74 : decode cX8_book 74 = .ok (.aload_n 0, 1) := by decide +kernel
theorem dX8_book_75 : decode cX8_book 75 = .ok (.invokevirtual 130, 3) := by decide +kernel
theorem dX8_book_78 : decode cX8_book 78 = .ok (.aload_n 0, 1) := by decide +kernel
theorem dX8_book_79 : decode cX8_book 79 = .ok (.invokevirtual 133, 3) := by decide +kernel
theorem dX8_book_82 : decode cX8_book 82 = .ok (.ifCond .eq 17, 3) := by decide +kernel
theorem dX8_book_85 : decode cX8_book 85 = .ok (.aload_n 0, 1) := by decide +kernel
theorem dX8_book_86 : decode cX8_book 86 = .ok (.getfield 27, 3) := by decide +kernel
theorem dX8_book_89 : decode cX8_book 89 = .ok (.ifCond .eq 10, 3) := by decide +kernel
theorem dX8_book_92 : decode cX8_book 92 = .ok (.aload_n 0, 1) := by decide +kernel
theorem dX8_book_93 : decode cX8_book 93 = .ok (.invokevirtual 137, 3) := by decide +kernel
theorem dX8_book_96 : decode cX8_book 96 = .ok (.goto (-18), 3) := by decide +kernel
theorem dX8_book_99 : decode cX8_book 99 = .ok (.aload_n 0, 1) := by decide +kernel
theorem dX8_book_100 : decode cX8_book 100 = .ok (.invokevirtual 133, 3) := by decide +kernel
theorem dX8_book_103 : decode cX8_book 103 = .ok (.ifCond .ne 5, 3) := by decide +kernel
theorem dX8_book_106 : decode cX8_book 106 = .ok (.iconst (-1), 1) := by decide +kernel
theorem dX8_book_107 : decode cX8_book 107 = .ok (.ireturn, 1) := by decide +kernel
theorem dX8_book_108 : decode cX8_book 108 = .ok (.aload_n 0, 1) := by decide +kernel
theorem dX8_book_109 : decode cX8_book 109 = .ok (.aload_n 0, 1) := by decide +kernel
theorem dX8_book_110 : decode cX8_book 110 = .ok (.getfield 127, 3) := by decide +kernel
theorem dX8_book_113 : decode cX8_book 113 = .ok (.putfield 124, 3) := by decide +kernel
theorem dX8_book_116 : decode cX8_book 116 = .ok (.aload_n 0, 1) := by decide +kernel
theorem dX8_book_117 : decode cX8_book 117 = .ok (.iconst 0, 1) := by decide +kernel
theorem dX8_book_118 : decode cX8_book 118 = .ok (.putfield 140, 3) := by decide +kernel
theorem dX8_book_121 : decode cX8_book 121 = .ok (.aload_n 0, 1) := by decide +kernel
theorem dX8_book_122 : decode cX8_book 122 = .ok (.getfield 65, 3) := by decide +kernel
theorem dX8_book_125 : decode cX8_book 125 = .ok (.aload_n 0, 1) := by decide +kernel
theorem dX8_book_126 : decode cX8_book 126 = .ok (.getfield 124, 3) := by decide +kernel
theorem dX8_book_129 : decode cX8_book 129 = .ok (.iaload, 1) := by decide +kernel
theorem dX8_book_130 : decode cX8_book 130 = .ok (.ireturn, 1) := by decide +kernel
theorem dX8_fault_0 : decode cX8_fault 0 = .ok (.iload_n 1, 1) := by decide +kernel
theorem dX8_fault_1 : decode cX8_fault 1 = .ok (.ifCond .ne 10, 3) := by decide +kernel
theorem dX8_fault_4 : decode cX8_fault 4 = .ok (.aload_n 0, 1) := by decide +kernel
theorem dX8_fault_5 : decode cX8_fault 5 = .ok (.getfield 11, 3) := by decide +kernel
theorem dX8_fault_8 : decode cX8_fault 8 = .ok (.goto 16, 3) := by decide +kernel
theorem dX8_fault_11 : decode cX8_fault 11 = .ok (.iload_n 1, 1) := by decide +kernel
theorem dX8_fault_12 : decode cX8_fault 12 = .ok (.iconst 1, 1) := by decide +kernel
theorem dX8_fault_13 : decode cX8_fault 13 = .ok (.if_icmp .ne 10, 3) := by decide +kernel
theorem dX8_fault_16 : decode cX8_fault 16 = .ok (.aload_n 0, 1) := by decide +kernel
end
section
theorem dX8_fault_17 : decode cX8_fault 17 = .ok (.getfield 14, 3) := by decide +kernel
theorem dX8_fault_20 : decode cX8_fault 20 = .ok (.goto 4, 3) := by decide +kernel
theorem dX8_fault_23 : decode cX8_fault 23 = .ok (.iconst (-1), 1) := by decide +kernel
theorem dX8_fault_24 : decode cX8_fault 24 = .ok (.ireturn, 1) := by decide +kernel
theorem dX8_speed_0 : decode cX8_speed 0 = .ok (.aload_n 0, 1) := by decide +kernel
theorem dX8_speed_1 : decode cX8_speed 1 = .ok (.getfield 89, 3) := by decide +kernel
theorem dX8_speed_4 : decode cX8_speed 4 = .ok (.bipush 6, 2) := by decide +kernel
theorem dX8_speed_6 : decode cX8_speed 6 = .ok (.aload_n 0, 1) := by decide +kernel
theorem dX8_speed_7 : decode cX8_speed 7 = .ok (.getfield 124, 3) := by decide +kernel
theorem dX8_speed_10 : decode cX8_speed 10 = .ok (.imul, 1) := by decide +kernel
theorem dX8_speed_11 : decode cX8_speed 11 = .ok (.iload_n 1, 1) := by decide +kernel
theorem dX8_speed_12 : decode cX8_speed 12 = .ok (.iadd, 1) := by decide +kernel
theorem dX8_speed_13 : decode cX8_speed 13 = .ok (.iaload, 1) := by decide +kernel
theorem dX8_speed_14 : decode cX8_speed 14 = .ok (.ldc 120, 2) := by decide +kernel
theorem dX8_speed_16 : decode cX8_speed 16 = .ok (.if_icmp .ne 9, 3) := by decide +kernel
theorem dX8_speed_19 : decode cX8_speed 19 = .ok (.sipush 400, 3) := by decide +kernel
theorem dX8_speed_22 : decode cX8_speed 22 = .ok (.goto 17, 3) := by decide +kernel
theorem dX8_speed_25 : decode cX8_speed 25 = .ok (.aload_n 0, 1) := by decide +kernel
theorem dX8_speed_26 : decode cX8_speed 26 = .ok (.getfield 89, 3) := by decide +kernel
theorem dX8_speed_29 : decode cX8_speed 29 = .ok (.bipush 6, 2) := by decide +kernel
theorem dX8_speed_31 : decode cX8_speed 31 = .ok (.aload_n 0, 1) := by decide +kernel
theorem dX8_speed_32 : decode cX8_speed 32 = .ok (.getfield 124, 3) := by decide +kernel
theorem dX8_speed_35 : decode cX8_speed 35 = .ok (.imul, 1) := by decide +kernel
theorem dX8_speed_36 : decode cX8_speed 36 = .ok (.iload_n 1, 1) := by decide +kernel
theorem dX8_speed_37 : decode cX8_speed 37 = .ok (.iadd, 1) := by decide +kernel
theorem dX8_speed_38 : decode cX8_speed 38 = .ok (.iaload, 1) := by decide +kernel
theorem dX8_speed_39 : decode cX8_speed 39 = .ok (.ireturn, 1) := by decide +kernel
theorem dX8_burn_0 : decode cX8_burn 0 = .ok (.bipush 30, 2) := by decide +kernel
theorem dX8_burn_2 : decode cX8_burn 2 = .ok (.aload_n 0, 1) := by decide +kernel
theorem dX8_burn_3 : decode cX8_burn 3 = .ok (.getfield 124, 3) := by decide +kernel
theorem dX8_burn_6 : decode cX8_burn 6 = .ok (.imul, 1) := by decide +kernel
theorem dX8_burn_7 : decode cX8_burn 7 = .ok (.iconst 5, 1) := by decide +kernel
theorem dX8_burn_8 : decode cX8_burn 8 = .ok (.iload_n 1, 1) := by decide +kernel
theorem dX8_burn_9 : decode cX8_burn 9 = .ok (.imul, 1) := by decide +kernel
theorem dX8_burn_10 : decode cX8_burn 10 = .ok (.iadd, 1) := by decide +kernel
theorem dX8_burn_11 : decode cX8_burn 11 = .ok (.istore_n 3, 1) := by decide +kernel
theorem dX8_burn_12 : decode cX8_burn 12 = .ok (.iload_n 2, 1) := by decide +kernel
theorem dX8_burn_13 : decode cX8_burn 13 = .ok (.istore 4, 2) := by decide +kernel
theorem dX8_burn_15 : decode cX8_burn 15 = .ok (.iload 4, 2) := by decide +kernel
theorem dX8_burn_17 : decode cX8_burn 17 = .ok (.ifCond .lt 23, 3) := by decide +kernel
theorem dX8_burn_20 : decode cX8_burn 20 = .ok (.aload_n 0, 1) := by decide +kernel
theorem dX8_burn_21 : decode cX8_burn 21 = .ok (.getfield 95, 3) := by decide +kernel
theorem dX8_burn_24 : decode cX8_burn 24 = .ok (.iload_n 3, 1) := by decide +kernel
theorem dX8_burn_25 : decode cX8_burn 25 = .ok (.iload 4, 2) := by decide +kernel
theorem dX8_burn_27 : decode cX8_burn 27 = .ok (.iadd, 1) := by decide +kernel
theorem dX8_burn_28 : decode cX8_burn 28 = .ok (.iaload, 1) := by decide +kernel
theorem dX8_burn_29 : decode cX8_burn 29 = .ok (.ldc 120, 2) := by decide +kernel
theorem dX8_burn_31 : decode cX8_burn 31 = .ok (.if_icmp .ne 9, 3) := by decide +kernel
theorem dX8_burn_34 : decode cX8_burn 34 = .ok (.iinc 4 (-1), 3) := by decide +kernel
theorem dX8_burn_37 : decode cX8_burn 37 = .ok (.goto (-22), 3) := by decide +kernel
theorem dX8_burn_40 : decode cX8_burn 40 = .ok (.iload 4, 2) := by decide +kernel
theorem dX8_burn_42 : decode cX8_burn 42 = .ok (.ifCond .lt 13, 3) := by decide +kernel
theorem dX8_burn_45 : decode cX8_burn 45 = .ok (.aload_n 0, 1) := by decide +kernel
theorem dX8_burn_46 : decode cX8_burn 46 = .ok (.getfield 95, 3) := by decide +kernel
theorem dX8_burn_49 : decode cX8_burn 49 = .ok (.iload_n 3, 1) := by decide +kernel
theorem dX8_burn_50 : decode cX8_burn 50 = .ok (.iload 4, 2) := by decide +kernel
theorem dX8_burn_52 : decode cX8_burn 52 = .ok (.iadd, 1) := by decide +kernel
theorem dX8_burn_53 : decode cX8_burn 53 = .ok (.iaload, 1) := by decide +kernel
theorem dX8_burn_54 : decode cX8_burn 54 = .ok (.ireturn, 1) := by decide +kernel
theorem dX8_burn_55 : decode cX8_burn 55 = .ok (.iload_n 2, 1) := by decide +kernel
theorem dX8_burn_56 : decode cX8_burn 56 = .ok (.istore 4, 2) := by decide +kernel
theorem dX8_burn_58 : decode cX8_burn 58 = .ok (.iload 4, 2) := by decide +kernel
theorem dX8_burn_60 : decode cX8_burn 60 = .ok (.iconst 5, 1) := by decide +kernel
theorem dX8_burn_61 : decode cX8_burn 61 = .ok (.if_icmp .ge 23, 3) := by decide +kernel
theorem dX8_burn_64 : decode cX8_burn 64 = .ok (.aload_n 0, 1) := by decide +kernel
theorem dX8_burn_65 : decode cX8_burn 65 = .ok (.getfield 95, 3) := by decide +kernel
theorem dX8_burn_68 : decode cX8_burn 68 = .ok (.iload_n 3, 1) := by decide +kernel
theorem dX8_burn_69 : decode cX8_burn 69 = .ok (.iload 4, 2) := by decide +kernel
theorem dX8_burn_71 : decode cX8_burn 71 = .ok (.iadd, 1) := by decide +kernel
theorem dX8_burn_72 : decode cX8_burn 72 = .ok (.iaload, 1) := by decide +kernel
theorem dX8_burn_73 : decode cX8_burn 73 = .ok (.ldc 120, 2) := by decide +kernel
theorem dX8_burn_75 : decode cX8_burn 75 = .ok (.if_icmp .ne 9, 3) := by decide +kernel
theorem dX8_burn_78 : decode cX8_burn 78 = .ok (.iinc 4 1, 3) := by decide +kernel
theorem dX8_burn_81 : decode cX8_burn 81 = .ok (.goto (-23), 3) := by decide +kernel
theorem dX8_burn_84 : decode cX8_burn 84 = .ok (.iload 4, 2) := by decide +kernel
theorem dX8_burn_86 : decode cX8_burn 86 = .ok (.iconst 5, 1) := by decide +kernel
theorem dX8_burn_87 : decode cX8_burn 87 = .ok (.if_icmp .ge 15, 3) := by decide +kernel
theorem dX8_burn_90 : decode cX8_burn 90 = .ok (.aload_n 0, 1) := by decide +kernel
theorem dX8_burn_91 : decode cX8_burn 91 = .ok (.getfield 95, 3) := by decide +kernel
theorem dX8_burn_94 : decode cX8_burn 94 = .ok (.iload_n 3, 1) := by decide +kernel
theorem dX8_burn_95 : decode cX8_burn 95 = .ok (.iload 4, 2) := by decide +kernel
theorem dX8_burn_97 : decode cX8_burn 97 = .ok (.iadd, 1) := by decide +kernel
theorem dX8_burn_98 : decode cX8_burn 98 = .ok (.iaload, 1) := by decide +kernel
theorem dX8_burn_99 : decode cX8_burn 99 = .ok (.goto 6, 3) := by decide +kernel
theorem dX8_burn_102 : decode cX8_burn 102 = .ok (.sipush 1000, 3) := by decide +kernel
theorem dX8_burn_105 : decode cX8_burn 105 = .ok (.ireturn, 1) := by decide +kernel
theorem dX8_climb_0 : decode cX8_climb 0 = .ok (.aload_n 0, 1) := by decide +kernel
theorem dX8_climb_1 : decode cX8_climb 1 = .ok (.getfield 98, 3) := by decide +kernel
theorem dX8_climb_4 : decode cX8_climb 4 = .ok (.bipush 6, 2) := by decide +kernel
theorem dX8_climb_6 : decode cX8_climb 6 = .ok (.aload_n 0, 1) := by decide +kernel
theorem dX8_climb_7 : decode cX8_climb 7 = .ok (.getfield 124, 3) := by decide +kernel
theorem dX8_climb_10 : decode cX8_climb 10 = .ok (.imul, 1) := by decide +kernel
theorem dX8_climb_11 : decode cX8_climb 11 = .ok (.iload_n 1, 1) := by decide +kernel
theorem dX8_climb_12 : decode cX8_climb 12 = .ok (.iadd, 1) := by decide +kernel
theorem dX8_climb_13 : decode cX8_climb 13 = .ok (.iaload, 1) := by decide +kernel
theorem dX8_climb_14 : decode cX8_climb 14 = .ok (.ldc 120, 2) := by decide +kernel
theorem dX8_climb_16 : decode cX8_climb 16 = .ok (.if_icmp .ne 7, 3) := by decide +kernel
theorem dX8_climb_19 : decode cX8_climb 19 = .ok (.iconst 0, 1) := by decide +kernel
theorem dX8_climb_20 : decode cX8_climb 20 = .ok (.goto 17, 3) := by decide +kernel
theorem dX8_climb_23 : decode cX8_climb 23 = .ok (.aload_n 0, 1) := by decide +kernel
theorem dX8_climb_24 : decode cX8_climb 24 = .ok (.getfield 98, 3) := by decide +kernel
theorem dX8_climb_27 : decode cX8_climb 27 = .ok (.bipush 6, 2) := by decide +kernel
theorem dX8_climb_29 : decode cX8_climb 29 = .ok (.aload_n 0, 1) := by decide +kernel
theorem dX8_climb_30 : decode cX8_climb 30 = .ok (.getfield 124, 3) := by decide +kernel
theorem dX8_climb_33 : decode cX8_climb 33 = .ok (.imul, 1) := by decide +kernel
theorem dX8_climb_34 : decode cX8_climb 34 = .ok (.iload_n 1, 1) := by decide +kernel
theorem dX8_climb_35 : decode cX8_climb 35 = .ok (.iadd, 1) := by decide +kernel
theorem dX8_climb_36 : decode cX8_climb 36 = .ok (.iaload, 1) := by decide +kernel
theorem dX8_climb_37 : decode cX8_climb 37 = .ok (.ireturn, 1) := by decide +kernel
theorem dX8_limit_0 : decode cX8_limit 0 = .ok (.aload_n 0, 1) := by decide +kernel
theorem dX8_limit_1 : decode cX8_limit 1 = .ok (.getfield 101, 3) := by decide +kernel
theorem dX8_limit_4 : decode cX8_limit 4 = .ok (.iconst 4, 1) := by decide +kernel
theorem dX8_limit_5 : decode cX8_limit 5 = .ok (.aload_n 0, 1) := by decide +kernel
theorem dX8_limit_6 : decode cX8_limit 6 = .ok (.getfield 124, 3) := by decide +kernel
theorem dX8_limit_9 : decode cX8_limit 9 = .ok (.imul, 1) := by decide +kernel
theorem dX8_limit_10 : decode cX8_limit 10 = .ok (.iload_n 1, 1) := by decide +kernel
theorem dX8_limit_11 : decode cX8_limit 11 = .ok (.iadd, 1) := by decide +kernel
theorem dX8_limit_12 : decode cX8_limit 12 = .ok (.iaload, 1) := by decide +kernel
theorem dX8_limit_13 : decode cX8_limit 13 = .ok (.istore_n 2, 1) := by decide +kernel
theorem dX8_limit_14 : decode cX8_limit 14 = .ok (.iload_n 2, 1) := by decide +kernel
theorem dX8_limit_15 : decode cX8_limit 15 = .ok (.ldc 120, 2) := by decide +kernel
theorem dX8_limit_17 : decode cX8_limit 17 = .ok (.if_icmp .eq 7, 3) := by decide +kernel
theorem dX8_limit_20 : decode cX8_limit 20 = .ok (.iload_n 2, 1) := by decide +kernel
theorem dX8_limit_21 : decode cX8_limit 21 = .ok (.goto 24, 3) := by decide +kernel
theorem dX8_limit_24 : decode cX8_limit 24 = .ok (.iload_n 1, 1) := by decide +kernel
theorem dX8_limit_25 : decode cX8_limit 25 = .ok (.ifCond .ne 9, 3) := by decide +kernel
theorem dX8_limit_28 : decode cX8_limit 28 = .ok (.sipush 30000, 3) := by decide +kernel
theorem dX8_limit_31 : decode cX8_limit 31 = .ok (.goto 14, 3) := by decide +kernel
theorem dX8_limit_34 : decode cX8_limit 34 = .ok (.iload_n 1, 1) := by decide +kernel
theorem dX8_limit_35 : decode cX8_limit 35 = .ok (.iconst 3, 1) := by decide +kernel
theorem dX8_limit_36 : decode cX8_limit 36 = .ok (.if_icmp .ne 7, 3) := by decide +kernel
theorem dX8_limit_39 : decode cX8_limit 39 = .ok (.iconst 0, 1) := by decide +kernel
theorem dX8_limit_40 : decode cX8_limit 40 = .ok (.goto 5, 3) := by decide +kernel
theorem dX8_limit_43 : decode cX8_limit 43 = .ok (.ldc 176, 2) := by decide +kernel
theorem dX8_limit_45 : decode cX8_limit 45 = .ok (.ireturn, 1) := by decide +kernel
theorem dX8_isLevel_0 : decode cX8_isLevel 0 = .ok (.iload_n 0, 1) := by decide +kernel
theorem dX8_isLevel_1 : decode cX8_isLevel 1 = .ok (.ifCond .lt 13, 3) := by decide +kernel
theorem dX8_isLevel_4 : decode cX8_isLevel 4 = .ok (.iload_n 0, 1) := by decide +kernel
theorem dX8_isLevel_5 : decode cX8_isLevel 5 = .ok (.bipush 6, 2) := by decide +kernel
theorem dX8_isLevel_7 : decode cX8_isLevel 7 = .ok (.if_icmp .ge 7, 3) := by decide +kernel
theorem dX8_isLevel_10 : decode cX8_isLevel 10 = .ok (.iconst 1, 1) := by decide +kernel
theorem dX8_isLevel_11 : decode cX8_isLevel 11 = .ok (.goto 4, 3) := by decide +kernel
theorem dX8_isLevel_14 : decode cX8_isLevel 14 = .ok (.iconst 0, 1) := by decide +kernel
theorem dX8_isLevel_15 : decode cX8_isLevel 15 = .ok (.ireturn, 1) := by decide +kernel
theorem dX8_isWorld_0 : decode cX8_isWorld 0 = .ok (.iload_n 0, 1) := by decide +kernel
theorem dX8_isWorld_1 : decode cX8_isWorld 1 = .ok (.ifCond .lt 12, 3) := by decide +kernel
theorem dX8_isWorld_4 : decode cX8_isWorld 4 = .ok (.iload_n 0, 1) := by decide +kernel
theorem dX8_isWorld_5 : decode cX8_isWorld 5 = .ok (.iconst 3, 1) := by decide +kernel
theorem dX8_isWorld_6 : decode cX8_isWorld 6 = .ok (.if_icmp .ge 7, 3) := by decide +kernel
theorem dX8_isWorld_9 : decode cX8_isWorld 9 = .ok (.iconst 1, 1) := by decide +kernel
theorem dX8_isWorld_10 : decode cX8_isWorld 10 = .ok (.goto 4, 3) := by decide +kernel
theorem dX8_isWorld_13 : decode cX8_isWorld 13 = .ok (.iconst 0, 1) := by decide +kernel
theorem dX8_isWorld_14 : decode cX8_isWorld 14 = .ok (.ireturn, 1) := by decide +kernel
theorem dX8_isLeg_0 : decode cX8_isLeg 0 = .ok (.iload_n 1, 1) := by decide +kernel
theorem dX8_isLeg_1 : decode cX8_isLeg 1 = .ok (.ifCond .lt 20, 3) := by decide +kernel
theorem dX8_isLeg_4 : decode cX8_isLeg 4 = .ok (.iload_n 1, 1) := by decide +kernel
theorem dX8_isLeg_5 : decode cX8_isLeg 5 = .ok (.aload_n 0, 1) := by decide +kernel
theorem dX8_isLeg_6 : decode cX8_isLeg 6 = .ok (.getfield 65, 3) := by decide +kernel
theorem dX8_isLeg_9 : decode cX8_isLeg 9 = .ok (.aload_n 0, 1) := by decide +kernel
theorem dX8_isLeg_10 : decode cX8_isLeg 10 = .ok (.getfield 124, 3) := by decide +kernel
theorem dX8_isLeg_13 : decode cX8_isLeg 13 = .ok (.iaload, 1) := by decide +kernel
theorem dX8_isLeg_14 : decode cX8_isLeg 14 = .ok (.if_icmp .ge 7, 3) := by decide +kernel
theorem dX8_isLeg_17 : decode cX8_isLeg 17 = .ok (.iconst 1, 1) := by decide +kernel
theorem dX8_isLeg_18 : decode cX8_isLeg 18 = .ok (.goto 4, 3) := by decide +kernel
theorem dX8_isLeg_21 : decode cX8_isLeg 21 = .ok (.iconst 0, 1) := by decide +kernel
theorem dX8_isLeg_22 : decode cX8_isLeg 22 = .ok (.ireturn, 1) := by decide +kernel
theorem dX8_told_0 : decode cX8_told 0 = .ok (.iload_n 1, 1) := by decide +kernel
theorem dX8_told_1 : decode cX8_told 1 = .ok (.tableswitch 160 0 7 #[47, 66, 104, 133, 152, 152, 152, 152], 47) := by decide +kernel
theorem dX8_told_48 : decode cX8_told 48 = .ok (.iload_n 2, 1) := by decide +kernel
theorem dX8_told_49 : decode cX8_told 49 = .ok (.invokestatic 205, 3) := by decide +kernel
theorem dX8_told_52 : decode cX8_told 52 = .ok (.ifCond .eq 11, 3) := by decide +kernel
theorem dX8_told_55 : decode cX8_told 55 = .ok (.aload_n 0, 1) := by decide +kernel
theorem dX8_told_56 : decode cX8_told 56 = .ok (.iload_n 2, 1) := by decide +kernel
theorem dX8_told_57 : decode cX8_told 57 = .ok (.invokevirtual 208, 3) := by decide +kernel
theorem dX8_told_60 : decode cX8_told 60 = .ok (.goto 6, 3) := by decide +kernel
theorem dX8_told_63 : decode cX8_told 63 = .ok (.sipush (-1000), 3) := by decide +kernel
theorem dX8_told_66 : decode cX8_told 66 = .ok (.ireturn, 1) := by decide +kernel
theorem dX8_told_67 : decode cX8_told 67 = .ok (.iload_n 2, 1) := by decide +kernel
theorem dX8_told_68 : decode cX8_told 68 = .ok (.invokestatic 211, 3) := by decide +kernel
theorem dX8_told_71 : decode cX8_told 71 = .ok (.ifCond .eq 30, 3) := by decide +kernel
theorem dX8_told_74 : decode cX8_told 74 = .ok (.iload_n 3, 1) := by decide +kernel
theorem dX8_told_75 : decode cX8_told 75 = .ok (.invokestatic 205, 3) := by decide +kernel
theorem dX8_told_78 : decode cX8_told 78 = .ok (.ifCond .eq 23, 3) := by decide +kernel
theorem dX8_told_81 : decode cX8_told 81 = .ok (.aload_n 0, 1) := by decide +kernel
theorem dX8_told_82 : decode cX8_told 82 = .ok (.iload 4, 2) := by decide +kernel
theorem dX8_told_84 : decode cX8_told 84 = .ok (.invokevirtual 214, 3) := by decide +kernel
theorem dX8_told_87 : decode cX8_told 87 = .ok (.ifCond .eq 14, 3) := by decide +kernel
theorem dX8_told_90 : decode cX8_told 90 = .ok (.aload_n 0, 1) := by decide +kernel
theorem dX8_told_91 : decode cX8_told 91 = .ok (.iload_n 2, 1) := by decide +kernel
theorem dX8_told_92 : decode cX8_told 92 = .ok (.iload_n 3, 1) := by decide +kernel
theorem dX8_told_93 : decode cX8_told 93 = .ok (.iload 4, 2) := by decide +kernel
theorem dX8_told_95 : decode cX8_told 95 = .ok (.invokevirtual 217, 3) := by decide +kernel
theorem dX8_told_98 : decode cX8_told 98 = .ok (.goto 6, 3) := by decide +kernel
theorem dX8_told_101 : decode cX8_told 101 = .ok (.sipush (-1000), 3) := by decide +kernel
theorem dX8_told_104 : decode cX8_told 104 = .ok (.ireturn, 1) := by decide +kernel
theorem dX8_told_105 : decode cX8_told 105 = .ok (.iload_n 2, 1) := by decide +kernel
theorem dX8_told_106 : decode cX8_told 106 = .ok (.invokestatic 205, 3) := by decide +kernel
theorem dX8_told_109 : decode cX8_told 109 = .ok (.ifCond .eq 21, 3) := by decide +kernel
theorem dX8_told_112 : decode cX8_told 112 = .ok (.iload_n 3, 1) := by decide +kernel
theorem dX8_told_113 : decode cX8_told 113 = .ok (.ifCond .lt 17, 3) := by decide +kernel
theorem dX8_told_116 : decode cX8_told 116 = .ok (.iload_n 3, 1) := by decide +kernel
theorem dX8_told_117 : decode cX8_told 117 = .ok (.iconst 5, 1) := by decide +kernel
theorem dX8_told_118 : decode cX8_told 118 = .ok (.if_icmp .ge 12, 3) := by decide +kernel
theorem dX8_told_121 : decode cX8_told 121 = .ok (.aload_n 0, 1) := by decide +kernel
theorem dX8_told_122 : decode cX8_told 122 = .ok (.iload_n 2, 1) := by decide +kernel
theorem dX8_told_123 : decode cX8_told 123 = .ok (.iload_n 3, 1) := by decide +kernel
theorem dX8_told_124 : decode cX8_told 124 = .ok (.invokevirtual 221, 3) := by decide +kernel
theorem dX8_told_127 : decode cX8_told 127 = .ok (.goto 6, 3) := by decide +kernel
theorem dX8_told_130 : decode cX8_told 130 = .ok (.sipush (-1000), 3) := by decide +kernel
theorem dX8_told_133 : decode cX8_told 133 = .ok (.ireturn, 1) := by decide +kernel
theorem dX8_told_134 : decode cX8_told 134 = .ok (.iload_n 2, 1) := by decide +kernel
theorem dX8_told_135 : decode cX8_told 135 = .ok (.invokestatic 205, 3) := by decide +kernel
theorem dX8_told_138 : decode cX8_told 138 = .ok (.ifCond .eq 11, 3) := by decide +kernel
theorem dX8_told_141 : decode cX8_told 141 = .ok (.aload_n 0, 1) := by decide +kernel
theorem dX8_told_142 : decode cX8_told 142 = .ok (.iload_n 2, 1) := by decide +kernel
theorem dX8_told_143 : decode cX8_told 143 = .ok (.invokevirtual 224, 3) := by decide +kernel
theorem dX8_told_146 : decode cX8_told 146 = .ok (.goto 6, 3) := by decide +kernel
theorem dX8_told_149 : decode cX8_told 149 = .ok (.sipush (-1000), 3) := by decide +kernel
theorem dX8_told_152 : decode cX8_told 152 = .ok (.ireturn, 1) := by decide +kernel
theorem dX8_told_153 : decode cX8_told 153 = .ok (.aload_n 0, 1) := by decide +kernel
theorem dX8_told_154 : decode cX8_told 154 = .ok (.iload_n 1, 1) := by decide +kernel
theorem dX8_told_155 : decode cX8_told 155 = .ok (.iconst 4, 1) := by decide +kernel
theorem dX8_told_156 : decode cX8_told 156 = .ok (.isub, 1) := by decide +kernel
theorem dX8_told_157 : decode cX8_told 157 = .ok (.invokevirtual 227, 3) := by decide +kernel
theorem dX8_told_160 : decode cX8_told 160 = .ok (.ireturn, 1) := by decide +kernel
theorem dX8_told_161 : decode cX8_told 161 = .ok (.sipush (-1000), 3) := by decide +kernel
theorem dX8_told_164 : decode cX8_told 164 = .ok (.ireturn, 1) := by decide +kernel
theorem dX8_isPoint_0 : decode cX8_isPoint 0 = .ok (.iload_n 0, 1) := by decide +kernel
theorem dX8_isPoint_1 : decode cX8_isPoint 1 = .ok (.ifCond .lt 13, 3) := by decide +kernel
theorem dX8_isPoint_4 : decode cX8_isPoint 4 = .ok (.iload_n 0, 1) := by decide +kernel
theorem dX8_isPoint_5 : decode cX8_isPoint 5 = .ok (.bipush 10, 2) := by decide +kernel
theorem dX8_isPoint_7 : decode cX8_isPoint 7 = .ok (.if_icmp .ge 7, 3) := by decide +kernel
theorem dX8_isPoint_10 : decode cX8_isPoint 10 = .ok (.iconst 1, 1) := by decide +kernel
theorem dX8_isPoint_11 : decode cX8_isPoint 11 = .ok (.goto 4, 3) := by decide +kernel
theorem dX8_isPoint_14 : decode cX8_isPoint 14 = .ok (.iconst 0, 1) := by decide +kernel
theorem dX8_isPoint_15 : decode cX8_isPoint 15 = .ok (.ireturn, 1) := by decide +kernel
theorem dX8_flight_0 : decode cX8_flight 0 = .ok (.iload_n 1, 1) := by decide +kernel
theorem dX8_flight_1 : decode cX8_flight 1 = .ok (.invokestatic 230, 3) := by decide +kernel
theorem dX8_flight_4 : decode cX8_flight 4 = .ok (.ifCond .eq 52, 3) := by decide +kernel
theorem dX8_flight_7 : decode cX8_flight 7 = .ok (.iload_n 2, 1) := by decide +kernel
theorem dX8_flight_8 : decode cX8_flight 8 = .ok (.invokestatic 230, 3) := by decide +kernel
theorem dX8_flight_11 : decode cX8_flight 11 = .ok (.ifCond .eq 45, 3) := by decide +kernel
theorem dX8_flight_14 : decode cX8_flight 14 = .ok (.iload_n 1, 1) := by decide +kernel
theorem dX8_flight_15 : decode cX8_flight 15 = .ok (.iload_n 2, 1) := by decide +kernel
theorem dX8_flight_16 : decode cX8_flight 16 = .ok (.if_icmp .eq 40, 3) := by decide +kernel
theorem dX8_flight_19 : decode cX8_flight 19 = .ok (.iload_n 3, 1) := by decide +kernel
theorem dX8_flight_20 : decode cX8_flight 20 = .ok (.ifCond .lt 36, 3) := by decide +kernel
theorem dX8_flight_23 : decode cX8_flight 23 = .ok (.iload_n 3, 1) := by decide +kernel
theorem dX8_flight_24 : decode cX8_flight 24 = .ok (.sipush 999, 3) := by decide +kernel
theorem dX8_flight_27 : decode cX8_flight 27 = .ok (.if_icmp .gt 29, 3) := by decide +kernel
theorem dX8_flight_30 : decode cX8_flight 30 = .ok (.iload 4, 2) := by decide +kernel
theorem dX8_flight_32 : decode cX8_flight 32 = .ok (.ifCond .lt 24, 3) := by decide +kernel
theorem dX8_flight_35 : decode cX8_flight 35 = .ok (.iload 4, 2) := by decide +kernel
theorem dX8_flight_37 : decode cX8_flight 37 = .ok (.sipush 30000, 3) := by decide +kernel
theorem dX8_flight_40 : decode cX8_flight 40 = .ok (.if_icmp .gt 16, 3) := by decide +kernel
theorem dX8_flight_43 : decode cX8_flight 43 = .ok (.iload 5, 2) := by decide +kernel
theorem dX8_flight_45 : decode cX8_flight 45 = .ok (.ifCond .lt 11, 3) := by decide +kernel
theorem dX8_flight_48 : decode cX8_flight 48 = .ok (.iload 5, 2) := by decide +kernel
theorem dX8_flight_50 : decode cX8_flight 50 = .ok (.sipush 10000, 3) := by decide +kernel
theorem dX8_flight_53 : decode cX8_flight 53 = .ok (.if_icmp .le 5, 3) := by decide +kernel
theorem dX8_flight_56 : decode cX8_flight 56 = .ok (.iconst 0, 1) := by decide +kernel
theorem dX8_flight_57 : decode cX8_flight 57 = .ok (.ireturn, 1) := by decide +kernel
theorem dX8_flight_58 : decode cX8_flight 58 = .ok (.aload_n 0, 1) := by decide +kernel
theorem dX8_flight_59 : decode cX8_flight 59 = .ok (.iload_n 1, 1) := by decide +kernel
theorem dX8_flight_60 : decode cX8_flight 60 = .ok (.putfield 233, 3) := by decide +kernel
theorem dX8_flight_63 : decode cX8_flight 63 = .ok (.aload_n 0, 1) := by decide +kernel
theorem dX8_flight_64 : decode cX8_flight 64 = .ok (.iload_n 2, 1) := by decide +kernel
theorem dX8_flight_65 : decode cX8_flight 65 = .ok (.putfield 236, 3) := by decide +kernel
theorem dX8_flight_68 : decode cX8_flight 68 = .ok (.aload_n 0, 1) := by decide +kernel
theorem dX8_flight_69 : decode cX8_flight 69 = .ok (.iload_n 3, 1) := by decide +kernel
theorem dX8_flight_70 : decode cX8_flight 70 = .ok (.putfield 239, 3) := by decide +kernel
theorem dX8_flight_73 : decode cX8_flight 73 = .ok (.aload_n 0, 1) := by decide +kernel
theorem dX8_flight_74 : decode cX8_flight 74 = .ok (.iload 4, 2) := by decide +kernel
theorem dX8_flight_76 : decode cX8_flight 76 = .ok (.putfield 242, 3) := by decide +kernel
theorem dX8_flight_79 : decode cX8_flight 79 = .ok (.aload_n 0, 1) := by decide +kernel
theorem dX8_flight_80 : decode cX8_flight 80 = .ok (.iload 5, 2) := by decide +kernel
theorem dX8_flight_82 : decode cX8_flight 82 = .ok (.putfield 245, 3) := by decide +kernel
theorem dX8_flight_85 : decode cX8_flight 85 = .ok (.aload_n 0, 1) := by decide +kernel
theorem dX8_flight_86 : decode cX8_flight 86 = .ok (.iconst 1, 1) := by decide +kernel
theorem dX8_flight_87 : decode cX8_flight 87 = .ok (.putfield 140, 3) := by decide +kernel
theorem dX8_flight_90 : decode cX8_flight 90 = .ok (.iconst 1, 1) := by decide +kernel
theorem dX8_flight_91 : decode cX8_flight 91 = .ok (.ireturn, 1) := by decide +kernel
theorem dX8_canAsk_0 : decode cX8_canAsk 0 = .ok (.aload_n 0, 1) := by decide +kernel
theorem dX8_canAsk_1 : decode cX8_canAsk 1 = .ok (.getfield 140, 3) := by decide +kernel
theorem dX8_canAsk_4 : decode cX8_canAsk 4 = .ok (.ifCond .eq 29, 3) := by decide +kernel
theorem dX8_canAsk_7 : decode cX8_canAsk 7 = .ok (.aload_n 0, 1) := by decide +kernel
theorem dX8_canAsk_8 : decode cX8_canAsk 8 = .ok (.iload_n 1, 1) := by decide +kernel
theorem dX8_canAsk_9 : decode cX8_canAsk 9 = .ok (.invokevirtual 214, 3) := by decide +kernel
theorem dX8_canAsk_12 : decode cX8_canAsk 12 = .ok (.ifCond .eq 21, 3) := by decide +kernel
theorem dX8_canAsk_15 : decode cX8_canAsk 15 = .ok (.iload_n 2, 1) := by decide +kernel
theorem dX8_canAsk_16 : decode cX8_canAsk 16 = .ok (.invokestatic 205, 3) := by decide +kernel
theorem dX8_canAsk_19 : decode cX8_canAsk 19 = .ok (.ifCond .eq 14, 3) := by decide +kernel
theorem dX8_canAsk_22 : decode cX8_canAsk 22 = .ok (.iload_n 3, 1) := by decide +kernel
theorem dX8_canAsk_23 : decode cX8_canAsk 23 = .ok (.invokestatic 211, 3) := by decide +kernel
theorem dX8_canAsk_26 : decode cX8_canAsk 26 = .ok (.ifCond .eq 7, 3) := by decide +kernel
theorem dX8_canAsk_29 : decode cX8_canAsk 29 = .ok (.iconst 1, 1) := by decide +kernel
theorem dX8_canAsk_30 : decode cX8_canAsk 30 = .ok (.goto 4, 3) := by decide +kernel
theorem dX8_canAsk_33 : decode cX8_canAsk 33 = .ok (.iconst 0, 1) := by decide +kernel
theorem dX8_canAsk_34 : decode cX8_canAsk 34 = .ok (.ireturn, 1) := by decide +kernel
theorem dX8_minutes_0 : decode cX8_minutes 0 = .ok (.aload_n 0, 1) := by decide +kernel
theorem dX8_minutes_1 : decode cX8_minutes 1 = .ok (.iload_n 1, 1) := by decide +kernel
theorem dX8_minutes_2 : decode cX8_minutes 2 = .ok (.iload_n 2, 1) := by decide +kernel
theorem dX8_minutes_3 : decode cX8_minutes 3 = .ok (.iload_n 3, 1) := by decide +kernel
theorem dX8_minutes_4 : decode cX8_minutes 4 = .ok (.invokevirtual 248, 3) := by decide +kernel
theorem dX8_minutes_7 : decode cX8_minutes 7 = .ok (.ifCond .eq 13, 3) := by decide +kernel
theorem dX8_minutes_10 : decode cX8_minutes 10 = .ok (.aload_n 0, 1) := by decide +kernel
theorem dX8_minutes_11 : decode cX8_minutes 11 = .ok (.iload_n 1, 1) := by decide +kernel
theorem dX8_minutes_12 : decode cX8_minutes 12 = .ok (.iload_n 2, 1) := by decide +kernel
theorem dX8_minutes_13 : decode cX8_minutes 13 = .ok (.iload_n 3, 1) := by decide +kernel
theorem dX8_minutes_14 : decode cX8_minutes 14 = .ok (.invokevirtual 252, 3) := by decide +kernel
theorem dX8_minutes_17 : decode cX8_minutes 17 = .ok (.goto 4, 3) := by decide +kernel
theorem dX8_minutes_20 : decode cX8_minutes 20 = .ok (.iconst (-1), 1) := by decide +kernel
theorem dX8_minutes_21 : decode cX8_minutes 21 = .ok (.ireturn, 1) := by decide +kernel
theorem dX8_fuel_0 : decode cX8_fuel 0 = .ok (.aload_n 0, 1) := by decide +kernel
theorem dX8_fuel_1 : decode cX8_fuel 1 = .ok (.iload_n 1, 1) := by decide +kernel
theorem dX8_fuel_2 : decode cX8_fuel 2 = .ok (.iload_n 2, 1) := by decide +kernel
theorem dX8_fuel_3 : decode cX8_fuel 3 = .ok (.iload_n 3, 1) := by decide +kernel
theorem dX8_fuel_4 : decode cX8_fuel 4 = .ok (.invokevirtual 248, 3) := by decide +kernel
theorem dX8_fuel_7 : decode cX8_fuel 7 = .ok (.ifCond .eq 15, 3) := by decide +kernel
theorem dX8_fuel_10 : decode cX8_fuel 10 = .ok (.iload 4, 2) := by decide +kernel
theorem dX8_fuel_12 : decode cX8_fuel 12 = .ok (.ifCond .lt 10, 3) := by decide +kernel
theorem dX8_fuel_15 : decode cX8_fuel 15 = .ok (.iload 4, 2) := by decide +kernel
theorem dX8_fuel_17 : decode cX8_fuel 17 = .ok (.ldc 176, 2) := by decide +kernel
theorem dX8_fuel_19 : decode cX8_fuel 19 = .ok (.if_icmp .le 5, 3) := by decide +kernel
theorem dX8_fuel_22 : decode cX8_fuel 22 = .ok (.iconst (-1), 1) := by decide +kernel
theorem dX8_fuel_23 : decode cX8_fuel 23 = .ok (.ireturn, 1) := by decide +kernel
theorem dX8_fuel_24 : decode cX8_fuel 24 = .ok (.aload_n 0, 1) := by decide +kernel
theorem dX8_fuel_25 : decode cX8_fuel 25 = .ok (.iload_n 1, 1) := by decide +kernel
theorem dX8_fuel_26 : decode cX8_fuel 26 = .ok (.iload_n 2, 1) := by decide +kernel
theorem dX8_fuel_27 : decode cX8_fuel 27 = .ok (.iload_n 3, 1) := by decide +kernel
theorem dX8_fuel_28 : decode cX8_fuel 28 = .ok (.invokevirtual 252, 3) := by decide +kernel
theorem dX8_fuel_31 : decode cX8_fuel 31 = .ok (.istore 5, 2) := by decide +kernel
theorem dX8_fuel_33 : decode cX8_fuel 33 = .ok (.iload 5, 2) := by decide +kernel
theorem dX8_fuel_35 : decode cX8_fuel 35 = .ok (.ifCond .ge 7, 3) := by decide +kernel
theorem dX8_fuel_38 : decode cX8_fuel 38 = .ok (.iconst (-1), 1) := by decide +kernel
theorem dX8_fuel_39 : decode cX8_fuel 39 = .ok (.goto 12, 3) := by decide +kernel
theorem dX8_fuel_42 : decode cX8_fuel 42 = .ok (.aload_n 0, 1) := by decide +kernel
theorem dX8_fuel_43 : decode cX8_fuel 43 = .ok (.iload 5, 2) := by decide +kernel
theorem dX8_fuel_45 : decode cX8_fuel 45 = .ok (.iload_n 2, 1) := by decide +kernel
theorem dX8_fuel_46 : decode cX8_fuel 46 = .ok (.iload 4, 2) := by decide +kernel
theorem dX8_fuel_48 : decode cX8_fuel 48 = .ok (.invokevirtual 255, 3) := by decide +kernel
theorem dX8_fuel_51 : decode cX8_fuel 51 = .ok (.ireturn, 1) := by decide +kernel
theorem dX8_seek_0 : decode cX8_seek 0 = .ok (.aload_n 0, 1) := by decide +kernel
theorem dX8_seek_1 : decode cX8_seek 1 = .ok (.iconst 0, 1) := by decide +kernel
theorem dX8_seek_2 : decode cX8_seek 2 = .ok (.putfield 265, 3) := by decide +kernel
theorem dX8_seek_5 : decode cX8_seek 5 = .ok (.aload_n 0, 1) := by decide +kernel
theorem dX8_seek_6 : decode cX8_seek 6 = .ok (.getfield 140, 3) := by decide +kernel
theorem dX8_seek_9 : decode cX8_seek 9 = .ok (.ifCond .eq 10, 3) := by decide +kernel
theorem dX8_seek_12 : decode cX8_seek 12 = .ok (.iload_n 1, 1) := by decide +kernel
theorem dX8_seek_13 : decode cX8_seek 13 = .ok (.invokestatic 211, 3) := by decide +kernel
theorem dX8_seek_16 : decode cX8_seek 16 = .ok (.ifCond .ne 5, 3) := by decide +kernel
theorem dX8_seek_19 : decode cX8_seek 19 = .ok (.iconst 0, 1) := by decide +kernel
theorem dX8_seek_20 : decode cX8_seek 20 = .ok (.ireturn, 1) := by decide +kernel
theorem dX8_seek_21 : decode cX8_seek 21 = .ok (.aload_n 0, 1) := by decide +kernel
theorem dX8_seek_22 : decode cX8_seek 22 = .ok (.iload_n 1, 1) := by decide +kernel
theorem dX8_seek_23 : decode cX8_seek 23 = .ok (.aload_n 0, 1) := by decide +kernel
theorem dX8_seek_24 : decode cX8_seek 24 = .ok (.getfield 236, 3) := by decide +kernel
theorem dX8_seek_27 : decode cX8_seek 27 = .ok (.invokevirtual 268, 3) := by decide +kernel
theorem dX8_seek_30 : decode cX8_seek 30 = .ok (.aload_n 0, 1) := by decide +kernel
theorem dX8_seek_31 : decode cX8_seek 31 = .ok (.aload_n 0, 1) := by decide +kernel
theorem dX8_seek_32 : decode cX8_seek 32 = .ok (.aload_n 0, 1) := by decide +kernel
theorem dX8_seek_33 : decode cX8_seek 33 = .ok (.getfield 233, 3) := by decide +kernel
theorem dX8_seek_36 : decode cX8_seek 36 = .ok (.iconst (-1), 1) := by decide +kernel
theorem dX8_seek_37 : decode cX8_seek 37 = .ok (.invokevirtual 262, 3) := by decide +kernel
theorem dX8_seek_40 : decode cX8_seek 40 = .ok (.putfield 271, 3) := by decide +kernel
theorem dX8_seek_43 : decode cX8_seek 43 = .ok (.aload_n 0, 1) := by decide +kernel
theorem dX8_seek_44 : decode cX8_seek 44 = .ok (.getfield 271, 3) := by decide +kernel
theorem dX8_seek_47 : decode cX8_seek 47 = .ok (.ldc_w 258, 3) := by decide +kernel
theorem dX8_seek_50 : decode cX8_seek 50 = .ok (.if_icmp .ne 5, 3) := by decide +kernel
theorem dX8_seek_53 : decode cX8_seek 53 = .ok (.iconst 0, 1) := by decide +kernel
theorem dX8_seek_54 : decode cX8_seek 54 = .ok (.ireturn, 1) := by decide +kernel
theorem dX8_seek_55 : decode cX8_seek 55 = .ok (.aload_n 0, 1) := by decide +kernel
theorem dX8_seek_56 : decode cX8_seek 56 = .ok (.getfield 233, 3) := by decide +kernel
theorem dX8_seek_59 : decode cX8_seek 59 = .ok (.istore_n 2, 1) := by decide +kernel
theorem dX8_seek_60 : decode cX8_seek 60 = .ok (.iconst (-1), 1) := by decide +kernel
theorem dX8_seek_61 : decode cX8_seek 61 = .ok (.istore_n 3, 1) := by decide +kernel
theorem dX8_seek_62 : decode cX8_seek 62 = .ok (.iload_n 2, 1) := by decide +kernel
theorem dX8_seek_63 : decode cX8_seek 63 = .ok (.aload_n 0, 1) := by decide +kernel
theorem dX8_seek_64 : decode cX8_seek 64 = .ok (.getfield 236, 3) := by decide +kernel
theorem dX8_seek_67 : decode cX8_seek 67 = .ok (.if_icmp .eq 144, 3) := by decide +kernel
theorem dX8_seek_70 : decode cX8_seek 70 = .ok (.aload_n 0, 1) := by decide +kernel
theorem dX8_seek_71 : decode cX8_seek 71 = .ok (.iload_n 2, 1) := by decide +kernel
theorem dX8_seek_72 : decode cX8_seek 72 = .ok (.iload_n 3, 1) := by decide +kernel
theorem dX8_seek_73 : decode cX8_seek 73 = .ok (.invokevirtual 262, 3) := by decide +kernel
theorem dX8_seek_76 : decode cX8_seek 76 = .ok (.istore 4, 2) := by decide +kernel
theorem dX8_seek_78 : decode cX8_seek 78 = .ok (.iconst 0, 1) := by decide +kernel
theorem dX8_seek_79 : decode cX8_seek 79 = .ok (.istore 5, 2) := by decide +kernel
theorem dX8_seek_81 : decode cX8_seek 81 = .ok (.aload_n 0, 1) := by decide +kernel
theorem dX8_seek_82 : decode cX8_seek 82 = .ok (.getfield 68, 3) := by decide +kernel
theorem dX8_seek_85 : decode cX8_seek 85 = .ok (.bipush 16, 2) := by decide +kernel
theorem dX8_seek_87 : decode cX8_seek 87 = .ok (.aload_n 0, 1) := by decide +kernel
theorem dX8_seek_88 : decode cX8_seek 88 = .ok (.getfield 124, 3) := by decide +kernel
theorem dX8_seek_91 : decode cX8_seek 91 = .ok (.imul, 1) := by decide +kernel
theorem dX8_seek_92 : decode cX8_seek 92 = .ok (.iload 5, 2) := by decide +kernel
theorem dX8_seek_94 : decode cX8_seek 94 = .ok (.bipush 6, 2) := by decide +kernel
theorem dX8_seek_96 : decode cX8_seek 96 = .ok (.idiv, 1) := by decide +kernel
theorem dX8_seek_97 : decode cX8_seek 97 = .ok (.iadd, 1) := by decide +kernel
theorem dX8_seek_98 : decode cX8_seek 98 = .ok (.iaload, 1) := by decide +kernel
theorem dX8_seek_99 : decode cX8_seek 99 = .ok (.iload_n 2, 1) := by decide +kernel
theorem dX8_seek_100 : decode cX8_seek 100 = .ok (.if_icmp .ne 39, 3) := by decide +kernel
theorem dX8_seek_103 : decode cX8_seek 103 = .ok (.aload_n 0, 1) := by decide +kernel
theorem dX8_seek_104 : decode cX8_seek 104 = .ok (.getfield 104, 3) := by decide +kernel
theorem dX8_seek_107 : decode cX8_seek 107 = .ok (.iload 5, 2) := by decide +kernel
theorem dX8_seek_109 : decode cX8_seek 109 = .ok (.iaload, 1) := by decide +kernel
theorem dX8_seek_110 : decode cX8_seek 110 = .ok (.ldc_w 258, 3) := by decide +kernel
theorem dX8_seek_113 : decode cX8_seek 113 = .ok (.if_icmp .eq 26, 3) := by decide +kernel
theorem dX8_seek_116 : decode cX8_seek 116 = .ok (.aload_n 0, 1) := by decide +kernel
theorem dX8_seek_117 : decode cX8_seek 117 = .ok (.iload_n 3, 1) := by decide +kernel
theorem dX8_seek_118 : decode cX8_seek 118 = .ok (.iload 5, 2) := by decide +kernel
theorem dX8_seek_120 : decode cX8_seek 120 = .ok (.bipush 6, 2) := by decide +kernel
theorem dX8_seek_122 : decode cX8_seek 122 = .ok (.irem, 1) := by decide +kernel
theorem dX8_seek_123 : decode cX8_seek 123 = .ok (.invokevirtual 259, 3) := by decide +kernel
theorem dX8_seek_126 : decode cX8_seek 126 = .ok (.aload_n 0, 1) := by decide +kernel
theorem dX8_seek_127 : decode cX8_seek 127 = .ok (.getfield 104, 3) := by decide +kernel
theorem dX8_seek_130 : decode cX8_seek 130 = .ok (.iload 5, 2) := by decide +kernel
theorem dX8_seek_132 : decode cX8_seek 132 = .ok (.iaload, 1) := by decide +kernel
theorem dX8_seek_133 : decode cX8_seek 133 = .ok (.iadd, 1) := by decide +kernel
theorem dX8_seek_134 : decode cX8_seek 134 = .ok (.iload 4, 2) := by decide +kernel
theorem dX8_seek_136 : decode cX8_seek 136 = .ok (.if_icmp .eq 9, 3) := by decide +kernel
theorem dX8_seek_139 : decode cX8_seek 139 = .ok (.iinc 5 1, 3) := by decide +kernel
theorem dX8_seek_142 : decode cX8_seek 142 = .ok (.goto (-61), 3) := by decide +kernel
theorem dX8_seek_145 : decode cX8_seek 145 = .ok (.aload_n 0, 1) := by decide +kernel
theorem dX8_seek_146 : decode cX8_seek 146 = .ok (.getfield 107, 3) := by decide +kernel
theorem dX8_seek_149 : decode cX8_seek 149 = .ok (.aload_n 0, 1) := by decide +kernel
theorem dX8_seek_150 : decode cX8_seek 150 = .ok (.getfield 265, 3) := by decide +kernel
theorem dX8_seek_153 : decode cX8_seek 153 = .ok (.iload 5, 2) := by decide +kernel
theorem dX8_seek_155 : decode cX8_seek 155 = .ok (.bipush 6, 2) := by decide +kernel
theorem dX8_seek_157 : decode cX8_seek 157 = .ok (.idiv, 1) := by decide +kernel
theorem dX8_seek_158 : decode cX8_seek 158 = .ok (.iastore, 1) := by decide +kernel
theorem dX8_seek_159 : decode cX8_seek 159 = .ok (.aload_n 0, 1) := by decide +kernel
theorem dX8_seek_160 : decode cX8_seek 160 = .ok (.getfield 110, 3) := by decide +kernel
theorem dX8_seek_163 : decode cX8_seek 163 = .ok (.aload_n 0, 1) := by decide +kernel
theorem dX8_seek_164 : decode cX8_seek 164 = .ok (.getfield 265, 3) := by decide +kernel
theorem dX8_seek_167 : decode cX8_seek 167 = .ok (.iload 5, 2) := by decide +kernel
theorem dX8_seek_169 : decode cX8_seek 169 = .ok (.bipush 6, 2) := by decide +kernel
theorem dX8_seek_171 : decode cX8_seek 171 = .ok (.irem, 1) := by decide +kernel
theorem dX8_seek_172 : decode cX8_seek 172 = .ok (.iastore, 1) := by decide +kernel
theorem dX8_seek_173 : decode cX8_seek 173 = .ok (.aload_n 0, 1) := by decide +kernel
theorem dX8_seek_174 : decode cX8_seek 174 = .ok (.dup, 1) := by decide +kernel
theorem dX8_seek_175 : decode cX8_seek 175 = .ok (.getfield 265, 3) := by decide +kernel
theorem dX8_seek_178 : decode cX8_seek 178 = .ok (.iconst 1, 1) := by decide +kernel
theorem dX8_seek_179 : decode cX8_seek 179 = .ok (.iadd, 1) := by decide +kernel
theorem dX8_seek_180 : decode cX8_seek 180 = .ok (.putfield 265, 3) := by decide +kernel
theorem dX8_seek_183 : decode cX8_seek 183 = .ok (.iload 5, 2) := by decide +kernel
theorem dX8_seek_185 : decode cX8_seek 185 = .ok (.bipush 6, 2) := by decide +kernel
theorem dX8_seek_187 : decode cX8_seek 187 = .ok (.irem, 1) := by decide +kernel
theorem dX8_seek_188 : decode cX8_seek 188 = .ok (.istore_n 3, 1) := by decide +kernel
theorem dX8_seek_189 : decode cX8_seek 189 = .ok (.aload_n 0, 1) := by decide +kernel
theorem dX8_seek_190 : decode cX8_seek 190 = .ok (.getfield 71, 3) := by decide +kernel
theorem dX8_seek_193 : decode cX8_seek 193 = .ok (.bipush 16, 2) := by decide +kernel
theorem dX8_seek_195 : decode cX8_seek 195 = .ok (.aload_n 0, 1) := by decide +kernel
theorem dX8_seek_196 : decode cX8_seek 196 = .ok (.getfield 124, 3) := by decide +kernel
theorem dX8_seek_199 : decode cX8_seek 199 = .ok (.imul, 1) := by decide +kernel
theorem dX8_seek_200 : decode cX8_seek 200 = .ok (.iload 5, 2) := by decide +kernel
theorem dX8_seek_202 : decode cX8_seek 202 = .ok (.bipush 6, 2) := by decide +kernel
theorem dX8_seek_204 : decode cX8_seek 204 = .ok (.idiv, 1) := by decide +kernel
theorem dX8_seek_205 : decode cX8_seek 205 = .ok (.iadd, 1) := by decide +kernel
theorem dX8_seek_206 : decode cX8_seek 206 = .ok (.iaload, 1) := by decide +kernel
theorem dX8_seek_207 : decode cX8_seek 207 = .ok (.istore_n 2, 1) := by decide +kernel
theorem dX8_seek_208 : decode cX8_seek 208 = .ok (.goto (-146), 3) := by decide +kernel
theorem dX8_seek_211 : decode cX8_seek 211 = .ok (.iconst 1, 1) := by decide +kernel
theorem dX8_seek_212 : decode cX8_seek 212 = .ok (.ireturn, 1) := by decide +kernel
theorem dX8_need_0 : decode cX8_need 0 = .ok (.aload_n 0, 1) := by decide +kernel
theorem dX8_need_1 : decode cX8_need 1 = .ok (.iload_n 1, 1) := by decide +kernel
theorem dX8_need_2 : decode cX8_need 2 = .ok (.invokevirtual 274, 3) := by decide +kernel
theorem dX8_need_5 : decode cX8_need 5 = .ok (.ifCond .eq 10, 3) := by decide +kernel
theorem dX8_need_8 : decode cX8_need 8 = .ok (.aload_n 0, 1) := by decide +kernel
theorem dX8_need_9 : decode cX8_need 9 = .ok (.getfield 271, 3) := by decide +kernel
theorem dX8_need_12 : decode cX8_need 12 = .ok (.goto 4, 3) := by decide +kernel
theorem dX8_need_15 : decode cX8_need 15 = .ok (.iconst (-1), 1) := by decide +kernel
theorem dX8_need_16 : decode cX8_need 16 = .ok (.ireturn, 1) := by decide +kernel
theorem dX8_legs_0 : decode cX8_legs 0 = .ok (.aload_n 0, 1) := by decide +kernel
theorem dX8_legs_1 : decode cX8_legs 1 = .ok (.iload_n 1, 1) := by decide +kernel
theorem dX8_legs_2 : decode cX8_legs 2 = .ok (.invokevirtual 274, 3) := by decide +kernel
theorem dX8_legs_5 : decode cX8_legs 5 = .ok (.ifCond .eq 10, 3) := by decide +kernel
theorem dX8_legs_8 : decode cX8_legs 8 = .ok (.aload_n 0, 1) := by decide +kernel
theorem dX8_legs_9 : decode cX8_legs 9 = .ok (.getfield 265, 3) := by decide +kernel
theorem dX8_legs_12 : decode cX8_legs 12 = .ok (.goto 4, 3) := by decide +kernel
theorem dX8_legs_15 : decode cX8_legs 15 = .ok (.iconst (-1), 1) := by decide +kernel
theorem dX8_legs_16 : decode cX8_legs 16 = .ok (.ireturn, 1) := by decide +kernel
theorem dX8_leg_0 : decode cX8_leg 0 = .ok (.aload_n 0, 1) := by decide +kernel
theorem dX8_leg_1 : decode cX8_leg 1 = .ok (.iload_n 1, 1) := by decide +kernel
theorem dX8_leg_2 : decode cX8_leg 2 = .ok (.invokevirtual 274, 3) := by decide +kernel
theorem dX8_leg_5 : decode cX8_leg 5 = .ok (.ifCond .eq 15, 3) := by decide +kernel
theorem dX8_leg_8 : decode cX8_leg 8 = .ok (.iload_n 2, 1) := by decide +kernel
theorem dX8_leg_9 : decode cX8_leg 9 = .ok (.ifCond .lt 11, 3) := by decide +kernel
theorem dX8_leg_12 : decode cX8_leg 12 = .ok (.iload_n 2, 1) := by decide +kernel
theorem dX8_leg_13 : decode cX8_leg 13 = .ok (.aload_n 0, 1) := by decide +kernel
theorem dX8_leg_14 : decode cX8_leg 14 = .ok (.getfield 265, 3) := by decide +kernel
theorem dX8_leg_17 : decode cX8_leg 17 = .ok (.if_icmp .lt 5, 3) := by decide +kernel
theorem dX8_leg_20 : decode cX8_leg 20 = .ok (.iconst (-1), 1) := by decide +kernel
theorem dX8_leg_21 : decode cX8_leg 21 = .ok (.ireturn, 1) := by decide +kernel
theorem dX8_leg_22 : decode cX8_leg 22 = .ok (.aload_n 0, 1) := by decide +kernel
theorem dX8_leg_23 : decode cX8_leg 23 = .ok (.aload_n 0, 1) := by decide +kernel
theorem dX8_leg_24 : decode cX8_leg 24 = .ok (.getfield 107, 3) := by decide +kernel
theorem dX8_leg_27 : decode cX8_leg 27 = .ok (.iload_n 2, 1) := by decide +kernel
theorem dX8_leg_28 : decode cX8_leg 28 = .ok (.iaload, 1) := by decide +kernel
theorem dX8_leg_29 : decode cX8_leg 29 = .ok (.aload_n 0, 1) := by decide +kernel
theorem dX8_leg_30 : decode cX8_leg 30 = .ok (.getfield 110, 3) := by decide +kernel
theorem dX8_leg_33 : decode cX8_leg 33 = .ok (.iload_n 2, 1) := by decide +kernel
theorem dX8_leg_34 : decode cX8_leg 34 = .ok (.iaload, 1) := by decide +kernel
theorem dX8_leg_35 : decode cX8_leg 35 = .ok (.iload_n 1, 1) := by decide +kernel
theorem dX8_leg_36 : decode cX8_leg 36 = .ok (.invokevirtual 252, 3) := by decide +kernel
theorem dX8_leg_39 : decode cX8_leg 39 = .ok (.istore 4, 2) := by decide +kernel
theorem dX8_leg_41 : decode cX8_leg 41 = .ok (.iload_n 3, 1) := by decide +kernel
theorem dX8_leg_42 : decode cX8_leg 42 = .ok (.tableswitch 72 0 3 #[30, 37, 44, 47], 30) := by decide +kernel
theorem dX8_leg_72 : decode cX8_leg 72 = .ok (.aload_n 0, 1) := by decide +kernel
theorem dX8_leg_73 : decode cX8_leg 73 = .ok (.getfield 107, 3) := by decide +kernel
theorem dX8_leg_76 : decode cX8_leg 76 = .ok (.iload_n 2, 1) := by decide +kernel
theorem dX8_leg_77 : decode cX8_leg 77 = .ok (.iaload, 1) := by decide +kernel
theorem dX8_leg_78 : decode cX8_leg 78 = .ok (.ireturn, 1) := by decide +kernel
theorem dX8_leg_79 : decode cX8_leg 79 = .ok (.aload_n 0, 1) := by decide +kernel
theorem dX8_leg_80 : decode cX8_leg 80 = .ok (.getfield 110, 3) := by decide +kernel
theorem dX8_leg_83 : decode cX8_leg 83 = .ok (.iload_n 2, 1) := by decide +kernel
theorem dX8_leg_84 : decode cX8_leg 84 = .ok (.iaload, 1) := by decide +kernel
theorem dX8_leg_85 : decode cX8_leg 85 = .ok (.ireturn, 1) := by decide +kernel
theorem dX8_leg_86 : decode cX8_leg 86 = .ok (.iload 4, 2) := by decide +kernel
theorem dX8_leg_88 : decode cX8_leg 88 = .ok (.ireturn, 1) := by decide +kernel
theorem dX8_leg_89 : decode cX8_leg 89 = .ok (.aload_n 0, 1) := by decide +kernel
theorem dX8_leg_90 : decode cX8_leg 90 = .ok (.iload 4, 2) := by decide +kernel
theorem dX8_leg_92 : decode cX8_leg 92 = .ok (.aload_n 0, 1) := by decide +kernel
theorem dX8_leg_93 : decode cX8_leg 93 = .ok (.getfield 110, 3) := by decide +kernel
theorem dX8_leg_96 : decode cX8_leg 96 = .ok (.iload_n 2, 1) := by decide +kernel
theorem dX8_leg_97 : decode cX8_leg 97 = .ok (.iaload, 1) := by decide +kernel
theorem dX8_leg_98 : decode cX8_leg 98 = .ok (.aload_n 0, 1) := by decide +kernel
theorem dX8_leg_99 : decode cX8_leg 99 = .ok (.iload_n 1, 1) := by decide +kernel
theorem dX8_leg_100 : decode cX8_leg 100 = .ok (.iload_n 2, 1) := by decide +kernel
theorem dX8_leg_101 : decode cX8_leg 101 = .ok (.iconst 1, 1) := by decide +kernel
theorem dX8_leg_102 : decode cX8_leg 102 = .ok (.iadd, 1) := by decide +kernel
theorem dX8_leg_103 : decode cX8_leg 103 = .ok (.aload_n 0, 1) := by decide +kernel
theorem dX8_leg_104 : decode cX8_leg 104 = .ok (.getfield 245, 3) := by decide +kernel
theorem dX8_leg_107 : decode cX8_leg 107 = .ok (.invokevirtual 277, 3) := by decide +kernel
theorem dX8_leg_110 : decode cX8_leg 110 = .ok (.invokevirtual 255, 3) := by decide +kernel
theorem dX8_leg_113 : decode cX8_leg 113 = .ok (.ireturn, 1) := by decide +kernel
theorem dX8_leg_114 : decode cX8_leg 114 = .ok (.iconst (-1), 1) := by decide +kernel
theorem dX8_leg_115 : decode cX8_leg 115 = .ok (.ireturn, 1) := by decide +kernel
theorem dX8_time_0 : decode cX8_time 0 = .ok (.aload_n 0, 1) := by decide +kernel
theorem dX8_time_1 : decode cX8_time 1 = .ok (.iload_n 1, 1) := by decide +kernel
theorem dX8_time_2 : decode cX8_time 2 = .ok (.invokevirtual 274, 3) := by decide +kernel
theorem dX8_time_5 : decode cX8_time 5 = .ok (.ifCond .ne 5, 3) := by decide +kernel
theorem dX8_time_8 : decode cX8_time 8 = .ok (.iconst (-1), 1) := by decide +kernel
theorem dX8_time_9 : decode cX8_time 9 = .ok (.ireturn, 1) := by decide +kernel
theorem dX8_time_10 : decode cX8_time 10 = .ok (.iconst 0, 1) := by decide +kernel
theorem dX8_time_11 : decode cX8_time 11 = .ok (.istore_n 2, 1) := by decide +kernel
theorem dX8_time_12 : decode cX8_time 12 = .ok (.iconst 0, 1) := by decide +kernel
theorem dX8_time_13 : decode cX8_time 13 = .ok (.istore_n 3, 1) := by decide +kernel
theorem dX8_time_14 : decode cX8_time 14 = .ok (.iload_n 3, 1) := by decide +kernel
theorem dX8_time_15 : decode cX8_time 15 = .ok (.aload_n 0, 1) := by decide +kernel
theorem dX8_time_16 : decode cX8_time 16 = .ok (.getfield 265, 3) := by decide +kernel
theorem dX8_time_19 : decode cX8_time 19 = .ok (.if_icmp .ge 29, 3) := by decide +kernel
theorem dX8_time_22 : decode cX8_time 22 = .ok (.iload_n 2, 1) := by decide +kernel
theorem dX8_time_23 : decode cX8_time 23 = .ok (.aload_n 0, 1) := by decide +kernel
theorem dX8_time_24 : decode cX8_time 24 = .ok (.aload_n 0, 1) := by decide +kernel
theorem dX8_time_25 : decode cX8_time 25 = .ok (.getfield 107, 3) := by decide +kernel
theorem dX8_time_28 : decode cX8_time 28 = .ok (.iload_n 3, 1) := by decide +kernel
theorem dX8_time_29 : decode cX8_time 29 = .ok (.iaload, 1) := by decide +kernel
theorem dX8_time_30 : decode cX8_time 30 = .ok (.aload_n 0, 1) := by decide +kernel
theorem dX8_time_31 : decode cX8_time 31 = .ok (.getfield 110, 3) := by decide +kernel
theorem dX8_time_34 : decode cX8_time 34 = .ok (.iload_n 3, 1) := by decide +kernel
theorem dX8_time_35 : decode cX8_time 35 = .ok (.iaload, 1) := by decide +kernel
theorem dX8_time_36 : decode cX8_time 36 = .ok (.iload_n 1, 1) := by decide +kernel
theorem dX8_time_37 : decode cX8_time 37 = .ok (.invokevirtual 252, 3) := by decide +kernel
theorem dX8_time_40 : decode cX8_time 40 = .ok (.iadd, 1) := by decide +kernel
theorem dX8_time_41 : decode cX8_time 41 = .ok (.istore_n 2, 1) := by decide +kernel
theorem dX8_time_42 : decode cX8_time 42 = .ok (.iinc 3 1, 3) := by decide +kernel
theorem dX8_time_45 : decode cX8_time 45 = .ok (.goto (-31), 3) := by decide +kernel
theorem dX8_time_48 : decode cX8_time 48 = .ok (.iload_n 2, 1) := by decide +kernel
theorem dX8_time_49 : decode cX8_time 49 = .ok (.ireturn, 1) := by decide +kernel
theorem dX8_legal_0 : decode cX8_legal 0 = .ok (.aload_n 0, 1) := by decide +kernel
theorem dX8_legal_1 : decode cX8_legal 1 = .ok (.iload_n 1, 1) := by decide +kernel
theorem dX8_legal_2 : decode cX8_legal 2 = .ok (.invokevirtual 274, 3) := by decide +kernel
theorem dX8_legal_5 : decode cX8_legal 5 = .ok (.ifCond .eq 18, 3) := by decide +kernel
theorem dX8_legal_8 : decode cX8_legal 8 = .ok (.aload_n 0, 1) := by decide +kernel
theorem dX8_legal_9 : decode cX8_legal 9 = .ok (.aload_n 0, 1) := by decide +kernel
theorem dX8_legal_10 : decode cX8_legal 10 = .ok (.getfield 271, 3) := by decide +kernel
theorem dX8_legal_13 : decode cX8_legal 13 = .ok (.aload_n 0, 1) := by decide +kernel
theorem dX8_legal_14 : decode cX8_legal 14 = .ok (.getfield 245, 3) := by decide +kernel
theorem dX8_legal_17 : decode cX8_legal 17 = .ok (.invokevirtual 280, 3) := by decide +kernel
theorem dX8_legal_20 : decode cX8_legal 20 = .ok (.goto 4, 3) := by decide +kernel
theorem dX8_legal_23 : decode cX8_legal 23 = .ok (.iconst (-1), 1) := by decide +kernel
theorem dX8_legal_24 : decode cX8_legal 24 = .ok (.ireturn, 1) := by decide +kernel
theorem dX8_borne_0 : decode cX8_borne 0 = .ok (.aload_n 0, 1) := by decide +kernel
theorem dX8_borne_1 : decode cX8_borne 1 = .ok (.getfield 140, 3) := by decide +kernel
theorem dX8_borne_4 : decode cX8_borne 4 = .ok (.ifCond .eq 13, 3) := by decide +kernel
theorem dX8_borne_7 : decode cX8_borne 7 = .ok (.iload_n 1, 1) := by decide +kernel
theorem dX8_borne_8 : decode cX8_borne 8 = .ok (.iconst 1, 1) := by decide +kernel
theorem dX8_borne_9 : decode cX8_borne 9 = .ok (.if_icmp .lt 8, 3) := by decide +kernel
theorem dX8_borne_12 : decode cX8_borne 12 = .ok (.iload_n 1, 1) := by decide +kernel
theorem dX8_borne_13 : decode cX8_borne 13 = .ok (.iconst 3, 1) := by decide +kernel
theorem dX8_borne_14 : decode cX8_borne 14 = .ok (.if_icmp .le 5, 3) := by decide +kernel
theorem dX8_borne_17 : decode cX8_borne 17 = .ok (.iconst (-1), 1) := by decide +kernel
theorem dX8_borne_18 : decode cX8_borne 18 = .ok (.ireturn, 1) := by decide +kernel
theorem dX8_borne_19 : decode cX8_borne 19 = .ok (.ldc_w 258, 3) := by decide +kernel
theorem dX8_borne_22 : decode cX8_borne 22 = .ok (.istore_n 2, 1) := by decide +kernel
theorem dX8_borne_23 : decode cX8_borne 23 = .ok (.iconst 0, 1) := by decide +kernel
theorem dX8_borne_24 : decode cX8_borne 24 = .ok (.istore_n 3, 1) := by decide +kernel
theorem dX8_borne_25 : decode cX8_borne 25 = .ok (.iload_n 3, 1) := by decide +kernel
theorem dX8_borne_26 : decode cX8_borne 26 = .ok (.iload_n 1, 1) := by decide +kernel
theorem dX8_borne_27 : decode cX8_borne 27 = .ok (.if_icmp .ge 80, 3) := by decide +kernel
theorem dX8_borne_30 : decode cX8_borne 30 = .ok (.aload_n 0, 1) := by decide +kernel
end
section
theorem dX8_borne_31 : decode cX8_borne 31 = .ok (.iload_n 3, 1) := by decide +kernel
theorem dX8_borne_32 : decode cX8_borne 32 = .ok (.invokevirtual 274, 3) := by decide +kernel
theorem dX8_borne_35 : decode cX8_borne 35 = .ok (.ifCond .ne 6, 3) := by decide +kernel
theorem dX8_borne_38 : decode cX8_borne 38 = .ok (.goto 63, 3) := by decide +kernel
theorem dX8_borne_41 : decode cX8_borne 41 = .ok (.iconst 0, 1) := by decide +kernel
theorem dX8_borne_42 : decode cX8_borne 42 = .ok (.istore 4, 2) := by decide +kernel
theorem dX8_borne_44 : decode cX8_borne 44 = .ok (.iconst 0, 1) := by decide +kernel
theorem dX8_borne_45 : decode cX8_borne 45 = .ok (.istore 5, 2) := by decide +kernel
theorem dX8_borne_47 : decode cX8_borne 47 = .ok (.iload 5, 2) := by decide +kernel
theorem dX8_borne_49 : decode cX8_borne 49 = .ok (.iload_n 1, 1) := by decide +kernel
theorem dX8_borne_50 : decode cX8_borne 50 = .ok (.if_icmp .ge 38, 3) := by decide +kernel
theorem dX8_borne_53 : decode cX8_borne 53 = .ok (.aload_n 0, 1) := by decide +kernel
theorem dX8_borne_54 : decode cX8_borne 54 = .ok (.iload 5, 2) := by decide +kernel
theorem dX8_borne_56 : decode cX8_borne 56 = .ok (.iconst 0, 1) := by decide +kernel
theorem dX8_borne_57 : decode cX8_borne 57 = .ok (.aload_n 0, 1) := by decide +kernel
theorem dX8_borne_58 : decode cX8_borne 58 = .ok (.getfield 245, 3) := by decide +kernel
theorem dX8_borne_61 : decode cX8_borne 61 = .ok (.invokevirtual 277, 3) := by decide +kernel
theorem dX8_borne_64 : decode cX8_borne 64 = .ok (.istore 6, 2) := by decide +kernel
theorem dX8_borne_66 : decode cX8_borne 66 = .ok (.iload 6, 2) := by decide +kernel
theorem dX8_borne_68 : decode cX8_borne 68 = .ok (.iload 4, 2) := by decide +kernel
theorem dX8_borne_70 : decode cX8_borne 70 = .ok (.if_icmp .le 8, 3) := by decide +kernel
theorem dX8_borne_73 : decode cX8_borne 73 = .ok (.iload 6, 2) := by decide +kernel
theorem dX8_borne_75 : decode cX8_borne 75 = .ok (.goto 5, 3) := by decide +kernel
theorem dX8_borne_78 : decode cX8_borne 78 = .ok (.iload 4, 2) := by decide +kernel
theorem dX8_borne_80 : decode cX8_borne 80 = .ok (.istore 4, 2) := by decide +kernel
theorem dX8_borne_82 : decode cX8_borne 82 = .ok (.iinc 5 1, 3) := by decide +kernel
theorem dX8_borne_85 : decode cX8_borne 85 = .ok (.goto (-38), 3) := by decide +kernel
theorem dX8_borne_88 : decode cX8_borne 88 = .ok (.iload 4, 2) := by decide +kernel
theorem dX8_borne_90 : decode cX8_borne 90 = .ok (.iload_n 2, 1) := by decide +kernel
theorem dX8_borne_91 : decode cX8_borne 91 = .ok (.if_icmp .ge 8, 3) := by decide +kernel
theorem dX8_borne_94 : decode cX8_borne 94 = .ok (.iload 4, 2) := by decide +kernel
theorem dX8_borne_96 : decode cX8_borne 96 = .ok (.goto 4, 3) := by decide +kernel
theorem dX8_borne_99 : decode cX8_borne 99 = .ok (.iload_n 2, 1) := by decide +kernel
theorem dX8_borne_100 : decode cX8_borne 100 = .ok (.istore_n 2, 1) := by decide +kernel
theorem dX8_borne_101 : decode cX8_borne 101 = .ok (.iinc 3 1, 3) := by decide +kernel
theorem dX8_borne_104 : decode cX8_borne 104 = .ok (.goto (-79), 3) := by decide +kernel
theorem dX8_borne_107 : decode cX8_borne 107 = .ok (.iload_n 2, 1) := by decide +kernel
theorem dX8_borne_108 : decode cX8_borne 108 = .ok (.ldc_w 258, 3) := by decide +kernel
theorem dX8_borne_111 : decode cX8_borne 111 = .ok (.if_icmp .ne 7, 3) := by decide +kernel
theorem dX8_borne_114 : decode cX8_borne 114 = .ok (.iconst (-1), 1) := by decide +kernel
theorem dX8_borne_115 : decode cX8_borne 115 = .ok (.goto 4, 3) := by decide +kernel
theorem dX8_borne_118 : decode cX8_borne 118 = .ok (.iload_n 2, 1) := by decide +kernel
theorem dX8_borne_119 : decode cX8_borne 119 = .ok (.ireturn, 1) := by decide +kernel
theorem dX8_fly_0 : decode cX8_fly 0 = .ok (.aload_n 0, 1) := by decide +kernel
theorem dX8_fly_1 : decode cX8_fly 1 = .ok (.iload_n 1, 1) := by decide +kernel
theorem dX8_fly_2 : decode cX8_fly 2 = .ok (.invokevirtual 274, 3) := by decide +kernel
theorem dX8_fly_5 : decode cX8_fly 5 = .ok (.ifCond .eq 17, 3) := by decide +kernel
theorem dX8_fly_8 : decode cX8_fly 8 = .ok (.iload_n 2, 1) := by decide +kernel
theorem dX8_fly_9 : decode cX8_fly 9 = .ok (.aload_n 0, 1) := by decide +kernel
theorem dX8_fly_10 : decode cX8_fly 10 = .ok (.getfield 271, 3) := by decide +kernel
theorem dX8_fly_13 : decode cX8_fly 13 = .ok (.if_icmp .lt 9, 3) := by decide +kernel
theorem dX8_fly_16 : decode cX8_fly 16 = .ok (.iload_n 2, 1) := by decide +kernel
theorem dX8_fly_17 : decode cX8_fly 17 = .ok (.ldc 176, 2) := by decide +kernel
theorem dX8_fly_19 : decode cX8_fly 19 = .ok (.if_icmp .le 5, 3) := by decide +kernel
theorem dX8_fly_22 : decode cX8_fly 22 = .ok (.iconst 0, 1) := by decide +kernel
theorem dX8_fly_23 : decode cX8_fly 23 = .ok (.ireturn, 1) := by decide +kernel
theorem dX8_fly_24 : decode cX8_fly 24 = .ok (.aload_n 0, 1) := by decide +kernel
theorem dX8_fly_25 : decode cX8_fly 25 = .ok (.getfield 113, 3) := by decide +kernel
theorem dX8_fly_28 : decode cX8_fly 28 = .ok (.iconst 0, 1) := by decide +kernel
theorem dX8_fly_29 : decode cX8_fly 29 = .ok (.iload_n 2, 1) := by decide +kernel
theorem dX8_fly_30 : decode cX8_fly 30 = .ok (.iastore, 1) := by decide +kernel
theorem dX8_fly_31 : decode cX8_fly 31 = .ok (.iconst 0, 1) := by decide +kernel
theorem dX8_fly_32 : decode cX8_fly 32 = .ok (.istore_n 3, 1) := by decide +kernel
theorem dX8_fly_33 : decode cX8_fly 33 = .ok (.iload_n 3, 1) := by decide +kernel
theorem dX8_fly_34 : decode cX8_fly 34 = .ok (.aload_n 0, 1) := by decide +kernel
theorem dX8_fly_35 : decode cX8_fly 35 = .ok (.getfield 265, 3) := by decide +kernel
theorem dX8_fly_38 : decode cX8_fly 38 = .ok (.if_icmp .ge 119, 3) := by decide +kernel
theorem dX8_fly_41 : decode cX8_fly 41 = .ok (.aload_n 0, 1) := by decide +kernel
theorem dX8_fly_42 : decode cX8_fly 42 = .ok (.getfield 113, 3) := by decide +kernel
theorem dX8_fly_45 : decode cX8_fly 45 = .ok (.iload_n 3, 1) := by decide +kernel
theorem dX8_fly_46 : decode cX8_fly 46 = .ok (.iaload, 1) := by decide +kernel
theorem dX8_fly_47 : decode cX8_fly 47 = .ok (.aload_n 0, 1) := by decide +kernel
theorem dX8_fly_48 : decode cX8_fly 48 = .ok (.iload_n 3, 1) := by decide +kernel
theorem dX8_fly_49 : decode cX8_fly 49 = .ok (.ifCond .ne 7, 3) := by decide +kernel
theorem dX8_fly_52 : decode cX8_fly 52 = .ok (.iconst (-1), 1) := by decide +kernel
theorem dX8_fly_53 : decode cX8_fly 53 = .ok (.goto 11, 3) := by decide +kernel
theorem dX8_fly_56 : decode cX8_fly 56 = .ok (.aload_n 0, 1) := by decide +kernel
theorem dX8_fly_57 : decode cX8_fly 57 = .ok (.getfield 110, 3) := by decide +kernel
theorem dX8_fly_60 : decode cX8_fly 60 = .ok (.iload_n 3, 1) := by decide +kernel
theorem dX8_fly_61 : decode cX8_fly 61 = .ok (.iconst 1, 1) := by decide +kernel
theorem dX8_fly_62 : decode cX8_fly 62 = .ok (.isub, 1) := by decide +kernel
theorem dX8_fly_63 : decode cX8_fly 63 = .ok (.iaload, 1) := by decide +kernel
theorem dX8_fly_64 : decode cX8_fly 64 = .ok (.aload_n 0, 1) := by decide +kernel
theorem dX8_fly_65 : decode cX8_fly 65 = .ok (.getfield 110, 3) := by decide +kernel
theorem dX8_fly_68 : decode cX8_fly 68 = .ok (.iload_n 3, 1) := by decide +kernel
theorem dX8_fly_69 : decode cX8_fly 69 = .ok (.iaload, 1) := by decide +kernel
theorem dX8_fly_70 : decode cX8_fly 70 = .ok (.invokevirtual 259, 3) := by decide +kernel
theorem dX8_fly_73 : decode cX8_fly 73 = .ok (.isub, 1) := by decide +kernel
theorem dX8_fly_74 : decode cX8_fly 74 = .ok (.istore 4, 2) := by decide +kernel
theorem dX8_fly_76 : decode cX8_fly 76 = .ok (.aload_n 0, 1) := by decide +kernel
theorem dX8_fly_77 : decode cX8_fly 77 = .ok (.aload_n 0, 1) := by decide +kernel
theorem dX8_fly_78 : decode cX8_fly 78 = .ok (.getfield 107, 3) := by decide +kernel
theorem dX8_fly_81 : decode cX8_fly 81 = .ok (.iload_n 3, 1) := by decide +kernel
theorem dX8_fly_82 : decode cX8_fly 82 = .ok (.iaload, 1) := by decide +kernel
theorem dX8_fly_83 : decode cX8_fly 83 = .ok (.aload_n 0, 1) := by decide +kernel
theorem dX8_fly_84 : decode cX8_fly 84 = .ok (.getfield 110, 3) := by decide +kernel
theorem dX8_fly_87 : decode cX8_fly 87 = .ok (.iload_n 3, 1) := by decide +kernel
theorem dX8_fly_88 : decode cX8_fly 88 = .ok (.iaload, 1) := by decide +kernel
theorem dX8_fly_89 : decode cX8_fly 89 = .ok (.iload_n 1, 1) := by decide +kernel
theorem dX8_fly_90 : decode cX8_fly 90 = .ok (.invokevirtual 252, 3) := by decide +kernel
theorem dX8_fly_93 : decode cX8_fly 93 = .ok (.istore 5, 2) := by decide +kernel
theorem dX8_fly_95 : decode cX8_fly 95 = .ok (.iload 4, 2) := by decide +kernel
theorem dX8_fly_97 : decode cX8_fly 97 = .ok (.aload_n 0, 1) := by decide +kernel
theorem dX8_fly_98 : decode cX8_fly 98 = .ok (.iload 5, 2) := by decide +kernel
theorem dX8_fly_100 : decode cX8_fly 100 = .ok (.aload_n 0, 1) := by decide +kernel
theorem dX8_fly_101 : decode cX8_fly 101 = .ok (.getfield 110, 3) := by decide +kernel
theorem dX8_fly_104 : decode cX8_fly 104 = .ok (.iload_n 3, 1) := by decide +kernel
theorem dX8_fly_105 : decode cX8_fly 105 = .ok (.iaload, 1) := by decide +kernel
theorem dX8_fly_106 : decode cX8_fly 106 = .ok (.iconst 0, 1) := by decide +kernel
theorem dX8_fly_107 : decode cX8_fly 107 = .ok (.invokevirtual 255, 3) := by decide +kernel
theorem dX8_fly_110 : decode cX8_fly 110 = .ok (.isub, 1) := by decide +kernel
theorem dX8_fly_111 : decode cX8_fly 111 = .ok (.istore 6, 2) := by decide +kernel
theorem dX8_fly_113 : decode cX8_fly 113 = .ok (.iload 6, 2) := by decide +kernel
theorem dX8_fly_115 : decode cX8_fly 115 = .ok (.aload_n 0, 1) := by decide +kernel
theorem dX8_fly_116 : decode cX8_fly 116 = .ok (.iload 5, 2) := by decide +kernel
theorem dX8_fly_118 : decode cX8_fly 118 = .ok (.aload_n 0, 1) := by decide +kernel
theorem dX8_fly_119 : decode cX8_fly 119 = .ok (.getfield 110, 3) := by decide +kernel
theorem dX8_fly_122 : decode cX8_fly 122 = .ok (.iload_n 3, 1) := by decide +kernel
theorem dX8_fly_123 : decode cX8_fly 123 = .ok (.iaload, 1) := by decide +kernel
theorem dX8_fly_124 : decode cX8_fly 124 = .ok (.iload 6, 2) := by decide +kernel
theorem dX8_fly_126 : decode cX8_fly 126 = .ok (.invokevirtual 255, 3) := by decide +kernel
theorem dX8_fly_129 : decode cX8_fly 129 = .ok (.iadd, 1) := by decide +kernel
theorem dX8_fly_130 : decode cX8_fly 130 = .ok (.iload 4, 2) := by decide +kernel
theorem dX8_fly_132 : decode cX8_fly 132 = .ok (.if_icmp .le 9, 3) := by decide +kernel
theorem dX8_fly_135 : decode cX8_fly 135 = .ok (.iinc 6 (-1), 3) := by decide +kernel
theorem dX8_fly_138 : decode cX8_fly 138 = .ok (.goto (-25), 3) := by decide +kernel
theorem dX8_fly_141 : decode cX8_fly 141 = .ok (.aload_n 0, 1) := by decide +kernel
theorem dX8_fly_142 : decode cX8_fly 142 = .ok (.getfield 113, 3) := by decide +kernel
theorem dX8_fly_145 : decode cX8_fly 145 = .ok (.iload_n 3, 1) := by decide +kernel
theorem dX8_fly_146 : decode cX8_fly 146 = .ok (.iconst 1, 1) := by decide +kernel
theorem dX8_fly_147 : decode cX8_fly 147 = .ok (.iadd, 1) := by decide +kernel
theorem dX8_fly_148 : decode cX8_fly 148 = .ok (.iload 6, 2) := by decide +kernel
theorem dX8_fly_150 : decode cX8_fly 150 = .ok (.iastore, 1) := by decide +kernel
theorem dX8_fly_151 : decode cX8_fly 151 = .ok (.iinc 3 1, 3) := by decide +kernel
theorem dX8_fly_154 : decode cX8_fly 154 = .ok (.goto (-121), 3) := by decide +kernel
theorem dX8_fly_157 : decode cX8_fly 157 = .ok (.iconst 1, 1) := by decide +kernel
theorem dX8_fly_158 : decode cX8_fly 158 = .ok (.ireturn, 1) := by decide +kernel
theorem dX8_at_0 : decode cX8_at 0 = .ok (.aload_n 0, 1) := by decide +kernel
theorem dX8_at_1 : decode cX8_at 1 = .ok (.iload_n 1, 1) := by decide +kernel
theorem dX8_at_2 : decode cX8_at 2 = .ok (.iload_n 2, 1) := by decide +kernel
theorem dX8_at_3 : decode cX8_at 3 = .ok (.invokevirtual 283, 3) := by decide +kernel
theorem dX8_at_6 : decode cX8_at 6 = .ok (.ifCond .eq 15, 3) := by decide +kernel
theorem dX8_at_9 : decode cX8_at 9 = .ok (.iload_n 3, 1) := by decide +kernel
theorem dX8_at_10 : decode cX8_at 10 = .ok (.ifCond .lt 11, 3) := by decide +kernel
theorem dX8_at_13 : decode cX8_at 13 = .ok (.iload_n 3, 1) := by decide +kernel
theorem dX8_at_14 : decode cX8_at 14 = .ok (.aload_n 0, 1) := by decide +kernel
theorem dX8_at_15 : decode cX8_at 15 = .ok (.getfield 265, 3) := by decide +kernel
theorem dX8_at_18 : decode cX8_at 18 = .ok (.if_icmp .le 7, 3) := by decide +kernel
theorem dX8_at_21 : decode cX8_at 21 = .ok (.iconst (-1), 1) := by decide +kernel
theorem dX8_at_22 : decode cX8_at 22 = .ok (.goto 9, 3) := by decide +kernel
theorem dX8_at_25 : decode cX8_at 25 = .ok (.aload_n 0, 1) := by decide +kernel
theorem dX8_at_26 : decode cX8_at 26 = .ok (.getfield 113, 3) := by decide +kernel
theorem dX8_at_29 : decode cX8_at 29 = .ok (.iload_n 3, 1) := by decide +kernel
theorem dX8_at_30 : decode cX8_at 30 = .ok (.iaload, 1) := by decide +kernel
theorem dX8_at_31 : decode cX8_at 31 = .ok (.ireturn, 1) := by decide +kernel
theorem dX8_home_0 : decode cX8_home 0 = .ok (.aload_n 0, 1) := by decide +kernel
theorem dX8_home_1 : decode cX8_home 1 = .ok (.iload_n 1, 1) := by decide +kernel
theorem dX8_home_2 : decode cX8_home 2 = .ok (.invokevirtual 274, 3) := by decide +kernel
theorem dX8_home_5 : decode cX8_home 5 = .ok (.ifCond .eq 15, 3) := by decide +kernel
theorem dX8_home_8 : decode cX8_home 8 = .ok (.iload_n 2, 1) := by decide +kernel
theorem dX8_home_9 : decode cX8_home 9 = .ok (.ifCond .lt 11, 3) := by decide +kernel
theorem dX8_home_12 : decode cX8_home 12 = .ok (.iload_n 2, 1) := by decide +kernel
theorem dX8_home_13 : decode cX8_home 13 = .ok (.aload_n 0, 1) := by decide +kernel
theorem dX8_home_14 : decode cX8_home 14 = .ok (.getfield 265, 3) := by decide +kernel
theorem dX8_home_17 : decode cX8_home 17 = .ok (.if_icmp .le 5, 3) := by decide +kernel
theorem dX8_home_20 : decode cX8_home 20 = .ok (.iconst (-1), 1) := by decide +kernel
theorem dX8_home_21 : decode cX8_home 21 = .ok (.ireturn, 1) := by decide +kernel
theorem dX8_home_22 : decode cX8_home 22 = .ok (.aload_n 0, 1) := by decide +kernel
theorem dX8_home_23 : decode cX8_home 23 = .ok (.iload_n 1, 1) := by decide +kernel
theorem dX8_home_24 : decode cX8_home 24 = .ok (.aload_n 0, 1) := by decide +kernel
theorem dX8_home_25 : decode cX8_home 25 = .ok (.getfield 233, 3) := by decide +kernel
theorem dX8_home_28 : decode cX8_home 28 = .ok (.invokevirtual 268, 3) := by decide +kernel
theorem dX8_home_31 : decode cX8_home 31 = .ok (.aload_n 0, 1) := by decide +kernel
theorem dX8_home_32 : decode cX8_home 32 = .ok (.iload_n 2, 1) := by decide +kernel
theorem dX8_home_33 : decode cX8_home 33 = .ok (.invokevirtual 287, 3) := by decide +kernel
theorem dX8_home_36 : decode cX8_home 36 = .ok (.istore_n 3, 1) := by decide +kernel
theorem dX8_home_37 : decode cX8_home 37 = .ok (.iload_n 3, 1) := by decide +kernel
theorem dX8_home_38 : decode cX8_home 38 = .ok (.ldc_w 258, 3) := by decide +kernel
theorem dX8_home_41 : decode cX8_home 41 = .ok (.if_icmp .ne 7, 3) := by decide +kernel
theorem dX8_home_44 : decode cX8_home 44 = .ok (.iconst (-1), 1) := by decide +kernel
theorem dX8_home_45 : decode cX8_home 45 = .ok (.goto 4, 3) := by decide +kernel
theorem dX8_home_48 : decode cX8_home 48 = .ok (.iload_n 3, 1) := by decide +kernel
theorem dX8_home_49 : decode cX8_home 49 = .ok (.ireturn, 1) := by decide +kernel
theorem dX8_lastReturn_0 : decode cX8_lastReturn 0 = .ok (.aload_n 0, 1) := by decide +kernel
theorem dX8_lastReturn_1 : decode cX8_lastReturn 1 = .ok (.iload_n 1, 1) := by decide +kernel
theorem dX8_lastReturn_2 : decode cX8_lastReturn 2 = .ok (.iload_n 2, 1) := by decide +kernel
theorem dX8_lastReturn_3 : decode cX8_lastReturn 3 = .ok (.invokevirtual 283, 3) := by decide +kernel
theorem dX8_lastReturn_6 : decode cX8_lastReturn 6 = .ok (.ifCond .ne 5, 3) := by decide +kernel
theorem dX8_lastReturn_9 : decode cX8_lastReturn 9 = .ok (.iconst (-1), 1) := by decide +kernel
theorem dX8_lastReturn_10 : decode cX8_lastReturn 10 = .ok (.ireturn, 1) := by decide +kernel
theorem dX8_lastReturn_11 : decode cX8_lastReturn 11 = .ok (.aload_n 0, 1) := by decide +kernel
theorem dX8_lastReturn_12 : decode cX8_lastReturn 12 = .ok (.iload_n 1, 1) := by decide +kernel
theorem dX8_lastReturn_13 : decode cX8_lastReturn 13 = .ok (.aload_n 0, 1) := by decide +kernel
theorem dX8_lastReturn_14 : decode cX8_lastReturn 14 = .ok (.getfield 233, 3) := by decide +kernel
theorem dX8_lastReturn_17 : decode cX8_lastReturn 17 = .ok (.invokevirtual 268, 3) := by decide +kernel
theorem dX8_lastReturn_20 : decode cX8_lastReturn 20 = .ok (.iconst 0, 1) := by decide +kernel
theorem dX8_lastReturn_21 : decode cX8_lastReturn 21 = .ok (.istore_n 3, 1) := by decide +kernel
theorem dX8_lastReturn_22 : decode cX8_lastReturn 22 = .ok (.iload_n 3, 1) := by decide +kernel
theorem dX8_lastReturn_23 : decode cX8_lastReturn 23 = .ok (.aload_n 0, 1) := by decide +kernel
theorem dX8_lastReturn_24 : decode cX8_lastReturn 24 = .ok (.getfield 265, 3) := by decide +kernel
theorem dX8_lastReturn_27 : decode cX8_lastReturn 27 = .ok (.if_icmp .ge 40, 3) := by decide +kernel
theorem dX8_lastReturn_30 : decode cX8_lastReturn 30 = .ok (.aload_n 0, 1) := by decide +kernel
theorem dX8_lastReturn_31 : decode cX8_lastReturn 31 = .ok (.iload_n 3, 1) := by decide +kernel
theorem dX8_lastReturn_32 : decode cX8_lastReturn 32 = .ok (.iconst 1, 1) := by decide +kernel
theorem dX8_lastReturn_33 : decode cX8_lastReturn 33 = .ok (.iadd, 1) := by decide +kernel
theorem dX8_lastReturn_34 : decode cX8_lastReturn 34 = .ok (.invokevirtual 287, 3) := by decide +kernel
theorem dX8_lastReturn_37 : decode cX8_lastReturn 37 = .ok (.ldc_w 258, 3) := by decide +kernel
theorem dX8_lastReturn_40 : decode cX8_lastReturn 40 = .ok (.if_icmp .eq 27, 3) := by decide +kernel
theorem dX8_lastReturn_43 : decode cX8_lastReturn 43 = .ok (.aload_n 0, 1) := by decide +kernel
theorem dX8_lastReturn_44 : decode cX8_lastReturn 44 = .ok (.getfield 113, 3) := by decide +kernel
theorem dX8_lastReturn_47 : decode cX8_lastReturn 47 = .ok (.iload_n 3, 1) := by decide +kernel
theorem dX8_lastReturn_48 : decode cX8_lastReturn 48 = .ok (.iconst 1, 1) := by decide +kernel
theorem dX8_lastReturn_49 : decode cX8_lastReturn 49 = .ok (.iadd, 1) := by decide +kernel
theorem dX8_lastReturn_50 : decode cX8_lastReturn 50 = .ok (.iaload, 1) := by decide +kernel
theorem dX8_lastReturn_51 : decode cX8_lastReturn 51 = .ok (.aload_n 0, 1) := by decide +kernel
theorem dX8_lastReturn_52 : decode cX8_lastReturn 52 = .ok (.iload_n 3, 1) := by decide +kernel
theorem dX8_lastReturn_53 : decode cX8_lastReturn 53 = .ok (.iconst 1, 1) := by decide +kernel
theorem dX8_lastReturn_54 : decode cX8_lastReturn 54 = .ok (.iadd, 1) := by decide +kernel
theorem dX8_lastReturn_55 : decode cX8_lastReturn 55 = .ok (.invokevirtual 287, 3) := by decide +kernel
theorem dX8_lastReturn_58 : decode cX8_lastReturn 58 = .ok (.if_icmp .lt 9, 3) := by decide +kernel
theorem dX8_lastReturn_61 : decode cX8_lastReturn 61 = .ok (.iinc 3 1, 3) := by decide +kernel
theorem dX8_lastReturn_64 : decode cX8_lastReturn 64 = .ok (.goto (-42), 3) := by decide +kernel
theorem dX8_lastReturn_67 : decode cX8_lastReturn 67 = .ok (.iload_n 3, 1) := by decide +kernel
theorem dX8_lastReturn_68 : decode cX8_lastReturn 68 = .ok (.ireturn, 1) := by decide +kernel
theorem dX8_carry_0 : decode cX8_carry 0 = .ok (.iload_n 2, 1) := by decide +kernel
theorem dX8_carry_1 : decode cX8_carry 1 = .ok (.ifCond .lt 44, 3) := by decide +kernel
theorem dX8_carry_4 : decode cX8_carry 4 = .ok (.iload_n 2, 1) := by decide +kernel
theorem dX8_carry_5 : decode cX8_carry 5 = .ok (.sipush 1000, 3) := by decide +kernel
theorem dX8_carry_8 : decode cX8_carry 8 = .ok (.if_icmp .gt 37, 3) := by decide +kernel
theorem dX8_carry_11 : decode cX8_carry 11 = .ok (.iload_n 3, 1) := by decide +kernel
theorem dX8_carry_12 : decode cX8_carry 12 = .ok (.ifCond .lt 33, 3) := by decide +kernel
theorem dX8_carry_15 : decode cX8_carry 15 = .ok (.iload_n 3, 1) := by decide +kernel
theorem dX8_carry_16 : decode cX8_carry 16 = .ok (.sipush 1000, 3) := by decide +kernel
theorem dX8_carry_19 : decode cX8_carry 19 = .ok (.if_icmp .gt 26, 3) := by decide +kernel
theorem dX8_carry_22 : decode cX8_carry 22 = .ok (.aload_n 0, 1) := by decide +kernel
theorem dX8_carry_23 : decode cX8_carry 23 = .ok (.iload_n 1, 1) := by decide +kernel
theorem dX8_carry_24 : decode cX8_carry 24 = .ok (.invokevirtual 274, 3) := by decide +kernel
theorem dX8_carry_27 : decode cX8_carry 27 = .ok (.ifCond .eq 18, 3) := by decide +kernel
theorem dX8_carry_30 : decode cX8_carry 30 = .ok (.aload_n 0, 1) := by decide +kernel
theorem dX8_carry_31 : decode cX8_carry 31 = .ok (.aload_n 0, 1) := by decide +kernel
theorem dX8_carry_32 : decode cX8_carry 32 = .ok (.getfield 271, 3) := by decide +kernel
theorem dX8_carry_35 : decode cX8_carry 35 = .ok (.aload_n 0, 1) := by decide +kernel
theorem dX8_carry_36 : decode cX8_carry 36 = .ok (.getfield 245, 3) := by decide +kernel
theorem dX8_carry_39 : decode cX8_carry 39 = .ok (.invokevirtual 280, 3) := by decide +kernel
theorem dX8_carry_42 : decode cX8_carry 42 = .ok (.ifCond .le 5, 3) := by decide +kernel
theorem dX8_carry_45 : decode cX8_carry 45 = .ok (.iconst (-1), 1) := by decide +kernel
theorem dX8_carry_46 : decode cX8_carry 46 = .ok (.ireturn, 1) := by decide +kernel
theorem dX8_carry_47 : decode cX8_carry 47 = .ok (.iconst 0, 1) := by decide +kernel
theorem dX8_carry_48 : decode cX8_carry 48 = .ok (.istore 4, 2) := by decide +kernel
theorem dX8_carry_50 : decode cX8_carry 50 = .ok (.lconst 0, 1) := by decide +kernel
theorem dX8_carry_51 : decode cX8_carry 51 = .ok (.lstore 5, 2) := by decide +kernel
theorem dX8_carry_53 : decode cX8_carry 53 = .ok (.iconst 0, 1) := by decide +kernel
theorem dX8_carry_54 : decode cX8_carry 54 = .ok (.istore 7, 2) := by decide +kernel
theorem dX8_carry_56 : decode cX8_carry 56 = .ok (.iload 7, 2) := by decide +kernel
theorem dX8_carry_58 : decode cX8_carry 58 = .ok (.sipush 500, 3) := by decide +kernel
theorem dX8_carry_61 : decode cX8_carry 61 = .ok (.if_icmp .gt 79, 3) := by decide +kernel
theorem dX8_carry_64 : decode cX8_carry 64 = .ok (.aload_n 0, 1) := by decide +kernel
theorem dX8_carry_65 : decode cX8_carry 65 = .ok (.iload_n 1, 1) := by decide +kernel
theorem dX8_carry_66 : decode cX8_carry 66 = .ok (.iconst 0, 1) := by decide +kernel
theorem dX8_carry_67 : decode cX8_carry 67 = .ok (.aload_n 0, 1) := by decide +kernel
theorem dX8_carry_68 : decode cX8_carry 68 = .ok (.getfield 245, 3) := by decide +kernel
theorem dX8_carry_71 : decode cX8_carry 71 = .ok (.iload 7, 2) := by decide +kernel
theorem dX8_carry_73 : decode cX8_carry 73 = .ok (.iadd, 1) := by decide +kernel
theorem dX8_carry_74 : decode cX8_carry 74 = .ok (.invokevirtual 277, 3) := by decide +kernel
theorem dX8_carry_77 : decode cX8_carry 77 = .ok (.istore 8, 2) := by decide +kernel
theorem dX8_carry_79 : decode cX8_carry 79 = .ok (.iload_n 2, 1) := by decide +kernel
theorem dX8_carry_80 : decode cX8_carry 80 = .ok (.i2l, 1) := by decide +kernel
theorem dX8_carry_81 : decode cX8_carry 81 = .ok (.iload 8, 2) := by decide +kernel
theorem dX8_carry_83 : decode cX8_carry 83 = .ok (.i2l, 1) := by decide +kernel
theorem dX8_carry_84 : decode cX8_carry 84 = .ok (.lmul, 1) := by decide +kernel
theorem dX8_carry_85 : decode cX8_carry 85 = .ok (.iload_n 3, 1) := by decide +kernel
theorem dX8_carry_86 : decode cX8_carry 86 = .ok (.i2l, 1) := by decide +kernel
theorem dX8_carry_87 : decode cX8_carry 87 = .ok (.iload 7, 2) := by decide +kernel
theorem dX8_carry_89 : decode cX8_carry 89 = .ok (.i2l, 1) := by decide +kernel
theorem dX8_carry_90 : decode cX8_carry 90 = .ok (.lmul, 1) := by decide +kernel
theorem dX8_carry_91 : decode cX8_carry 91 = .ok (.lsub, 1) := by decide +kernel
theorem dX8_carry_92 : decode cX8_carry 92 = .ok (.lstore 9, 2) := by decide +kernel
theorem dX8_carry_94 : decode cX8_carry 94 = .ok (.aload_n 0, 1) := by decide +kernel
theorem dX8_carry_95 : decode cX8_carry 95 = .ok (.iload 8, 2) := by decide +kernel
theorem dX8_carry_97 : decode cX8_carry 97 = .ok (.aload_n 0, 1) := by decide +kernel
theorem dX8_carry_98 : decode cX8_carry 98 = .ok (.getfield 245, 3) := by decide +kernel
theorem dX8_carry_101 : decode cX8_carry 101 = .ok (.iload 7, 2) := by decide +kernel
theorem dX8_carry_103 : decode cX8_carry 103 = .ok (.iadd, 1) := by decide +kernel
theorem dX8_carry_104 : decode cX8_carry 104 = .ok (.invokevirtual 280, 3) := by decide +kernel
theorem dX8_carry_107 : decode cX8_carry 107 = .ok (.ifCond .gt 27, 3) := by decide +kernel
theorem dX8_carry_110 : decode cX8_carry 110 = .ok (.iload 7, 2) := by decide +kernel
theorem dX8_carry_112 : decode cX8_carry 112 = .ok (.ifCond .le 14, 3) := by decide +kernel
theorem dX8_carry_115 : decode cX8_carry 115 = .ok (.lload 9, 2) := by decide +kernel
theorem dX8_carry_117 : decode cX8_carry 117 = .ok (.lload 5, 2) := by decide +kernel
theorem dX8_carry_119 : decode cX8_carry 119 = .ok (.lcmp, 1) := by decide +kernel
theorem dX8_carry_120 : decode cX8_carry 120 = .ok (.ifCond .lt 6, 3) := by decide +kernel
theorem dX8_carry_123 : decode cX8_carry 123 = .ok (.goto 11, 3) := by decide +kernel
theorem dX8_carry_126 : decode cX8_carry 126 = .ok (.lload 9, 2) := by decide +kernel
theorem dX8_carry_128 : decode cX8_carry 128 = .ok (.lstore 5, 2) := by decide +kernel
theorem dX8_carry_130 : decode cX8_carry 130 = .ok (.iload 7, 2) := by decide +kernel
theorem dX8_carry_132 : decode cX8_carry 132 = .ok (.istore 4, 2) := by decide +kernel
theorem dX8_carry_134 : decode cX8_carry 134 = .ok (.iinc 7 1, 3) := by decide +kernel
theorem dX8_carry_137 : decode cX8_carry 137 = .ok (.goto (-81), 3) := by decide +kernel
theorem dX8_carry_140 : decode cX8_carry 140 = .ok (.iload 4, 2) := by decide +kernel
theorem dX8_carry_142 : decode cX8_carry 142 = .ok (.ireturn, 1) := by decide +kernel
theorem dX8_about_0 : decode cX8_about 0 = .ok (.iload_n 1, 1) := by decide +kernel
theorem dX8_about_1 : decode cX8_about 1 = .ok (.tableswitch 69 0 3 #[31, 41, 51, 64], 31) := by decide +kernel
theorem dX8_about_32 : decode cX8_about 32 = .ok (.aload_n 0, 1) := by decide +kernel
theorem dX8_about_33 : decode cX8_about 33 = .ok (.getfield 65, 3) := by decide +kernel
theorem dX8_about_36 : decode cX8_about 36 = .ok (.aload_n 0, 1) := by decide +kernel
theorem dX8_about_37 : decode cX8_about 37 = .ok (.getfield 124, 3) := by decide +kernel
theorem dX8_about_40 : decode cX8_about 40 = .ok (.iaload, 1) := by decide +kernel
theorem dX8_about_41 : decode cX8_about 41 = .ok (.ireturn, 1) := by decide +kernel
theorem dX8_about_42 : decode cX8_about 42 = .ok (.aload_n 0, 1) := by decide +kernel
theorem dX8_about_43 : decode cX8_about 43 = .ok (.getfield 61, 3) := by decide +kernel
theorem dX8_about_46 : decode cX8_about 46 = .ok (.aload_n 0, 1) := by decide +kernel
theorem dX8_about_47 : decode cX8_about 47 = .ok (.getfield 124, 3) := by decide +kernel
theorem dX8_about_50 : decode cX8_about 50 = .ok (.iaload, 1) := by decide +kernel
theorem dX8_about_51 : decode cX8_about 51 = .ok (.ireturn, 1) := by decide +kernel
theorem dX8_about_52 : decode cX8_about 52 = .ok (.aload_n 0, 1) := by decide +kernel
theorem dX8_about_53 : decode cX8_about 53 = .ok (.getfield 140, 3) := by decide +kernel
theorem dX8_about_56 : decode cX8_about 56 = .ok (.ifCond .eq 7, 3) := by decide +kernel
theorem dX8_about_59 : decode cX8_about 59 = .ok (.iconst 1, 1) := by decide +kernel
theorem dX8_about_60 : decode cX8_about 60 = .ok (.goto 4, 3) := by decide +kernel
theorem dX8_about_63 : decode cX8_about 63 = .ok (.iconst 0, 1) := by decide +kernel
theorem dX8_about_64 : decode cX8_about 64 = .ok (.ireturn, 1) := by decide +kernel
theorem dX8_about_65 : decode cX8_about 65 = .ok (.aload_n 0, 1) := by decide +kernel
theorem dX8_about_66 : decode cX8_about 66 = .ok (.getfield 121, 3) := by decide +kernel
theorem dX8_about_69 : decode cX8_about 69 = .ok (.ireturn, 1) := by decide +kernel
theorem dX8_about_70 : decode cX8_about 70 = .ok (.iconst (-1), 1) := by decide +kernel
theorem dX8_about_71 : decode cX8_about 71 = .ok (.ireturn, 1) := by decide +kernel
theorem dX8_feed_0 : decode cX8_feed 0 = .ok (.aload_n 0, 1) := by decide +kernel
theorem dX8_feed_1 : decode cX8_feed 1 = .ok (.getfield 121, 3) := by decide +kernel
theorem dX8_feed_4 : decode cX8_feed 4 = .ok (.bipush 20, 2) := by decide +kernel
theorem dX8_feed_6 : decode cX8_feed 6 = .ok (.iadd, 1) := by decide +kernel
theorem dX8_feed_7 : decode cX8_feed 7 = .ok (.sipush 1000, 3) := by decide +kernel
theorem dX8_feed_10 : decode cX8_feed 10 = .ok (.if_icmp .le 5, 3) := by decide +kernel
theorem dX8_feed_13 : decode cX8_feed 13 = .ok (.iconst (-1), 1) := by decide +kernel
theorem dX8_feed_14 : decode cX8_feed 14 = .ok (.ireturn, 1) := by decide +kernel
theorem dX8_feed_15 : decode cX8_feed 15 = .ok (.iconst 0, 1) := by decide +kernel
theorem dX8_feed_16 : decode cX8_feed 16 = .ok (.istore 6, 2) := by decide +kernel
theorem dX8_feed_18 : decode cX8_feed 18 = .ok (.iload 6, 2) := by decide +kernel
theorem dX8_feed_20 : decode cX8_feed 20 = .ok (.bipush 20, 2) := by decide +kernel
theorem dX8_feed_22 : decode cX8_feed 22 = .ok (.if_icmp .ge 83, 3) := by decide +kernel
theorem dX8_feed_25 : decode cX8_feed 25 = .ok (.iload 6, 2) := by decide +kernel
theorem dX8_feed_27 : decode cX8_feed 27 = .ok (.iconst 4, 1) := by decide +kernel
theorem dX8_feed_28 : decode cX8_feed 28 = .ok (.if_icmp .ge 7, 3) := by decide +kernel
theorem dX8_feed_31 : decode cX8_feed 31 = .ok (.iload_n 1, 1) := by decide +kernel
theorem dX8_feed_32 : decode cX8_feed 32 = .ok (.goto 39, 3) := by decide +kernel
theorem dX8_feed_35 : decode cX8_feed 35 = .ok (.iload 6, 2) := by decide +kernel
theorem dX8_feed_37 : decode cX8_feed 37 = .ok (.bipush 8, 2) := by decide +kernel
theorem dX8_feed_39 : decode cX8_feed 39 = .ok (.if_icmp .ge 7, 3) := by decide +kernel
theorem dX8_feed_42 : decode cX8_feed 42 = .ok (.iload_n 2, 1) := by decide +kernel
theorem dX8_feed_43 : decode cX8_feed 43 = .ok (.goto 28, 3) := by decide +kernel
theorem dX8_feed_46 : decode cX8_feed 46 = .ok (.iload 6, 2) := by decide +kernel
theorem dX8_feed_48 : decode cX8_feed 48 = .ok (.bipush 12, 2) := by decide +kernel
theorem dX8_feed_50 : decode cX8_feed 50 = .ok (.if_icmp .ge 7, 3) := by decide +kernel
theorem dX8_feed_53 : decode cX8_feed 53 = .ok (.iload_n 3, 1) := by decide +kernel
theorem dX8_feed_54 : decode cX8_feed 54 = .ok (.goto 17, 3) := by decide +kernel
theorem dX8_feed_57 : decode cX8_feed 57 = .ok (.iload 6, 2) := by decide +kernel
theorem dX8_feed_59 : decode cX8_feed 59 = .ok (.bipush 16, 2) := by decide +kernel
theorem dX8_feed_61 : decode cX8_feed 61 = .ok (.if_icmp .ge 8, 3) := by decide +kernel
theorem dX8_feed_64 : decode cX8_feed 64 = .ok (.iload 4, 2) := by decide +kernel
theorem dX8_feed_66 : decode cX8_feed 66 = .ok (.goto 5, 3) := by decide +kernel
theorem dX8_feed_69 : decode cX8_feed 69 = .ok (.iload 5, 2) := by decide +kernel
theorem dX8_feed_71 : decode cX8_feed 71 = .ok (.istore 7, 2) := by decide +kernel
theorem dX8_feed_73 : decode cX8_feed 73 = .ok (.aload_n 0, 1) := by decide +kernel
theorem dX8_feed_74 : decode cX8_feed 74 = .ok (.getfield 58, 3) := by decide +kernel
theorem dX8_feed_77 : decode cX8_feed 77 = .ok (.aload_n 0, 1) := by decide +kernel
theorem dX8_feed_78 : decode cX8_feed 78 = .ok (.getfield 121, 3) := by decide +kernel
theorem dX8_feed_81 : decode cX8_feed 81 = .ok (.iload 6, 2) := by decide +kernel
theorem dX8_feed_83 : decode cX8_feed 83 = .ok (.iadd, 1) := by decide +kernel
theorem dX8_feed_84 : decode cX8_feed 84 = .ok (.iload 7, 2) := by decide +kernel
theorem dX8_feed_86 : decode cX8_feed 86 = .ok (.bipush 24, 2) := by decide +kernel
theorem dX8_feed_88 : decode cX8_feed 88 = .ok (.bipush 8, 2) := by decide +kernel
theorem dX8_feed_90 : decode cX8_feed 90 = .ok (.iload 6, 2) := by decide +kernel
theorem dX8_feed_92 : decode cX8_feed 92 = .ok (.iconst 3, 1) := by decide +kernel
theorem dX8_feed_93 : decode cX8_feed 93 = .ok (.iand, 1) := by decide +kernel
theorem dX8_feed_94 : decode cX8_feed 94 = .ok (.imul, 1) := by decide +kernel
theorem dX8_feed_95 : decode cX8_feed 95 = .ok (.isub, 1) := by decide +kernel
theorem dX8_feed_96 : decode cX8_feed 96 = .ok (.ishr, 1) := by decide +kernel
theorem dX8_feed_97 : decode cX8_feed 97 = .ok (.i2b, 1) := by decide +kernel
theorem dX8_feed_98 : decode cX8_feed 98 = .ok (.bastore, 1) := by decide +kernel
theorem dX8_feed_99 : decode cX8_feed 99 = .ok (.iinc 6 1, 3) := by decide +kernel
theorem dX8_feed_102 : decode cX8_feed 102 = .ok (.goto (-84), 3) := by decide +kernel
theorem dX8_feed_105 : decode cX8_feed 105 = .ok (.aload_n 0, 1) := by decide +kernel
theorem dX8_feed_106 : decode cX8_feed 106 = .ok (.dup, 1) := by decide +kernel
theorem dX8_feed_107 : decode cX8_feed 107 = .ok (.getfield 121, 3) := by decide +kernel
theorem dX8_feed_110 : decode cX8_feed 110 = .ok (.bipush 20, 2) := by decide +kernel
theorem dX8_feed_112 : decode cX8_feed 112 = .ok (.iadd, 1) := by decide +kernel
theorem dX8_feed_113 : decode cX8_feed 113 = .ok (.putfield 121, 3) := by decide +kernel
theorem dX8_feed_116 : decode cX8_feed 116 = .ok (.aload_n 0, 1) := by decide +kernel
theorem dX8_feed_117 : decode cX8_feed 117 = .ok (.getfield 121, 3) := by decide +kernel
theorem dX8_feed_120 : decode cX8_feed 120 = .ok (.ireturn, 1) := by decide +kernel
theorem dX8_end_0 : decode cX8_end 0 = .ok (.iload_n 1, 1) := by decide +kernel
theorem dX8_end_1 : decode cX8_end 1 = .ok (.ifCond .lt 11, 3) := by decide +kernel
theorem dX8_end_4 : decode cX8_end 4 = .ok (.iload_n 1, 1) := by decide +kernel
theorem dX8_end_5 : decode cX8_end 5 = .ok (.aload_n 0, 1) := by decide +kernel
theorem dX8_end_6 : decode cX8_end 6 = .ok (.getfield 121, 3) := by decide +kernel
theorem dX8_end_9 : decode cX8_end 9 = .ok (.if_icmp .le 5, 3) := by decide +kernel
theorem dX8_end_12 : decode cX8_end 12 = .ok (.iconst (-1), 1) := by decide +kernel
theorem dX8_end_13 : decode cX8_end 13 = .ok (.ireturn, 1) := by decide +kernel
theorem dX8_end_14 : decode cX8_end 14 = .ok (.aload_n 0, 1) := by decide +kernel
theorem dX8_end_15 : decode cX8_end 15 = .ok (.iload_n 1, 1) := by decide +kernel
theorem dX8_end_16 : decode cX8_end 16 = .ok (.putfield 121, 3) := by decide +kernel
theorem dX8_end_19 : decode cX8_end 19 = .ok (.iload_n 1, 1) := by decide +kernel
theorem dX8_end_20 : decode cX8_end 20 = .ok (.ireturn, 1) := by decide +kernel
theorem dJ7_fill_53178_0 : decode cJ7_fill_53178 0 = .ok (.iconst 0, 1) := by decide +kernel
theorem dJ7_fill_53178_1 : decode cJ7_fill_53178 1 = .ok (.istore_n 2, 1) := by decide +kernel
theorem dJ7_fill_53178_2 : decode cJ7_fill_53178 2 = .ok (.aload_n 0, 1) := by decide +kernel
theorem dJ7_fill_53178_3 : decode cJ7_fill_53178 3 = .ok (.arraylength, 1) := by decide +kernel
theorem dJ7_fill_53178_4 : decode cJ7_fill_53178 4 = .ok (.istore_n 3, 1) := by decide +kernel
theorem dJ7_fill_53178_5 : decode cJ7_fill_53178 5 = .ok (.iload_n 2, 1) := by decide +kernel
theorem dJ7_fill_53178_6 : decode cJ7_fill_53178 6 = .ok (.iload_n 3, 1) := by decide +kernel
theorem dJ7_fill_53178_7 : decode cJ7_fill_53178 7 = .ok (.if_icmp .ge 13, 3) := by decide +kernel
theorem dJ7_fill_53178_10 : decode cJ7_fill_53178 10 = .ok (.aload_n 0, 1) := by decide +kernel
theorem dJ7_fill_53178_11 : decode cJ7_fill_53178 11 = .ok (.iload_n 2, 1) := by decide +kernel
theorem dJ7_fill_53178_12 : decode cJ7_fill_53178 12 = .ok (.iload_n 1, 1) := by decide +kernel
theorem dJ7_fill_53178_13 : decode cJ7_fill_53178 13 = .ok (.iastore, 1) := by decide +kernel
theorem dJ7_fill_53178_14 : decode cJ7_fill_53178 14 = .ok (.iinc 2 1, 3) := by decide +kernel
theorem dJ7_fill_53178_17 : decode cJ7_fill_53178 17 = .ok (.goto (-12), 3) := by decide +kernel
theorem dJ7_fill_53178_20 : decode cJ7_fill_53178 20 = .ok (.return_, 1) := by decide +kernel
end
section
theorem dL_law_0 : decode cL_law 0 = .ok (.new 7, 3) := by decide +kernel
theorem dL_law_3 : decode cL_law 3 = .ok (.dup, 1) := by decide +kernel
theorem dL_law_4 : decode cL_law 4 = .ok (.invokespecial 9, 3) := by decide +kernel
theorem dL_law_7 : decode cL_law 7 = .ok (.astore_n 1, 1) := by decide +kernel
theorem dL_law_8 : decode cL_law 8 = .ok (.new 10, 3) := by decide +kernel
theorem dL_law_11 : decode cL_law 11 = .ok (.dup, 1) := by decide +kernel
theorem dL_law_12 : decode cL_law 12 = .ok (.invokespecial 12, 3) := by decide +kernel
theorem dL_law_15 : decode cL_law 15 = .ok (.astore_n 2, 1) := by decide +kernel
theorem dL_law_16 : decode cL_law 16 = .ok (.iconst 0, 1) := by decide +kernel
theorem dL_law_17 : decode cL_law 17 = .ok (.istore_n 3, 1) := by decide +kernel
theorem dL_law_18 : decode cL_law 18 = .ok (.iload_n 3, 1) := by decide +kernel
theorem dL_law_19 : decode cL_law 19 = .ok (.aload_n 0, 1) := by decide +kernel
theorem dL_law_20 : decode cL_law 20 = .ok (.arraylength, 1) := by decide +kernel
theorem dL_law_21 : decode cL_law 21 = .ok (.bipush 6, 2) := by decide +kernel
theorem dL_law_23 : decode cL_law 23 = .ok (.isub, 1) := by decide +kernel
theorem dL_law_24 : decode cL_law 24 = .ok (.if_icmp .gt 773, 3) := by decide +kernel
theorem dL_law_27 : decode cL_law 27 = .ok (.aload_n 0, 1) := by decide +kernel
theorem dL_law_28 : decode cL_law 28 = .ok (.iload_n 3, 1) := by decide +kernel
theorem dL_law_29 : decode cL_law 29 = .ok (.iaload, 1) := by decide +kernel
theorem dL_law_30 : decode cL_law 30 = .ok (.bipush 31, 2) := by decide +kernel
theorem dL_law_32 : decode cL_law 32 = .ok (.iand, 1) := by decide +kernel
theorem dL_law_33 : decode cL_law 33 = .ok (.tableswitch 758 0 18 #[91, 154, 177, 190, 213, 276, 329, 372, 425, 448, 471, 514, 537, 560, 583, 626, 659, 692, 735], 91) := by decide +kernel
theorem dL_law_124 : decode cL_law 124 = .ok (.aload_n 1, 1) := by decide +kernel
theorem dL_law_125 : decode cL_law 125 = .ok (.aload_n 0, 1) := by decide +kernel
theorem dL_law_126 : decode cL_law 126 = .ok (.iload_n 3, 1) := by decide +kernel
theorem dL_law_127 : decode cL_law 127 = .ok (.iconst 1, 1) := by decide +kernel
theorem dL_law_128 : decode cL_law 128 = .ok (.iadd, 1) := by decide +kernel
theorem dL_law_129 : decode cL_law 129 = .ok (.iaload, 1) := by decide +kernel
theorem dL_law_130 : decode cL_law 130 = .ok (.aload_n 0, 1) := by decide +kernel
theorem dL_law_131 : decode cL_law 131 = .ok (.iload_n 3, 1) := by decide +kernel
theorem dL_law_132 : decode cL_law 132 = .ok (.iconst 2, 1) := by decide +kernel
theorem dL_law_133 : decode cL_law 133 = .ok (.iadd, 1) := by decide +kernel
theorem dL_law_134 : decode cL_law 134 = .ok (.iaload, 1) := by decide +kernel
theorem dL_law_135 : decode cL_law 135 = .ok (.aload_n 0, 1) := by decide +kernel
theorem dL_law_136 : decode cL_law 136 = .ok (.iload_n 3, 1) := by decide +kernel
theorem dL_law_137 : decode cL_law 137 = .ok (.iconst 3, 1) := by decide +kernel
theorem dL_law_138 : decode cL_law 138 = .ok (.iadd, 1) := by decide +kernel
theorem dL_law_139 : decode cL_law 139 = .ok (.iaload, 1) := by decide +kernel
theorem dL_law_140 : decode cL_law 140 = .ok (.aload_n 0, 1) := by decide +kernel
theorem dL_law_141 : decode cL_law 141 = .ok (.iload_n 3, 1) := by decide +kernel
theorem dL_law_142 : decode cL_law 142 = .ok (.iconst 4, 1) := by decide +kernel
theorem dL_law_143 : decode cL_law 143 = .ok (.iadd, 1) := by decide +kernel
theorem dL_law_144 : decode cL_law 144 = .ok (.iaload, 1) := by decide +kernel
theorem dL_law_145 : decode cL_law 145 = .ok (.aload_n 0, 1) := by decide +kernel
theorem dL_law_146 : decode cL_law 146 = .ok (.iload_n 3, 1) := by decide +kernel
theorem dL_law_147 : decode cL_law 147 = .ok (.iconst 5, 1) := by decide +kernel
theorem dL_law_148 : decode cL_law 148 = .ok (.iadd, 1) := by decide +kernel
theorem dL_law_149 : decode cL_law 149 = .ok (.iaload, 1) := by decide +kernel
theorem dL_law_150 : decode cL_law 150 = .ok (.invokevirtual 13, 3) := by decide +kernel
theorem dL_law_153 : decode cL_law 153 = .ok (.aload_n 2, 1) := by decide +kernel
theorem dL_law_154 : decode cL_law 154 = .ok (.aload_n 0, 1) := by decide +kernel
theorem dL_law_155 : decode cL_law 155 = .ok (.iload_n 3, 1) := by decide +kernel
theorem dL_law_156 : decode cL_law 156 = .ok (.iconst 1, 1) := by decide +kernel
theorem dL_law_157 : decode cL_law 157 = .ok (.iadd, 1) := by decide +kernel
theorem dL_law_158 : decode cL_law 158 = .ok (.iaload, 1) := by decide +kernel
theorem dL_law_159 : decode cL_law 159 = .ok (.aload_n 0, 1) := by decide +kernel
theorem dL_law_160 : decode cL_law 160 = .ok (.iload_n 3, 1) := by decide +kernel
theorem dL_law_161 : decode cL_law 161 = .ok (.iconst 2, 1) := by decide +kernel
theorem dL_law_162 : decode cL_law 162 = .ok (.iadd, 1) := by decide +kernel
theorem dL_law_163 : decode cL_law 163 = .ok (.iaload, 1) := by decide +kernel
theorem dL_law_164 : decode cL_law 164 = .ok (.aload_n 0, 1) := by decide +kernel
theorem dL_law_165 : decode cL_law 165 = .ok (.iload_n 3, 1) := by decide +kernel
theorem dL_law_166 : decode cL_law 166 = .ok (.iconst 3, 1) := by decide +kernel
theorem dL_law_167 : decode cL_law 167 = .ok (.iadd, 1) := by decide +kernel
theorem dL_law_168 : decode cL_law 168 = .ok (.iaload, 1) := by decide +kernel
theorem dL_law_169 : decode cL_law 169 = .ok (.aload_n 0, 1) := by decide +kernel
theorem dL_law_170 : decode cL_law 170 = .ok (.iload_n 3, 1) := by decide +kernel
theorem dL_law_171 : decode cL_law 171 = .ok (.iconst 4, 1) := by decide +kernel
theorem dL_law_172 : decode cL_law 172 = .ok (.iadd, 1) := by decide +kernel
theorem dL_law_173 : decode cL_law 173 = .ok (.iaload, 1) := by decide +kernel
theorem dL_law_174 : decode cL_law 174 = .ok (.aload_n 0, 1) := by decide +kernel
theorem dL_law_175 : decode cL_law 175 = .ok (.iload_n 3, 1) := by decide +kernel
theorem dL_law_176 : decode cL_law 176 = .ok (.iconst 5, 1) := by decide +kernel
theorem dL_law_177 : decode cL_law 177 = .ok (.iadd, 1) := by decide +kernel
theorem dL_law_178 : decode cL_law 178 = .ok (.iaload, 1) := by decide +kernel
theorem dL_law_179 : decode cL_law 179 = .ok (.invokevirtual 17, 3) := by decide +kernel
theorem dL_law_182 : decode cL_law 182 = .ok (.if_icmp .eq 609, 3) := by decide +kernel
theorem dL_law_185 : decode cL_law 185 = .ok (.iconst 0, 1) := by decide +kernel
theorem dL_law_186 : decode cL_law 186 = .ok (.ireturn, 1) := by decide +kernel
theorem dL_law_187 : decode cL_law 187 = .ok (.aload_n 1, 1) := by decide +kernel
theorem dL_law_188 : decode cL_law 188 = .ok (.aload_n 0, 1) := by decide +kernel
theorem dL_law_189 : decode cL_law 189 = .ok (.iload_n 3, 1) := by decide +kernel
theorem dL_law_190 : decode cL_law 190 = .ok (.iconst 1, 1) := by decide +kernel
theorem dL_law_191 : decode cL_law 191 = .ok (.iadd, 1) := by decide +kernel
theorem dL_law_192 : decode cL_law 192 = .ok (.iaload, 1) := by decide +kernel
theorem dL_law_193 : decode cL_law 193 = .ok (.invokevirtual 18, 3) := by decide +kernel
theorem dL_law_196 : decode cL_law 196 = .ok (.aload_n 2, 1) := by decide +kernel
theorem dL_law_197 : decode cL_law 197 = .ok (.aload_n 0, 1) := by decide +kernel
theorem dL_law_198 : decode cL_law 198 = .ok (.iload_n 3, 1) := by decide +kernel
theorem dL_law_199 : decode cL_law 199 = .ok (.iconst 1, 1) := by decide +kernel
theorem dL_law_200 : decode cL_law 200 = .ok (.iadd, 1) := by decide +kernel
theorem dL_law_201 : decode cL_law 201 = .ok (.iaload, 1) := by decide +kernel
theorem dL_law_202 : decode cL_law 202 = .ok (.invokevirtual 22, 3) := by decide +kernel
theorem dL_law_205 : decode cL_law 205 = .ok (.if_icmp .eq 586, 3) := by decide +kernel
theorem dL_law_208 : decode cL_law 208 = .ok (.iconst 0, 1) := by decide +kernel
theorem dL_law_209 : decode cL_law 209 = .ok (.ireturn, 1) := by decide +kernel
theorem dL_law_210 : decode cL_law 210 = .ok (.aload_n 1, 1) := by decide +kernel
theorem dL_law_211 : decode cL_law 211 = .ok (.invokevirtual 23, 3) := by decide +kernel
theorem dL_law_214 : decode cL_law 214 = .ok (.aload_n 2, 1) := by decide +kernel
theorem dL_law_215 : decode cL_law 215 = .ok (.invokevirtual 27, 3) := by decide +kernel
theorem dL_law_218 : decode cL_law 218 = .ok (.if_icmp .eq 573, 3) := by decide +kernel
theorem dL_law_221 : decode cL_law 221 = .ok (.iconst 0, 1) := by decide +kernel
theorem dL_law_222 : decode cL_law 222 = .ok (.ireturn, 1) := by decide +kernel
theorem dL_law_223 : decode cL_law 223 = .ok (.aload_n 1, 1) := by decide +kernel
theorem dL_law_224 : decode cL_law 224 = .ok (.aload_n 0, 1) := by decide +kernel
theorem dL_law_225 : decode cL_law 225 = .ok (.iload_n 3, 1) := by decide +kernel
theorem dL_law_226 : decode cL_law 226 = .ok (.iconst 1, 1) := by decide +kernel
theorem dL_law_227 : decode cL_law 227 = .ok (.iadd, 1) := by decide +kernel
theorem dL_law_228 : decode cL_law 228 = .ok (.iaload, 1) := by decide +kernel
theorem dL_law_229 : decode cL_law 229 = .ok (.invokevirtual 28, 3) := by decide +kernel
theorem dL_law_232 : decode cL_law 232 = .ok (.aload_n 2, 1) := by decide +kernel
theorem dL_law_233 : decode cL_law 233 = .ok (.aload_n 0, 1) := by decide +kernel
theorem dL_law_234 : decode cL_law 234 = .ok (.iload_n 3, 1) := by decide +kernel
theorem dL_law_235 : decode cL_law 235 = .ok (.iconst 1, 1) := by decide +kernel
theorem dL_law_236 : decode cL_law 236 = .ok (.iadd, 1) := by decide +kernel
theorem dL_law_237 : decode cL_law 237 = .ok (.iaload, 1) := by decide +kernel
theorem dL_law_238 : decode cL_law 238 = .ok (.invokevirtual 31, 3) := by decide +kernel
theorem dL_law_241 : decode cL_law 241 = .ok (.if_icmp .eq 550, 3) := by decide +kernel
theorem dL_law_244 : decode cL_law 244 = .ok (.iconst 0, 1) := by decide +kernel
theorem dL_law_245 : decode cL_law 245 = .ok (.ireturn, 1) := by decide +kernel
theorem dL_law_246 : decode cL_law 246 = .ok (.aload_n 1, 1) := by decide +kernel
theorem dL_law_247 : decode cL_law 247 = .ok (.aload_n 0, 1) := by decide +kernel
theorem dL_law_248 : decode cL_law 248 = .ok (.iload_n 3, 1) := by decide +kernel
theorem dL_law_249 : decode cL_law 249 = .ok (.iconst 1, 1) := by decide +kernel
theorem dL_law_250 : decode cL_law 250 = .ok (.iadd, 1) := by decide +kernel
theorem dL_law_251 : decode cL_law 251 = .ok (.iaload, 1) := by decide +kernel
theorem dL_law_252 : decode cL_law 252 = .ok (.aload_n 0, 1) := by decide +kernel
theorem dL_law_253 : decode cL_law 253 = .ok (.iload_n 3, 1) := by decide +kernel
theorem dL_law_254 : decode cL_law 254 = .ok (.iconst 2, 1) := by decide +kernel
theorem dL_law_255 : decode cL_law 255 = .ok (.iadd, 1) := by decide +kernel
theorem dL_law_256 : decode cL_law 256 = .ok (.iaload, 1) := by decide +kernel
theorem dL_law_257 : decode cL_law 257 = .ok (.aload_n 0, 1) := by decide +kernel
theorem dL_law_258 : decode cL_law 258 = .ok (.iload_n 3, 1) := by decide +kernel
theorem dL_law_259 : decode cL_law 259 = .ok (.iconst 3, 1) := by decide +kernel
theorem dL_law_260 : decode cL_law 260 = .ok (.iadd, 1) := by decide +kernel
theorem dL_law_261 : decode cL_law 261 = .ok (.iaload, 1) := by decide +kernel
theorem dL_law_262 : decode cL_law 262 = .ok (.aload_n 0, 1) := by decide +kernel
theorem dL_law_263 : decode cL_law 263 = .ok (.iload_n 3, 1) := by decide +kernel
theorem dL_law_264 : decode cL_law 264 = .ok (.iconst 4, 1) := by decide +kernel
theorem dL_law_265 : decode cL_law 265 = .ok (.iadd, 1) := by decide +kernel
theorem dL_law_266 : decode cL_law 266 = .ok (.iaload, 1) := by decide +kernel
theorem dL_law_267 : decode cL_law 267 = .ok (.aload_n 0, 1) := by decide +kernel
theorem dL_law_268 : decode cL_law 268 = .ok (.iload_n 3, 1) := by decide +kernel
theorem dL_law_269 : decode cL_law 269 = .ok (.iconst 5, 1) := by decide +kernel
theorem dL_law_270 : decode cL_law 270 = .ok (.iadd, 1) := by decide +kernel
theorem dL_law_271 : decode cL_law 271 = .ok (.iaload, 1) := by decide +kernel
theorem dL_law_272 : decode cL_law 272 = .ok (.invokevirtual 32, 3) := by decide +kernel
theorem dL_law_275 : decode cL_law 275 = .ok (.aload_n 2, 1) := by decide +kernel
theorem dL_law_276 : decode cL_law 276 = .ok (.aload_n 0, 1) := by decide +kernel
theorem dL_law_277 : decode cL_law 277 = .ok (.iload_n 3, 1) := by decide +kernel
theorem dL_law_278 : decode cL_law 278 = .ok (.iconst 1, 1) := by decide +kernel
theorem dL_law_279 : decode cL_law 279 = .ok (.iadd, 1) := by decide +kernel
theorem dL_law_280 : decode cL_law 280 = .ok (.iaload, 1) := by decide +kernel
theorem dL_law_281 : decode cL_law 281 = .ok (.aload_n 0, 1) := by decide +kernel
theorem dL_law_282 : decode cL_law 282 = .ok (.iload_n 3, 1) := by decide +kernel
theorem dL_law_283 : decode cL_law 283 = .ok (.iconst 2, 1) := by decide +kernel
theorem dL_law_284 : decode cL_law 284 = .ok (.iadd, 1) := by decide +kernel
theorem dL_law_285 : decode cL_law 285 = .ok (.iaload, 1) := by decide +kernel
theorem dL_law_286 : decode cL_law 286 = .ok (.aload_n 0, 1) := by decide +kernel
theorem dL_law_287 : decode cL_law 287 = .ok (.iload_n 3, 1) := by decide +kernel
theorem dL_law_288 : decode cL_law 288 = .ok (.iconst 3, 1) := by decide +kernel
theorem dL_law_289 : decode cL_law 289 = .ok (.iadd, 1) := by decide +kernel
theorem dL_law_290 : decode cL_law 290 = .ok (.iaload, 1) := by decide +kernel
theorem dL_law_291 : decode cL_law 291 = .ok (.aload_n 0, 1) := by decide +kernel
theorem dL_law_292 : decode cL_law 292 = .ok (.iload_n 3, 1) := by decide +kernel
theorem dL_law_293 : decode cL_law 293 = .ok (.iconst 4, 1) := by decide +kernel
theorem dL_law_294 : decode cL_law 294 = .ok (.iadd, 1) := by decide +kernel
theorem dL_law_295 : decode cL_law 295 = .ok (.iaload, 1) := by decide +kernel
theorem dL_law_296 : decode cL_law 296 = .ok (.aload_n 0, 1) := by decide +kernel
theorem dL_law_297 : decode cL_law 297 = .ok (.iload_n 3, 1) := by decide +kernel
theorem dL_law_298 : decode cL_law 298 = .ok (.iconst 5, 1) := by decide +kernel
theorem dL_law_299 : decode cL_law 299 = .ok (.iadd, 1) := by decide +kernel
theorem dL_law_300 : decode cL_law 300 = .ok (.iaload, 1) := by decide +kernel
theorem dL_law_301 : decode cL_law 301 = .ok (.invokevirtual 36, 3) := by decide +kernel
theorem dL_law_304 : decode cL_law 304 = .ok (.if_icmp .eq 487, 3) := by decide +kernel
theorem dL_law_307 : decode cL_law 307 = .ok (.iconst 0, 1) := by decide +kernel
theorem dL_law_308 : decode cL_law 308 = .ok (.ireturn, 1) := by decide +kernel
theorem dL_law_309 : decode cL_law 309 = .ok (.aload_n 1, 1) := by decide +kernel
theorem dL_law_310 : decode cL_law 310 = .ok (.aload_n 0, 1) := by decide +kernel
theorem dL_law_311 : decode cL_law 311 = .ok (.iload_n 3, 1) := by decide +kernel
theorem dL_law_312 : decode cL_law 312 = .ok (.iconst 1, 1) := by decide +kernel
theorem dL_law_313 : decode cL_law 313 = .ok (.iadd, 1) := by decide +kernel
theorem dL_law_314 : decode cL_law 314 = .ok (.iaload, 1) := by decide +kernel
theorem dL_law_315 : decode cL_law 315 = .ok (.aload_n 0, 1) := by decide +kernel
theorem dL_law_316 : decode cL_law 316 = .ok (.iload_n 3, 1) := by decide +kernel
theorem dL_law_317 : decode cL_law 317 = .ok (.iconst 2, 1) := by decide +kernel
theorem dL_law_318 : decode cL_law 318 = .ok (.iadd, 1) := by decide +kernel
theorem dL_law_319 : decode cL_law 319 = .ok (.iaload, 1) := by decide +kernel
theorem dL_law_320 : decode cL_law 320 = .ok (.aload_n 0, 1) := by decide +kernel
theorem dL_law_321 : decode cL_law 321 = .ok (.iload_n 3, 1) := by decide +kernel
theorem dL_law_322 : decode cL_law 322 = .ok (.iconst 3, 1) := by decide +kernel
theorem dL_law_323 : decode cL_law 323 = .ok (.iadd, 1) := by decide +kernel
theorem dL_law_324 : decode cL_law 324 = .ok (.iaload, 1) := by decide +kernel
theorem dL_law_325 : decode cL_law 325 = .ok (.aload_n 0, 1) := by decide +kernel
theorem dL_law_326 : decode cL_law 326 = .ok (.iload_n 3, 1) := by decide +kernel
theorem dL_law_327 : decode cL_law 327 = .ok (.iconst 4, 1) := by decide +kernel
theorem dL_law_328 : decode cL_law 328 = .ok (.iadd, 1) := by decide +kernel
theorem dL_law_329 : decode cL_law 329 = .ok (.iaload, 1) := by decide +kernel
theorem dL_law_330 : decode cL_law 330 = .ok (.invokevirtual 37, 3) := by decide +kernel
theorem dL_law_333 : decode cL_law 333 = .ok (.aload_n 2, 1) := by decide +kernel
end
section
theorem dL_law_334 : decode cL_law 334 = .ok (.aload_n 0, 1) := by decide +kernel
theorem dL_law_335 : decode cL_law 335 = .ok (.iload_n 3, 1) := by decide +kernel
theorem dL_law_336 : decode cL_law 336 = .ok (.iconst 1, 1) := by decide +kernel
theorem dL_law_337 : decode cL_law 337 = .ok (.iadd, 1) := by decide +kernel
theorem dL_law_338 : decode cL_law 338 = .ok (.iaload, 1) := by decide +kernel
theorem dL_law_339 : decode cL_law 339 = .ok (.aload_n 0, 1) := by decide +kernel
theorem dL_law_340 : decode cL_law 340 = .ok (.iload_n 3, 1) := by decide +kernel
theorem dL_law_341 : decode cL_law 341 = .ok (.iconst 2, 1) := by decide +kernel
theorem dL_law_342 : decode cL_law 342 = .ok (.iadd, 1) := by decide +kernel
theorem dL_law_343 : decode cL_law 343 = .ok (.iaload, 1) := by decide +kernel
theorem dL_law_344 : decode cL_law 344 = .ok (.aload_n 0, 1) := by decide +kernel
theorem dL_law_345 : decode cL_law 345 = .ok (.iload_n 3, 1) := by decide +kernel
theorem dL_law_346 : decode cL_law 346 = .ok (.iconst 3, 1) := by decide +kernel
theorem dL_law_347 : decode cL_law 347 = .ok (.iadd, 1) := by decide +kernel
theorem dL_law_348 : decode cL_law 348 = .ok (.iaload, 1) := by decide +kernel
theorem dL_law_349 : decode cL_law 349 = .ok (.aload_n 0, 1) := by decide +kernel
theorem dL_law_350 : decode cL_law 350 = .ok (.iload_n 3, 1) := by decide +kernel
theorem dL_law_351 : decode cL_law 351 = .ok (.iconst 4, 1) := by decide +kernel
theorem dL_law_352 : decode cL_law 352 = .ok (.iadd, 1) := by decide +kernel
theorem dL_law_353 : decode cL_law 353 = .ok (.iaload, 1) := by decide +kernel
theorem dL_law_354 : decode cL_law 354 = .ok (.invokevirtual 41, 3) := by decide +kernel
theorem dL_law_357 : decode cL_law 357 = .ok (.if_icmp .eq 434, 3) := by decide +kernel
theorem dL_law_360 : decode cL_law 360 = .ok (.iconst 0, 1) := by decide +kernel
theorem dL_law_361 : decode cL_law 361 = .ok (.ireturn, 1) := by decide +kernel
theorem dL_law_362 : decode cL_law 362 = .ok (.aload_n 1, 1) := by decide +kernel
theorem dL_law_363 : decode cL_law 363 = .ok (.aload_n 0, 1) := by decide +kernel
theorem dL_law_364 : decode cL_law 364 = .ok (.iload_n 3, 1) := by decide +kernel
theorem dL_law_365 : decode cL_law 365 = .ok (.iconst 1, 1) := by decide +kernel
theorem dL_law_366 : decode cL_law 366 = .ok (.iadd, 1) := by decide +kernel
theorem dL_law_367 : decode cL_law 367 = .ok (.iaload, 1) := by decide +kernel
theorem dL_law_368 : decode cL_law 368 = .ok (.aload_n 0, 1) := by decide +kernel
theorem dL_law_369 : decode cL_law 369 = .ok (.iload_n 3, 1) := by decide +kernel
theorem dL_law_370 : decode cL_law 370 = .ok (.iconst 2, 1) := by decide +kernel
theorem dL_law_371 : decode cL_law 371 = .ok (.iadd, 1) := by decide +kernel
theorem dL_law_372 : decode cL_law 372 = .ok (.iaload, 1) := by decide +kernel
theorem dL_law_373 : decode cL_law 373 = .ok (.aload_n 0, 1) := by decide +kernel
theorem dL_law_374 : decode cL_law 374 = .ok (.iload_n 3, 1) := by decide +kernel
theorem dL_law_375 : decode cL_law 375 = .ok (.iconst 3, 1) := by decide +kernel
theorem dL_law_376 : decode cL_law 376 = .ok (.iadd, 1) := by decide +kernel
theorem dL_law_377 : decode cL_law 377 = .ok (.iaload, 1) := by decide +kernel
theorem dL_law_378 : decode cL_law 378 = .ok (.invokevirtual 42, 3) := by decide +kernel
theorem dL_law_381 : decode cL_law 381 = .ok (.aload_n 2, 1) := by decide +kernel
theorem dL_law_382 : decode cL_law 382 = .ok (.aload_n 0, 1) := by decide +kernel
theorem dL_law_383 : decode cL_law 383 = .ok (.iload_n 3, 1) := by decide +kernel
theorem dL_law_384 : decode cL_law 384 = .ok (.iconst 1, 1) := by decide +kernel
theorem dL_law_385 : decode cL_law 385 = .ok (.iadd, 1) := by decide +kernel
theorem dL_law_386 : decode cL_law 386 = .ok (.iaload, 1) := by decide +kernel
theorem dL_law_387 : decode cL_law 387 = .ok (.aload_n 0, 1) := by decide +kernel
theorem dL_law_388 : decode cL_law 388 = .ok (.iload_n 3, 1) := by decide +kernel
theorem dL_law_389 : decode cL_law 389 = .ok (.iconst 2, 1) := by decide +kernel
theorem dL_law_390 : decode cL_law 390 = .ok (.iadd, 1) := by decide +kernel
theorem dL_law_391 : decode cL_law 391 = .ok (.iaload, 1) := by decide +kernel
theorem dL_law_392 : decode cL_law 392 = .ok (.aload_n 0, 1) := by decide +kernel
theorem dL_law_393 : decode cL_law 393 = .ok (.iload_n 3, 1) := by decide +kernel
theorem dL_law_394 : decode cL_law 394 = .ok (.iconst 3, 1) := by decide +kernel
theorem dL_law_395 : decode cL_law 395 = .ok (.iadd, 1) := by decide +kernel
theorem dL_law_396 : decode cL_law 396 = .ok (.iaload, 1) := by decide +kernel
theorem dL_law_397 : decode cL_law 397 = .ok (.invokevirtual 46, 3) := by decide +kernel
theorem dL_law_400 : decode cL_law 400 = .ok (.if_icmp .eq 391, 3) := by decide +kernel
theorem dL_law_403 : decode cL_law 403 = .ok (.iconst 0, 1) := by decide +kernel
theorem dL_law_404 : decode cL_law 404 = .ok (.ireturn, 1) := by decide +kernel
theorem dL_law_405 : decode cL_law 405 = .ok (.aload_n 1, 1) := by decide +kernel
theorem dL_law_406 : decode cL_law 406 = .ok (.aload_n 0, 1) := by decide +kernel
theorem dL_law_407 : decode cL_law 407 = .ok (.iload_n 3, 1) := by decide +kernel
theorem dL_law_408 : decode cL_law 408 = .ok (.iconst 1, 1) := by decide +kernel
theorem dL_law_409 : decode cL_law 409 = .ok (.iadd, 1) := by decide +kernel
theorem dL_law_410 : decode cL_law 410 = .ok (.iaload, 1) := by decide +kernel
theorem dL_law_411 : decode cL_law 411 = .ok (.aload_n 0, 1) := by decide +kernel
theorem dL_law_412 : decode cL_law 412 = .ok (.iload_n 3, 1) := by decide +kernel
theorem dL_law_413 : decode cL_law 413 = .ok (.iconst 2, 1) := by decide +kernel
theorem dL_law_414 : decode cL_law 414 = .ok (.iadd, 1) := by decide +kernel
theorem dL_law_415 : decode cL_law 415 = .ok (.iaload, 1) := by decide +kernel
theorem dL_law_416 : decode cL_law 416 = .ok (.aload_n 0, 1) := by decide +kernel
theorem dL_law_417 : decode cL_law 417 = .ok (.iload_n 3, 1) := by decide +kernel
theorem dL_law_418 : decode cL_law 418 = .ok (.iconst 3, 1) := by decide +kernel
theorem dL_law_419 : decode cL_law 419 = .ok (.iadd, 1) := by decide +kernel
theorem dL_law_420 : decode cL_law 420 = .ok (.iaload, 1) := by decide +kernel
theorem dL_law_421 : decode cL_law 421 = .ok (.aload_n 0, 1) := by decide +kernel
theorem dL_law_422 : decode cL_law 422 = .ok (.iload_n 3, 1) := by decide +kernel
theorem dL_law_423 : decode cL_law 423 = .ok (.iconst 4, 1) := by decide +kernel
theorem dL_law_424 : decode cL_law 424 = .ok (.iadd, 1) := by decide +kernel
theorem dL_law_425 : decode cL_law 425 = .ok (.iaload, 1) := by decide +kernel
theorem dL_law_426 : decode cL_law 426 = .ok (.invokevirtual 47, 3) := by decide +kernel
theorem dL_law_429 : decode cL_law 429 = .ok (.aload_n 2, 1) := by decide +kernel
theorem dL_law_430 : decode cL_law 430 = .ok (.aload_n 0, 1) := by decide +kernel
theorem dL_law_431 : decode cL_law 431 = .ok (.iload_n 3, 1) := by decide +kernel
theorem dL_law_432 : decode cL_law 432 = .ok (.iconst 1, 1) := by decide +kernel
theorem dL_law_433 : decode cL_law 433 = .ok (.iadd, 1) := by decide +kernel
theorem dL_law_434 : decode cL_law 434 = .ok (.iaload, 1) := by decide +kernel
theorem dL_law_435 : decode cL_law 435 = .ok (.aload_n 0, 1) := by decide +kernel
theorem dL_law_436 : decode cL_law 436 = .ok (.iload_n 3, 1) := by decide +kernel
theorem dL_law_437 : decode cL_law 437 = .ok (.iconst 2, 1) := by decide +kernel
theorem dL_law_438 : decode cL_law 438 = .ok (.iadd, 1) := by decide +kernel
theorem dL_law_439 : decode cL_law 439 = .ok (.iaload, 1) := by decide +kernel
theorem dL_law_440 : decode cL_law 440 = .ok (.aload_n 0, 1) := by decide +kernel
theorem dL_law_441 : decode cL_law 441 = .ok (.iload_n 3, 1) := by decide +kernel
theorem dL_law_442 : decode cL_law 442 = .ok (.iconst 3, 1) := by decide +kernel
theorem dL_law_443 : decode cL_law 443 = .ok (.iadd, 1) := by decide +kernel
theorem dL_law_444 : decode cL_law 444 = .ok (.iaload, 1) := by decide +kernel
theorem dL_law_445 : decode cL_law 445 = .ok (.aload_n 0, 1) := by decide +kernel
theorem dL_law_446 : decode cL_law 446 = .ok (.iload_n 3, 1) := by decide +kernel
theorem dL_law_447 : decode cL_law 447 = .ok (.iconst 4, 1) := by decide +kernel
theorem dL_law_448 : decode cL_law 448 = .ok (.iadd, 1) := by decide +kernel
theorem dL_law_449 : decode cL_law 449 = .ok (.iaload, 1) := by decide +kernel
theorem dL_law_450 : decode cL_law 450 = .ok (.invokevirtual 50, 3) := by decide +kernel
theorem dL_law_453 : decode cL_law 453 = .ok (.if_icmp .eq 338, 3) := by decide +kernel
theorem dL_law_456 : decode cL_law 456 = .ok (.iconst 0, 1) := by decide +kernel
theorem dL_law_457 : decode cL_law 457 = .ok (.ireturn, 1) := by decide +kernel
theorem dL_law_458 : decode cL_law 458 = .ok (.aload_n 1, 1) := by decide +kernel
theorem dL_law_459 : decode cL_law 459 = .ok (.aload_n 0, 1) := by decide +kernel
theorem dL_law_460 : decode cL_law 460 = .ok (.iload_n 3, 1) := by decide +kernel
theorem dL_law_461 : decode cL_law 461 = .ok (.iconst 1, 1) := by decide +kernel
theorem dL_law_462 : decode cL_law 462 = .ok (.iadd, 1) := by decide +kernel
theorem dL_law_463 : decode cL_law 463 = .ok (.iaload, 1) := by decide +kernel
theorem dL_law_464 : decode cL_law 464 = .ok (.invokevirtual 51, 3) := by decide +kernel
theorem dL_law_467 : decode cL_law 467 = .ok (.aload_n 2, 1) := by decide +kernel
theorem dL_law_468 : decode cL_law 468 = .ok (.aload_n 0, 1) := by decide +kernel
theorem dL_law_469 : decode cL_law 469 = .ok (.iload_n 3, 1) := by decide +kernel
theorem dL_law_470 : decode cL_law 470 = .ok (.iconst 1, 1) := by decide +kernel
theorem dL_law_471 : decode cL_law 471 = .ok (.iadd, 1) := by decide +kernel
theorem dL_law_472 : decode cL_law 472 = .ok (.iaload, 1) := by decide +kernel
theorem dL_law_473 : decode cL_law 473 = .ok (.invokevirtual 54, 3) := by decide +kernel
theorem dL_law_476 : decode cL_law 476 = .ok (.if_icmp .eq 315, 3) := by decide +kernel
theorem dL_law_479 : decode cL_law 479 = .ok (.iconst 0, 1) := by decide +kernel
theorem dL_law_480 : decode cL_law 480 = .ok (.ireturn, 1) := by decide +kernel
theorem dL_law_481 : decode cL_law 481 = .ok (.aload_n 1, 1) := by decide +kernel
theorem dL_law_482 : decode cL_law 482 = .ok (.aload_n 0, 1) := by decide +kernel
theorem dL_law_483 : decode cL_law 483 = .ok (.iload_n 3, 1) := by decide +kernel
theorem dL_law_484 : decode cL_law 484 = .ok (.iconst 1, 1) := by decide +kernel
theorem dL_law_485 : decode cL_law 485 = .ok (.iadd, 1) := by decide +kernel
theorem dL_law_486 : decode cL_law 486 = .ok (.iaload, 1) := by decide +kernel
theorem dL_law_487 : decode cL_law 487 = .ok (.invokevirtual 55, 3) := by decide +kernel
theorem dL_law_490 : decode cL_law 490 = .ok (.aload_n 2, 1) := by decide +kernel
theorem dL_law_491 : decode cL_law 491 = .ok (.aload_n 0, 1) := by decide +kernel
theorem dL_law_492 : decode cL_law 492 = .ok (.iload_n 3, 1) := by decide +kernel
theorem dL_law_493 : decode cL_law 493 = .ok (.iconst 1, 1) := by decide +kernel
theorem dL_law_494 : decode cL_law 494 = .ok (.iadd, 1) := by decide +kernel
theorem dL_law_495 : decode cL_law 495 = .ok (.iaload, 1) := by decide +kernel
theorem dL_law_496 : decode cL_law 496 = .ok (.invokevirtual 58, 3) := by decide +kernel
theorem dL_law_499 : decode cL_law 499 = .ok (.if_icmp .eq 292, 3) := by decide +kernel
theorem dL_law_502 : decode cL_law 502 = .ok (.iconst 0, 1) := by decide +kernel
theorem dL_law_503 : decode cL_law 503 = .ok (.ireturn, 1) := by decide +kernel
theorem dL_law_504 : decode cL_law 504 = .ok (.aload_n 1, 1) := by decide +kernel
theorem dL_law_505 : decode cL_law 505 = .ok (.aload_n 0, 1) := by decide +kernel
theorem dL_law_506 : decode cL_law 506 = .ok (.iload_n 3, 1) := by decide +kernel
theorem dL_law_507 : decode cL_law 507 = .ok (.iconst 1, 1) := by decide +kernel
theorem dL_law_508 : decode cL_law 508 = .ok (.iadd, 1) := by decide +kernel
theorem dL_law_509 : decode cL_law 509 = .ok (.iaload, 1) := by decide +kernel
theorem dL_law_510 : decode cL_law 510 = .ok (.aload_n 0, 1) := by decide +kernel
theorem dL_law_511 : decode cL_law 511 = .ok (.iload_n 3, 1) := by decide +kernel
theorem dL_law_512 : decode cL_law 512 = .ok (.iconst 2, 1) := by decide +kernel
theorem dL_law_513 : decode cL_law 513 = .ok (.iadd, 1) := by decide +kernel
theorem dL_law_514 : decode cL_law 514 = .ok (.iaload, 1) := by decide +kernel
theorem dL_law_515 : decode cL_law 515 = .ok (.aload_n 0, 1) := by decide +kernel
theorem dL_law_516 : decode cL_law 516 = .ok (.iload_n 3, 1) := by decide +kernel
theorem dL_law_517 : decode cL_law 517 = .ok (.iconst 3, 1) := by decide +kernel
theorem dL_law_518 : decode cL_law 518 = .ok (.iadd, 1) := by decide +kernel
theorem dL_law_519 : decode cL_law 519 = .ok (.iaload, 1) := by decide +kernel
theorem dL_law_520 : decode cL_law 520 = .ok (.invokevirtual 59, 3) := by decide +kernel
theorem dL_law_523 : decode cL_law 523 = .ok (.aload_n 2, 1) := by decide +kernel
theorem dL_law_524 : decode cL_law 524 = .ok (.aload_n 0, 1) := by decide +kernel
theorem dL_law_525 : decode cL_law 525 = .ok (.iload_n 3, 1) := by decide +kernel
theorem dL_law_526 : decode cL_law 526 = .ok (.iconst 1, 1) := by decide +kernel
theorem dL_law_527 : decode cL_law 527 = .ok (.iadd, 1) := by decide +kernel
theorem dL_law_528 : decode cL_law 528 = .ok (.iaload, 1) := by decide +kernel
theorem dL_law_529 : decode cL_law 529 = .ok (.aload_n 0, 1) := by decide +kernel
theorem dL_law_530 : decode cL_law 530 = .ok (.iload_n 3, 1) := by decide +kernel
theorem dL_law_531 : decode cL_law 531 = .ok (.iconst 2, 1) := by decide +kernel
theorem dL_law_532 : decode cL_law 532 = .ok (.iadd, 1) := by decide +kernel
theorem dL_law_533 : decode cL_law 533 = .ok (.iaload, 1) := by decide +kernel
theorem dL_law_534 : decode cL_law 534 = .ok (.aload_n 0, 1) := by decide +kernel
theorem dL_law_535 : decode cL_law 535 = .ok (.iload_n 3, 1) := by decide +kernel
theorem dL_law_536 : decode cL_law 536 = .ok (.iconst 3, 1) := by decide +kernel
theorem dL_law_537 : decode cL_law 537 = .ok (.iadd, 1) := by decide +kernel
theorem dL_law_538 : decode cL_law 538 = .ok (.iaload, 1) := by decide +kernel
theorem dL_law_539 : decode cL_law 539 = .ok (.invokevirtual 62, 3) := by decide +kernel
theorem dL_law_542 : decode cL_law 542 = .ok (.if_icmp .eq 249, 3) := by decide +kernel
theorem dL_law_545 : decode cL_law 545 = .ok (.iconst 0, 1) := by decide +kernel
theorem dL_law_546 : decode cL_law 546 = .ok (.ireturn, 1) := by decide +kernel
theorem dL_law_547 : decode cL_law 547 = .ok (.aload_n 1, 1) := by decide +kernel
theorem dL_law_548 : decode cL_law 548 = .ok (.aload_n 0, 1) := by decide +kernel
theorem dL_law_549 : decode cL_law 549 = .ok (.iload_n 3, 1) := by decide +kernel
theorem dL_law_550 : decode cL_law 550 = .ok (.iconst 1, 1) := by decide +kernel
theorem dL_law_551 : decode cL_law 551 = .ok (.iadd, 1) := by decide +kernel
theorem dL_law_552 : decode cL_law 552 = .ok (.iaload, 1) := by decide +kernel
theorem dL_law_553 : decode cL_law 553 = .ok (.invokevirtual 63, 3) := by decide +kernel
theorem dL_law_556 : decode cL_law 556 = .ok (.aload_n 2, 1) := by decide +kernel
theorem dL_law_557 : decode cL_law 557 = .ok (.aload_n 0, 1) := by decide +kernel
theorem dL_law_558 : decode cL_law 558 = .ok (.iload_n 3, 1) := by decide +kernel
theorem dL_law_559 : decode cL_law 559 = .ok (.iconst 1, 1) := by decide +kernel
theorem dL_law_560 : decode cL_law 560 = .ok (.iadd, 1) := by decide +kernel
theorem dL_law_561 : decode cL_law 561 = .ok (.iaload, 1) := by decide +kernel
theorem dL_law_562 : decode cL_law 562 = .ok (.invokevirtual 66, 3) := by decide +kernel
theorem dL_law_565 : decode cL_law 565 = .ok (.if_icmp .eq 226, 3) := by decide +kernel
theorem dL_law_568 : decode cL_law 568 = .ok (.iconst 0, 1) := by decide +kernel
theorem dL_law_569 : decode cL_law 569 = .ok (.ireturn, 1) := by decide +kernel
theorem dL_law_570 : decode cL_law 570 = .ok (.aload_n 1, 1) := by decide +kernel
theorem dL_law_571 : decode cL_law 571 = .ok (.aload_n 0, 1) := by decide +kernel
theorem dL_law_572 : decode cL_law 572 = .ok (.iload_n 3, 1) := by decide +kernel
theorem dL_law_573 : decode cL_law 573 = .ok (.iconst 1, 1) := by decide +kernel
end
section
theorem dL_law_574 : decode cL_law 574 = .ok (.iadd, 1) := by decide +kernel
theorem dL_law_575 : decode cL_law 575 = .ok (.iaload, 1) := by decide +kernel
theorem dL_law_576 : decode cL_law 576 = .ok (.invokevirtual 67, 3) := by decide +kernel
theorem dL_law_579 : decode cL_law 579 = .ok (.aload_n 2, 1) := by decide +kernel
theorem dL_law_580 : decode cL_law 580 = .ok (.aload_n 0, 1) := by decide +kernel
theorem dL_law_581 : decode cL_law 581 = .ok (.iload_n 3, 1) := by decide +kernel
theorem dL_law_582 : decode cL_law 582 = .ok (.iconst 1, 1) := by decide +kernel
theorem dL_law_583 : decode cL_law 583 = .ok (.iadd, 1) := by decide +kernel
theorem dL_law_584 : decode cL_law 584 = .ok (.iaload, 1) := by decide +kernel
theorem dL_law_585 : decode cL_law 585 = .ok (.invokevirtual 70, 3) := by decide +kernel
theorem dL_law_588 : decode cL_law 588 = .ok (.if_icmp .eq 203, 3) := by decide +kernel
theorem dL_law_591 : decode cL_law 591 = .ok (.iconst 0, 1) := by decide +kernel
theorem dL_law_592 : decode cL_law 592 = .ok (.ireturn, 1) := by decide +kernel
theorem dL_law_593 : decode cL_law 593 = .ok (.aload_n 1, 1) := by decide +kernel
theorem dL_law_594 : decode cL_law 594 = .ok (.aload_n 0, 1) := by decide +kernel
theorem dL_law_595 : decode cL_law 595 = .ok (.iload_n 3, 1) := by decide +kernel
theorem dL_law_596 : decode cL_law 596 = .ok (.iconst 1, 1) := by decide +kernel
theorem dL_law_597 : decode cL_law 597 = .ok (.iadd, 1) := by decide +kernel
theorem dL_law_598 : decode cL_law 598 = .ok (.iaload, 1) := by decide +kernel
theorem dL_law_599 : decode cL_law 599 = .ok (.invokevirtual 71, 3) := by decide +kernel
theorem dL_law_602 : decode cL_law 602 = .ok (.aload_n 2, 1) := by decide +kernel
theorem dL_law_603 : decode cL_law 603 = .ok (.aload_n 0, 1) := by decide +kernel
theorem dL_law_604 : decode cL_law 604 = .ok (.iload_n 3, 1) := by decide +kernel
theorem dL_law_605 : decode cL_law 605 = .ok (.iconst 1, 1) := by decide +kernel
theorem dL_law_606 : decode cL_law 606 = .ok (.iadd, 1) := by decide +kernel
theorem dL_law_607 : decode cL_law 607 = .ok (.iaload, 1) := by decide +kernel
theorem dL_law_608 : decode cL_law 608 = .ok (.invokevirtual 74, 3) := by decide +kernel
theorem dL_law_611 : decode cL_law 611 = .ok (.if_icmp .eq 180, 3) := by decide +kernel
theorem dL_law_614 : decode cL_law 614 = .ok (.iconst 0, 1) := by decide +kernel
theorem dL_law_615 : decode cL_law 615 = .ok (.ireturn, 1) := by decide +kernel
theorem dL_law_616 : decode cL_law 616 = .ok (.aload_n 1, 1) := by decide +kernel
theorem dL_law_617 : decode cL_law 617 = .ok (.aload_n 0, 1) := by decide +kernel
theorem dL_law_618 : decode cL_law 618 = .ok (.iload_n 3, 1) := by decide +kernel
theorem dL_law_619 : decode cL_law 619 = .ok (.iconst 1, 1) := by decide +kernel
theorem dL_law_620 : decode cL_law 620 = .ok (.iadd, 1) := by decide +kernel
theorem dL_law_621 : decode cL_law 621 = .ok (.iaload, 1) := by decide +kernel
theorem dL_law_622 : decode cL_law 622 = .ok (.aload_n 0, 1) := by decide +kernel
theorem dL_law_623 : decode cL_law 623 = .ok (.iload_n 3, 1) := by decide +kernel
theorem dL_law_624 : decode cL_law 624 = .ok (.iconst 2, 1) := by decide +kernel
theorem dL_law_625 : decode cL_law 625 = .ok (.iadd, 1) := by decide +kernel
theorem dL_law_626 : decode cL_law 626 = .ok (.iaload, 1) := by decide +kernel
theorem dL_law_627 : decode cL_law 627 = .ok (.aload_n 0, 1) := by decide +kernel
theorem dL_law_628 : decode cL_law 628 = .ok (.iload_n 3, 1) := by decide +kernel
theorem dL_law_629 : decode cL_law 629 = .ok (.iconst 3, 1) := by decide +kernel
theorem dL_law_630 : decode cL_law 630 = .ok (.iadd, 1) := by decide +kernel
theorem dL_law_631 : decode cL_law 631 = .ok (.iaload, 1) := by decide +kernel
theorem dL_law_632 : decode cL_law 632 = .ok (.invokevirtual 75, 3) := by decide +kernel
theorem dL_law_635 : decode cL_law 635 = .ok (.aload_n 2, 1) := by decide +kernel
theorem dL_law_636 : decode cL_law 636 = .ok (.aload_n 0, 1) := by decide +kernel
theorem dL_law_637 : decode cL_law 637 = .ok (.iload_n 3, 1) := by decide +kernel
theorem dL_law_638 : decode cL_law 638 = .ok (.iconst 1, 1) := by decide +kernel
theorem dL_law_639 : decode cL_law 639 = .ok (.iadd, 1) := by decide +kernel
theorem dL_law_640 : decode cL_law 640 = .ok (.iaload, 1) := by decide +kernel
theorem dL_law_641 : decode cL_law 641 = .ok (.aload_n 0, 1) := by decide +kernel
theorem dL_law_642 : decode cL_law 642 = .ok (.iload_n 3, 1) := by decide +kernel
theorem dL_law_643 : decode cL_law 643 = .ok (.iconst 2, 1) := by decide +kernel
theorem dL_law_644 : decode cL_law 644 = .ok (.iadd, 1) := by decide +kernel
theorem dL_law_645 : decode cL_law 645 = .ok (.iaload, 1) := by decide +kernel
theorem dL_law_646 : decode cL_law 646 = .ok (.aload_n 0, 1) := by decide +kernel
theorem dL_law_647 : decode cL_law 647 = .ok (.iload_n 3, 1) := by decide +kernel
theorem dL_law_648 : decode cL_law 648 = .ok (.iconst 3, 1) := by decide +kernel
theorem dL_law_649 : decode cL_law 649 = .ok (.iadd, 1) := by decide +kernel
theorem dL_law_650 : decode cL_law 650 = .ok (.iaload, 1) := by decide +kernel
theorem dL_law_651 : decode cL_law 651 = .ok (.invokevirtual 78, 3) := by decide +kernel
theorem dL_law_654 : decode cL_law 654 = .ok (.if_icmp .eq 137, 3) := by decide +kernel
theorem dL_law_657 : decode cL_law 657 = .ok (.iconst 0, 1) := by decide +kernel
theorem dL_law_658 : decode cL_law 658 = .ok (.ireturn, 1) := by decide +kernel
theorem dL_law_659 : decode cL_law 659 = .ok (.aload_n 1, 1) := by decide +kernel
theorem dL_law_660 : decode cL_law 660 = .ok (.aload_n 0, 1) := by decide +kernel
theorem dL_law_661 : decode cL_law 661 = .ok (.iload_n 3, 1) := by decide +kernel
theorem dL_law_662 : decode cL_law 662 = .ok (.iconst 1, 1) := by decide +kernel
theorem dL_law_663 : decode cL_law 663 = .ok (.iadd, 1) := by decide +kernel
theorem dL_law_664 : decode cL_law 664 = .ok (.iaload, 1) := by decide +kernel
theorem dL_law_665 : decode cL_law 665 = .ok (.aload_n 0, 1) := by decide +kernel
theorem dL_law_666 : decode cL_law 666 = .ok (.iload_n 3, 1) := by decide +kernel
theorem dL_law_667 : decode cL_law 667 = .ok (.iconst 2, 1) := by decide +kernel
theorem dL_law_668 : decode cL_law 668 = .ok (.iadd, 1) := by decide +kernel
theorem dL_law_669 : decode cL_law 669 = .ok (.iaload, 1) := by decide +kernel
theorem dL_law_670 : decode cL_law 670 = .ok (.invokevirtual 79, 3) := by decide +kernel
theorem dL_law_673 : decode cL_law 673 = .ok (.aload_n 2, 1) := by decide +kernel
theorem dL_law_674 : decode cL_law 674 = .ok (.aload_n 0, 1) := by decide +kernel
theorem dL_law_675 : decode cL_law 675 = .ok (.iload_n 3, 1) := by decide +kernel
theorem dL_law_676 : decode cL_law 676 = .ok (.iconst 1, 1) := by decide +kernel
theorem dL_law_677 : decode cL_law 677 = .ok (.iadd, 1) := by decide +kernel
theorem dL_law_678 : decode cL_law 678 = .ok (.iaload, 1) := by decide +kernel
theorem dL_law_679 : decode cL_law 679 = .ok (.aload_n 0, 1) := by decide +kernel
theorem dL_law_680 : decode cL_law 680 = .ok (.iload_n 3, 1) := by decide +kernel
theorem dL_law_681 : decode cL_law 681 = .ok (.iconst 2, 1) := by decide +kernel
theorem dL_law_682 : decode cL_law 682 = .ok (.iadd, 1) := by decide +kernel
theorem dL_law_683 : decode cL_law 683 = .ok (.iaload, 1) := by decide +kernel
theorem dL_law_684 : decode cL_law 684 = .ok (.invokevirtual 83, 3) := by decide +kernel
theorem dL_law_687 : decode cL_law 687 = .ok (.if_icmp .eq 104, 3) := by decide +kernel
theorem dL_law_690 : decode cL_law 690 = .ok (.iconst 0, 1) := by decide +kernel
theorem dL_law_691 : decode cL_law 691 = .ok (.ireturn, 1) := by decide +kernel
theorem dL_law_692 : decode cL_law 692 = .ok (.aload_n 1, 1) := by decide +kernel
theorem dL_law_693 : decode cL_law 693 = .ok (.aload_n 0, 1) := by decide +kernel
theorem dL_law_694 : decode cL_law 694 = .ok (.iload_n 3, 1) := by decide +kernel
theorem dL_law_695 : decode cL_law 695 = .ok (.iconst 1, 1) := by decide +kernel
theorem dL_law_696 : decode cL_law 696 = .ok (.iadd, 1) := by decide +kernel
theorem dL_law_697 : decode cL_law 697 = .ok (.iaload, 1) := by decide +kernel
theorem dL_law_698 : decode cL_law 698 = .ok (.aload_n 0, 1) := by decide +kernel
theorem dL_law_699 : decode cL_law 699 = .ok (.iload_n 3, 1) := by decide +kernel
theorem dL_law_700 : decode cL_law 700 = .ok (.iconst 2, 1) := by decide +kernel
theorem dL_law_701 : decode cL_law 701 = .ok (.iadd, 1) := by decide +kernel
theorem dL_law_702 : decode cL_law 702 = .ok (.iaload, 1) := by decide +kernel
theorem dL_law_703 : decode cL_law 703 = .ok (.invokevirtual 84, 3) := by decide +kernel
theorem dL_law_706 : decode cL_law 706 = .ok (.aload_n 2, 1) := by decide +kernel
theorem dL_law_707 : decode cL_law 707 = .ok (.aload_n 0, 1) := by decide +kernel
theorem dL_law_708 : decode cL_law 708 = .ok (.iload_n 3, 1) := by decide +kernel
theorem dL_law_709 : decode cL_law 709 = .ok (.iconst 1, 1) := by decide +kernel
theorem dL_law_710 : decode cL_law 710 = .ok (.iadd, 1) := by decide +kernel
theorem dL_law_711 : decode cL_law 711 = .ok (.iaload, 1) := by decide +kernel
theorem dL_law_712 : decode cL_law 712 = .ok (.aload_n 0, 1) := by decide +kernel
theorem dL_law_713 : decode cL_law 713 = .ok (.iload_n 3, 1) := by decide +kernel
theorem dL_law_714 : decode cL_law 714 = .ok (.iconst 2, 1) := by decide +kernel
theorem dL_law_715 : decode cL_law 715 = .ok (.iadd, 1) := by decide +kernel
theorem dL_law_716 : decode cL_law 716 = .ok (.iaload, 1) := by decide +kernel
theorem dL_law_717 : decode cL_law 717 = .ok (.invokevirtual 87, 3) := by decide +kernel
theorem dL_law_720 : decode cL_law 720 = .ok (.if_icmp .eq 71, 3) := by decide +kernel
theorem dL_law_723 : decode cL_law 723 = .ok (.iconst 0, 1) := by decide +kernel
theorem dL_law_724 : decode cL_law 724 = .ok (.ireturn, 1) := by decide +kernel
theorem dL_law_725 : decode cL_law 725 = .ok (.aload_n 1, 1) := by decide +kernel
theorem dL_law_726 : decode cL_law 726 = .ok (.aload_n 0, 1) := by decide +kernel
theorem dL_law_727 : decode cL_law 727 = .ok (.iload_n 3, 1) := by decide +kernel
theorem dL_law_728 : decode cL_law 728 = .ok (.iconst 1, 1) := by decide +kernel
theorem dL_law_729 : decode cL_law 729 = .ok (.iadd, 1) := by decide +kernel
theorem dL_law_730 : decode cL_law 730 = .ok (.iaload, 1) := by decide +kernel
theorem dL_law_731 : decode cL_law 731 = .ok (.aload_n 0, 1) := by decide +kernel
theorem dL_law_732 : decode cL_law 732 = .ok (.iload_n 3, 1) := by decide +kernel
theorem dL_law_733 : decode cL_law 733 = .ok (.iconst 2, 1) := by decide +kernel
theorem dL_law_734 : decode cL_law 734 = .ok (.iadd, 1) := by decide +kernel
theorem dL_law_735 : decode cL_law 735 = .ok (.iaload, 1) := by decide +kernel
theorem dL_law_736 : decode cL_law 736 = .ok (.aload_n 0, 1) := by decide +kernel
theorem dL_law_737 : decode cL_law 737 = .ok (.iload_n 3, 1) := by decide +kernel
theorem dL_law_738 : decode cL_law 738 = .ok (.iconst 3, 1) := by decide +kernel
theorem dL_law_739 : decode cL_law 739 = .ok (.iadd, 1) := by decide +kernel
theorem dL_law_740 : decode cL_law 740 = .ok (.iaload, 1) := by decide +kernel
theorem dL_law_741 : decode cL_law 741 = .ok (.invokevirtual 88, 3) := by decide +kernel
theorem dL_law_744 : decode cL_law 744 = .ok (.aload_n 2, 1) := by decide +kernel
theorem dL_law_745 : decode cL_law 745 = .ok (.aload_n 0, 1) := by decide +kernel
theorem dL_law_746 : decode cL_law 746 = .ok (.iload_n 3, 1) := by decide +kernel
theorem dL_law_747 : decode cL_law 747 = .ok (.iconst 1, 1) := by decide +kernel
theorem dL_law_748 : decode cL_law 748 = .ok (.iadd, 1) := by decide +kernel
theorem dL_law_749 : decode cL_law 749 = .ok (.iaload, 1) := by decide +kernel
theorem dL_law_750 : decode cL_law 750 = .ok (.aload_n 0, 1) := by decide +kernel
theorem dL_law_751 : decode cL_law 751 = .ok (.iload_n 3, 1) := by decide +kernel
theorem dL_law_752 : decode cL_law 752 = .ok (.iconst 2, 1) := by decide +kernel
theorem dL_law_753 : decode cL_law 753 = .ok (.iadd, 1) := by decide +kernel
theorem dL_law_754 : decode cL_law 754 = .ok (.iaload, 1) := by decide +kernel
theorem dL_law_755 : decode cL_law 755 = .ok (.aload_n 0, 1) := by decide +kernel
theorem dL_law_756 : decode cL_law 756 = .ok (.iload_n 3, 1) := by decide +kernel
theorem dL_law_757 : decode cL_law 757 = .ok (.iconst 3, 1) := by decide +kernel
theorem dL_law_758 : decode cL_law 758 = .ok (.iadd, 1) := by decide +kernel
theorem dL_law_759 : decode cL_law 759 = .ok (.iaload, 1) := by decide +kernel
theorem dL_law_760 : decode cL_law 760 = .ok (.invokevirtual 91, 3) := by decide +kernel
theorem dL_law_763 : decode cL_law 763 = .ok (.if_icmp .eq 28, 3) := by decide +kernel
theorem dL_law_766 : decode cL_law 766 = .ok (.iconst 0, 1) := by decide +kernel
theorem dL_law_767 : decode cL_law 767 = .ok (.ireturn, 1) := by decide +kernel
theorem dL_law_768 : decode cL_law 768 = .ok (.aload_n 1, 1) := by decide +kernel
theorem dL_law_769 : decode cL_law 769 = .ok (.aload_n 0, 1) := by decide +kernel
theorem dL_law_770 : decode cL_law 770 = .ok (.iload_n 3, 1) := by decide +kernel
theorem dL_law_771 : decode cL_law 771 = .ok (.iconst 1, 1) := by decide +kernel
theorem dL_law_772 : decode cL_law 772 = .ok (.iadd, 1) := by decide +kernel
theorem dL_law_773 : decode cL_law 773 = .ok (.iaload, 1) := by decide +kernel
theorem dL_law_774 : decode cL_law 774 = .ok (.invokevirtual 92, 3) := by decide +kernel
theorem dL_law_777 : decode cL_law 777 = .ok (.aload_n 2, 1) := by decide +kernel
theorem dL_law_778 : decode cL_law 778 = .ok (.aload_n 0, 1) := by decide +kernel
theorem dL_law_779 : decode cL_law 779 = .ok (.iload_n 3, 1) := by decide +kernel
theorem dL_law_780 : decode cL_law 780 = .ok (.iconst 1, 1) := by decide +kernel
theorem dL_law_781 : decode cL_law 781 = .ok (.iadd, 1) := by decide +kernel
theorem dL_law_782 : decode cL_law 782 = .ok (.iaload, 1) := by decide +kernel
theorem dL_law_783 : decode cL_law 783 = .ok (.invokevirtual 95, 3) := by decide +kernel
theorem dL_law_786 : decode cL_law 786 = .ok (.if_icmp .eq 5, 3) := by decide +kernel
theorem dL_law_789 : decode cL_law 789 = .ok (.iconst 0, 1) := by decide +kernel
theorem dL_law_790 : decode cL_law 790 = .ok (.ireturn, 1) := by decide +kernel
theorem dL_law_791 : decode cL_law 791 = .ok (.iinc 3 6, 3) := by decide +kernel
theorem dL_law_794 : decode cL_law 794 = .ok (.goto (-776), 3) := by decide +kernel
theorem dL_law_797 : decode cL_law 797 = .ok (.iconst 1, 1) := by decide +kernel
theorem dL_law_798 : decode cL_law 798 = .ok (.ireturn, 1) := by decide +kernel
end
section
-- the array classes that all worlds here know, and the links among nest mates
abbrev TY (cI cB cP : ClassId) : List (ClassId × FieldType) := [(cI, .int), (cB, .byte), (cP, .object "FlightDesk$Plan")]
def nw (U : State) : Prop := va_Nw (.methodLinkNest RX0 89 yX7_burnIndex RX7) U ∧ va_Nw (.methodLinkNest RX2 11 yX6_init RX7) U ∧ va_Nw (.methodLinkNest RX7 11 yX5_init RX7) U ∧ va_AO "FlightDesk$Plan" U
theorem nw_alike {u U : State} (hW : u.WarmedH U.vm) (h : nw u) : nw U := ⟨va_Nw.warmM hW h.1, va_Nw.warmM hW h.2.1, va_Nw.warmM hW h.2.2.1, h.2.2.2.moved hW.alike⟩
theorem nw_calling {U : State} {g : JFrame} {mk : MethodId} {a : Array Value} (h : nw U) : nw (U.calling g mk a) := ⟨va_Nw.same rfl rfl h.1, va_Nw.same rfl rfl h.2.1, va_Nw.same rfl rfl h.2.2.1, h.2.2.2.moved (Vm.Alike.refl U.vm)⟩
def Pw (D : va_G) (cI cB cP : ClassId) (sz : Nat) (ws : va_W) (U : State) : Prop := U.heap.size = sz ∧ va_P D vwCl ws U.heap ∧ (va_K D vwCl (TY cI cB cP) U ∧ nw U) ∧ va_D (fun _ => True) ws
theorem ny_blind {D : va_G} {cI cB cP : ClassId} {sz : Nat} {ws : va_W} {av : List Value} : FrameBlind (va_Pc av (Pw D cI cB cP sz ws)) := fun a U g mk q => by
  obtain ⟨q0, q1, qP, ⟨qK, qN⟩, qD⟩ := q
  exact ⟨q0, q1, qP, ⟨va_K.moved (u := U) (U := U.calling g mk a) (Vm.Alike.refl U.vm) qK, nw_calling qN⟩, qD⟩
theorem ny_pre {D : va_G} {cI cB cP : ClassId} {s : State} {H : Heap} {A : Nat → Prop} {ws : va_W} {av : List Value} (hP : va_P D vwCl ws H) (hK : va_K D vwCl (TY cI cB cP) s) (hN : nw s) (hD : va_D A ws) : ∀ U : State, U.heap = H → s.WarmedH U.vm → va_Pc av (Pw D cI cB cP H.size ws) av.toArray U :=
  fun U hU hW => ⟨rfl, by rw [hU], by rw [hU]; exact hP, ⟨va_K.moved hW.alike hK, nw_alike hW hN⟩, hD.weaken (fun _ _ _ _ => trivial)⟩
theorem ny_P0 {D : va_G} {H : Heap} : va_P D vwCl [] H := fun k q h => by simp at h
theorem ny_D0 {A : Nat → Prop} : va_D A [] := ⟨fun i j p q h => by simp at h, fun k q h => by simp at h⟩
section NY
variable {p : Program} {l : Launch} {e : Env} {R : Room} {s : State} {m : MethodId} {args : Array Value} {below : List Frame} {meth : Method} {c : Code} {H : Heap} {locs : List Loc} {cells slots : Nat} {Q : State → Prop} {pc : Nat} {ls : Array Slot} {rest : List Value} {cc : ByteArray} {D : va_G} {cI cB cP : ClassId} {ws : va_W} {A : Nat → Prop} {H0 : Heap}
theorem ny_i (hexec : p.tables.exec = Jvm.exec) (hb : c.code = cc) (harr : (Cond.arrayClass .int).before args s = true) (hK : va_K D vwCl (TY cI cB cP) s) (hP : va_P D vwCl ws H) (hD : va_D A ws) (hS : va_S A H0 H locs) (hA : ∀ q, H0.size ≤ q → A q)
    {n : Int32} {N' : Nat} (hn : ¬ n < 0) (hN : n.toNatClampNeg = N') (hbytes : N' * 4 ≤ 536870912) (hcells : cells + 1 ≤ R.cells) (hslots : slots + N' ≤ R.slots) (hdg : decode cc pc = .ok (.newarray .int, 2))
    (kk : ∀ (q : Nat) (H1 : Heap), va_P D vwCl (ws ++ [(q, .inl (cI, N', .inl (fun _ => 0)))]) H1 → va_D A (ws ++ [(q, .inl (cI, N', .inl (fun _ => 0)))]) → va_S A H0 H1 locs →
      W p l e R s m args below meth c H1 locs (cells + 1) (slots + N') Q (F0 m (pc + 2) ls (.ref q :: rest))) : W p l e R s m args below meth c H locs cells slots Q (F0 m pc ls (.int n :: rest)) := by
  refine va_newa (atype := .int) (ty := .int) (a0 := (N', .inl (fun _ => 0))) hexec hb harr rfl hK hP hD hS hA (fun _ => rfl) hn hN hbytes hcells hslots hdg (fun q cA H1 hK1 hP1 hD1 hS1 => ?_)
  have e1 : s.vm.findClass _ = some cA := (hK1.2 3 (cA, .int) rfl).2
  have e2 : s.vm.findClass _ = some cI := (hK1.2 0 (cI, .int) rfl).2
  obtain rfl : cA = cI := Option.some.inj (e1.symm.trans e2)
  exact kk q H1 hP1 hD1 hS1
theorem ny_b (hexec : p.tables.exec = Jvm.exec) (hb : c.code = cc) (harr : (Cond.arrayClass .byte).before args s = true) (hK : va_K D vwCl (TY cI cB cP) s) (hP : va_P D vwCl ws H) (hD : va_D A ws) (hS : va_S A H0 H locs) (hA : ∀ q, H0.size ≤ q → A q)
    {n : Int32} {N' : Nat} (hn : ¬ n < 0) (hN : n.toNatClampNeg = N') (hbytes : N' * 1 ≤ 536870912) (hcells : cells + 1 ≤ R.cells) (hslots : slots + N' ≤ R.slots) (hdg : decode cc pc = .ok (.newarray .byte, 2))
    (kk : ∀ (q : Nat) (H1 : Heap), va_P D vwCl (ws ++ [(q, .inl (cB, N', .inl (fun _ => 0)))]) H1 → va_D A (ws ++ [(q, .inl (cB, N', .inl (fun _ => 0)))]) → va_S A H0 H1 locs →
      W p l e R s m args below meth c H1 locs (cells + 1) (slots + N') Q (F0 m (pc + 2) ls (.ref q :: rest))) : W p l e R s m args below meth c H locs cells slots Q (F0 m pc ls (.int n :: rest)) := by
  refine va_newa (atype := .byte) (ty := .byte) (a0 := (N', .inl (fun _ => 0))) hexec hb harr rfl hK hP hD hS hA (fun _ => rfl) hn hN hbytes hcells hslots hdg (fun q cA H1 hK1 hP1 hD1 hS1 => ?_)
  have e1 : s.vm.findClass _ = some cA := (hK1.2 3 (cA, .byte) rfl).2
  have e2 : s.vm.findClass _ = some cB := (hK1.2 1 (cB, .byte) rfl).2
  obtain rfl : cA = cB := Option.some.inj (e1.symm.trans e2)
  exact kk q H1 hP1 hD1 hS1
theorem ny_p (hexec : p.tables.exec = Jvm.exec) (hb : c.code = cc) {own : String} {index : Nat} (hown : s.vm.findClass own = some m.cls) (hclink : (Cond.classLink own index RX2).before args s = true) (hNw : nw s) (hK : va_K D vwCl (TY cI cB cP) s) (hP : va_P D vwCl ws H) (hD : va_D A ws) (hS : va_S A H0 H locs) (hA : ∀ q, H0.size ≤ q → A q)
    {n : Int32} {N' : Nat} (hn : ¬ n < 0) (hN : n.toNatClampNeg = N') (hbytes : N' * 4 ≤ 536870912) (hcells : cells + 1 ≤ R.cells) (hslots : slots + N' ≤ R.slots) (hdg : decode cc pc = .ok (.anewarray index, 3))
    (kk : ∀ (q : Nat) (H1 : Heap), va_P D vwCl (ws ++ [(q, .inl (cP, N', .inr (.inr (.inr (.inr (fun _ => none))))))]) H1 → va_D A (ws ++ [(q, .inl (cP, N', .inr (.inr (.inr (.inr (fun _ => none))))))]) → va_S A H0 H1 locs →
      W p l e R s m args below meth c H1 locs (cells + 1) (slots + N') Q (F0 m (pc + 3) ls (.ref q :: rest))) : W p l e R s m args below meth c H locs cells slots Q (F0 m pc ls (.int n :: rest)) := by
  refine va_newq hexec hb hown hclink hNw.2.2.2 hK hP hD hS hA hn hN hbytes hcells hslots hdg (fun q cA H1 hK1 hP1 hD1 hS1 => ?_)
  obtain ⟨-, -, -, -, -, e1⟩ := (hK1.2 3 (cA, .object RX2) rfl).2
  obtain ⟨-, -, -, -, -, e2⟩ := (hK1.2 2 (cP, .object RX2) rfl).2
  obtain rfl : cA = cP := Option.some.inj (e1.symm.trans e2)
  exact kk q H1 hP1 hD1 hS1
end NY
/-- a number that is 1 or 0 as a thing holds or not -/
def ny_bool (r : Int32) (P : Prop) : Prop := (r = 1 ∧ P) ∨ (r = 0 ∧ ¬ P)
/-- 0 .. n - 1 -/
def ny_in (a n : Int32) : Prop := 0 ≤ a ∧ a < n
theorem sw_8 (x : Int32) : x = 0 ∨ x = 1 ∨ x = 2 ∨ x = 3 ∨ x = 4 ∨ x = 5 ∨ x = 6 ∨ x = 7 ∨ (x.toInt < 0 ∨ 7 < x.toInt) := by
  simp only [← Int32.toInt_inj, show (0 : Int32).toInt = 0 from rfl, show (1 : Int32).toInt = 1 from rfl, show (2 : Int32).toInt = 2 from rfl, show (3 : Int32).toInt = 3 from rfl, show (4 : Int32).toInt = 4 from rfl, show (5 : Int32).toInt = 5 from rfl, show (6 : Int32).toInt = 6 from rfl, show (7 : Int32).toInt = 7 from rfl]
  omega
theorem sw_4 (x : Int32) : x = 0 ∨ x = 1 ∨ x = 2 ∨ x = 3 ∨ (x.toInt < 0 ∨ 3 < x.toInt) := by
  simp only [← Int32.toInt_inj, show (0 : Int32).toInt = 0 from rfl, show (1 : Int32).toInt = 1 from rfl, show (2 : Int32).toInt = 2 from rfl, show (3 : Int32).toInt = 3 from rfl]
  omega
theorem nI_toNat {n : Nat} (h : n < 2 ^ 31) : (nI n).toNatClampNeg = n := nI_clamp h
theorem all5 {P : Nat → Prop} (h0 : P 0) (h1 : P 1) (h2 : P 2) (h3 : P 3) (h4 : P 4) : ∀ b : Nat, b < 5 → P b := fun b hb => by
  rcases (show b = 0 ∨ b = 1 ∨ b = 2 ∨ b = 3 ∨ b = 4 by omega) with rfl | rfl | rfl | rfl | rfl <;> assumption
end
section
def wk_k_within : List Cond := .code yX7_within cX7_within 2 (some .boolean) :: ([])
set_option maxHeartbeats 4000000 in
set_option maxRecDepth 100000 in
theorem k_within (l : Launch) (D : va_G) (cI cB cP : ClassId) (sz : Nat) (a : Int32) (b : Int32) : Met l yX7_within wk_k_within ({ frames := 0, cells := 0, slots := 0, locals := 0 } : Room) (va_Pc [.int a, .int b] (Pw D cI cB cP sz [])) (va_Qi (fun (r : Int32) (_ : Unit) => ny_bool r (ny_in a b)) (fun _ _ => True) (va_A [] sz)) 0 0 (va_A [] sz) := by
  refine Met.ofW (cc := cX7_within) (maxL := 2) (ret := (some .boolean)) (by decide) rfl ?_
  intro p e s m args below meth c s₁ B hml hv
  obtain ⟨rfl, hsz, hP, ⟨hK, hN⟩, hD0⟩ := hv
  have hx := B.exec
  have hb := B.bytes
  have hr := B.returns
  have hts := atoms_spec (ws := wk_k_within) B.pre
  have hown : s.vm.findClass RX7 = some m.cls := findClass_of_methodNamed B.named
  have hlocks := B.notSynchronized
  subst hsz
  have hD := hD0.self (sz := s.heap.size)
  generalize hAe : va_A [] s.heap.size = A at hD ⊢
  have hA : ∀ q : Nat, s.heap.size ≤ q → A q := fun q h => by rw [← hAe]; exact Or.inr h
  have hS : va_S A s.heap s.heap [] := va_S.rf
  have hP : va_P D vwCl [] s.heap := hP
  have hl := lv_entry ([.int a, .int b]) (n := 2) (Nat.le_of_ble_eq_true rfl)
  rw [lg_entry_eq]
  generalize (lg_sl ([.int a, .int b]) ++ List.replicate (2 - (lg_sl ([.int a, .int b])).length) Slot.unset).toArray = ls at hl ⊢
  have hl : lv_has ls 2 [(0, .int a), (1, .int b)] := hl
  refine lv_iload_n hx hb dX7_within_0 rfl (lv_at hl 0 rfl) ?_
  refine lv_if_lt (tgt := 13) hx hb dX7_within_1 (by decide) (fun c1 => ?_) (fun c1 => ?_)
  · refine lv_iconst (v := 0) hx hb dX7_within_13 (by decide) ?_
    refine W.widen (k := 0) (n := 0) (by decide) (by decide) ?_
    exact W.zret (v := 0) hx hb hr (by decide) (fun t ht hW => ⟨⟨0, (), rfl, Or.inr ⟨rfl, by simp only [ny_in, Int32.lt_iff_toInt_lt, Int32.le_iff_toInt_le, ← Int32.toInt_inj, show (0 : Int32).toInt = 0 from rfl] at c1 ⊢; omega⟩, trivial⟩, hS.F ht⟩) hS.2.2 dX7_within_14
  · refine lv_iload_n hx hb dX7_within_4 rfl (lv_at hl 0 rfl) ?_
    refine lv_iload_n hx hb dX7_within_5 rfl (lv_at hl 1 rfl) ?_
    refine lv_icmp_ge (tgt := 13) hx hb dX7_within_6 (by decide) (fun c2 => ?_) (fun c2 => ?_)
    · refine lv_iconst (v := 0) hx hb dX7_within_13 (by decide) ?_
      refine W.widen (k := 0) (n := 0) (by decide) (by decide) ?_
      exact W.zret (v := 0) hx hb hr (by decide) (fun t ht hW => ⟨⟨0, (), rfl, Or.inr ⟨rfl, by simp only [ny_in, Int32.lt_iff_toInt_lt, Int32.le_iff_toInt_le, ← Int32.toInt_inj, show (0 : Int32).toInt = 0 from rfl] at c1 c2 ⊢; omega⟩, trivial⟩, hS.F ht⟩) hS.2.2 dX7_within_14
    · refine lv_iconst (v := 1) hx hb dX7_within_9 (by decide) ?_
      refine lv_goto (tgt := 14) hx hb dX7_within_10 (by decide) ?_
      refine W.widen (k := 0) (n := 0) (by decide) (by decide) ?_
      exact W.zret (v := 1) hx hb hr (by decide) (fun t ht hW => ⟨⟨1, (), rfl, Or.inl ⟨rfl, by simp only [ny_in, Int32.lt_iff_toInt_lt, Int32.le_iff_toInt_le, ← Int32.toInt_inj, show (0 : Int32).toInt = 0 from rfl] at c1 c2 ⊢; omega⟩, trivial⟩, hS.F ht⟩) hS.2.2 dX7_within_14

def wk_k_burnIndex : List Cond := .code yX7_burnIndex cX7_burnIndex 2 (some .int) :: ([])
set_option maxHeartbeats 4000000 in
set_option maxRecDepth 100000 in
theorem k_burnIndex (l : Launch) (D : va_G) (cI cB cP : ClassId) (sz : Nat) (a : Nat) (b : Nat) : Met l yX7_burnIndex wk_k_burnIndex ({ frames := 0, cells := 0, slots := 0, locals := 0 } : Room) (va_Pc [.int (nI a), .int (nI b)] (Pw D cI cB cP sz [])) (va_Qi (fun (r : Int32) (_ : Unit) => r = nI (a * 5 + b)) (fun _ _ => True) (va_A [] sz)) 0 0 (va_A [] sz) := by
  refine Met.ofW (cc := cX7_burnIndex) (maxL := 2) (ret := (some .int)) (by decide) rfl ?_
  intro p e s m args below meth c s₁ B hml hv
  obtain ⟨rfl, hsz, hP, ⟨hK, hN⟩, hD0⟩ := hv
  have hx := B.exec
  have hb := B.bytes
  have hr := B.returns
  have hts := atoms_spec (ws := wk_k_burnIndex) B.pre
  have hown : s.vm.findClass RX7 = some m.cls := findClass_of_methodNamed B.named
  have hlocks := B.notSynchronized
  subst hsz
  have hD := hD0.self (sz := s.heap.size)
  generalize hAe : va_A [] s.heap.size = A at hD ⊢
  have hA : ∀ q : Nat, s.heap.size ≤ q → A q := fun q h => by rw [← hAe]; exact Or.inr h
  have hS : va_S A s.heap s.heap [] := va_S.rf
  have hP : va_P D vwCl [] s.heap := hP
  have hl := lv_entry ([.int (nI a), .int (nI b)]) (n := 2) (Nat.le_of_ble_eq_true rfl)
  rw [lg_entry_eq]
  generalize (lg_sl ([.int (nI a), .int (nI b)]) ++ List.replicate (2 - (lg_sl ([.int (nI a), .int (nI b)])).length) Slot.unset).toArray = ls at hl ⊢
  have hl : lv_has ls 2 [(0, .int (nI a)), (1, .int (nI b))] := hl
  refine lv_iload_n hx hb dX7_burnIndex_0 rfl (lv_at hl 0 rfl) ?_
  refine lv_iconst (v := 5) hx hb dX7_burnIndex_1 (by decide) ?_
  refine lv_imul hx hb dX7_burnIndex_2 ?_
  refine lv_topi (fun vv ev => ?_)
  obtain rfl : vv = nI (a * 5) := ev.trans (pk_mul a 5)
  refine lv_iload_n hx hb dX7_burnIndex_3 rfl (lv_at hl 1 rfl) ?_
  refine lv_iadd hx hb dX7_burnIndex_4 ?_
  refine lv_topi (fun vv ev => ?_)
  obtain rfl : vv = nI (a * 5 + b) := ev.trans (nI_add _ _)
  refine W.widen (k := 0) (n := 0) (by decide) (by decide) ?_
  exact W.iret (v := nI (a * 5 + b)) hx hb hr (fun t ht hW => ⟨⟨nI (a * 5 + b), (), rfl, rfl, trivial⟩, hS.F ht⟩) hS.2.2 dX7_burnIndex_5

def wk_k_fill : List Cond := .code yJ7_fill_53178 cJ7_fill_53178 4 none :: ([])
set_option maxHeartbeats 4000000 in
set_option maxRecDepth 100000 in
theorem k_fill (l : Launch) (D : va_G) (cI cB cP : ClassId) (sz : Nat) (a0 : Nat) (n : Nat) (f : Nat → Int32) (v : Int32) (hn : n < 2 ^ 31) : Met l yJ7_fill_53178 wk_k_fill ({ frames := 0, cells := 0, slots := 0, locals := 0 } : Room) (va_Pc [.ref a0, .int v] (Pw D cI cB cP sz [(a0, .inl (cI, n, .inl f))])) (va_Qv (fun (_ : Unit) => True) (fun _ t => ∃ g : Nat → Int32, (∀ k : Nat, k < n → g k = v) ∧ va_P D vwCl [(a0, .inl (cI, n, .inl g))] t.heap ∧ va_D (va_A [(a0, .inl (cI, n, .inl f))] sz) [(a0, .inl (cI, n, .inl g))]) (va_A [(a0, .inl (cI, n, .inl f))] sz)) 0 0 (va_A [(a0, .inl (cI, n, .inl f))] sz) := by
  refine Met.ofW (cc := cJ7_fill_53178) (maxL := 4) (ret := none) (by decide) rfl ?_
  intro p e s m args below meth c s₁ B hml hv
  obtain ⟨rfl, hsz, hP, ⟨hK, hN⟩, hD0⟩ := hv
  have hx := B.exec
  have hb := B.bytes
  have hr := B.returns
  have hts := atoms_spec (ws := wk_k_fill) B.pre
  have hown : s.vm.findClass RJ7 = some m.cls := findClass_of_methodNamed B.named
  have hlocks := B.notSynchronized
  subst hsz
  have hD := hD0.self (sz := s.heap.size)
  generalize hAe : va_A [(a0, .inl (cI, n, .inl f))] s.heap.size = A at hD ⊢
  have hA : ∀ q : Nat, s.heap.size ≤ q → A q := fun q h => by rw [← hAe]; exact Or.inr h
  have hS : va_S A s.heap s.heap [] := va_S.rf
  have hP : va_P D vwCl [(a0, .inl (cI, n, .inl f))] s.heap := hP
  have hl := lv_entry ([.ref a0, .int v]) (n := 4) (Nat.le_of_ble_eq_true rfl)
  rw [lg_entry_eq]
  generalize (lg_sl ([.ref a0, .int v]) ++ List.replicate (4 - (lg_sl ([.ref a0, .int v])).length) Slot.unset).toArray = ls at hl ⊢
  have hl : lv_has ls 4 [(0, .ref a0), (1, .int v)] := hl
  refine lv_iconst (v := 0) hx hb dJ7_fill_53178_0 (by decide) ?_
  refine lv_istore_n (lv' := [(2, .int 0), (0, .ref a0), (1, .int v)]) hx hb dJ7_fill_53178_1 rfl hl (by decide) rfl (fun ls hl => ?_)
  refine lv_aload_n hx hb dJ7_fill_53178_2 rfl (lv_at hl 1 rfl) ?_
  refine va_alen (v := nI n) hx hb hK hP 0 0 rfl rfl rfl dJ7_fill_53178_3 ?_
  refine lv_istore_n (lv' := [(3, .int (nI n)), (2, .int 0), (0, .ref a0), (1, .int v)]) hx hb dJ7_fill_53178_4 rfl hl (by decide) rfl (fun ls hl => ?_)
  have loop1 : ∀ (N2 : Nat) (i : Nat) (f : Nat → Int32) (H : Heap) (locs : List Loc) (ls : Array Slot), (i ≤ n) → (∀ k : Nat, k < i → f k = v) → n - i < N2 → va_P D vwCl [(a0, .inl (cI, n, .inl f))] H → va_D A [(a0, .inl (cI, n, .inl f))] → va_S A s.heap H locs → lv_has ls 4 [(2, .int (nI i)), (3, .int (nI n)), (0, .ref a0), (1, .int v)] → W p l e ({ frames := 0, cells := 0, slots := 0, locals := 0 } : Room) s m ([.ref a0, .int v] : List Value).toArray below meth c H locs 0 0 (MQ below (va_Qv (fun (_ : Unit) => True) (fun _ t => ∃ g : Nat → Int32, (∀ k : Nat, k < n → g k = v) ∧ va_P D vwCl [(a0, .inl (cI, n, .inl g))] t.heap ∧ va_D A [(a0, .inl (cI, n, .inl g))]) A) ([.ref a0, .int v] : List Value).toArray s 0 0 A) (F0 m 5 ls []) := by
    intro N2
    induction N2 with
    | zero => intro i f H locs ls hi hv hm9 hP hD hS hl; exact absurd hm9 (Nat.not_lt_zero _)
    | succ N2 ih => 
      intro i f H locs ls hi hv hm9 hP hD hS hl
      refine lv_iload_n hx hb dJ7_fill_53178_5 rfl (lv_at hl 0 rfl) ?_
      refine lv_iload_n hx hb dJ7_fill_53178_6 rfl (lv_at hl 1 rfl) ?_
      refine lv_icmp_ge (tgt := 20) hx hb dJ7_fill_53178_7 (by decide) (fun c3 => ?_) (fun c3 => ?_)
      · have nc3 : n ≤ i := (nI_leI (a := n) (b := i) (by omega) (by omega)).mp c3
        have hP9 := hP.sub (ws' := [(a0, .inl (cI, n, .inl f))]) [0] rfl
        have hD9 := hD.sub (ws' := [(a0, .inl (cI, n, .inl f))]) [0] (by decide) rfl
        refine W.widen (k := 0) (n := 0) (by decide) (by decide) ?_
        exact W.vret hx hb hr (fun t ht hW => ⟨⟨(), rfl, trivial, f, (fun k hk => hv k (by omega)), by rw [ht]; exact hP9, hD9⟩, hS.F ht⟩) hS.2.2 dJ7_fill_53178_20
      · have nc3 : ¬ (n ≤ i) := fun h => c3 ((nI_leI (a := n) (b := i) (by omega) (by omega)).mpr h)
        refine lv_aload_n hx hb dJ7_fill_53178_10 rfl (lv_at hl 2 rfl) ?_
        refine lv_iload_n hx hb dJ7_fill_53178_11 rfl (lv_at hl 0 rfl) ?_
        refine lv_iload_n hx hb dJ7_fill_53178_12 rfl (lv_at hl 3 rfl) ?_
        refine va_iast hx hb hK hP hD hS 0 0 rfl rfl (vp_in_nI (by omega) hn) dJ7_fill_53178_13 (fun H locs hP hD hS => ?_)
        have hP : va_P D vwCl [(a0, .inl (cI, n, .inl (upd f (nI i).toNatClampNeg v)))] H := hP
        have hD : va_D A [(a0, .inl (cI, n, .inl (upd f (nI i).toNatClampNeg v)))] := hD
        obtain ⟨f4, ef4⟩ : ∃ z : Nat → Int32, z = (upd f (nI i).toNatClampNeg v) := ⟨_, rfl⟩
        rw [← ef4] at hP hD
        refine lv_iinc (v := nI (i + 1)) (lv' := [(2, .int (nI (i + 1))), (3, .int (nI n)), (0, .ref a0), (1, .int v)]) hx hb dJ7_fill_53178_14 hl (k := 0) rfl (show nI i + 1 = _ from nI_1 i) (by decide) rfl (fun ls hl => ?_)
        refine lv_goto (tgt := 5) hx hb dJ7_fill_53178_17 (by decide) ?_
        exact ih (i + 1) f4 _ _ _ (by omega) (fun k hk => by rw [ef4, nI_clamp (by omega)]; exact (Decidable.em (k = i)).elim (fun e9 => by subst e9; exact pk_us) (fun e9 => by rw [pk_un e9]; exact hv k (by omega))) (by omega) (hP.sub [0] rfl) (hD.sub [0] (by decide) rfl) hS (lv_sub hl [0, 1, 2, 3] rfl)
  exact loop1 _ 0 f _ _ _ (Nat.zero_le _) (fun k hk => absurd hk (Nat.not_lt_zero _)) (Nat.lt_succ_self _) (hP.sub [0] rfl) (hD.sub [0] (by decide) rfl) hS (lv_sub hl [1, 0, 2, 3] rfl)

def wk_k_putIfUntold : List Cond := .code yX0_putIfUntold cX0_putIfUntold 3 none :: ([])
set_option maxHeartbeats 4000000 in
set_option maxRecDepth 100000 in
theorem k_putIfUntold (l : Launch) (D : va_G) (cI cB cP : ClassId) (sz : Nat) (a0 : Nat) (i : Nat) (n : Nat) (f : Nat → Int32) (w : Int32) (hn : n < 2 ^ 31) (hi : i < n) (hf : f i = -1000) : Met l yX0_putIfUntold wk_k_putIfUntold ({ frames := 0, cells := 0, slots := 0, locals := 0 } : Room) (va_Pc [.ref a0, .int (nI i), .int w] (Pw D cI cB cP sz [(a0, .inl (cI, n, .inl f))])) (va_Qv (fun (_ : Unit) => True) (fun _ t => ∃ g : Nat → Int32, (g i = w) ∧ (∀ k : Nat, k ≠ i → g k = f k) ∧ va_P D vwCl [(a0, .inl (cI, n, .inl g))] t.heap ∧ va_D (va_A [(a0, .inl (cI, n, .inl f))] sz) [(a0, .inl (cI, n, .inl g))]) (va_A [(a0, .inl (cI, n, .inl f))] sz)) 0 0 (va_A [(a0, .inl (cI, n, .inl f))] sz) := by
  refine Met.ofW (cc := cX0_putIfUntold) (maxL := 3) (ret := none) (by decide) rfl ?_
  intro p e s m args below meth c s₁ B hml hv
  obtain ⟨rfl, hsz, hP, ⟨hK, hN⟩, hD0⟩ := hv
  have hx := B.exec
  have hb := B.bytes
  have hr := B.returns
  have hts := atoms_spec (ws := wk_k_putIfUntold) B.pre
  have hown : s.vm.findClass RX0 = some m.cls := findClass_of_methodNamed B.named
  have hlocks := B.notSynchronized
  subst hsz
  have hD := hD0.self (sz := s.heap.size)
  generalize hAe : va_A [(a0, .inl (cI, n, .inl f))] s.heap.size = A at hD ⊢
  have hA : ∀ q : Nat, s.heap.size ≤ q → A q := fun q h => by rw [← hAe]; exact Or.inr h
  have hS : va_S A s.heap s.heap [] := va_S.rf
  have hP : va_P D vwCl [(a0, .inl (cI, n, .inl f))] s.heap := hP
  have hl := lv_entry ([.ref a0, .int (nI i), .int w]) (n := 3) (Nat.le_of_ble_eq_true rfl)
  rw [lg_entry_eq]
  generalize (lg_sl ([.ref a0, .int (nI i), .int w]) ++ List.replicate (3 - (lg_sl ([.ref a0, .int (nI i), .int w])).length) Slot.unset).toArray = ls at hl ⊢
  have hl : lv_has ls 3 [(0, .ref a0), (1, .int (nI i)), (2, .int w)] := hl
  refine lv_iload_n hx hb dX0_putIfUntold_0 rfl (lv_at hl 1 rfl) ?_
  refine lv_if_lt (tgt := 23) hx hb dX0_putIfUntold_1 (by decide) (fun h9 => absurd h9 (nI_pos (by omega))) (fun c1 => ?_)
  refine lv_iload_n hx hb dX0_putIfUntold_4 rfl (lv_at hl 1 rfl) ?_
  refine lv_aload_n hx hb dX0_putIfUntold_5 rfl (lv_at hl 0 rfl) ?_
  refine va_alen (v := nI n) hx hb hK hP 0 0 rfl rfl rfl dX0_putIfUntold_6 ?_
  refine lv_icmp_ge (tgt := 23) hx hb dX0_putIfUntold_7 (by decide) (fun h9 => absurd h9 (nI_ge hi hn)) (fun c2 => ?_)
  refine lv_aload_n hx hb dX0_putIfUntold_10 rfl (lv_at hl 0 rfl) ?_
  refine lv_iload_n hx hb dX0_putIfUntold_11 rfl (lv_at hl 1 rfl) ?_
  refine va_iald hx hb hK hP 0 0 rfl rfl (vp_in_nI hi hn) dX0_putIfUntold_12 ?_
  refine lv_topi (fun vv ev => ?_)
  obtain rfl : vv = (-1000) := ev.trans (by rw [nI_clamp (by omega)]; exact hf)
  refine lv_sipush (v := (-1000)) hx hb dX0_putIfUntold_13 (by decide) ?_
  refine lv_icmp_ne (tgt := 23) hx hb dX0_putIfUntold_16 (by decide) (fun h9 => (by first | exact absurd h9 (by decide) | exact absurd (by decide) h9)) (fun c3 => ?_)
  refine lv_aload_n hx hb dX0_putIfUntold_19 rfl (lv_at hl 0 rfl) ?_
  refine lv_iload_n hx hb dX0_putIfUntold_20 rfl (lv_at hl 1 rfl) ?_
  refine lv_iload_n hx hb dX0_putIfUntold_21 rfl (lv_at hl 2 rfl) ?_
  refine va_iast hx hb hK hP hD hS 0 0 rfl rfl (vp_in_nI hi hn) dX0_putIfUntold_22 (fun H locs hP hD hS => ?_)
  have hP : va_P D vwCl [(a0, .inl (cI, n, .inl (upd f (nI i).toNatClampNeg w)))] H := hP
  have hD : va_D A [(a0, .inl (cI, n, .inl (upd f (nI i).toNatClampNeg w)))] := hD
  obtain ⟨f4, ef4⟩ : ∃ z : Nat → Int32, z = (upd f (nI i).toNatClampNeg w) := ⟨_, rfl⟩
  rw [← ef4] at hP hD
  have hP9 := hP.sub (ws' := [(a0, .inl (cI, n, .inl f4))]) [0] rfl
  have hD9 := hD.sub (ws' := [(a0, .inl (cI, n, .inl f4))]) [0] (by decide) rfl
  refine W.widen (k := 0) (n := 0) (by decide) (by decide) ?_
  exact W.vret hx hb hr (fun t ht hW => ⟨⟨(), rfl, trivial, f4, (by rw [ef4, nI_clamp (by omega)]; exact pk_us), (fun k hk => by rw [ef4, nI_clamp (by omega)]; exact pk_un hk), by rw [ht]; exact hP9, hD9⟩, hS.F ht⟩) hS.2.2 dX0_putIfUntold_23
end
section
def wk_k_leadBurnsOn : List Cond := .code yX0_leadBurnsOn cX0_leadBurnsOn 5 none :: ([.fieldLink RX0 39 "FlightDesk$Book" "burn" "[I", .initialized RX7, .static yX7_burnIndex, .code yX7_burnIndex cX7_burnIndex 2 (some .int), .methodLink RX0 67 yX0_putIfUntold, .static yX0_putIfUntold, .initialized RX0, .code yX0_putIfUntold cX0_putIfUntold 3 none] ++ wsX00)
theorem iw_k_leadBurnsOn_0 : ∀ w ∈ wsX00, w ∈ wk_k_leadBurnsOn := fun _ h => List.mem_cons_of_mem _ (List.mem_append_right _ h)
set_option maxRecDepth 20000 in
theorem gw_k_leadBurnsOn_0 : GoodIn wk_k_leadBurnsOn wk_k_burnIndex := goodIn_sub (by decide +kernel) (by decide +kernel)
set_option maxRecDepth 20000 in
theorem gw_k_leadBurnsOn_1 : GoodIn wk_k_leadBurnsOn (wsS RX0 67 yX0_putIfUntold wk_k_putIfUntold) := goodIn_sub (by decide +kernel) (by decide +kernel)
set_option maxHeartbeats 4000000 in
set_option maxRecDepth 100000 in
theorem k_leadBurnsOn (l : Launch) (D : va_G) (cI cB cP : ClassId) (sz : Nat) (h0 : Nat) (lc : Int32) (ln : Int32) (a2 : Nat) (a3 : Nat) (a4 : Nat) (a5 : Nat) (a6 : Nat) (a7 : Nat) (a8 : Nat) (a9 : Nat) (a10 : Nat) (a11 : Nat) (a12 : Nat) (a13 : Nat) (a14 : Nat) (L : Nat) (fb : Nat → Int32) (hL : L < 6) (hu : ∀ b : Nat, b < 5 → fb (L * 5 + b) = -1000) : Met l yX0_leadBurnsOn wk_k_leadBurnsOn ({ frames := 1, cells := 0, slots := 0, locals := 22 } : Room) (va_Pc [.ref h0, .int (nI L)] (Pw D cI cB cP sz [(h0, .inr (0, [.int lc, .int ln, .ref a2, .ref a3, .ref a4, .ref a5, .ref a6, .ref a7, .ref a8, .ref a9, .ref a10, .ref a11, .ref a12, .ref a13, .ref a14])), (a11, .inl (cI, 30, .inl fb))])) (va_Qv (fun (_ : Unit) => True) (fun _ t => ∃ g : Nat → Int32, (∀ b : Nat, b < 5 → g (L * 5 + b) = 1000) ∧ (∀ k : Nat, (k < L * 5 ∨ L * 5 + 5 ≤ k) → g k = fb k) ∧ va_P D vwCl [(h0, .inr (0, [.int lc, .int ln, .ref a2, .ref a3, .ref a4, .ref a5, .ref a6, .ref a7, .ref a8, .ref a9, .ref a10, .ref a11, .ref a12, .ref a13, .ref a14])), (a11, .inl (cI, 30, .inl g))] t.heap ∧ va_D (va_A [(h0, .inr (0, [.int lc, .int ln, .ref a2, .ref a3, .ref a4, .ref a5, .ref a6, .ref a7, .ref a8, .ref a9, .ref a10, .ref a11, .ref a12, .ref a13, .ref a14])), (a11, .inl (cI, 30, .inl fb))] sz) [(h0, .inr (0, [.int lc, .int ln, .ref a2, .ref a3, .ref a4, .ref a5, .ref a6, .ref a7, .ref a8, .ref a9, .ref a10, .ref a11, .ref a12, .ref a13, .ref a14])), (a11, .inl (cI, 30, .inl g))]) (va_A [(h0, .inr (0, [.int lc, .int ln, .ref a2, .ref a3, .ref a4, .ref a5, .ref a6, .ref a7, .ref a8, .ref a9, .ref a10, .ref a11, .ref a12, .ref a13, .ref a14])), (a11, .inl (cI, 30, .inl fb))] sz)) 0 0 (va_A [(h0, .inr (0, [.int lc, .int ln, .ref a2, .ref a3, .ref a4, .ref a5, .ref a6, .ref a7, .ref a8, .ref a9, .ref a10, .ref a11, .ref a12, .ref a13, .ref a14])), (a11, .inl (cI, 30, .inl fb))] sz) := by
  refine Met.ofW (cc := cX0_leadBurnsOn) (maxL := 5) (ret := none) (by decide) rfl ?_
  intro p e s m args below meth c s₁ B hml hv
  obtain ⟨rfl, hsz, hP, ⟨hK, hN⟩, hD0⟩ := hv
  have hx := B.exec
  have hb := B.bytes
  have hr := B.returns
  have hts := atoms_spec (ws := wk_k_leadBurnsOn) B.pre
  have hown : s.vm.findClass RX0 = some m.cls := findClass_of_methodNamed B.named
  have hlocks := B.notSynchronized
  subst hsz
  have hD := hD0.self (sz := s.heap.size)
  generalize hAe : va_A [(h0, .inr (0, [.int lc, .int ln, .ref a2, .ref a3, .ref a4, .ref a5, .ref a6, .ref a7, .ref a8, .ref a9, .ref a10, .ref a11, .ref a12, .ref a13, .ref a14])), (a11, .inl (cI, 30, .inl fb))] s.heap.size = A at hD ⊢
  have hA : ∀ q : Nat, s.heap.size ≤ q → A q := fun q h => by rw [← hAe]; exact Or.inr h
  have hS : va_S A s.heap s.heap [] := va_S.rf
  have hP : va_P D vwCl [(h0, .inr (0, [.int lc, .int ln, .ref a2, .ref a3, .ref a4, .ref a5, .ref a6, .ref a7, .ref a8, .ref a9, .ref a10, .ref a11, .ref a12, .ref a13, .ref a14])), (a11, .inl (cI, 30, .inl fb))] s.heap := hP
  have hl := lv_entry ([.ref h0, .int (nI L)]) (n := 5) (Nat.le_of_ble_eq_true rfl)
  rw [lg_entry_eq]
  generalize (lg_sl ([.ref h0, .int (nI L)]) ++ List.replicate (5 - (lg_sl ([.ref h0, .int (nI L)])).length) Slot.unset).toArray = ls at hl ⊢
  have hl : lv_has ls 5 [(0, .ref h0), (1, .int (nI L))] := hl
  refine lv_sipush (v := 1000) hx hb dX0_leadBurnsOn_0 (by decide) ?_
  refine lv_istore_n (lv' := [(2, .int 1000), (0, .ref h0), (1, .int (nI L))]) hx hb dX0_leadBurnsOn_3 rfl hl (by decide) rfl (fun ls hl => ?_)
  refine lv_iconst (v := 4) hx hb dX0_leadBurnsOn_4 (by decide) ?_
  refine lv_istore_n (lv' := [(3, .int 4), (2, .int 1000), (0, .ref h0), (1, .int (nI L))]) hx hb dX0_leadBurnsOn_5 rfl hl (by decide) rfl (fun ls hl => ?_)
  refine lv_iload_n hx hb dX0_leadBurnsOn_6 rfl (lv_at hl 0 rfl) ?_
  refine lv_if_lt (tgt := 43) hx hb dX0_leadBurnsOn_7 (by decide) (fun h9 => (by first | exact absurd h9 (by decide) | exact absurd (by decide) h9)) (fun c1 => ?_)
  refine lv_aload_n hx hb dX0_leadBurnsOn_10 rfl (lv_at hl 2 rfl) ?_
  refine va_get (D := D) (ci := 0) (v := .ref a11) (C := RX0) (T := TX0) (N := 15) hx hb hts iw_k_leadBurnsOn_0 hown hK hP 0 rfl rfl 11 (by decide) (hts (.fieldLink RX0 39 "FlightDesk$Book" "burn" "[I") (by decide +kernel)) (fun _ h9 => h9) rfl dX0_leadBurnsOn_11 ?_
  refine lv_iload_n hx hb dX0_leadBurnsOn_14 rfl (lv_at hl 3 rfl) ?_
  refine lv_iload_n hx hb dX0_leadBurnsOn_15 rfl (lv_at hl 0 rfl) ?_
  have hPc := hP.sub (ws' := []) [] rfl
  have hDc := hD.sub (ws' := []) [] (by decide) rfl
  have hFc := va_free (wc := []) hD hS hA [] rfl
  refine va_calli (va_runSN (As := [.int (nI L), .int 4]) (rest := [.ref a11]) ⟨hx, hb, hml, hown, hts⟩ (k_burnIndex l D cI cB cP s.heap.size L 4) ⟨va_cnB 2 hts gw_k_leadBurnsOn_0 rfl rfl rfl (hN.1) (hts (.initialized RX7) (by decide +kernel)) (by decide +kernel) ⟨Nat.le_of_ble_eq_true rfl, Nat.le_of_ble_eq_true rfl⟩, (hts (.static yX7_burnIndex) (by decide +kernel)), trivial⟩ ⟨ny_blind, ny_pre hPc hK hN hDc⟩ rfl rfl hl.1 rfl (lv_room (Nat.le_of_ble_eq_true rfl)) dX0_leadBurnsOn_16 ⟨Nat.le_of_ble_eq_true rfl, Nat.le_of_ble_eq_true rfl⟩) hS (fun q _ h => hFc q h) hFc (fun r2 u t H locs ht hvm hw hB hz1 hk1 hS => ?_)
  obtain ⟨hP, hD⟩ := va_join (wr := [(h0, .inr (0, [.int lc, .int ln, .ref a2, .ref a3, .ref a4, .ref a5, .ref a6, .ref a7, .ref a8, .ref a9, .ref a10, .ref a11, .ref a12, .ref a13, .ref a14])), (a11, .inl (cI, 30, .inl fb))]) (w1 := []) hP hD [] [0, 1] rfl rfl (by decide) (by decide) hk1 hFc ny_P0 ny_D0
  have hP : va_P D vwCl [(h0, .inr (0, [.int lc, .int ln, .ref a2, .ref a3, .ref a4, .ref a5, .ref a6, .ref a7, .ref a8, .ref a9, .ref a10, .ref a11, .ref a12, .ref a13, .ref a14])), (a11, .inl (cI, 30, .inl fb))] H := hP
  have hD : va_D A [(h0, .inr (0, [.int lc, .int ln, .ref a2, .ref a3, .ref a4, .ref a5, .ref a6, .ref a7, .ref a8, .ref a9, .ref a10, .ref a11, .ref a12, .ref a13, .ref a14])), (a11, .inl (cI, 30, .inl fb))] := hD
  subst hw
  refine va_iald hx hb hK hP 1 0 rfl rfl (vp_in_nI (by omega) (by decide)) dX0_leadBurnsOn_19 ?_
  refine lv_topi (fun vv ev => ?_)
  obtain rfl : vv = (-1000) := ev.trans (by rw [nI_clamp (by omega)]; exact hu 4 (by decide))
  refine lv_istore (lv' := [(4, .int (-1000)), (3, .int 4), (2, .int 1000), (0, .ref h0), (1, .int (nI L))]) hx hb dX0_leadBurnsOn_20 hl (by decide) rfl (fun ls hl => ?_)
  refine lv_iload hx hb dX0_leadBurnsOn_22 (lv_at hl 0 rfl) ?_
  refine lv_sipush (v := (-1000)) hx hb dX0_leadBurnsOn_24 (by decide) ?_
  refine lv_icmp_ne (tgt := 34) hx hb dX0_leadBurnsOn_27 (by decide) (fun h9 => (by first | exact absurd h9 (by decide) | exact absurd (by decide) h9)) (fun c3 => ?_)
  refine lv_iload_n hx hb dX0_leadBurnsOn_30 rfl (lv_at hl 2 rfl) ?_
  refine lv_goto (tgt := 36) hx hb dX0_leadBurnsOn_31 (by decide) ?_
  refine lv_istore_n (lv' := [(2, .int 1000), (4, .int (-1000)), (3, .int 4), (0, .ref h0), (1, .int (nI L))]) hx hb dX0_leadBurnsOn_36 rfl hl (by decide) rfl (fun ls hl => ?_)
  refine lv_iinc (v := 3) (lv' := [(3, .int 3), (2, .int 1000), (4, .int (-1000)), (0, .ref h0), (1, .int (nI L))]) hx hb dX0_leadBurnsOn_37 hl (k := 2) rfl (by decide) (by decide) rfl (fun ls hl => ?_)
  refine lv_goto (tgt := 6) hx hb dX0_leadBurnsOn_40 (by decide) ?_
  refine lv_iload_n hx hb dX0_leadBurnsOn_6 rfl (lv_at hl 0 rfl) ?_
  refine lv_if_lt (tgt := 43) hx hb dX0_leadBurnsOn_7 (by decide) (fun h9 => (by first | exact absurd h9 (by decide) | exact absurd (by decide) h9)) (fun c4 => ?_)
  refine lv_aload_n hx hb dX0_leadBurnsOn_10 rfl (lv_at hl 3 rfl) ?_
  refine va_get (D := D) (ci := 0) (v := .ref a11) (C := RX0) (T := TX0) (N := 15) hx hb hts iw_k_leadBurnsOn_0 hown hK hP 0 rfl rfl 11 (by decide) (hts (.fieldLink RX0 39 "FlightDesk$Book" "burn" "[I") (by decide +kernel)) (fun _ h9 => h9) rfl dX0_leadBurnsOn_11 ?_
  refine lv_iload_n hx hb dX0_leadBurnsOn_14 rfl (lv_at hl 4 rfl) ?_
  refine lv_iload_n hx hb dX0_leadBurnsOn_15 rfl (lv_at hl 0 rfl) ?_
  have hPc := hP.sub (ws' := []) [] rfl
  have hDc := hD.sub (ws' := []) [] (by decide) rfl
  have hFc := va_free (wc := []) hD hS hA [] rfl
  refine va_calli (va_runSN (As := [.int (nI L), .int 3]) (rest := [.ref a11]) ⟨hx, hb, hml, hown, hts⟩ (k_burnIndex l D cI cB cP H.size L 3) ⟨va_cnB 2 hts gw_k_leadBurnsOn_0 rfl rfl rfl (hN.1) (hts (.initialized RX7) (by decide +kernel)) (by decide +kernel) ⟨Nat.le_of_ble_eq_true rfl, Nat.le_of_ble_eq_true rfl⟩, (hts (.static yX7_burnIndex) (by decide +kernel)), trivial⟩ ⟨ny_blind, ny_pre hPc hK hN hDc⟩ rfl rfl hl.1 rfl (lv_room (Nat.le_of_ble_eq_true rfl)) dX0_leadBurnsOn_16 ⟨Nat.le_of_ble_eq_true rfl, Nat.le_of_ble_eq_true rfl⟩) hS (fun q _ h => hFc q h) hFc (fun r5 u t H locs ht hvm hw hB hz1 hk1 hS => ?_)
  obtain ⟨hP, hD⟩ := va_join (wr := [(h0, .inr (0, [.int lc, .int ln, .ref a2, .ref a3, .ref a4, .ref a5, .ref a6, .ref a7, .ref a8, .ref a9, .ref a10, .ref a11, .ref a12, .ref a13, .ref a14])), (a11, .inl (cI, 30, .inl fb))]) (w1 := []) hP hD [] [0, 1] rfl rfl (by decide) (by decide) hk1 hFc ny_P0 ny_D0
  have hP : va_P D vwCl [(h0, .inr (0, [.int lc, .int ln, .ref a2, .ref a3, .ref a4, .ref a5, .ref a6, .ref a7, .ref a8, .ref a9, .ref a10, .ref a11, .ref a12, .ref a13, .ref a14])), (a11, .inl (cI, 30, .inl fb))] H := hP
  have hD : va_D A [(h0, .inr (0, [.int lc, .int ln, .ref a2, .ref a3, .ref a4, .ref a5, .ref a6, .ref a7, .ref a8, .ref a9, .ref a10, .ref a11, .ref a12, .ref a13, .ref a14])), (a11, .inl (cI, 30, .inl fb))] := hD
  subst hw
  refine va_iald hx hb hK hP 1 0 rfl rfl (vp_in_nI (by omega) (by decide)) dX0_leadBurnsOn_19 ?_
  refine lv_topi (fun vv ev => ?_)
  obtain rfl : vv = (-1000) := ev.trans (by rw [nI_clamp (by omega)]; exact hu 3 (by decide))
  refine lv_istore (lv' := [(4, .int (-1000)), (3, .int 3), (2, .int 1000), (0, .ref h0), (1, .int (nI L))]) hx hb dX0_leadBurnsOn_20 hl (by decide) rfl (fun ls hl => ?_)
  refine lv_iload hx hb dX0_leadBurnsOn_22 (lv_at hl 0 rfl) ?_
  refine lv_sipush (v := (-1000)) hx hb dX0_leadBurnsOn_24 (by decide) ?_
  refine lv_icmp_ne (tgt := 34) hx hb dX0_leadBurnsOn_27 (by decide) (fun h9 => (by first | exact absurd h9 (by decide) | exact absurd (by decide) h9)) (fun c6 => ?_)
  refine lv_iload_n hx hb dX0_leadBurnsOn_30 rfl (lv_at hl 2 rfl) ?_
  refine lv_goto (tgt := 36) hx hb dX0_leadBurnsOn_31 (by decide) ?_
  refine lv_istore_n (lv' := [(2, .int 1000), (4, .int (-1000)), (3, .int 3), (0, .ref h0), (1, .int (nI L))]) hx hb dX0_leadBurnsOn_36 rfl hl (by decide) rfl (fun ls hl => ?_)
  refine lv_iinc (v := 2) (lv' := [(3, .int 2), (2, .int 1000), (4, .int (-1000)), (0, .ref h0), (1, .int (nI L))]) hx hb dX0_leadBurnsOn_37 hl (k := 2) rfl (by decide) (by decide) rfl (fun ls hl => ?_)
  refine lv_goto (tgt := 6) hx hb dX0_leadBurnsOn_40 (by decide) ?_
  refine lv_iload_n hx hb dX0_leadBurnsOn_6 rfl (lv_at hl 0 rfl) ?_
  refine lv_if_lt (tgt := 43) hx hb dX0_leadBurnsOn_7 (by decide) (fun h9 => (by first | exact absurd h9 (by decide) | exact absurd (by decide) h9)) (fun c7 => ?_)
  refine lv_aload_n hx hb dX0_leadBurnsOn_10 rfl (lv_at hl 3 rfl) ?_
  refine va_get (D := D) (ci := 0) (v := .ref a11) (C := RX0) (T := TX0) (N := 15) hx hb hts iw_k_leadBurnsOn_0 hown hK hP 0 rfl rfl 11 (by decide) (hts (.fieldLink RX0 39 "FlightDesk$Book" "burn" "[I") (by decide +kernel)) (fun _ h9 => h9) rfl dX0_leadBurnsOn_11 ?_
  refine lv_iload_n hx hb dX0_leadBurnsOn_14 rfl (lv_at hl 4 rfl) ?_
  refine lv_iload_n hx hb dX0_leadBurnsOn_15 rfl (lv_at hl 0 rfl) ?_
  have hPc := hP.sub (ws' := []) [] rfl
  have hDc := hD.sub (ws' := []) [] (by decide) rfl
  have hFc := va_free (wc := []) hD hS hA [] rfl
  refine va_calli (va_runSN (As := [.int (nI L), .int 2]) (rest := [.ref a11]) ⟨hx, hb, hml, hown, hts⟩ (k_burnIndex l D cI cB cP H.size L 2) ⟨va_cnB 2 hts gw_k_leadBurnsOn_0 rfl rfl rfl (hN.1) (hts (.initialized RX7) (by decide +kernel)) (by decide +kernel) ⟨Nat.le_of_ble_eq_true rfl, Nat.le_of_ble_eq_true rfl⟩, (hts (.static yX7_burnIndex) (by decide +kernel)), trivial⟩ ⟨ny_blind, ny_pre hPc hK hN hDc⟩ rfl rfl hl.1 rfl (lv_room (Nat.le_of_ble_eq_true rfl)) dX0_leadBurnsOn_16 ⟨Nat.le_of_ble_eq_true rfl, Nat.le_of_ble_eq_true rfl⟩) hS (fun q _ h => hFc q h) hFc (fun r8 u t H locs ht hvm hw hB hz1 hk1 hS => ?_)
  obtain ⟨hP, hD⟩ := va_join (wr := [(h0, .inr (0, [.int lc, .int ln, .ref a2, .ref a3, .ref a4, .ref a5, .ref a6, .ref a7, .ref a8, .ref a9, .ref a10, .ref a11, .ref a12, .ref a13, .ref a14])), (a11, .inl (cI, 30, .inl fb))]) (w1 := []) hP hD [] [0, 1] rfl rfl (by decide) (by decide) hk1 hFc ny_P0 ny_D0
  have hP : va_P D vwCl [(h0, .inr (0, [.int lc, .int ln, .ref a2, .ref a3, .ref a4, .ref a5, .ref a6, .ref a7, .ref a8, .ref a9, .ref a10, .ref a11, .ref a12, .ref a13, .ref a14])), (a11, .inl (cI, 30, .inl fb))] H := hP
  have hD : va_D A [(h0, .inr (0, [.int lc, .int ln, .ref a2, .ref a3, .ref a4, .ref a5, .ref a6, .ref a7, .ref a8, .ref a9, .ref a10, .ref a11, .ref a12, .ref a13, .ref a14])), (a11, .inl (cI, 30, .inl fb))] := hD
  subst hw
  refine va_iald hx hb hK hP 1 0 rfl rfl (vp_in_nI (by omega) (by decide)) dX0_leadBurnsOn_19 ?_
  refine lv_topi (fun vv ev => ?_)
  obtain rfl : vv = (-1000) := ev.trans (by rw [nI_clamp (by omega)]; exact hu 2 (by decide))
  refine lv_istore (lv' := [(4, .int (-1000)), (3, .int 2), (2, .int 1000), (0, .ref h0), (1, .int (nI L))]) hx hb dX0_leadBurnsOn_20 hl (by decide) rfl (fun ls hl => ?_)
  refine lv_iload hx hb dX0_leadBurnsOn_22 (lv_at hl 0 rfl) ?_
  refine lv_sipush (v := (-1000)) hx hb dX0_leadBurnsOn_24 (by decide) ?_
  refine lv_icmp_ne (tgt := 34) hx hb dX0_leadBurnsOn_27 (by decide) (fun h9 => (by first | exact absurd h9 (by decide) | exact absurd (by decide) h9)) (fun c9 => ?_)
  refine lv_iload_n hx hb dX0_leadBurnsOn_30 rfl (lv_at hl 2 rfl) ?_
  refine lv_goto (tgt := 36) hx hb dX0_leadBurnsOn_31 (by decide) ?_
  refine lv_istore_n (lv' := [(2, .int 1000), (4, .int (-1000)), (3, .int 2), (0, .ref h0), (1, .int (nI L))]) hx hb dX0_leadBurnsOn_36 rfl hl (by decide) rfl (fun ls hl => ?_)
  refine lv_iinc (v := 1) (lv' := [(3, .int 1), (2, .int 1000), (4, .int (-1000)), (0, .ref h0), (1, .int (nI L))]) hx hb dX0_leadBurnsOn_37 hl (k := 2) rfl (by decide) (by decide) rfl (fun ls hl => ?_)
  refine lv_goto (tgt := 6) hx hb dX0_leadBurnsOn_40 (by decide) ?_
  refine lv_iload_n hx hb dX0_leadBurnsOn_6 rfl (lv_at hl 0 rfl) ?_
  refine lv_if_lt (tgt := 43) hx hb dX0_leadBurnsOn_7 (by decide) (fun h9 => (by first | exact absurd h9 (by decide) | exact absurd (by decide) h9)) (fun c10 => ?_)
  refine lv_aload_n hx hb dX0_leadBurnsOn_10 rfl (lv_at hl 3 rfl) ?_
  refine va_get (D := D) (ci := 0) (v := .ref a11) (C := RX0) (T := TX0) (N := 15) hx hb hts iw_k_leadBurnsOn_0 hown hK hP 0 rfl rfl 11 (by decide) (hts (.fieldLink RX0 39 "FlightDesk$Book" "burn" "[I") (by decide +kernel)) (fun _ h9 => h9) rfl dX0_leadBurnsOn_11 ?_
  refine lv_iload_n hx hb dX0_leadBurnsOn_14 rfl (lv_at hl 4 rfl) ?_
  refine lv_iload_n hx hb dX0_leadBurnsOn_15 rfl (lv_at hl 0 rfl) ?_
  have hPc := hP.sub (ws' := []) [] rfl
  have hDc := hD.sub (ws' := []) [] (by decide) rfl
  have hFc := va_free (wc := []) hD hS hA [] rfl
  refine va_calli (va_runSN (As := [.int (nI L), .int 1]) (rest := [.ref a11]) ⟨hx, hb, hml, hown, hts⟩ (k_burnIndex l D cI cB cP H.size L 1) ⟨va_cnB 2 hts gw_k_leadBurnsOn_0 rfl rfl rfl (hN.1) (hts (.initialized RX7) (by decide +kernel)) (by decide +kernel) ⟨Nat.le_of_ble_eq_true rfl, Nat.le_of_ble_eq_true rfl⟩, (hts (.static yX7_burnIndex) (by decide +kernel)), trivial⟩ ⟨ny_blind, ny_pre hPc hK hN hDc⟩ rfl rfl hl.1 rfl (lv_room (Nat.le_of_ble_eq_true rfl)) dX0_leadBurnsOn_16 ⟨Nat.le_of_ble_eq_true rfl, Nat.le_of_ble_eq_true rfl⟩) hS (fun q _ h => hFc q h) hFc (fun r11 u t H locs ht hvm hw hB hz1 hk1 hS => ?_)
  obtain ⟨hP, hD⟩ := va_join (wr := [(h0, .inr (0, [.int lc, .int ln, .ref a2, .ref a3, .ref a4, .ref a5, .ref a6, .ref a7, .ref a8, .ref a9, .ref a10, .ref a11, .ref a12, .ref a13, .ref a14])), (a11, .inl (cI, 30, .inl fb))]) (w1 := []) hP hD [] [0, 1] rfl rfl (by decide) (by decide) hk1 hFc ny_P0 ny_D0
  have hP : va_P D vwCl [(h0, .inr (0, [.int lc, .int ln, .ref a2, .ref a3, .ref a4, .ref a5, .ref a6, .ref a7, .ref a8, .ref a9, .ref a10, .ref a11, .ref a12, .ref a13, .ref a14])), (a11, .inl (cI, 30, .inl fb))] H := hP
  have hD : va_D A [(h0, .inr (0, [.int lc, .int ln, .ref a2, .ref a3, .ref a4, .ref a5, .ref a6, .ref a7, .ref a8, .ref a9, .ref a10, .ref a11, .ref a12, .ref a13, .ref a14])), (a11, .inl (cI, 30, .inl fb))] := hD
  subst hw
  refine va_iald hx hb hK hP 1 0 rfl rfl (vp_in_nI (by omega) (by decide)) dX0_leadBurnsOn_19 ?_
  refine lv_topi (fun vv ev => ?_)
  obtain rfl : vv = (-1000) := ev.trans (by rw [nI_clamp (by omega)]; exact hu 1 (by decide))
  refine lv_istore (lv' := [(4, .int (-1000)), (3, .int 1), (2, .int 1000), (0, .ref h0), (1, .int (nI L))]) hx hb dX0_leadBurnsOn_20 hl (by decide) rfl (fun ls hl => ?_)
  refine lv_iload hx hb dX0_leadBurnsOn_22 (lv_at hl 0 rfl) ?_
  refine lv_sipush (v := (-1000)) hx hb dX0_leadBurnsOn_24 (by decide) ?_
  refine lv_icmp_ne (tgt := 34) hx hb dX0_leadBurnsOn_27 (by decide) (fun h9 => (by first | exact absurd h9 (by decide) | exact absurd (by decide) h9)) (fun c12 => ?_)
  refine lv_iload_n hx hb dX0_leadBurnsOn_30 rfl (lv_at hl 2 rfl) ?_
  refine lv_goto (tgt := 36) hx hb dX0_leadBurnsOn_31 (by decide) ?_
  refine lv_istore_n (lv' := [(2, .int 1000), (4, .int (-1000)), (3, .int 1), (0, .ref h0), (1, .int (nI L))]) hx hb dX0_leadBurnsOn_36 rfl hl (by decide) rfl (fun ls hl => ?_)
  refine lv_iinc (v := 0) (lv' := [(3, .int 0), (2, .int 1000), (4, .int (-1000)), (0, .ref h0), (1, .int (nI L))]) hx hb dX0_leadBurnsOn_37 hl (k := 2) rfl (by decide) (by decide) rfl (fun ls hl => ?_)
  refine lv_goto (tgt := 6) hx hb dX0_leadBurnsOn_40 (by decide) ?_
  refine lv_iload_n hx hb dX0_leadBurnsOn_6 rfl (lv_at hl 0 rfl) ?_
  refine lv_if_lt (tgt := 43) hx hb dX0_leadBurnsOn_7 (by decide) (fun h9 => (by first | exact absurd h9 (by decide) | exact absurd (by decide) h9)) (fun c13 => ?_)
  refine lv_aload_n hx hb dX0_leadBurnsOn_10 rfl (lv_at hl 3 rfl) ?_
  refine va_get (D := D) (ci := 0) (v := .ref a11) (C := RX0) (T := TX0) (N := 15) hx hb hts iw_k_leadBurnsOn_0 hown hK hP 0 rfl rfl 11 (by decide) (hts (.fieldLink RX0 39 "FlightDesk$Book" "burn" "[I") (by decide +kernel)) (fun _ h9 => h9) rfl dX0_leadBurnsOn_11 ?_
  refine lv_iload_n hx hb dX0_leadBurnsOn_14 rfl (lv_at hl 4 rfl) ?_
  refine lv_iload_n hx hb dX0_leadBurnsOn_15 rfl (lv_at hl 0 rfl) ?_
  have hPc := hP.sub (ws' := []) [] rfl
  have hDc := hD.sub (ws' := []) [] (by decide) rfl
  have hFc := va_free (wc := []) hD hS hA [] rfl
  refine va_calli (va_runSN (As := [.int (nI L), .int 0]) (rest := [.ref a11]) ⟨hx, hb, hml, hown, hts⟩ (k_burnIndex l D cI cB cP H.size L 0) ⟨va_cnB 2 hts gw_k_leadBurnsOn_0 rfl rfl rfl (hN.1) (hts (.initialized RX7) (by decide +kernel)) (by decide +kernel) ⟨Nat.le_of_ble_eq_true rfl, Nat.le_of_ble_eq_true rfl⟩, (hts (.static yX7_burnIndex) (by decide +kernel)), trivial⟩ ⟨ny_blind, ny_pre hPc hK hN hDc⟩ rfl rfl hl.1 rfl (lv_room (Nat.le_of_ble_eq_true rfl)) dX0_leadBurnsOn_16 ⟨Nat.le_of_ble_eq_true rfl, Nat.le_of_ble_eq_true rfl⟩) hS (fun q _ h => hFc q h) hFc (fun r14 u t H locs ht hvm hw hB hz1 hk1 hS => ?_)
  obtain ⟨hP, hD⟩ := va_join (wr := [(h0, .inr (0, [.int lc, .int ln, .ref a2, .ref a3, .ref a4, .ref a5, .ref a6, .ref a7, .ref a8, .ref a9, .ref a10, .ref a11, .ref a12, .ref a13, .ref a14])), (a11, .inl (cI, 30, .inl fb))]) (w1 := []) hP hD [] [0, 1] rfl rfl (by decide) (by decide) hk1 hFc ny_P0 ny_D0
  have hP : va_P D vwCl [(h0, .inr (0, [.int lc, .int ln, .ref a2, .ref a3, .ref a4, .ref a5, .ref a6, .ref a7, .ref a8, .ref a9, .ref a10, .ref a11, .ref a12, .ref a13, .ref a14])), (a11, .inl (cI, 30, .inl fb))] H := hP
  have hD : va_D A [(h0, .inr (0, [.int lc, .int ln, .ref a2, .ref a3, .ref a4, .ref a5, .ref a6, .ref a7, .ref a8, .ref a9, .ref a10, .ref a11, .ref a12, .ref a13, .ref a14])), (a11, .inl (cI, 30, .inl fb))] := hD
  subst hw
  refine va_iald hx hb hK hP 1 0 rfl rfl (vp_in_nI (by omega) (by decide)) dX0_leadBurnsOn_19 ?_
  refine lv_topi (fun vv ev => ?_)
  obtain rfl : vv = (-1000) := ev.trans (by rw [nI_clamp (by omega)]; exact hu 0 (by decide))
  refine lv_istore (lv' := [(4, .int (-1000)), (3, .int 0), (2, .int 1000), (0, .ref h0), (1, .int (nI L))]) hx hb dX0_leadBurnsOn_20 hl (by decide) rfl (fun ls hl => ?_)
  refine lv_iload hx hb dX0_leadBurnsOn_22 (lv_at hl 0 rfl) ?_
  refine lv_sipush (v := (-1000)) hx hb dX0_leadBurnsOn_24 (by decide) ?_
  refine lv_icmp_ne (tgt := 34) hx hb dX0_leadBurnsOn_27 (by decide) (fun h9 => (by first | exact absurd h9 (by decide) | exact absurd (by decide) h9)) (fun c15 => ?_)
  refine lv_iload_n hx hb dX0_leadBurnsOn_30 rfl (lv_at hl 2 rfl) ?_
  refine lv_goto (tgt := 36) hx hb dX0_leadBurnsOn_31 (by decide) ?_
  refine lv_istore_n (lv' := [(2, .int 1000), (4, .int (-1000)), (3, .int 0), (0, .ref h0), (1, .int (nI L))]) hx hb dX0_leadBurnsOn_36 rfl hl (by decide) rfl (fun ls hl => ?_)
  refine lv_iinc (v := (-1)) (lv' := [(3, .int (-1)), (2, .int 1000), (4, .int (-1000)), (0, .ref h0), (1, .int (nI L))]) hx hb dX0_leadBurnsOn_37 hl (k := 2) rfl (by decide) (by decide) rfl (fun ls hl => ?_)
  refine lv_goto (tgt := 6) hx hb dX0_leadBurnsOn_40 (by decide) ?_
  refine lv_iload_n hx hb dX0_leadBurnsOn_6 rfl (lv_at hl 0 rfl) ?_
  refine lv_if_lt (tgt := 43) hx hb dX0_leadBurnsOn_7 (by decide) (fun c16 => ?_) (fun h9 => (by first | exact absurd h9 (by decide) | exact absurd (by decide) h9))
  refine lv_iconst (v := 0) hx hb dX0_leadBurnsOn_43 (by decide) ?_
  refine lv_istore_n (lv' := [(3, .int 0), (2, .int 1000), (4, .int (-1000)), (0, .ref h0), (1, .int (nI L))]) hx hb dX0_leadBurnsOn_44 rfl hl (by decide) rfl (fun ls hl => ?_)
  refine lv_iload_n hx hb dX0_leadBurnsOn_45 rfl (lv_at hl 0 rfl) ?_
  refine lv_iconst (v := 5) hx hb dX0_leadBurnsOn_46 (by decide) ?_
  refine lv_icmp_ge (tgt := 80) hx hb dX0_leadBurnsOn_47 (by decide) (fun h9 => (by first | exact absurd h9 (by decide) | exact absurd (by decide) h9)) (fun c17 => ?_)
  refine lv_aload_n hx hb dX0_leadBurnsOn_50 rfl (lv_at hl 3 rfl) ?_
  refine va_get (D := D) (ci := 0) (v := .ref a11) (C := RX0) (T := TX0) (N := 15) hx hb hts iw_k_leadBurnsOn_0 hown hK hP 0 rfl rfl 11 (by decide) (hts (.fieldLink RX0 39 "FlightDesk$Book" "burn" "[I") (by decide +kernel)) (fun _ h9 => h9) rfl dX0_leadBurnsOn_51 ?_
  refine lv_iload_n hx hb dX0_leadBurnsOn_54 rfl (lv_at hl 4 rfl) ?_
  refine lv_iload_n hx hb dX0_leadBurnsOn_55 rfl (lv_at hl 0 rfl) ?_
  have hPc := hP.sub (ws' := []) [] rfl
  have hDc := hD.sub (ws' := []) [] (by decide) rfl
  have hFc := va_free (wc := []) hD hS hA [] rfl
  refine va_calli (va_runSN (As := [.int (nI L), .int 0]) (rest := [.ref a11]) ⟨hx, hb, hml, hown, hts⟩ (k_burnIndex l D cI cB cP H.size L 0) ⟨va_cnB 2 hts gw_k_leadBurnsOn_0 rfl rfl rfl (hN.1) (hts (.initialized RX7) (by decide +kernel)) (by decide +kernel) ⟨Nat.le_of_ble_eq_true rfl, Nat.le_of_ble_eq_true rfl⟩, (hts (.static yX7_burnIndex) (by decide +kernel)), trivial⟩ ⟨ny_blind, ny_pre hPc hK hN hDc⟩ rfl rfl hl.1 rfl (lv_room (Nat.le_of_ble_eq_true rfl)) dX0_leadBurnsOn_56 ⟨Nat.le_of_ble_eq_true rfl, Nat.le_of_ble_eq_true rfl⟩) hS (fun q _ h => hFc q h) hFc (fun r18 u t H locs ht hvm hw hB hz1 hk1 hS => ?_)
  obtain ⟨hP, hD⟩ := va_join (wr := [(h0, .inr (0, [.int lc, .int ln, .ref a2, .ref a3, .ref a4, .ref a5, .ref a6, .ref a7, .ref a8, .ref a9, .ref a10, .ref a11, .ref a12, .ref a13, .ref a14])), (a11, .inl (cI, 30, .inl fb))]) (w1 := []) hP hD [] [0, 1] rfl rfl (by decide) (by decide) hk1 hFc ny_P0 ny_D0
  have hP : va_P D vwCl [(h0, .inr (0, [.int lc, .int ln, .ref a2, .ref a3, .ref a4, .ref a5, .ref a6, .ref a7, .ref a8, .ref a9, .ref a10, .ref a11, .ref a12, .ref a13, .ref a14])), (a11, .inl (cI, 30, .inl fb))] H := hP
  have hD : va_D A [(h0, .inr (0, [.int lc, .int ln, .ref a2, .ref a3, .ref a4, .ref a5, .ref a6, .ref a7, .ref a8, .ref a9, .ref a10, .ref a11, .ref a12, .ref a13, .ref a14])), (a11, .inl (cI, 30, .inl fb))] := hD
  subst hw
  refine lv_iload_n hx hb dX0_leadBurnsOn_59 rfl (lv_at hl 1 rfl) ?_
  have hPc := hP.sub (ws' := [(a11, .inl (cI, 30, .inl fb))]) [1] rfl
  have hDc := hD.sub (ws' := [(a11, .inl (cI, 30, .inl fb))]) [1] (by decide) rfl
  have hFc := va_free (wc := [(a11, .inl (cI, 30, .inl fb))]) hD hS hA [1] rfl
  refine va_callv (va_runS (As := [.ref a11, .int (nI (L * 5 + 0)), .int 1000]) (rest := []) ⟨hx, hb, hml, hown, hts⟩ (k_putIfUntold l D cI cB cP H.size a11 (L * 5 + 0) 30 fb 1000 (by decide) (by omega) (by rw [hu 0 (by decide)])) (cwS 3 hts gw_k_leadBurnsOn_1 rfl rfl rfl (by decide +kernel) ⟨Nat.le_of_ble_eq_true rfl, Nat.le_of_ble_eq_true rfl⟩) ⟨ny_blind, ny_pre hPc hK hN hDc⟩ rfl rfl hl.1 rfl (lv_room (Nat.le_of_ble_eq_true rfl)) dX0_leadBurnsOn_60 ⟨Nat.le_of_ble_eq_true rfl, Nat.le_of_ble_eq_true rfl⟩) hS (fun q _ h => hFc q h) hFc (fun u t H locs ht hvm hw hB hz1 hk1 hS => ?_)
  obtain ⟨g_19, hp21, hp22, hP1, hD1⟩ := hB
  rw [ht] at hP1
  obtain ⟨hP, hD⟩ := va_join (wr := [(h0, .inr (0, [.int lc, .int ln, .ref a2, .ref a3, .ref a4, .ref a5, .ref a6, .ref a7, .ref a8, .ref a9, .ref a10, .ref a11, .ref a12, .ref a13, .ref a14]))]) (w1 := [(a11, .inl (cI, 30, .inl g_19))]) hP hD [1] [0] rfl rfl (by decide) (by decide) hk1 hFc hP1 hD1
  have hP : va_P D vwCl [(h0, .inr (0, [.int lc, .int ln, .ref a2, .ref a3, .ref a4, .ref a5, .ref a6, .ref a7, .ref a8, .ref a9, .ref a10, .ref a11, .ref a12, .ref a13, .ref a14])), (a11, .inl (cI, 30, .inl g_19))] H := hP
  have hD : va_D A [(h0, .inr (0, [.int lc, .int ln, .ref a2, .ref a3, .ref a4, .ref a5, .ref a6, .ref a7, .ref a8, .ref a9, .ref a10, .ref a11, .ref a12, .ref a13, .ref a14])), (a11, .inl (cI, 30, .inl g_19))] := hD
  refine lv_aload_n hx hb dX0_leadBurnsOn_63 rfl (lv_at hl 3 rfl) ?_
  refine va_get (D := D) (ci := 0) (v := .ref a11) (C := RX0) (T := TX0) (N := 15) hx hb hts iw_k_leadBurnsOn_0 hown hK hP 0 rfl rfl 11 (by decide) (hts (.fieldLink RX0 39 "FlightDesk$Book" "burn" "[I") (by decide +kernel)) (fun _ h9 => h9) rfl dX0_leadBurnsOn_64 ?_
  refine lv_iload_n hx hb dX0_leadBurnsOn_67 rfl (lv_at hl 4 rfl) ?_
  refine lv_iload_n hx hb dX0_leadBurnsOn_68 rfl (lv_at hl 0 rfl) ?_
  have hPc := hP.sub (ws' := []) [] rfl
  have hDc := hD.sub (ws' := []) [] (by decide) rfl
  have hFc := va_free (wc := []) hD hS hA [] rfl
  refine va_calli (va_runSN (As := [.int (nI L), .int 0]) (rest := [.ref a11]) ⟨hx, hb, hml, hown, hts⟩ (k_burnIndex l D cI cB cP H.size L 0) ⟨va_cnB 2 hts gw_k_leadBurnsOn_0 rfl rfl rfl (hN.1) (hts (.initialized RX7) (by decide +kernel)) (by decide +kernel) ⟨Nat.le_of_ble_eq_true rfl, Nat.le_of_ble_eq_true rfl⟩, (hts (.static yX7_burnIndex) (by decide +kernel)), trivial⟩ ⟨ny_blind, ny_pre hPc hK hN hDc⟩ rfl rfl hl.1 rfl (lv_room (Nat.le_of_ble_eq_true rfl)) dX0_leadBurnsOn_69 ⟨Nat.le_of_ble_eq_true rfl, Nat.le_of_ble_eq_true rfl⟩) hS (fun q _ h => hFc q h) hFc (fun r23 u t H locs ht hvm hw hB hz1 hk1 hS => ?_)
  obtain ⟨hP, hD⟩ := va_join (wr := [(h0, .inr (0, [.int lc, .int ln, .ref a2, .ref a3, .ref a4, .ref a5, .ref a6, .ref a7, .ref a8, .ref a9, .ref a10, .ref a11, .ref a12, .ref a13, .ref a14])), (a11, .inl (cI, 30, .inl g_19))]) (w1 := []) hP hD [] [0, 1] rfl rfl (by decide) (by decide) hk1 hFc ny_P0 ny_D0
  have hP : va_P D vwCl [(h0, .inr (0, [.int lc, .int ln, .ref a2, .ref a3, .ref a4, .ref a5, .ref a6, .ref a7, .ref a8, .ref a9, .ref a10, .ref a11, .ref a12, .ref a13, .ref a14])), (a11, .inl (cI, 30, .inl g_19))] H := hP
  have hD : va_D A [(h0, .inr (0, [.int lc, .int ln, .ref a2, .ref a3, .ref a4, .ref a5, .ref a6, .ref a7, .ref a8, .ref a9, .ref a10, .ref a11, .ref a12, .ref a13, .ref a14])), (a11, .inl (cI, 30, .inl g_19))] := hD
  subst hw
  refine va_iald hx hb hK hP 1 0 rfl rfl (vp_in_nI (by omega) (by decide)) dX0_leadBurnsOn_72 ?_
  refine lv_topi (fun vv ev => ?_)
  obtain rfl : vv = 1000 := ev.trans (by rw [nI_clamp (by omega)]; exact hp21)
  refine lv_istore_n (lv' := [(2, .int 1000), (3, .int 0), (4, .int (-1000)), (0, .ref h0), (1, .int (nI L))]) hx hb dX0_leadBurnsOn_73 rfl hl (by decide) rfl (fun ls hl => ?_)
  refine lv_iinc (v := 1) (lv' := [(3, .int 1), (2, .int 1000), (4, .int (-1000)), (0, .ref h0), (1, .int (nI L))]) hx hb dX0_leadBurnsOn_74 hl (k := 1) rfl (by decide) (by decide) rfl (fun ls hl => ?_)
  refine lv_goto (tgt := 45) hx hb dX0_leadBurnsOn_77 (by decide) ?_
  refine lv_iload_n hx hb dX0_leadBurnsOn_45 rfl (lv_at hl 0 rfl) ?_
  refine lv_iconst (v := 5) hx hb dX0_leadBurnsOn_46 (by decide) ?_
  refine lv_icmp_ge (tgt := 80) hx hb dX0_leadBurnsOn_47 (by decide) (fun h9 => (by first | exact absurd h9 (by decide) | exact absurd (by decide) h9)) (fun c24 => ?_)
  refine lv_aload_n hx hb dX0_leadBurnsOn_50 rfl (lv_at hl 3 rfl) ?_
  refine va_get (D := D) (ci := 0) (v := .ref a11) (C := RX0) (T := TX0) (N := 15) hx hb hts iw_k_leadBurnsOn_0 hown hK hP 0 rfl rfl 11 (by decide) (hts (.fieldLink RX0 39 "FlightDesk$Book" "burn" "[I") (by decide +kernel)) (fun _ h9 => h9) rfl dX0_leadBurnsOn_51 ?_
  refine lv_iload_n hx hb dX0_leadBurnsOn_54 rfl (lv_at hl 4 rfl) ?_
  refine lv_iload_n hx hb dX0_leadBurnsOn_55 rfl (lv_at hl 0 rfl) ?_
  have hPc := hP.sub (ws' := []) [] rfl
  have hDc := hD.sub (ws' := []) [] (by decide) rfl
  have hFc := va_free (wc := []) hD hS hA [] rfl
  refine va_calli (va_runSN (As := [.int (nI L), .int 1]) (rest := [.ref a11]) ⟨hx, hb, hml, hown, hts⟩ (k_burnIndex l D cI cB cP H.size L 1) ⟨va_cnB 2 hts gw_k_leadBurnsOn_0 rfl rfl rfl (hN.1) (hts (.initialized RX7) (by decide +kernel)) (by decide +kernel) ⟨Nat.le_of_ble_eq_true rfl, Nat.le_of_ble_eq_true rfl⟩, (hts (.static yX7_burnIndex) (by decide +kernel)), trivial⟩ ⟨ny_blind, ny_pre hPc hK hN hDc⟩ rfl rfl hl.1 rfl (lv_room (Nat.le_of_ble_eq_true rfl)) dX0_leadBurnsOn_56 ⟨Nat.le_of_ble_eq_true rfl, Nat.le_of_ble_eq_true rfl⟩) hS (fun q _ h => hFc q h) hFc (fun r25 u t H locs ht hvm hw hB hz1 hk1 hS => ?_)
  obtain ⟨hP, hD⟩ := va_join (wr := [(h0, .inr (0, [.int lc, .int ln, .ref a2, .ref a3, .ref a4, .ref a5, .ref a6, .ref a7, .ref a8, .ref a9, .ref a10, .ref a11, .ref a12, .ref a13, .ref a14])), (a11, .inl (cI, 30, .inl g_19))]) (w1 := []) hP hD [] [0, 1] rfl rfl (by decide) (by decide) hk1 hFc ny_P0 ny_D0
  have hP : va_P D vwCl [(h0, .inr (0, [.int lc, .int ln, .ref a2, .ref a3, .ref a4, .ref a5, .ref a6, .ref a7, .ref a8, .ref a9, .ref a10, .ref a11, .ref a12, .ref a13, .ref a14])), (a11, .inl (cI, 30, .inl g_19))] H := hP
  have hD : va_D A [(h0, .inr (0, [.int lc, .int ln, .ref a2, .ref a3, .ref a4, .ref a5, .ref a6, .ref a7, .ref a8, .ref a9, .ref a10, .ref a11, .ref a12, .ref a13, .ref a14])), (a11, .inl (cI, 30, .inl g_19))] := hD
  subst hw
  refine lv_iload_n hx hb dX0_leadBurnsOn_59 rfl (lv_at hl 1 rfl) ?_
  have hPc := hP.sub (ws' := [(a11, .inl (cI, 30, .inl g_19))]) [1] rfl
  have hDc := hD.sub (ws' := [(a11, .inl (cI, 30, .inl g_19))]) [1] (by decide) rfl
  have hFc := va_free (wc := [(a11, .inl (cI, 30, .inl g_19))]) hD hS hA [1] rfl
  refine va_callv (va_runS (As := [.ref a11, .int (nI (L * 5 + 1)), .int 1000]) (rest := []) ⟨hx, hb, hml, hown, hts⟩ (k_putIfUntold l D cI cB cP H.size a11 (L * 5 + 1) 30 g_19 1000 (by decide) (by omega) (by rw [hp22 _ (by omega), hu 1 (by decide)])) (cwS 3 hts gw_k_leadBurnsOn_1 rfl rfl rfl (by decide +kernel) ⟨Nat.le_of_ble_eq_true rfl, Nat.le_of_ble_eq_true rfl⟩) ⟨ny_blind, ny_pre hPc hK hN hDc⟩ rfl rfl hl.1 rfl (lv_room (Nat.le_of_ble_eq_true rfl)) dX0_leadBurnsOn_60 ⟨Nat.le_of_ble_eq_true rfl, Nat.le_of_ble_eq_true rfl⟩) hS (fun q _ h => hFc q h) hFc (fun u t H locs ht hvm hw hB hz1 hk1 hS => ?_)
  obtain ⟨g_26, hp28, hp29, hP1, hD1⟩ := hB
  rw [ht] at hP1
  obtain ⟨hP, hD⟩ := va_join (wr := [(h0, .inr (0, [.int lc, .int ln, .ref a2, .ref a3, .ref a4, .ref a5, .ref a6, .ref a7, .ref a8, .ref a9, .ref a10, .ref a11, .ref a12, .ref a13, .ref a14]))]) (w1 := [(a11, .inl (cI, 30, .inl g_26))]) hP hD [1] [0] rfl rfl (by decide) (by decide) hk1 hFc hP1 hD1
  have hP : va_P D vwCl [(h0, .inr (0, [.int lc, .int ln, .ref a2, .ref a3, .ref a4, .ref a5, .ref a6, .ref a7, .ref a8, .ref a9, .ref a10, .ref a11, .ref a12, .ref a13, .ref a14])), (a11, .inl (cI, 30, .inl g_26))] H := hP
  have hD : va_D A [(h0, .inr (0, [.int lc, .int ln, .ref a2, .ref a3, .ref a4, .ref a5, .ref a6, .ref a7, .ref a8, .ref a9, .ref a10, .ref a11, .ref a12, .ref a13, .ref a14])), (a11, .inl (cI, 30, .inl g_26))] := hD
  refine lv_aload_n hx hb dX0_leadBurnsOn_63 rfl (lv_at hl 3 rfl) ?_
  refine va_get (D := D) (ci := 0) (v := .ref a11) (C := RX0) (T := TX0) (N := 15) hx hb hts iw_k_leadBurnsOn_0 hown hK hP 0 rfl rfl 11 (by decide) (hts (.fieldLink RX0 39 "FlightDesk$Book" "burn" "[I") (by decide +kernel)) (fun _ h9 => h9) rfl dX0_leadBurnsOn_64 ?_
  refine lv_iload_n hx hb dX0_leadBurnsOn_67 rfl (lv_at hl 4 rfl) ?_
  refine lv_iload_n hx hb dX0_leadBurnsOn_68 rfl (lv_at hl 0 rfl) ?_
  have hPc := hP.sub (ws' := []) [] rfl
  have hDc := hD.sub (ws' := []) [] (by decide) rfl
  have hFc := va_free (wc := []) hD hS hA [] rfl
  refine va_calli (va_runSN (As := [.int (nI L), .int 1]) (rest := [.ref a11]) ⟨hx, hb, hml, hown, hts⟩ (k_burnIndex l D cI cB cP H.size L 1) ⟨va_cnB 2 hts gw_k_leadBurnsOn_0 rfl rfl rfl (hN.1) (hts (.initialized RX7) (by decide +kernel)) (by decide +kernel) ⟨Nat.le_of_ble_eq_true rfl, Nat.le_of_ble_eq_true rfl⟩, (hts (.static yX7_burnIndex) (by decide +kernel)), trivial⟩ ⟨ny_blind, ny_pre hPc hK hN hDc⟩ rfl rfl hl.1 rfl (lv_room (Nat.le_of_ble_eq_true rfl)) dX0_leadBurnsOn_69 ⟨Nat.le_of_ble_eq_true rfl, Nat.le_of_ble_eq_true rfl⟩) hS (fun q _ h => hFc q h) hFc (fun r30 u t H locs ht hvm hw hB hz1 hk1 hS => ?_)
  obtain ⟨hP, hD⟩ := va_join (wr := [(h0, .inr (0, [.int lc, .int ln, .ref a2, .ref a3, .ref a4, .ref a5, .ref a6, .ref a7, .ref a8, .ref a9, .ref a10, .ref a11, .ref a12, .ref a13, .ref a14])), (a11, .inl (cI, 30, .inl g_26))]) (w1 := []) hP hD [] [0, 1] rfl rfl (by decide) (by decide) hk1 hFc ny_P0 ny_D0
  have hP : va_P D vwCl [(h0, .inr (0, [.int lc, .int ln, .ref a2, .ref a3, .ref a4, .ref a5, .ref a6, .ref a7, .ref a8, .ref a9, .ref a10, .ref a11, .ref a12, .ref a13, .ref a14])), (a11, .inl (cI, 30, .inl g_26))] H := hP
  have hD : va_D A [(h0, .inr (0, [.int lc, .int ln, .ref a2, .ref a3, .ref a4, .ref a5, .ref a6, .ref a7, .ref a8, .ref a9, .ref a10, .ref a11, .ref a12, .ref a13, .ref a14])), (a11, .inl (cI, 30, .inl g_26))] := hD
  subst hw
  refine va_iald hx hb hK hP 1 0 rfl rfl (vp_in_nI (by omega) (by decide)) dX0_leadBurnsOn_72 ?_
  refine lv_topi (fun vv ev => ?_)
  obtain rfl : vv = 1000 := ev.trans (by rw [nI_clamp (by omega)]; exact hp28)
  refine lv_istore_n (lv' := [(2, .int 1000), (3, .int 1), (4, .int (-1000)), (0, .ref h0), (1, .int (nI L))]) hx hb dX0_leadBurnsOn_73 rfl hl (by decide) rfl (fun ls hl => ?_)
  refine lv_iinc (v := 2) (lv' := [(3, .int 2), (2, .int 1000), (4, .int (-1000)), (0, .ref h0), (1, .int (nI L))]) hx hb dX0_leadBurnsOn_74 hl (k := 1) rfl (by decide) (by decide) rfl (fun ls hl => ?_)
  refine lv_goto (tgt := 45) hx hb dX0_leadBurnsOn_77 (by decide) ?_
  refine lv_iload_n hx hb dX0_leadBurnsOn_45 rfl (lv_at hl 0 rfl) ?_
  refine lv_iconst (v := 5) hx hb dX0_leadBurnsOn_46 (by decide) ?_
  refine lv_icmp_ge (tgt := 80) hx hb dX0_leadBurnsOn_47 (by decide) (fun h9 => (by first | exact absurd h9 (by decide) | exact absurd (by decide) h9)) (fun c31 => ?_)
  refine lv_aload_n hx hb dX0_leadBurnsOn_50 rfl (lv_at hl 3 rfl) ?_
  refine va_get (D := D) (ci := 0) (v := .ref a11) (C := RX0) (T := TX0) (N := 15) hx hb hts iw_k_leadBurnsOn_0 hown hK hP 0 rfl rfl 11 (by decide) (hts (.fieldLink RX0 39 "FlightDesk$Book" "burn" "[I") (by decide +kernel)) (fun _ h9 => h9) rfl dX0_leadBurnsOn_51 ?_
  refine lv_iload_n hx hb dX0_leadBurnsOn_54 rfl (lv_at hl 4 rfl) ?_
  refine lv_iload_n hx hb dX0_leadBurnsOn_55 rfl (lv_at hl 0 rfl) ?_
  have hPc := hP.sub (ws' := []) [] rfl
  have hDc := hD.sub (ws' := []) [] (by decide) rfl
  have hFc := va_free (wc := []) hD hS hA [] rfl
  refine va_calli (va_runSN (As := [.int (nI L), .int 2]) (rest := [.ref a11]) ⟨hx, hb, hml, hown, hts⟩ (k_burnIndex l D cI cB cP H.size L 2) ⟨va_cnB 2 hts gw_k_leadBurnsOn_0 rfl rfl rfl (hN.1) (hts (.initialized RX7) (by decide +kernel)) (by decide +kernel) ⟨Nat.le_of_ble_eq_true rfl, Nat.le_of_ble_eq_true rfl⟩, (hts (.static yX7_burnIndex) (by decide +kernel)), trivial⟩ ⟨ny_blind, ny_pre hPc hK hN hDc⟩ rfl rfl hl.1 rfl (lv_room (Nat.le_of_ble_eq_true rfl)) dX0_leadBurnsOn_56 ⟨Nat.le_of_ble_eq_true rfl, Nat.le_of_ble_eq_true rfl⟩) hS (fun q _ h => hFc q h) hFc (fun r32 u t H locs ht hvm hw hB hz1 hk1 hS => ?_)
  obtain ⟨hP, hD⟩ := va_join (wr := [(h0, .inr (0, [.int lc, .int ln, .ref a2, .ref a3, .ref a4, .ref a5, .ref a6, .ref a7, .ref a8, .ref a9, .ref a10, .ref a11, .ref a12, .ref a13, .ref a14])), (a11, .inl (cI, 30, .inl g_26))]) (w1 := []) hP hD [] [0, 1] rfl rfl (by decide) (by decide) hk1 hFc ny_P0 ny_D0
  have hP : va_P D vwCl [(h0, .inr (0, [.int lc, .int ln, .ref a2, .ref a3, .ref a4, .ref a5, .ref a6, .ref a7, .ref a8, .ref a9, .ref a10, .ref a11, .ref a12, .ref a13, .ref a14])), (a11, .inl (cI, 30, .inl g_26))] H := hP
  have hD : va_D A [(h0, .inr (0, [.int lc, .int ln, .ref a2, .ref a3, .ref a4, .ref a5, .ref a6, .ref a7, .ref a8, .ref a9, .ref a10, .ref a11, .ref a12, .ref a13, .ref a14])), (a11, .inl (cI, 30, .inl g_26))] := hD
  subst hw
  refine lv_iload_n hx hb dX0_leadBurnsOn_59 rfl (lv_at hl 1 rfl) ?_
  have hPc := hP.sub (ws' := [(a11, .inl (cI, 30, .inl g_26))]) [1] rfl
  have hDc := hD.sub (ws' := [(a11, .inl (cI, 30, .inl g_26))]) [1] (by decide) rfl
  have hFc := va_free (wc := [(a11, .inl (cI, 30, .inl g_26))]) hD hS hA [1] rfl
  refine va_callv (va_runS (As := [.ref a11, .int (nI (L * 5 + 2)), .int 1000]) (rest := []) ⟨hx, hb, hml, hown, hts⟩ (k_putIfUntold l D cI cB cP H.size a11 (L * 5 + 2) 30 g_26 1000 (by decide) (by omega) (by rw [hp29 _ (by omega), hp22 _ (by omega), hu 2 (by decide)])) (cwS 3 hts gw_k_leadBurnsOn_1 rfl rfl rfl (by decide +kernel) ⟨Nat.le_of_ble_eq_true rfl, Nat.le_of_ble_eq_true rfl⟩) ⟨ny_blind, ny_pre hPc hK hN hDc⟩ rfl rfl hl.1 rfl (lv_room (Nat.le_of_ble_eq_true rfl)) dX0_leadBurnsOn_60 ⟨Nat.le_of_ble_eq_true rfl, Nat.le_of_ble_eq_true rfl⟩) hS (fun q _ h => hFc q h) hFc (fun u t H locs ht hvm hw hB hz1 hk1 hS => ?_)
  obtain ⟨g_33, hp35, hp36, hP1, hD1⟩ := hB
  rw [ht] at hP1
  obtain ⟨hP, hD⟩ := va_join (wr := [(h0, .inr (0, [.int lc, .int ln, .ref a2, .ref a3, .ref a4, .ref a5, .ref a6, .ref a7, .ref a8, .ref a9, .ref a10, .ref a11, .ref a12, .ref a13, .ref a14]))]) (w1 := [(a11, .inl (cI, 30, .inl g_33))]) hP hD [1] [0] rfl rfl (by decide) (by decide) hk1 hFc hP1 hD1
  have hP : va_P D vwCl [(h0, .inr (0, [.int lc, .int ln, .ref a2, .ref a3, .ref a4, .ref a5, .ref a6, .ref a7, .ref a8, .ref a9, .ref a10, .ref a11, .ref a12, .ref a13, .ref a14])), (a11, .inl (cI, 30, .inl g_33))] H := hP
  have hD : va_D A [(h0, .inr (0, [.int lc, .int ln, .ref a2, .ref a3, .ref a4, .ref a5, .ref a6, .ref a7, .ref a8, .ref a9, .ref a10, .ref a11, .ref a12, .ref a13, .ref a14])), (a11, .inl (cI, 30, .inl g_33))] := hD
  refine lv_aload_n hx hb dX0_leadBurnsOn_63 rfl (lv_at hl 3 rfl) ?_
  refine va_get (D := D) (ci := 0) (v := .ref a11) (C := RX0) (T := TX0) (N := 15) hx hb hts iw_k_leadBurnsOn_0 hown hK hP 0 rfl rfl 11 (by decide) (hts (.fieldLink RX0 39 "FlightDesk$Book" "burn" "[I") (by decide +kernel)) (fun _ h9 => h9) rfl dX0_leadBurnsOn_64 ?_
  refine lv_iload_n hx hb dX0_leadBurnsOn_67 rfl (lv_at hl 4 rfl) ?_
  refine lv_iload_n hx hb dX0_leadBurnsOn_68 rfl (lv_at hl 0 rfl) ?_
  have hPc := hP.sub (ws' := []) [] rfl
  have hDc := hD.sub (ws' := []) [] (by decide) rfl
  have hFc := va_free (wc := []) hD hS hA [] rfl
  refine va_calli (va_runSN (As := [.int (nI L), .int 2]) (rest := [.ref a11]) ⟨hx, hb, hml, hown, hts⟩ (k_burnIndex l D cI cB cP H.size L 2) ⟨va_cnB 2 hts gw_k_leadBurnsOn_0 rfl rfl rfl (hN.1) (hts (.initialized RX7) (by decide +kernel)) (by decide +kernel) ⟨Nat.le_of_ble_eq_true rfl, Nat.le_of_ble_eq_true rfl⟩, (hts (.static yX7_burnIndex) (by decide +kernel)), trivial⟩ ⟨ny_blind, ny_pre hPc hK hN hDc⟩ rfl rfl hl.1 rfl (lv_room (Nat.le_of_ble_eq_true rfl)) dX0_leadBurnsOn_69 ⟨Nat.le_of_ble_eq_true rfl, Nat.le_of_ble_eq_true rfl⟩) hS (fun q _ h => hFc q h) hFc (fun r37 u t H locs ht hvm hw hB hz1 hk1 hS => ?_)
  obtain ⟨hP, hD⟩ := va_join (wr := [(h0, .inr (0, [.int lc, .int ln, .ref a2, .ref a3, .ref a4, .ref a5, .ref a6, .ref a7, .ref a8, .ref a9, .ref a10, .ref a11, .ref a12, .ref a13, .ref a14])), (a11, .inl (cI, 30, .inl g_33))]) (w1 := []) hP hD [] [0, 1] rfl rfl (by decide) (by decide) hk1 hFc ny_P0 ny_D0
  have hP : va_P D vwCl [(h0, .inr (0, [.int lc, .int ln, .ref a2, .ref a3, .ref a4, .ref a5, .ref a6, .ref a7, .ref a8, .ref a9, .ref a10, .ref a11, .ref a12, .ref a13, .ref a14])), (a11, .inl (cI, 30, .inl g_33))] H := hP
  have hD : va_D A [(h0, .inr (0, [.int lc, .int ln, .ref a2, .ref a3, .ref a4, .ref a5, .ref a6, .ref a7, .ref a8, .ref a9, .ref a10, .ref a11, .ref a12, .ref a13, .ref a14])), (a11, .inl (cI, 30, .inl g_33))] := hD
  subst hw
  refine va_iald hx hb hK hP 1 0 rfl rfl (vp_in_nI (by omega) (by decide)) dX0_leadBurnsOn_72 ?_
  refine lv_topi (fun vv ev => ?_)
  obtain rfl : vv = 1000 := ev.trans (by rw [nI_clamp (by omega)]; exact hp35)
  refine lv_istore_n (lv' := [(2, .int 1000), (3, .int 2), (4, .int (-1000)), (0, .ref h0), (1, .int (nI L))]) hx hb dX0_leadBurnsOn_73 rfl hl (by decide) rfl (fun ls hl => ?_)
  refine lv_iinc (v := 3) (lv' := [(3, .int 3), (2, .int 1000), (4, .int (-1000)), (0, .ref h0), (1, .int (nI L))]) hx hb dX0_leadBurnsOn_74 hl (k := 1) rfl (by decide) (by decide) rfl (fun ls hl => ?_)
  refine lv_goto (tgt := 45) hx hb dX0_leadBurnsOn_77 (by decide) ?_
  refine lv_iload_n hx hb dX0_leadBurnsOn_45 rfl (lv_at hl 0 rfl) ?_
  refine lv_iconst (v := 5) hx hb dX0_leadBurnsOn_46 (by decide) ?_
  refine lv_icmp_ge (tgt := 80) hx hb dX0_leadBurnsOn_47 (by decide) (fun h9 => (by first | exact absurd h9 (by decide) | exact absurd (by decide) h9)) (fun c38 => ?_)
  refine lv_aload_n hx hb dX0_leadBurnsOn_50 rfl (lv_at hl 3 rfl) ?_
  refine va_get (D := D) (ci := 0) (v := .ref a11) (C := RX0) (T := TX0) (N := 15) hx hb hts iw_k_leadBurnsOn_0 hown hK hP 0 rfl rfl 11 (by decide) (hts (.fieldLink RX0 39 "FlightDesk$Book" "burn" "[I") (by decide +kernel)) (fun _ h9 => h9) rfl dX0_leadBurnsOn_51 ?_
  refine lv_iload_n hx hb dX0_leadBurnsOn_54 rfl (lv_at hl 4 rfl) ?_
  refine lv_iload_n hx hb dX0_leadBurnsOn_55 rfl (lv_at hl 0 rfl) ?_
  have hPc := hP.sub (ws' := []) [] rfl
  have hDc := hD.sub (ws' := []) [] (by decide) rfl
  have hFc := va_free (wc := []) hD hS hA [] rfl
  refine va_calli (va_runSN (As := [.int (nI L), .int 3]) (rest := [.ref a11]) ⟨hx, hb, hml, hown, hts⟩ (k_burnIndex l D cI cB cP H.size L 3) ⟨va_cnB 2 hts gw_k_leadBurnsOn_0 rfl rfl rfl (hN.1) (hts (.initialized RX7) (by decide +kernel)) (by decide +kernel) ⟨Nat.le_of_ble_eq_true rfl, Nat.le_of_ble_eq_true rfl⟩, (hts (.static yX7_burnIndex) (by decide +kernel)), trivial⟩ ⟨ny_blind, ny_pre hPc hK hN hDc⟩ rfl rfl hl.1 rfl (lv_room (Nat.le_of_ble_eq_true rfl)) dX0_leadBurnsOn_56 ⟨Nat.le_of_ble_eq_true rfl, Nat.le_of_ble_eq_true rfl⟩) hS (fun q _ h => hFc q h) hFc (fun r39 u t H locs ht hvm hw hB hz1 hk1 hS => ?_)
  obtain ⟨hP, hD⟩ := va_join (wr := [(h0, .inr (0, [.int lc, .int ln, .ref a2, .ref a3, .ref a4, .ref a5, .ref a6, .ref a7, .ref a8, .ref a9, .ref a10, .ref a11, .ref a12, .ref a13, .ref a14])), (a11, .inl (cI, 30, .inl g_33))]) (w1 := []) hP hD [] [0, 1] rfl rfl (by decide) (by decide) hk1 hFc ny_P0 ny_D0
  have hP : va_P D vwCl [(h0, .inr (0, [.int lc, .int ln, .ref a2, .ref a3, .ref a4, .ref a5, .ref a6, .ref a7, .ref a8, .ref a9, .ref a10, .ref a11, .ref a12, .ref a13, .ref a14])), (a11, .inl (cI, 30, .inl g_33))] H := hP
  have hD : va_D A [(h0, .inr (0, [.int lc, .int ln, .ref a2, .ref a3, .ref a4, .ref a5, .ref a6, .ref a7, .ref a8, .ref a9, .ref a10, .ref a11, .ref a12, .ref a13, .ref a14])), (a11, .inl (cI, 30, .inl g_33))] := hD
  subst hw
  refine lv_iload_n hx hb dX0_leadBurnsOn_59 rfl (lv_at hl 1 rfl) ?_
  have hPc := hP.sub (ws' := [(a11, .inl (cI, 30, .inl g_33))]) [1] rfl
  have hDc := hD.sub (ws' := [(a11, .inl (cI, 30, .inl g_33))]) [1] (by decide) rfl
  have hFc := va_free (wc := [(a11, .inl (cI, 30, .inl g_33))]) hD hS hA [1] rfl
  refine va_callv (va_runS (As := [.ref a11, .int (nI (L * 5 + 3)), .int 1000]) (rest := []) ⟨hx, hb, hml, hown, hts⟩ (k_putIfUntold l D cI cB cP H.size a11 (L * 5 + 3) 30 g_33 1000 (by decide) (by omega) (by rw [hp36 _ (by omega), hp29 _ (by omega), hp22 _ (by omega), hu 3 (by decide)])) (cwS 3 hts gw_k_leadBurnsOn_1 rfl rfl rfl (by decide +kernel) ⟨Nat.le_of_ble_eq_true rfl, Nat.le_of_ble_eq_true rfl⟩) ⟨ny_blind, ny_pre hPc hK hN hDc⟩ rfl rfl hl.1 rfl (lv_room (Nat.le_of_ble_eq_true rfl)) dX0_leadBurnsOn_60 ⟨Nat.le_of_ble_eq_true rfl, Nat.le_of_ble_eq_true rfl⟩) hS (fun q _ h => hFc q h) hFc (fun u t H locs ht hvm hw hB hz1 hk1 hS => ?_)
  obtain ⟨g_40, hp42, hp43, hP1, hD1⟩ := hB
  rw [ht] at hP1
  obtain ⟨hP, hD⟩ := va_join (wr := [(h0, .inr (0, [.int lc, .int ln, .ref a2, .ref a3, .ref a4, .ref a5, .ref a6, .ref a7, .ref a8, .ref a9, .ref a10, .ref a11, .ref a12, .ref a13, .ref a14]))]) (w1 := [(a11, .inl (cI, 30, .inl g_40))]) hP hD [1] [0] rfl rfl (by decide) (by decide) hk1 hFc hP1 hD1
  have hP : va_P D vwCl [(h0, .inr (0, [.int lc, .int ln, .ref a2, .ref a3, .ref a4, .ref a5, .ref a6, .ref a7, .ref a8, .ref a9, .ref a10, .ref a11, .ref a12, .ref a13, .ref a14])), (a11, .inl (cI, 30, .inl g_40))] H := hP
  have hD : va_D A [(h0, .inr (0, [.int lc, .int ln, .ref a2, .ref a3, .ref a4, .ref a5, .ref a6, .ref a7, .ref a8, .ref a9, .ref a10, .ref a11, .ref a12, .ref a13, .ref a14])), (a11, .inl (cI, 30, .inl g_40))] := hD
  refine lv_aload_n hx hb dX0_leadBurnsOn_63 rfl (lv_at hl 3 rfl) ?_
  refine va_get (D := D) (ci := 0) (v := .ref a11) (C := RX0) (T := TX0) (N := 15) hx hb hts iw_k_leadBurnsOn_0 hown hK hP 0 rfl rfl 11 (by decide) (hts (.fieldLink RX0 39 "FlightDesk$Book" "burn" "[I") (by decide +kernel)) (fun _ h9 => h9) rfl dX0_leadBurnsOn_64 ?_
  refine lv_iload_n hx hb dX0_leadBurnsOn_67 rfl (lv_at hl 4 rfl) ?_
  refine lv_iload_n hx hb dX0_leadBurnsOn_68 rfl (lv_at hl 0 rfl) ?_
  have hPc := hP.sub (ws' := []) [] rfl
  have hDc := hD.sub (ws' := []) [] (by decide) rfl
  have hFc := va_free (wc := []) hD hS hA [] rfl
  refine va_calli (va_runSN (As := [.int (nI L), .int 3]) (rest := [.ref a11]) ⟨hx, hb, hml, hown, hts⟩ (k_burnIndex l D cI cB cP H.size L 3) ⟨va_cnB 2 hts gw_k_leadBurnsOn_0 rfl rfl rfl (hN.1) (hts (.initialized RX7) (by decide +kernel)) (by decide +kernel) ⟨Nat.le_of_ble_eq_true rfl, Nat.le_of_ble_eq_true rfl⟩, (hts (.static yX7_burnIndex) (by decide +kernel)), trivial⟩ ⟨ny_blind, ny_pre hPc hK hN hDc⟩ rfl rfl hl.1 rfl (lv_room (Nat.le_of_ble_eq_true rfl)) dX0_leadBurnsOn_69 ⟨Nat.le_of_ble_eq_true rfl, Nat.le_of_ble_eq_true rfl⟩) hS (fun q _ h => hFc q h) hFc (fun r44 u t H locs ht hvm hw hB hz1 hk1 hS => ?_)
  obtain ⟨hP, hD⟩ := va_join (wr := [(h0, .inr (0, [.int lc, .int ln, .ref a2, .ref a3, .ref a4, .ref a5, .ref a6, .ref a7, .ref a8, .ref a9, .ref a10, .ref a11, .ref a12, .ref a13, .ref a14])), (a11, .inl (cI, 30, .inl g_40))]) (w1 := []) hP hD [] [0, 1] rfl rfl (by decide) (by decide) hk1 hFc ny_P0 ny_D0
  have hP : va_P D vwCl [(h0, .inr (0, [.int lc, .int ln, .ref a2, .ref a3, .ref a4, .ref a5, .ref a6, .ref a7, .ref a8, .ref a9, .ref a10, .ref a11, .ref a12, .ref a13, .ref a14])), (a11, .inl (cI, 30, .inl g_40))] H := hP
  have hD : va_D A [(h0, .inr (0, [.int lc, .int ln, .ref a2, .ref a3, .ref a4, .ref a5, .ref a6, .ref a7, .ref a8, .ref a9, .ref a10, .ref a11, .ref a12, .ref a13, .ref a14])), (a11, .inl (cI, 30, .inl g_40))] := hD
  subst hw
  refine va_iald hx hb hK hP 1 0 rfl rfl (vp_in_nI (by omega) (by decide)) dX0_leadBurnsOn_72 ?_
  refine lv_topi (fun vv ev => ?_)
  obtain rfl : vv = 1000 := ev.trans (by rw [nI_clamp (by omega)]; exact hp42)
  refine lv_istore_n (lv' := [(2, .int 1000), (3, .int 3), (4, .int (-1000)), (0, .ref h0), (1, .int (nI L))]) hx hb dX0_leadBurnsOn_73 rfl hl (by decide) rfl (fun ls hl => ?_)
  refine lv_iinc (v := 4) (lv' := [(3, .int 4), (2, .int 1000), (4, .int (-1000)), (0, .ref h0), (1, .int (nI L))]) hx hb dX0_leadBurnsOn_74 hl (k := 1) rfl (by decide) (by decide) rfl (fun ls hl => ?_)
  refine lv_goto (tgt := 45) hx hb dX0_leadBurnsOn_77 (by decide) ?_
  refine lv_iload_n hx hb dX0_leadBurnsOn_45 rfl (lv_at hl 0 rfl) ?_
  refine lv_iconst (v := 5) hx hb dX0_leadBurnsOn_46 (by decide) ?_
  refine lv_icmp_ge (tgt := 80) hx hb dX0_leadBurnsOn_47 (by decide) (fun h9 => (by first | exact absurd h9 (by decide) | exact absurd (by decide) h9)) (fun c45 => ?_)
  refine lv_aload_n hx hb dX0_leadBurnsOn_50 rfl (lv_at hl 3 rfl) ?_
  refine va_get (D := D) (ci := 0) (v := .ref a11) (C := RX0) (T := TX0) (N := 15) hx hb hts iw_k_leadBurnsOn_0 hown hK hP 0 rfl rfl 11 (by decide) (hts (.fieldLink RX0 39 "FlightDesk$Book" "burn" "[I") (by decide +kernel)) (fun _ h9 => h9) rfl dX0_leadBurnsOn_51 ?_
  refine lv_iload_n hx hb dX0_leadBurnsOn_54 rfl (lv_at hl 4 rfl) ?_
  refine lv_iload_n hx hb dX0_leadBurnsOn_55 rfl (lv_at hl 0 rfl) ?_
  have hPc := hP.sub (ws' := []) [] rfl
  have hDc := hD.sub (ws' := []) [] (by decide) rfl
  have hFc := va_free (wc := []) hD hS hA [] rfl
  refine va_calli (va_runSN (As := [.int (nI L), .int 4]) (rest := [.ref a11]) ⟨hx, hb, hml, hown, hts⟩ (k_burnIndex l D cI cB cP H.size L 4) ⟨va_cnB 2 hts gw_k_leadBurnsOn_0 rfl rfl rfl (hN.1) (hts (.initialized RX7) (by decide +kernel)) (by decide +kernel) ⟨Nat.le_of_ble_eq_true rfl, Nat.le_of_ble_eq_true rfl⟩, (hts (.static yX7_burnIndex) (by decide +kernel)), trivial⟩ ⟨ny_blind, ny_pre hPc hK hN hDc⟩ rfl rfl hl.1 rfl (lv_room (Nat.le_of_ble_eq_true rfl)) dX0_leadBurnsOn_56 ⟨Nat.le_of_ble_eq_true rfl, Nat.le_of_ble_eq_true rfl⟩) hS (fun q _ h => hFc q h) hFc (fun r46 u t H locs ht hvm hw hB hz1 hk1 hS => ?_)
  obtain ⟨hP, hD⟩ := va_join (wr := [(h0, .inr (0, [.int lc, .int ln, .ref a2, .ref a3, .ref a4, .ref a5, .ref a6, .ref a7, .ref a8, .ref a9, .ref a10, .ref a11, .ref a12, .ref a13, .ref a14])), (a11, .inl (cI, 30, .inl g_40))]) (w1 := []) hP hD [] [0, 1] rfl rfl (by decide) (by decide) hk1 hFc ny_P0 ny_D0
  have hP : va_P D vwCl [(h0, .inr (0, [.int lc, .int ln, .ref a2, .ref a3, .ref a4, .ref a5, .ref a6, .ref a7, .ref a8, .ref a9, .ref a10, .ref a11, .ref a12, .ref a13, .ref a14])), (a11, .inl (cI, 30, .inl g_40))] H := hP
  have hD : va_D A [(h0, .inr (0, [.int lc, .int ln, .ref a2, .ref a3, .ref a4, .ref a5, .ref a6, .ref a7, .ref a8, .ref a9, .ref a10, .ref a11, .ref a12, .ref a13, .ref a14])), (a11, .inl (cI, 30, .inl g_40))] := hD
  subst hw
  refine lv_iload_n hx hb dX0_leadBurnsOn_59 rfl (lv_at hl 1 rfl) ?_
  have hPc := hP.sub (ws' := [(a11, .inl (cI, 30, .inl g_40))]) [1] rfl
  have hDc := hD.sub (ws' := [(a11, .inl (cI, 30, .inl g_40))]) [1] (by decide) rfl
  have hFc := va_free (wc := [(a11, .inl (cI, 30, .inl g_40))]) hD hS hA [1] rfl
  refine va_callv (va_runS (As := [.ref a11, .int (nI (L * 5 + 4)), .int 1000]) (rest := []) ⟨hx, hb, hml, hown, hts⟩ (k_putIfUntold l D cI cB cP H.size a11 (L * 5 + 4) 30 g_40 1000 (by decide) (by omega) (by rw [hp43 _ (by omega), hp36 _ (by omega), hp29 _ (by omega), hp22 _ (by omega), hu 4 (by decide)])) (cwS 3 hts gw_k_leadBurnsOn_1 rfl rfl rfl (by decide +kernel) ⟨Nat.le_of_ble_eq_true rfl, Nat.le_of_ble_eq_true rfl⟩) ⟨ny_blind, ny_pre hPc hK hN hDc⟩ rfl rfl hl.1 rfl (lv_room (Nat.le_of_ble_eq_true rfl)) dX0_leadBurnsOn_60 ⟨Nat.le_of_ble_eq_true rfl, Nat.le_of_ble_eq_true rfl⟩) hS (fun q _ h => hFc q h) hFc (fun u t H locs ht hvm hw hB hz1 hk1 hS => ?_)
  obtain ⟨g_47, hp49, hp50, hP1, hD1⟩ := hB
  rw [ht] at hP1
  obtain ⟨hP, hD⟩ := va_join (wr := [(h0, .inr (0, [.int lc, .int ln, .ref a2, .ref a3, .ref a4, .ref a5, .ref a6, .ref a7, .ref a8, .ref a9, .ref a10, .ref a11, .ref a12, .ref a13, .ref a14]))]) (w1 := [(a11, .inl (cI, 30, .inl g_47))]) hP hD [1] [0] rfl rfl (by decide) (by decide) hk1 hFc hP1 hD1
  have hP : va_P D vwCl [(h0, .inr (0, [.int lc, .int ln, .ref a2, .ref a3, .ref a4, .ref a5, .ref a6, .ref a7, .ref a8, .ref a9, .ref a10, .ref a11, .ref a12, .ref a13, .ref a14])), (a11, .inl (cI, 30, .inl g_47))] H := hP
  have hD : va_D A [(h0, .inr (0, [.int lc, .int ln, .ref a2, .ref a3, .ref a4, .ref a5, .ref a6, .ref a7, .ref a8, .ref a9, .ref a10, .ref a11, .ref a12, .ref a13, .ref a14])), (a11, .inl (cI, 30, .inl g_47))] := hD
  refine lv_aload_n hx hb dX0_leadBurnsOn_63 rfl (lv_at hl 3 rfl) ?_
  refine va_get (D := D) (ci := 0) (v := .ref a11) (C := RX0) (T := TX0) (N := 15) hx hb hts iw_k_leadBurnsOn_0 hown hK hP 0 rfl rfl 11 (by decide) (hts (.fieldLink RX0 39 "FlightDesk$Book" "burn" "[I") (by decide +kernel)) (fun _ h9 => h9) rfl dX0_leadBurnsOn_64 ?_
  refine lv_iload_n hx hb dX0_leadBurnsOn_67 rfl (lv_at hl 4 rfl) ?_
  refine lv_iload_n hx hb dX0_leadBurnsOn_68 rfl (lv_at hl 0 rfl) ?_
  have hPc := hP.sub (ws' := []) [] rfl
  have hDc := hD.sub (ws' := []) [] (by decide) rfl
  have hFc := va_free (wc := []) hD hS hA [] rfl
  refine va_calli (va_runSN (As := [.int (nI L), .int 4]) (rest := [.ref a11]) ⟨hx, hb, hml, hown, hts⟩ (k_burnIndex l D cI cB cP H.size L 4) ⟨va_cnB 2 hts gw_k_leadBurnsOn_0 rfl rfl rfl (hN.1) (hts (.initialized RX7) (by decide +kernel)) (by decide +kernel) ⟨Nat.le_of_ble_eq_true rfl, Nat.le_of_ble_eq_true rfl⟩, (hts (.static yX7_burnIndex) (by decide +kernel)), trivial⟩ ⟨ny_blind, ny_pre hPc hK hN hDc⟩ rfl rfl hl.1 rfl (lv_room (Nat.le_of_ble_eq_true rfl)) dX0_leadBurnsOn_69 ⟨Nat.le_of_ble_eq_true rfl, Nat.le_of_ble_eq_true rfl⟩) hS (fun q _ h => hFc q h) hFc (fun r51 u t H locs ht hvm hw hB hz1 hk1 hS => ?_)
  obtain ⟨hP, hD⟩ := va_join (wr := [(h0, .inr (0, [.int lc, .int ln, .ref a2, .ref a3, .ref a4, .ref a5, .ref a6, .ref a7, .ref a8, .ref a9, .ref a10, .ref a11, .ref a12, .ref a13, .ref a14])), (a11, .inl (cI, 30, .inl g_47))]) (w1 := []) hP hD [] [0, 1] rfl rfl (by decide) (by decide) hk1 hFc ny_P0 ny_D0
  have hP : va_P D vwCl [(h0, .inr (0, [.int lc, .int ln, .ref a2, .ref a3, .ref a4, .ref a5, .ref a6, .ref a7, .ref a8, .ref a9, .ref a10, .ref a11, .ref a12, .ref a13, .ref a14])), (a11, .inl (cI, 30, .inl g_47))] H := hP
  have hD : va_D A [(h0, .inr (0, [.int lc, .int ln, .ref a2, .ref a3, .ref a4, .ref a5, .ref a6, .ref a7, .ref a8, .ref a9, .ref a10, .ref a11, .ref a12, .ref a13, .ref a14])), (a11, .inl (cI, 30, .inl g_47))] := hD
  subst hw
  refine va_iald hx hb hK hP 1 0 rfl rfl (vp_in_nI (by omega) (by decide)) dX0_leadBurnsOn_72 ?_
  refine lv_topi (fun vv ev => ?_)
  obtain rfl : vv = 1000 := ev.trans (by rw [nI_clamp (by omega)]; exact hp49)
  refine lv_istore_n (lv' := [(2, .int 1000), (3, .int 4), (4, .int (-1000)), (0, .ref h0), (1, .int (nI L))]) hx hb dX0_leadBurnsOn_73 rfl hl (by decide) rfl (fun ls hl => ?_)
  refine lv_iinc (v := 5) (lv' := [(3, .int 5), (2, .int 1000), (4, .int (-1000)), (0, .ref h0), (1, .int (nI L))]) hx hb dX0_leadBurnsOn_74 hl (k := 1) rfl (by decide) (by decide) rfl (fun ls hl => ?_)
  refine lv_goto (tgt := 45) hx hb dX0_leadBurnsOn_77 (by decide) ?_
  refine lv_iload_n hx hb dX0_leadBurnsOn_45 rfl (lv_at hl 0 rfl) ?_
  refine lv_iconst (v := 5) hx hb dX0_leadBurnsOn_46 (by decide) ?_
  refine lv_icmp_ge (tgt := 80) hx hb dX0_leadBurnsOn_47 (by decide) (fun c52 => ?_) (fun h9 => (by first | exact absurd h9 (by decide) | exact absurd (by decide) h9))
  have hP9 := hP.sub (ws' := [(h0, .inr (0, [.int lc, .int ln, .ref a2, .ref a3, .ref a4, .ref a5, .ref a6, .ref a7, .ref a8, .ref a9, .ref a10, .ref a11, .ref a12, .ref a13, .ref a14])), (a11, .inl (cI, 30, .inl g_47))]) [0, 1] rfl
  have hD9 := hD.sub (ws' := [(h0, .inr (0, [.int lc, .int ln, .ref a2, .ref a3, .ref a4, .ref a5, .ref a6, .ref a7, .ref a8, .ref a9, .ref a10, .ref a11, .ref a12, .ref a13, .ref a14])), (a11, .inl (cI, 30, .inl g_47))]) [0, 1] (by decide) rfl
  refine W.widen (k := 0) (n := 0) (by decide) (by decide) ?_
  exact W.vret hx hb hr (fun t ht hW => ⟨⟨(), rfl, trivial, g_47, (all5 (P := fun b => g_47 (L * 5 + b) = 1000) (by rw [hp50 _ (by omega), hp43 _ (by omega), hp36 _ (by omega), hp29 _ (by omega)]; exact hp21) (by rw [hp50 _ (by omega), hp43 _ (by omega), hp36 _ (by omega)]; exact hp28) (by rw [hp50 _ (by omega), hp43 _ (by omega)]; exact hp35) (by rw [hp50 _ (by omega)]; exact hp42) (by exact hp49)), (fun k hk => by rw [hp50 k (by omega), hp43 k (by omega), hp36 k (by omega), hp29 k (by omega), hp22 k (by omega)]), by rw [ht]; exact hP9, hD9⟩, hS.F ht⟩) hS.2.2 dX0_leadBurnsOn_80

def wk_k_leadWindsOn : List Cond := .code yX0_leadWindsOn cX0_leadWindsOn 5 none :: ([.fieldLink RX0 54 "FlightDesk$Book" "legCount" "I"] ++ wsX00)
theorem iw_k_leadWindsOn_0 : ∀ w ∈ wsX00, w ∈ wk_k_leadWindsOn := fun _ h => List.mem_cons_of_mem _ (List.mem_append_right _ h)
set_option maxHeartbeats 4000000 in
set_option maxRecDepth 100000 in
theorem k_leadWindsOn (l : Launch) (D : va_G) (cI cB cP : ClassId) (sz : Nat) (h0 : Nat) (ln : Int32) (a2 : Nat) (a3 : Nat) (a4 : Nat) (a5 : Nat) (a6 : Nat) (a7 : Nat) (a8 : Nat) (a9 : Nat) (a10 : Nat) (a11 : Nat) (a12 : Nat) (a13 : Nat) (a14 : Nat) : Met l yX0_leadWindsOn wk_k_leadWindsOn ({ frames := 0, cells := 0, slots := 0, locals := 0 } : Room) (va_Pc [.ref h0] (Pw D cI cB cP sz [(h0, .inr (0, [.int 0, .int ln, .ref a2, .ref a3, .ref a4, .ref a5, .ref a6, .ref a7, .ref a8, .ref a9, .ref a10, .ref a11, .ref a12, .ref a13, .ref a14]))])) (va_Qv (fun (_ : Unit) => True) (fun _ t => va_P D vwCl [(h0, .inr (0, [.int 0, .int ln, .ref a2, .ref a3, .ref a4, .ref a5, .ref a6, .ref a7, .ref a8, .ref a9, .ref a10, .ref a11, .ref a12, .ref a13, .ref a14]))] t.heap ∧ va_D (va_A [(h0, .inr (0, [.int 0, .int ln, .ref a2, .ref a3, .ref a4, .ref a5, .ref a6, .ref a7, .ref a8, .ref a9, .ref a10, .ref a11, .ref a12, .ref a13, .ref a14]))] sz) [(h0, .inr (0, [.int 0, .int ln, .ref a2, .ref a3, .ref a4, .ref a5, .ref a6, .ref a7, .ref a8, .ref a9, .ref a10, .ref a11, .ref a12, .ref a13, .ref a14]))]) (va_A [(h0, .inr (0, [.int 0, .int ln, .ref a2, .ref a3, .ref a4, .ref a5, .ref a6, .ref a7, .ref a8, .ref a9, .ref a10, .ref a11, .ref a12, .ref a13, .ref a14]))] sz)) 0 0 (va_A [(h0, .inr (0, [.int 0, .int ln, .ref a2, .ref a3, .ref a4, .ref a5, .ref a6, .ref a7, .ref a8, .ref a9, .ref a10, .ref a11, .ref a12, .ref a13, .ref a14]))] sz) := by
  refine Met.ofW (cc := cX0_leadWindsOn) (maxL := 5) (ret := none) (by decide) rfl ?_
  intro p e s m args below meth c s₁ B hml hv
  obtain ⟨rfl, hsz, hP, ⟨hK, hN⟩, hD0⟩ := hv
  have hx := B.exec
  have hb := B.bytes
  have hr := B.returns
  have hts := atoms_spec (ws := wk_k_leadWindsOn) B.pre
  have hown : s.vm.findClass RX0 = some m.cls := findClass_of_methodNamed B.named
  have hlocks := B.notSynchronized
  subst hsz
  have hD := hD0.self (sz := s.heap.size)
  generalize hAe : va_A [(h0, .inr (0, [.int 0, .int ln, .ref a2, .ref a3, .ref a4, .ref a5, .ref a6, .ref a7, .ref a8, .ref a9, .ref a10, .ref a11, .ref a12, .ref a13, .ref a14]))] s.heap.size = A at hD ⊢
  have hA : ∀ q : Nat, s.heap.size ≤ q → A q := fun q h => by rw [← hAe]; exact Or.inr h
  have hS : va_S A s.heap s.heap [] := va_S.rf
  have hP : va_P D vwCl [(h0, .inr (0, [.int 0, .int ln, .ref a2, .ref a3, .ref a4, .ref a5, .ref a6, .ref a7, .ref a8, .ref a9, .ref a10, .ref a11, .ref a12, .ref a13, .ref a14]))] s.heap := hP
  have hl := lv_entry ([.ref h0]) (n := 5) (Nat.le_of_ble_eq_true rfl)
  rw [lg_entry_eq]
  generalize (lg_sl ([.ref h0]) ++ List.replicate (5 - (lg_sl ([.ref h0])).length) Slot.unset).toArray = ls at hl ⊢
  have hl : lv_has ls 5 [(0, .ref h0)] := hl
  refine lv_iconst (v := 0) hx hb dX0_leadWindsOn_0 (by decide) ?_
  refine lv_istore_n (lv' := [(1, .int 0), (0, .ref h0)]) hx hb dX0_leadWindsOn_1 rfl hl (by decide) rfl (fun ls hl => ?_)
  refine lv_iload_n hx hb dX0_leadWindsOn_2 rfl (lv_at hl 0 rfl) ?_
  refine lv_iconst (v := 3) hx hb dX0_leadWindsOn_3 (by decide) ?_
  refine lv_icmp_ge (tgt := 75) hx hb dX0_leadWindsOn_4 (by decide) (fun h9 => (by first | exact absurd h9 (by decide) | exact absurd (by decide) h9)) (fun c1 => ?_)
  refine lv_iconst (v := 0) hx hb dX0_leadWindsOn_7 (by decide) ?_
  refine lv_istore_n (lv' := [(2, .int 0), (1, .int 0), (0, .ref h0)]) hx hb dX0_leadWindsOn_8 rfl hl (by decide) rfl (fun ls hl => ?_)
  refine lv_iload_n hx hb dX0_leadWindsOn_9 rfl (lv_at hl 0 rfl) ?_
  refine lv_aload_n hx hb dX0_leadWindsOn_10 rfl (lv_at hl 2 rfl) ?_
  refine va_get (D := D) (ci := 0) (v := .int 0) (C := RX0) (T := TX0) (N := 15) hx hb hts iw_k_leadWindsOn_0 hown hK hP 0 rfl rfl 0 (by decide) (hts (.fieldLink RX0 54 "FlightDesk$Book" "legCount" "I") (by decide +kernel)) (fun _ h9 => h9) rfl dX0_leadWindsOn_11 ?_
  refine lv_icmp_ge (tgt := 69) hx hb dX0_leadWindsOn_14 (by decide) (fun c2 => ?_) (fun h9 => (by first | exact absurd h9 (by decide) | exact absurd (by decide) h9))
  refine lv_iinc (v := 1) (lv' := [(1, .int 1), (2, .int 0), (0, .ref h0)]) hx hb dX0_leadWindsOn_69 hl (k := 1) rfl (by decide) (by decide) rfl (fun ls hl => ?_)
  refine lv_goto (tgt := 2) hx hb dX0_leadWindsOn_72 (by decide) ?_
  refine lv_iload_n hx hb dX0_leadWindsOn_2 rfl (lv_at hl 0 rfl) ?_
  refine lv_iconst (v := 3) hx hb dX0_leadWindsOn_3 (by decide) ?_
  refine lv_icmp_ge (tgt := 75) hx hb dX0_leadWindsOn_4 (by decide) (fun h9 => (by first | exact absurd h9 (by decide) | exact absurd (by decide) h9)) (fun c3 => ?_)
  refine lv_iconst (v := 0) hx hb dX0_leadWindsOn_7 (by decide) ?_
  refine lv_istore_n (lv' := [(2, .int 0), (1, .int 1), (0, .ref h0)]) hx hb dX0_leadWindsOn_8 rfl hl (by decide) rfl (fun ls hl => ?_)
  refine lv_iload_n hx hb dX0_leadWindsOn_9 rfl (lv_at hl 0 rfl) ?_
  refine lv_aload_n hx hb dX0_leadWindsOn_10 rfl (lv_at hl 2 rfl) ?_
  refine va_get (D := D) (ci := 0) (v := .int 0) (C := RX0) (T := TX0) (N := 15) hx hb hts iw_k_leadWindsOn_0 hown hK hP 0 rfl rfl 0 (by decide) (hts (.fieldLink RX0 54 "FlightDesk$Book" "legCount" "I") (by decide +kernel)) (fun _ h9 => h9) rfl dX0_leadWindsOn_11 ?_
  refine lv_icmp_ge (tgt := 69) hx hb dX0_leadWindsOn_14 (by decide) (fun c4 => ?_) (fun h9 => (by first | exact absurd h9 (by decide) | exact absurd (by decide) h9))
  refine lv_iinc (v := 2) (lv' := [(1, .int 2), (2, .int 0), (0, .ref h0)]) hx hb dX0_leadWindsOn_69 hl (k := 1) rfl (by decide) (by decide) rfl (fun ls hl => ?_)
  refine lv_goto (tgt := 2) hx hb dX0_leadWindsOn_72 (by decide) ?_
  refine lv_iload_n hx hb dX0_leadWindsOn_2 rfl (lv_at hl 0 rfl) ?_
  refine lv_iconst (v := 3) hx hb dX0_leadWindsOn_3 (by decide) ?_
  refine lv_icmp_ge (tgt := 75) hx hb dX0_leadWindsOn_4 (by decide) (fun h9 => (by first | exact absurd h9 (by decide) | exact absurd (by decide) h9)) (fun c5 => ?_)
  refine lv_iconst (v := 0) hx hb dX0_leadWindsOn_7 (by decide) ?_
  refine lv_istore_n (lv' := [(2, .int 0), (1, .int 2), (0, .ref h0)]) hx hb dX0_leadWindsOn_8 rfl hl (by decide) rfl (fun ls hl => ?_)
  refine lv_iload_n hx hb dX0_leadWindsOn_9 rfl (lv_at hl 0 rfl) ?_
  refine lv_aload_n hx hb dX0_leadWindsOn_10 rfl (lv_at hl 2 rfl) ?_
  refine va_get (D := D) (ci := 0) (v := .int 0) (C := RX0) (T := TX0) (N := 15) hx hb hts iw_k_leadWindsOn_0 hown hK hP 0 rfl rfl 0 (by decide) (hts (.fieldLink RX0 54 "FlightDesk$Book" "legCount" "I") (by decide +kernel)) (fun _ h9 => h9) rfl dX0_leadWindsOn_11 ?_
  refine lv_icmp_ge (tgt := 69) hx hb dX0_leadWindsOn_14 (by decide) (fun c6 => ?_) (fun h9 => (by first | exact absurd h9 (by decide) | exact absurd (by decide) h9))
  refine lv_iinc (v := 3) (lv' := [(1, .int 3), (2, .int 0), (0, .ref h0)]) hx hb dX0_leadWindsOn_69 hl (k := 1) rfl (by decide) (by decide) rfl (fun ls hl => ?_)
  refine lv_goto (tgt := 2) hx hb dX0_leadWindsOn_72 (by decide) ?_
  refine lv_iload_n hx hb dX0_leadWindsOn_2 rfl (lv_at hl 0 rfl) ?_
  refine lv_iconst (v := 3) hx hb dX0_leadWindsOn_3 (by decide) ?_
  refine lv_icmp_ge (tgt := 75) hx hb dX0_leadWindsOn_4 (by decide) (fun c7 => ?_) (fun h9 => (by first | exact absurd h9 (by decide) | exact absurd (by decide) h9))
  have hP9 := hP.sub (ws' := [(h0, .inr (0, [.int 0, .int ln, .ref a2, .ref a3, .ref a4, .ref a5, .ref a6, .ref a7, .ref a8, .ref a9, .ref a10, .ref a11, .ref a12, .ref a13, .ref a14]))]) [0] rfl
  have hD9 := hD.sub (ws' := [(h0, .inr (0, [.int 0, .int ln, .ref a2, .ref a3, .ref a4, .ref a5, .ref a6, .ref a7, .ref a8, .ref a9, .ref a10, .ref a11, .ref a12, .ref a13, .ref a14]))]) [0] (by decide) rfl
  refine W.widen (k := 0) (n := 0) (by decide) (by decide) ?_
  exact W.vret hx hb hr (fun t ht hW => ⟨⟨(), rfl, trivial, by rw [ht]; exact hP9, hD9⟩, hS.F ht⟩) hS.2.2 dX0_leadWindsOn_75
end
section
def wk_k_leadOn : List Cond := .code yX0_leadOn cX0_leadOn 2 none :: ([.methodLink RX0 75 yX0_leadWindsOn, .instanceMethod yX0_leadWindsOn, .selects RX0 yX0_leadWindsOn yX0_leadWindsOn, .initialized RX0, .code yX0_leadWindsOn cX0_leadWindsOn 5 none, .fieldLink RX0 54 "FlightDesk$Book" "legCount" "I", .fieldLink RX0 45 "FlightDesk$Book" "limit" "[I", .methodLink RX0 67 yX0_putIfUntold, .static yX0_putIfUntold, .code yX0_putIfUntold cX0_putIfUntold 3 none, .constant RX0 78 (60000), .fieldLink RX0 33 "FlightDesk$Book" "speed" "[I", .fieldLink RX0 42 "FlightDesk$Book" "climb" "[I", .fieldLink RX0 48 "FlightDesk$Book" "height" "[I", .methodLink RX0 71 yX0_leadBurnsOn, .instanceMethod yX0_leadBurnsOn, .selects RX0 yX0_leadBurnsOn yX0_leadBurnsOn, .code yX0_leadBurnsOn cX0_leadBurnsOn 5 none, .fieldLink RX0 39 "FlightDesk$Book" "burn" "[I", .initialized RX7, .static yX7_burnIndex, .code yX7_burnIndex cX7_burnIndex 2 (some .int)] ++ wsX00)
theorem iw_k_leadOn_0 : ∀ w ∈ wsX00, w ∈ wk_k_leadOn := fun _ h => List.mem_cons_of_mem _ (List.mem_append_right _ h)
set_option maxRecDepth 20000 in
theorem gw_k_leadOn_0 : GoodIn wk_k_leadOn (wsV RX0 75 RX0 yX0_leadWindsOn wk_k_leadWindsOn) := goodIn_sub (by decide +kernel) (by decide +kernel)
set_option maxRecDepth 20000 in
theorem gw_k_leadOn_1 : GoodIn wk_k_leadOn (wsS RX0 67 yX0_putIfUntold wk_k_putIfUntold) := goodIn_sub (by decide +kernel) (by decide +kernel)
set_option maxRecDepth 20000 in
theorem gw_k_leadOn_2 : GoodIn wk_k_leadOn (wsV RX0 71 RX0 yX0_leadBurnsOn wk_k_leadBurnsOn) := goodIn_sub (by decide +kernel) (by decide +kernel)
set_option maxHeartbeats 4000000 in
set_option maxRecDepth 100000 in
theorem k_leadOn (l : Launch) (D : va_G) (cI cB cP : ClassId) (sz : Nat) (h0 : Nat) (ln : Int32) (a2 : Nat) (a3 : Nat) (a4 : Nat) (a5 : Nat) (a6 : Nat) (a7 : Nat) (a8 : Nat) (a9 : Nat) (a10 : Nat) (a11 : Nat) (a12 : Nat) (a13 : Nat) (a14 : Nat) (fs : Nat → Int32) (fb : Nat → Int32) (fc : Nat → Int32) (fl : Nat → Int32) (fh : Nat → Int32) (us : ∀ k : Nat, k < 6 → fs k = -1000) (ub : ∀ k : Nat, k < 30 → fb k = -1000) (uc : ∀ k : Nat, k < 6 → fc k = -1000) (ul : ∀ k : Nat, k < 4 → fl k = -1000) : Met l yX0_leadOn wk_k_leadOn ({ frames := 2, cells := 0, slots := 0, locals := 46 } : Room) (va_Pc [.ref h0] (Pw D cI cB cP sz [(h0, .inr (0, [.int 0, .int ln, .ref a2, .ref a3, .ref a4, .ref a5, .ref a6, .ref a7, .ref a8, .ref a9, .ref a10, .ref a11, .ref a12, .ref a13, .ref a14])), (a9, .inl (cI, 6, .inl fs)), (a11, .inl (cI, 30, .inl fb)), (a12, .inl (cI, 6, .inl fc)), (a13, .inl (cI, 4, .inl fl)), (a14, .inl (cI, 7, .inl fh))])) (va_Qv (fun (_ : Unit) => True) (fun _ t => ∃ gs : Nat → Int32, ∃ gb : Nat → Int32, ∃ gc : Nat → Int32, ∃ gl : Nat → Int32, ∃ gh : Nat → Int32, (∀ k : Nat, k < 6 → gs k = 400) ∧ (∀ k : Nat, k < 30 → gb k = 1000) ∧ (∀ k : Nat, k < 6 → gc k = 0) ∧ (gl 0 = 30000 ∧ gl 1 = 60000 ∧ gl 2 = 60000 ∧ gl 3 = 0) ∧ va_P D vwCl [(h0, .inr (0, [.int 0, .int ln, .ref a2, .ref a3, .ref a4, .ref a5, .ref a6, .ref a7, .ref a8, .ref a9, .ref a10, .ref a11, .ref a12, .ref a13, .ref a14])), (a9, .inl (cI, 6, .inl gs)), (a11, .inl (cI, 30, .inl gb)), (a12, .inl (cI, 6, .inl gc)), (a13, .inl (cI, 4, .inl gl)), (a14, .inl (cI, 7, .inl gh))] t.heap ∧ va_D (va_A [(h0, .inr (0, [.int 0, .int ln, .ref a2, .ref a3, .ref a4, .ref a5, .ref a6, .ref a7, .ref a8, .ref a9, .ref a10, .ref a11, .ref a12, .ref a13, .ref a14])), (a9, .inl (cI, 6, .inl fs)), (a11, .inl (cI, 30, .inl fb)), (a12, .inl (cI, 6, .inl fc)), (a13, .inl (cI, 4, .inl fl)), (a14, .inl (cI, 7, .inl fh))] sz) [(h0, .inr (0, [.int 0, .int ln, .ref a2, .ref a3, .ref a4, .ref a5, .ref a6, .ref a7, .ref a8, .ref a9, .ref a10, .ref a11, .ref a12, .ref a13, .ref a14])), (a9, .inl (cI, 6, .inl gs)), (a11, .inl (cI, 30, .inl gb)), (a12, .inl (cI, 6, .inl gc)), (a13, .inl (cI, 4, .inl gl)), (a14, .inl (cI, 7, .inl gh))]) (va_A [(h0, .inr (0, [.int 0, .int ln, .ref a2, .ref a3, .ref a4, .ref a5, .ref a6, .ref a7, .ref a8, .ref a9, .ref a10, .ref a11, .ref a12, .ref a13, .ref a14])), (a9, .inl (cI, 6, .inl fs)), (a11, .inl (cI, 30, .inl fb)), (a12, .inl (cI, 6, .inl fc)), (a13, .inl (cI, 4, .inl fl)), (a14, .inl (cI, 7, .inl fh))] sz)) 0 0 (va_A [(h0, .inr (0, [.int 0, .int ln, .ref a2, .ref a3, .ref a4, .ref a5, .ref a6, .ref a7, .ref a8, .ref a9, .ref a10, .ref a11, .ref a12, .ref a13, .ref a14])), (a9, .inl (cI, 6, .inl fs)), (a11, .inl (cI, 30, .inl fb)), (a12, .inl (cI, 6, .inl fc)), (a13, .inl (cI, 4, .inl fl)), (a14, .inl (cI, 7, .inl fh))] sz) := by
  refine Met.ofW (cc := cX0_leadOn) (maxL := 2) (ret := none) (by decide) rfl ?_
  intro p e s m args below meth c s₁ B hml hv
  obtain ⟨rfl, hsz, hP, ⟨hK, hN⟩, hD0⟩ := hv
  have hx := B.exec
  have hb := B.bytes
  have hr := B.returns
  have hts := atoms_spec (ws := wk_k_leadOn) B.pre
  have hown : s.vm.findClass RX0 = some m.cls := findClass_of_methodNamed B.named
  have hlocks := B.notSynchronized
  subst hsz
  have hD := hD0.self (sz := s.heap.size)
  generalize hAe : va_A [(h0, .inr (0, [.int 0, .int ln, .ref a2, .ref a3, .ref a4, .ref a5, .ref a6, .ref a7, .ref a8, .ref a9, .ref a10, .ref a11, .ref a12, .ref a13, .ref a14])), (a9, .inl (cI, 6, .inl fs)), (a11, .inl (cI, 30, .inl fb)), (a12, .inl (cI, 6, .inl fc)), (a13, .inl (cI, 4, .inl fl)), (a14, .inl (cI, 7, .inl fh))] s.heap.size = A at hD ⊢
  have hA : ∀ q : Nat, s.heap.size ≤ q → A q := fun q h => by rw [← hAe]; exact Or.inr h
  have hS : va_S A s.heap s.heap [] := va_S.rf
  have hP : va_P D vwCl [(h0, .inr (0, [.int 0, .int ln, .ref a2, .ref a3, .ref a4, .ref a5, .ref a6, .ref a7, .ref a8, .ref a9, .ref a10, .ref a11, .ref a12, .ref a13, .ref a14])), (a9, .inl (cI, 6, .inl fs)), (a11, .inl (cI, 30, .inl fb)), (a12, .inl (cI, 6, .inl fc)), (a13, .inl (cI, 4, .inl fl)), (a14, .inl (cI, 7, .inl fh))] s.heap := hP
  have hl := lv_entry ([.ref h0]) (n := 2) (Nat.le_of_ble_eq_true rfl)
  rw [lg_entry_eq]
  generalize (lg_sl ([.ref h0]) ++ List.replicate (2 - (lg_sl ([.ref h0])).length) Slot.unset).toArray = ls at hl ⊢
  have hl : lv_has ls 2 [(0, .ref h0)] := hl
  refine lv_iconst (v := 0) hx hb dX0_leadOn_0 (by decide) ?_
  refine lv_istore_n (lv' := [(1, .int 0), (0, .ref h0)]) hx hb dX0_leadOn_1 rfl hl (by decide) rfl (fun ls hl => ?_)
  have loop1 : ∀ (N2 : Nat) (L : Nat) (fs : Nat → Int32) (fb : Nat → Int32) (fc : Nat → Int32) (fh : Nat → Int32) (H : Heap) (locs : List Loc) (ls : Array Slot), (L ≤ 6) → (∀ k : Nat, k < L → fs k = 400) → (∀ k : Nat, L ≤ k → k < 6 → fs k = -1000) → (∀ k : Nat, k < L → fc k = 0) → (∀ k : Nat, L ≤ k → k < 6 → fc k = -1000) → (∀ k : Nat, k < L * 5 → fb k = 1000) → (∀ k : Nat, L * 5 ≤ k → k < 30 → fb k = -1000) → 6 - L < N2 → va_P D vwCl [(h0, .inr (0, [.int 0, .int ln, .ref a2, .ref a3, .ref a4, .ref a5, .ref a6, .ref a7, .ref a8, .ref a9, .ref a10, .ref a11, .ref a12, .ref a13, .ref a14])), (a9, .inl (cI, 6, .inl fs)), (a11, .inl (cI, 30, .inl fb)), (a12, .inl (cI, 6, .inl fc)), (a13, .inl (cI, 4, .inl fl)), (a14, .inl (cI, 7, .inl fh))] H → va_D A [(h0, .inr (0, [.int 0, .int ln, .ref a2, .ref a3, .ref a4, .ref a5, .ref a6, .ref a7, .ref a8, .ref a9, .ref a10, .ref a11, .ref a12, .ref a13, .ref a14])), (a9, .inl (cI, 6, .inl fs)), (a11, .inl (cI, 30, .inl fb)), (a12, .inl (cI, 6, .inl fc)), (a13, .inl (cI, 4, .inl fl)), (a14, .inl (cI, 7, .inl fh))] → va_S A s.heap H locs → lv_has ls 2 [(1, .int (nI L)), (0, .ref h0)] → W p l e ({ frames := 2, cells := 0, slots := 0, locals := 46 } : Room) s m ([.ref h0] : List Value).toArray below meth c H locs 0 0 (MQ below (va_Qv (fun (_ : Unit) => True) (fun _ t => ∃ gs : Nat → Int32, ∃ gb : Nat → Int32, ∃ gc : Nat → Int32, ∃ gl : Nat → Int32, ∃ gh : Nat → Int32, (∀ k : Nat, k < 6 → gs k = 400) ∧ (∀ k : Nat, k < 30 → gb k = 1000) ∧ (∀ k : Nat, k < 6 → gc k = 0) ∧ (gl 0 = 30000 ∧ gl 1 = 60000 ∧ gl 2 = 60000 ∧ gl 3 = 0) ∧ va_P D vwCl [(h0, .inr (0, [.int 0, .int ln, .ref a2, .ref a3, .ref a4, .ref a5, .ref a6, .ref a7, .ref a8, .ref a9, .ref a10, .ref a11, .ref a12, .ref a13, .ref a14])), (a9, .inl (cI, 6, .inl gs)), (a11, .inl (cI, 30, .inl gb)), (a12, .inl (cI, 6, .inl gc)), (a13, .inl (cI, 4, .inl gl)), (a14, .inl (cI, 7, .inl gh))] t.heap ∧ va_D A [(h0, .inr (0, [.int 0, .int ln, .ref a2, .ref a3, .ref a4, .ref a5, .ref a6, .ref a7, .ref a8, .ref a9, .ref a10, .ref a11, .ref a12, .ref a13, .ref a14])), (a9, .inl (cI, 6, .inl gs)), (a11, .inl (cI, 30, .inl gb)), (a12, .inl (cI, 6, .inl gc)), (a13, .inl (cI, 4, .inl gl)), (a14, .inl (cI, 7, .inl gh))]) A) ([.ref h0] : List Value).toArray s 0 0 A) (F0 m 2 ls []) := by
    intro N2
    induction N2 with
    | zero => intro L fs fb fc fh H locs ls hL is js ic jc ib jb hm9 hP hD hS hl; exact absurd hm9 (Nat.not_lt_zero _)
    | succ N2 ih => 
      intro L fs fb fc fh H locs ls hL is js ic jc ib jb hm9 hP hD hS hl
      refine lv_iload_n hx hb dX0_leadOn_2 rfl (lv_at hl 0 rfl) ?_
      refine lv_bipush (v := 6) hx hb dX0_leadOn_3 (by decide) ?_
      refine lv_icmp_ge (tgt := 60) hx hb dX0_leadOn_5 (by decide) (fun c3 => ?_) (fun c3 => ?_)
      · have nc3 : 6 ≤ L := (nI_leI (a := 6) (b := L) (by omega) (by omega)).mp c3
        refine lv_aload_n hx hb dX0_leadOn_60 rfl (lv_at hl 1 rfl) ?_
        have hPc := hP.sub (ws' := [(h0, .inr (0, [.int 0, .int ln, .ref a2, .ref a3, .ref a4, .ref a5, .ref a6, .ref a7, .ref a8, .ref a9, .ref a10, .ref a11, .ref a12, .ref a13, .ref a14]))]) [0] rfl
        have hDc := hD.sub (ws' := [(h0, .inr (0, [.int 0, .int ln, .ref a2, .ref a3, .ref a4, .ref a5, .ref a6, .ref a7, .ref a8, .ref a9, .ref a10, .ref a11, .ref a12, .ref a13, .ref a14]))]) [0] (by decide) rfl
        have hFc := va_free (wc := [(h0, .inr (0, [.int 0, .int ln, .ref a2, .ref a3, .ref a4, .ref a5, .ref a6, .ref a7, .ref a8, .ref a9, .ref a10, .ref a11, .ref a12, .ref a13, .ref a14]))]) hD hS hA [0] rfl
        refine va_callv (va_runV (As := []) (rest := []) ⟨hx, hb, hml, hown, hts⟩ (k_leadWindsOn l D cI cB cP H.size h0 ln a2 a3 a4 a5 a6 a7 a8 a9 a10 a11 a12 a13 a14) (cwV 0 hts gw_k_leadOn_0 rfl rfl rfl (by decide +kernel) ⟨Nat.le_of_ble_eq_true rfl, Nat.le_of_ble_eq_true rfl⟩) ⟨ny_blind, va_recv hK hPc (ci := 0) (q0 := 0) rfl rfl, ny_pre hPc hK hN hDc⟩ rfl rfl hl.1 rfl (lv_room (Nat.le_of_ble_eq_true rfl)) dX0_leadOn_61 ⟨Nat.le_of_ble_eq_true rfl, Nat.le_of_ble_eq_true rfl⟩) hS (fun q _ h => hFc q h) hFc (fun u t H locs ht hvm hw hB hz1 hk1 hS => ?_)
        obtain ⟨hP1, hD1⟩ := hB
        rw [ht] at hP1
        obtain ⟨hP, hD⟩ := va_join (wr := [(a9, .inl (cI, 6, .inl fs)), (a11, .inl (cI, 30, .inl fb)), (a12, .inl (cI, 6, .inl fc)), (a13, .inl (cI, 4, .inl fl)), (a14, .inl (cI, 7, .inl fh))]) (w1 := [(h0, .inr (0, [.int 0, .int ln, .ref a2, .ref a3, .ref a4, .ref a5, .ref a6, .ref a7, .ref a8, .ref a9, .ref a10, .ref a11, .ref a12, .ref a13, .ref a14]))]) hP hD [0] [1, 2, 3, 4, 5] rfl rfl (by decide) (by decide) hk1 hFc hP1 hD1
        have hP : va_P D vwCl [(a9, .inl (cI, 6, .inl fs)), (a11, .inl (cI, 30, .inl fb)), (a12, .inl (cI, 6, .inl fc)), (a13, .inl (cI, 4, .inl fl)), (a14, .inl (cI, 7, .inl fh)), (h0, .inr (0, [.int 0, .int ln, .ref a2, .ref a3, .ref a4, .ref a5, .ref a6, .ref a7, .ref a8, .ref a9, .ref a10, .ref a11, .ref a12, .ref a13, .ref a14]))] H := hP
        have hD : va_D A [(a9, .inl (cI, 6, .inl fs)), (a11, .inl (cI, 30, .inl fb)), (a12, .inl (cI, 6, .inl fc)), (a13, .inl (cI, 4, .inl fl)), (a14, .inl (cI, 7, .inl fh)), (h0, .inr (0, [.int 0, .int ln, .ref a2, .ref a3, .ref a4, .ref a5, .ref a6, .ref a7, .ref a8, .ref a9, .ref a10, .ref a11, .ref a12, .ref a13, .ref a14]))] := hD
        refine lv_aload_n hx hb dX0_leadOn_64 rfl (lv_at hl 1 rfl) ?_
        refine va_get (D := D) (ci := 0) (v := .ref a13) (C := RX0) (T := TX0) (N := 15) hx hb hts iw_k_leadOn_0 hown hK hP 5 rfl rfl 13 (by decide) (hts (.fieldLink RX0 45 "FlightDesk$Book" "limit" "[I") (by decide +kernel)) (fun _ h9 => h9) rfl dX0_leadOn_65 ?_
        refine lv_iconst (v := 0) hx hb dX0_leadOn_68 (by decide) ?_
        refine lv_sipush (v := 30000) hx hb dX0_leadOn_69 (by decide) ?_
        have hPc := hP.sub (ws' := [(a13, .inl (cI, 4, .inl fl))]) [3] rfl
        have hDc := hD.sub (ws' := [(a13, .inl (cI, 4, .inl fl))]) [3] (by decide) rfl
        have hFc := va_free (wc := [(a13, .inl (cI, 4, .inl fl))]) hD hS hA [3] rfl
        refine va_callv (va_runS (As := [.ref a13, .int 0, .int 30000]) (rest := []) ⟨hx, hb, hml, hown, hts⟩ (k_putIfUntold l D cI cB cP H.size a13 0 4 fl 30000 (by decide) (by decide) (by rw [ul 0 (by decide)])) (cwS 3 hts gw_k_leadOn_1 rfl rfl rfl (by decide +kernel) ⟨Nat.le_of_ble_eq_true rfl, Nat.le_of_ble_eq_true rfl⟩) ⟨ny_blind, ny_pre hPc hK hN hDc⟩ rfl rfl hl.1 rfl (lv_room (Nat.le_of_ble_eq_true rfl)) dX0_leadOn_72 ⟨Nat.le_of_ble_eq_true rfl, Nat.le_of_ble_eq_true rfl⟩) hS (fun q _ h => hFc q h) hFc (fun u t H locs ht hvm hw hB hz1 hk1 hS => ?_)
        obtain ⟨g_5, hp7, hp8, hP1, hD1⟩ := hB
        rw [ht] at hP1
        obtain ⟨hP, hD⟩ := va_join (wr := [(a9, .inl (cI, 6, .inl fs)), (a11, .inl (cI, 30, .inl fb)), (a12, .inl (cI, 6, .inl fc)), (a14, .inl (cI, 7, .inl fh)), (h0, .inr (0, [.int 0, .int ln, .ref a2, .ref a3, .ref a4, .ref a5, .ref a6, .ref a7, .ref a8, .ref a9, .ref a10, .ref a11, .ref a12, .ref a13, .ref a14]))]) (w1 := [(a13, .inl (cI, 4, .inl g_5))]) hP hD [3] [0, 1, 2, 4, 5] rfl rfl (by decide) (by decide) hk1 hFc hP1 hD1
        have hP : va_P D vwCl [(a9, .inl (cI, 6, .inl fs)), (a11, .inl (cI, 30, .inl fb)), (a12, .inl (cI, 6, .inl fc)), (a14, .inl (cI, 7, .inl fh)), (h0, .inr (0, [.int 0, .int ln, .ref a2, .ref a3, .ref a4, .ref a5, .ref a6, .ref a7, .ref a8, .ref a9, .ref a10, .ref a11, .ref a12, .ref a13, .ref a14])), (a13, .inl (cI, 4, .inl g_5))] H := hP
        have hD : va_D A [(a9, .inl (cI, 6, .inl fs)), (a11, .inl (cI, 30, .inl fb)), (a12, .inl (cI, 6, .inl fc)), (a14, .inl (cI, 7, .inl fh)), (h0, .inr (0, [.int 0, .int ln, .ref a2, .ref a3, .ref a4, .ref a5, .ref a6, .ref a7, .ref a8, .ref a9, .ref a10, .ref a11, .ref a12, .ref a13, .ref a14])), (a13, .inl (cI, 4, .inl g_5))] := hD
        refine lv_aload_n hx hb dX0_leadOn_75 rfl (lv_at hl 1 rfl) ?_
        refine va_get (D := D) (ci := 0) (v := .ref a13) (C := RX0) (T := TX0) (N := 15) hx hb hts iw_k_leadOn_0 hown hK hP 4 rfl rfl 13 (by decide) (hts (.fieldLink RX0 45 "FlightDesk$Book" "limit" "[I") (by decide +kernel)) (fun _ h9 => h9) rfl dX0_leadOn_76 ?_
        refine lv_iconst (v := 1) hx hb dX0_leadOn_79 (by decide) ?_
        refine lv_ldc hx hb hown (hts (.constant RX0 78 (60000)) (by decide +kernel)) dX0_leadOn_80 ?_
        have hPc := hP.sub (ws' := [(a13, .inl (cI, 4, .inl g_5))]) [5] rfl
        have hDc := hD.sub (ws' := [(a13, .inl (cI, 4, .inl g_5))]) [5] (by decide) rfl
        have hFc := va_free (wc := [(a13, .inl (cI, 4, .inl g_5))]) hD hS hA [5] rfl
        refine va_callv (va_runS (As := [.ref a13, .int 1, .int 60000]) (rest := []) ⟨hx, hb, hml, hown, hts⟩ (k_putIfUntold l D cI cB cP H.size a13 1 4 g_5 60000 (by decide) (by decide) (by rw [hp8 _ (by decide), ul 1 (by decide)])) (cwS 3 hts gw_k_leadOn_1 rfl rfl rfl (by decide +kernel) ⟨Nat.le_of_ble_eq_true rfl, Nat.le_of_ble_eq_true rfl⟩) ⟨ny_blind, ny_pre hPc hK hN hDc⟩ rfl rfl hl.1 rfl (lv_room (Nat.le_of_ble_eq_true rfl)) dX0_leadOn_82 ⟨Nat.le_of_ble_eq_true rfl, Nat.le_of_ble_eq_true rfl⟩) hS (fun q _ h => hFc q h) hFc (fun u t H locs ht hvm hw hB hz1 hk1 hS => ?_)
        obtain ⟨g_9, hp11, hp12, hP1, hD1⟩ := hB
        rw [ht] at hP1
        obtain ⟨hP, hD⟩ := va_join (wr := [(a9, .inl (cI, 6, .inl fs)), (a11, .inl (cI, 30, .inl fb)), (a12, .inl (cI, 6, .inl fc)), (a14, .inl (cI, 7, .inl fh)), (h0, .inr (0, [.int 0, .int ln, .ref a2, .ref a3, .ref a4, .ref a5, .ref a6, .ref a7, .ref a8, .ref a9, .ref a10, .ref a11, .ref a12, .ref a13, .ref a14]))]) (w1 := [(a13, .inl (cI, 4, .inl g_9))]) hP hD [5] [0, 1, 2, 3, 4] rfl rfl (by decide) (by decide) hk1 hFc hP1 hD1
        have hP : va_P D vwCl [(a9, .inl (cI, 6, .inl fs)), (a11, .inl (cI, 30, .inl fb)), (a12, .inl (cI, 6, .inl fc)), (a14, .inl (cI, 7, .inl fh)), (h0, .inr (0, [.int 0, .int ln, .ref a2, .ref a3, .ref a4, .ref a5, .ref a6, .ref a7, .ref a8, .ref a9, .ref a10, .ref a11, .ref a12, .ref a13, .ref a14])), (a13, .inl (cI, 4, .inl g_9))] H := hP
        have hD : va_D A [(a9, .inl (cI, 6, .inl fs)), (a11, .inl (cI, 30, .inl fb)), (a12, .inl (cI, 6, .inl fc)), (a14, .inl (cI, 7, .inl fh)), (h0, .inr (0, [.int 0, .int ln, .ref a2, .ref a3, .ref a4, .ref a5, .ref a6, .ref a7, .ref a8, .ref a9, .ref a10, .ref a11, .ref a12, .ref a13, .ref a14])), (a13, .inl (cI, 4, .inl g_9))] := hD
        refine lv_aload_n hx hb dX0_leadOn_85 rfl (lv_at hl 1 rfl) ?_
        refine va_get (D := D) (ci := 0) (v := .ref a13) (C := RX0) (T := TX0) (N := 15) hx hb hts iw_k_leadOn_0 hown hK hP 4 rfl rfl 13 (by decide) (hts (.fieldLink RX0 45 "FlightDesk$Book" "limit" "[I") (by decide +kernel)) (fun _ h9 => h9) rfl dX0_leadOn_86 ?_
        refine lv_iconst (v := 2) hx hb dX0_leadOn_89 (by decide) ?_
        refine lv_ldc hx hb hown (hts (.constant RX0 78 (60000)) (by decide +kernel)) dX0_leadOn_90 ?_
        have hPc := hP.sub (ws' := [(a13, .inl (cI, 4, .inl g_9))]) [5] rfl
        have hDc := hD.sub (ws' := [(a13, .inl (cI, 4, .inl g_9))]) [5] (by decide) rfl
        have hFc := va_free (wc := [(a13, .inl (cI, 4, .inl g_9))]) hD hS hA [5] rfl
        refine va_callv (va_runS (As := [.ref a13, .int 2, .int 60000]) (rest := []) ⟨hx, hb, hml, hown, hts⟩ (k_putIfUntold l D cI cB cP H.size a13 2 4 g_9 60000 (by decide) (by decide) (by rw [hp12 _ (by decide), hp8 _ (by decide), ul 2 (by decide)])) (cwS 3 hts gw_k_leadOn_1 rfl rfl rfl (by decide +kernel) ⟨Nat.le_of_ble_eq_true rfl, Nat.le_of_ble_eq_true rfl⟩) ⟨ny_blind, ny_pre hPc hK hN hDc⟩ rfl rfl hl.1 rfl (lv_room (Nat.le_of_ble_eq_true rfl)) dX0_leadOn_92 ⟨Nat.le_of_ble_eq_true rfl, Nat.le_of_ble_eq_true rfl⟩) hS (fun q _ h => hFc q h) hFc (fun u t H locs ht hvm hw hB hz1 hk1 hS => ?_)
        obtain ⟨g_13, hp15, hp16, hP1, hD1⟩ := hB
        rw [ht] at hP1
        obtain ⟨hP, hD⟩ := va_join (wr := [(a9, .inl (cI, 6, .inl fs)), (a11, .inl (cI, 30, .inl fb)), (a12, .inl (cI, 6, .inl fc)), (a14, .inl (cI, 7, .inl fh)), (h0, .inr (0, [.int 0, .int ln, .ref a2, .ref a3, .ref a4, .ref a5, .ref a6, .ref a7, .ref a8, .ref a9, .ref a10, .ref a11, .ref a12, .ref a13, .ref a14]))]) (w1 := [(a13, .inl (cI, 4, .inl g_13))]) hP hD [5] [0, 1, 2, 3, 4] rfl rfl (by decide) (by decide) hk1 hFc hP1 hD1
        have hP : va_P D vwCl [(a9, .inl (cI, 6, .inl fs)), (a11, .inl (cI, 30, .inl fb)), (a12, .inl (cI, 6, .inl fc)), (a14, .inl (cI, 7, .inl fh)), (h0, .inr (0, [.int 0, .int ln, .ref a2, .ref a3, .ref a4, .ref a5, .ref a6, .ref a7, .ref a8, .ref a9, .ref a10, .ref a11, .ref a12, .ref a13, .ref a14])), (a13, .inl (cI, 4, .inl g_13))] H := hP
        have hD : va_D A [(a9, .inl (cI, 6, .inl fs)), (a11, .inl (cI, 30, .inl fb)), (a12, .inl (cI, 6, .inl fc)), (a14, .inl (cI, 7, .inl fh)), (h0, .inr (0, [.int 0, .int ln, .ref a2, .ref a3, .ref a4, .ref a5, .ref a6, .ref a7, .ref a8, .ref a9, .ref a10, .ref a11, .ref a12, .ref a13, .ref a14])), (a13, .inl (cI, 4, .inl g_13))] := hD
        refine lv_aload_n hx hb dX0_leadOn_95 rfl (lv_at hl 1 rfl) ?_
        refine va_get (D := D) (ci := 0) (v := .ref a13) (C := RX0) (T := TX0) (N := 15) hx hb hts iw_k_leadOn_0 hown hK hP 4 rfl rfl 13 (by decide) (hts (.fieldLink RX0 45 "FlightDesk$Book" "limit" "[I") (by decide +kernel)) (fun _ h9 => h9) rfl dX0_leadOn_96 ?_
        refine lv_iconst (v := 3) hx hb dX0_leadOn_99 (by decide) ?_
        refine lv_iconst (v := 0) hx hb dX0_leadOn_100 (by decide) ?_
        have hPc := hP.sub (ws' := [(a13, .inl (cI, 4, .inl g_13))]) [5] rfl
        have hDc := hD.sub (ws' := [(a13, .inl (cI, 4, .inl g_13))]) [5] (by decide) rfl
        have hFc := va_free (wc := [(a13, .inl (cI, 4, .inl g_13))]) hD hS hA [5] rfl
        refine va_callv (va_runS (As := [.ref a13, .int 3, .int 0]) (rest := []) ⟨hx, hb, hml, hown, hts⟩ (k_putIfUntold l D cI cB cP H.size a13 3 4 g_13 0 (by decide) (by decide) (by rw [hp16 _ (by decide), hp12 _ (by decide), hp8 _ (by decide), ul 3 (by decide)])) (cwS 3 hts gw_k_leadOn_1 rfl rfl rfl (by decide +kernel) ⟨Nat.le_of_ble_eq_true rfl, Nat.le_of_ble_eq_true rfl⟩) ⟨ny_blind, ny_pre hPc hK hN hDc⟩ rfl rfl hl.1 rfl (lv_room (Nat.le_of_ble_eq_true rfl)) dX0_leadOn_101 ⟨Nat.le_of_ble_eq_true rfl, Nat.le_of_ble_eq_true rfl⟩) hS (fun q _ h => hFc q h) hFc (fun u t H locs ht hvm hw hB hz1 hk1 hS => ?_)
        obtain ⟨g_17, hp19, hp20, hP1, hD1⟩ := hB
        rw [ht] at hP1
        obtain ⟨hP, hD⟩ := va_join (wr := [(a9, .inl (cI, 6, .inl fs)), (a11, .inl (cI, 30, .inl fb)), (a12, .inl (cI, 6, .inl fc)), (a14, .inl (cI, 7, .inl fh)), (h0, .inr (0, [.int 0, .int ln, .ref a2, .ref a3, .ref a4, .ref a5, .ref a6, .ref a7, .ref a8, .ref a9, .ref a10, .ref a11, .ref a12, .ref a13, .ref a14]))]) (w1 := [(a13, .inl (cI, 4, .inl g_17))]) hP hD [5] [0, 1, 2, 3, 4] rfl rfl (by decide) (by decide) hk1 hFc hP1 hD1
        have hP : va_P D vwCl [(a9, .inl (cI, 6, .inl fs)), (a11, .inl (cI, 30, .inl fb)), (a12, .inl (cI, 6, .inl fc)), (a14, .inl (cI, 7, .inl fh)), (h0, .inr (0, [.int 0, .int ln, .ref a2, .ref a3, .ref a4, .ref a5, .ref a6, .ref a7, .ref a8, .ref a9, .ref a10, .ref a11, .ref a12, .ref a13, .ref a14])), (a13, .inl (cI, 4, .inl g_17))] H := hP
        have hD : va_D A [(a9, .inl (cI, 6, .inl fs)), (a11, .inl (cI, 30, .inl fb)), (a12, .inl (cI, 6, .inl fc)), (a14, .inl (cI, 7, .inl fh)), (h0, .inr (0, [.int 0, .int ln, .ref a2, .ref a3, .ref a4, .ref a5, .ref a6, .ref a7, .ref a8, .ref a9, .ref a10, .ref a11, .ref a12, .ref a13, .ref a14])), (a13, .inl (cI, 4, .inl g_17))] := hD
        have hP9 := hP.sub (ws' := [(h0, .inr (0, [.int 0, .int ln, .ref a2, .ref a3, .ref a4, .ref a5, .ref a6, .ref a7, .ref a8, .ref a9, .ref a10, .ref a11, .ref a12, .ref a13, .ref a14])), (a9, .inl (cI, 6, .inl fs)), (a11, .inl (cI, 30, .inl fb)), (a12, .inl (cI, 6, .inl fc)), (a13, .inl (cI, 4, .inl g_17)), (a14, .inl (cI, 7, .inl fh))]) [4, 0, 1, 2, 5, 3] rfl
        have hD9 := hD.sub (ws' := [(h0, .inr (0, [.int 0, .int ln, .ref a2, .ref a3, .ref a4, .ref a5, .ref a6, .ref a7, .ref a8, .ref a9, .ref a10, .ref a11, .ref a12, .ref a13, .ref a14])), (a9, .inl (cI, 6, .inl fs)), (a11, .inl (cI, 30, .inl fb)), (a12, .inl (cI, 6, .inl fc)), (a13, .inl (cI, 4, .inl g_17)), (a14, .inl (cI, 7, .inl fh))]) [4, 0, 1, 2, 5, 3] (by decide) rfl
        refine W.widen (k := 0) (n := 0) (by decide) (by decide) ?_
        exact W.vret hx hb hr (fun t ht hW => ⟨⟨(), rfl, trivial, fs, fb, fc, g_17, fh, (fun k hk => is k (by omega)), (fun k hk => ib k (by omega)), (fun k hk => ic k (by omega)), (⟨by rw [hp20 _ (by decide), hp16 _ (by decide), hp12 _ (by decide)]; exact hp7, by rw [hp20 _ (by decide), hp16 _ (by decide)]; exact hp11, by rw [hp20 _ (by decide)]; exact hp15, hp19⟩), by rw [ht]; exact hP9, hD9⟩, hS.F ht⟩) hS.2.2 dX0_leadOn_104
      · have nc3 : ¬ (6 ≤ L) := fun h => c3 ((nI_leI (a := 6) (b := L) (by omega) (by omega)).mpr h)
        refine lv_aload_n hx hb dX0_leadOn_8 rfl (lv_at hl 1 rfl) ?_
        refine va_get (D := D) (ci := 0) (v := .ref a9) (C := RX0) (T := TX0) (N := 15) hx hb hts iw_k_leadOn_0 hown hK hP 0 rfl rfl 9 (by decide) (hts (.fieldLink RX0 33 "FlightDesk$Book" "speed" "[I") (by decide +kernel)) (fun _ h9 => h9) rfl dX0_leadOn_9 ?_
        refine lv_iload_n hx hb dX0_leadOn_12 rfl (lv_at hl 0 rfl) ?_
        refine lv_sipush (v := 400) hx hb dX0_leadOn_13 (by decide) ?_
        have hPc := hP.sub (ws' := [(a9, .inl (cI, 6, .inl fs))]) [1] rfl
        have hDc := hD.sub (ws' := [(a9, .inl (cI, 6, .inl fs))]) [1] (by decide) rfl
        have hFc := va_free (wc := [(a9, .inl (cI, 6, .inl fs))]) hD hS hA [1] rfl
        refine va_callv (va_runS (As := [.ref a9, .int (nI L), .int 400]) (rest := []) ⟨hx, hb, hml, hown, hts⟩ (k_putIfUntold l D cI cB cP H.size a9 L 6 fs 400 (by decide) (by omega) (js L (by omega) (by omega))) (cwS 3 hts gw_k_leadOn_1 rfl rfl rfl (by decide +kernel) ⟨Nat.le_of_ble_eq_true rfl, Nat.le_of_ble_eq_true rfl⟩) ⟨ny_blind, ny_pre hPc hK hN hDc⟩ rfl rfl hl.1 rfl (lv_room (Nat.le_of_ble_eq_true rfl)) dX0_leadOn_16 ⟨Nat.le_of_ble_eq_true rfl, Nat.le_of_ble_eq_true rfl⟩) hS (fun q _ h => hFc q h) hFc (fun u t H locs ht hvm hw hB hz1 hk1 hS => ?_)
        obtain ⟨g_21, hp23, hp24, hP1, hD1⟩ := hB
        rw [ht] at hP1
        obtain ⟨hP, hD⟩ := va_join (wr := [(h0, .inr (0, [.int 0, .int ln, .ref a2, .ref a3, .ref a4, .ref a5, .ref a6, .ref a7, .ref a8, .ref a9, .ref a10, .ref a11, .ref a12, .ref a13, .ref a14])), (a11, .inl (cI, 30, .inl fb)), (a12, .inl (cI, 6, .inl fc)), (a13, .inl (cI, 4, .inl fl)), (a14, .inl (cI, 7, .inl fh))]) (w1 := [(a9, .inl (cI, 6, .inl g_21))]) hP hD [1] [0, 2, 3, 4, 5] rfl rfl (by decide) (by decide) hk1 hFc hP1 hD1
        have hP : va_P D vwCl [(h0, .inr (0, [.int 0, .int ln, .ref a2, .ref a3, .ref a4, .ref a5, .ref a6, .ref a7, .ref a8, .ref a9, .ref a10, .ref a11, .ref a12, .ref a13, .ref a14])), (a11, .inl (cI, 30, .inl fb)), (a12, .inl (cI, 6, .inl fc)), (a13, .inl (cI, 4, .inl fl)), (a14, .inl (cI, 7, .inl fh)), (a9, .inl (cI, 6, .inl g_21))] H := hP
        have hD : va_D A [(h0, .inr (0, [.int 0, .int ln, .ref a2, .ref a3, .ref a4, .ref a5, .ref a6, .ref a7, .ref a8, .ref a9, .ref a10, .ref a11, .ref a12, .ref a13, .ref a14])), (a11, .inl (cI, 30, .inl fb)), (a12, .inl (cI, 6, .inl fc)), (a13, .inl (cI, 4, .inl fl)), (a14, .inl (cI, 7, .inl fh)), (a9, .inl (cI, 6, .inl g_21))] := hD
        refine lv_aload_n hx hb dX0_leadOn_19 rfl (lv_at hl 1 rfl) ?_
        refine va_get (D := D) (ci := 0) (v := .ref a12) (C := RX0) (T := TX0) (N := 15) hx hb hts iw_k_leadOn_0 hown hK hP 0 rfl rfl 12 (by decide) (hts (.fieldLink RX0 42 "FlightDesk$Book" "climb" "[I") (by decide +kernel)) (fun _ h9 => h9) rfl dX0_leadOn_20 ?_
        refine lv_iload_n hx hb dX0_leadOn_23 rfl (lv_at hl 0 rfl) ?_
        refine lv_iconst (v := 0) hx hb dX0_leadOn_24 (by decide) ?_
        have hPc := hP.sub (ws' := [(a12, .inl (cI, 6, .inl fc))]) [2] rfl
        have hDc := hD.sub (ws' := [(a12, .inl (cI, 6, .inl fc))]) [2] (by decide) rfl
        have hFc := va_free (wc := [(a12, .inl (cI, 6, .inl fc))]) hD hS hA [2] rfl
        refine va_callv (va_runS (As := [.ref a12, .int (nI L), .int 0]) (rest := []) ⟨hx, hb, hml, hown, hts⟩ (k_putIfUntold l D cI cB cP H.size a12 L 6 fc 0 (by decide) (by omega) (jc L (by omega) (by omega))) (cwS 3 hts gw_k_leadOn_1 rfl rfl rfl (by decide +kernel) ⟨Nat.le_of_ble_eq_true rfl, Nat.le_of_ble_eq_true rfl⟩) ⟨ny_blind, ny_pre hPc hK hN hDc⟩ rfl rfl hl.1 rfl (lv_room (Nat.le_of_ble_eq_true rfl)) dX0_leadOn_25 ⟨Nat.le_of_ble_eq_true rfl, Nat.le_of_ble_eq_true rfl⟩) hS (fun q _ h => hFc q h) hFc (fun u t H locs ht hvm hw hB hz1 hk1 hS => ?_)
        obtain ⟨g_25, hp27, hp28, hP1, hD1⟩ := hB
        rw [ht] at hP1
        obtain ⟨hP, hD⟩ := va_join (wr := [(h0, .inr (0, [.int 0, .int ln, .ref a2, .ref a3, .ref a4, .ref a5, .ref a6, .ref a7, .ref a8, .ref a9, .ref a10, .ref a11, .ref a12, .ref a13, .ref a14])), (a11, .inl (cI, 30, .inl fb)), (a13, .inl (cI, 4, .inl fl)), (a14, .inl (cI, 7, .inl fh)), (a9, .inl (cI, 6, .inl g_21))]) (w1 := [(a12, .inl (cI, 6, .inl g_25))]) hP hD [2] [0, 1, 3, 4, 5] rfl rfl (by decide) (by decide) hk1 hFc hP1 hD1
        have hP : va_P D vwCl [(h0, .inr (0, [.int 0, .int ln, .ref a2, .ref a3, .ref a4, .ref a5, .ref a6, .ref a7, .ref a8, .ref a9, .ref a10, .ref a11, .ref a12, .ref a13, .ref a14])), (a11, .inl (cI, 30, .inl fb)), (a13, .inl (cI, 4, .inl fl)), (a14, .inl (cI, 7, .inl fh)), (a9, .inl (cI, 6, .inl g_21)), (a12, .inl (cI, 6, .inl g_25))] H := hP
        have hD : va_D A [(h0, .inr (0, [.int 0, .int ln, .ref a2, .ref a3, .ref a4, .ref a5, .ref a6, .ref a7, .ref a8, .ref a9, .ref a10, .ref a11, .ref a12, .ref a13, .ref a14])), (a11, .inl (cI, 30, .inl fb)), (a13, .inl (cI, 4, .inl fl)), (a14, .inl (cI, 7, .inl fh)), (a9, .inl (cI, 6, .inl g_21)), (a12, .inl (cI, 6, .inl g_25))] := hD
        refine lv_aload_n hx hb dX0_leadOn_28 rfl (lv_at hl 1 rfl) ?_
        refine va_get (D := D) (ci := 0) (v := .ref a14) (C := RX0) (T := TX0) (N := 15) hx hb hts iw_k_leadOn_0 hown hK hP 0 rfl rfl 14 (by decide) (hts (.fieldLink RX0 48 "FlightDesk$Book" "height" "[I") (by decide +kernel)) (fun _ h9 => h9) rfl dX0_leadOn_29 ?_
        refine lv_iload_n hx hb dX0_leadOn_32 rfl (lv_at hl 0 rfl) ?_
        refine lv_iconst (v := 1) hx hb dX0_leadOn_33 (by decide) ?_
        refine lv_iadd hx hb dX0_leadOn_34 ?_
        refine lv_topi (fun vv ev => ?_)
        obtain rfl : vv = nI (L + 1) := ev.trans (show nI L + 1 = _ from nI_1 L)
        refine lv_aload_n hx hb dX0_leadOn_35 rfl (lv_at hl 1 rfl) ?_
        refine va_get (D := D) (ci := 0) (v := .ref a14) (C := RX0) (T := TX0) (N := 15) hx hb hts iw_k_leadOn_0 hown hK hP 0 rfl rfl 14 (by decide) (hts (.fieldLink RX0 48 "FlightDesk$Book" "height" "[I") (by decide +kernel)) (fun _ h9 => h9) rfl dX0_leadOn_36 ?_
        refine lv_iload_n hx hb dX0_leadOn_39 rfl (lv_at hl 0 rfl) ?_
        refine va_iald hx hb hK hP 3 0 rfl rfl (vp_in_nI (by omega) (by decide)) dX0_leadOn_40 ?_
        refine lv_topi (fun v29 ev29 => ?_)
        refine lv_aload_n hx hb dX0_leadOn_41 rfl (lv_at hl 1 rfl) ?_
        refine va_get (D := D) (ci := 0) (v := .ref a12) (C := RX0) (T := TX0) (N := 15) hx hb hts iw_k_leadOn_0 hown hK hP 0 rfl rfl 12 (by decide) (hts (.fieldLink RX0 42 "FlightDesk$Book" "climb" "[I") (by decide +kernel)) (fun _ h9 => h9) rfl dX0_leadOn_42 ?_
        refine lv_iload_n hx hb dX0_leadOn_45 rfl (lv_at hl 0 rfl) ?_
        refine va_iald hx hb hK hP 5 0 rfl rfl (vp_in_nI (by omega) (by decide)) dX0_leadOn_46 ?_
        refine lv_topi (fun v30 ev30 => ?_)
        refine lv_iadd hx hb dX0_leadOn_47 ?_
        refine lv_topi (fun v31 ev31 => ?_)
        refine va_iast hx hb hK hP hD hS 3 0 rfl rfl (vp_in_nI (by omega) (by decide)) dX0_leadOn_48 (fun H locs hP hD hS => ?_)
        have hP : va_P D vwCl [(h0, .inr (0, [.int 0, .int ln, .ref a2, .ref a3, .ref a4, .ref a5, .ref a6, .ref a7, .ref a8, .ref a9, .ref a10, .ref a11, .ref a12, .ref a13, .ref a14])), (a11, .inl (cI, 30, .inl fb)), (a13, .inl (cI, 4, .inl fl)), (a14, .inl (cI, 7, .inl (upd fh (nI (L + 1)).toNatClampNeg v31))), (a9, .inl (cI, 6, .inl g_21)), (a12, .inl (cI, 6, .inl g_25))] H := hP
        have hD : va_D A [(h0, .inr (0, [.int 0, .int ln, .ref a2, .ref a3, .ref a4, .ref a5, .ref a6, .ref a7, .ref a8, .ref a9, .ref a10, .ref a11, .ref a12, .ref a13, .ref a14])), (a11, .inl (cI, 30, .inl fb)), (a13, .inl (cI, 4, .inl fl)), (a14, .inl (cI, 7, .inl (upd fh (nI (L + 1)).toNatClampNeg v31))), (a9, .inl (cI, 6, .inl g_21)), (a12, .inl (cI, 6, .inl g_25))] := hD
        obtain ⟨f32, ef32⟩ : ∃ z : Nat → Int32, z = (upd fh (nI (L + 1)).toNatClampNeg v31) := ⟨_, rfl⟩
        rw [← ef32] at hP hD
        refine lv_aload_n hx hb dX0_leadOn_49 rfl (lv_at hl 1 rfl) ?_
        refine lv_iload_n hx hb dX0_leadOn_50 rfl (lv_at hl 0 rfl) ?_
        have hPc := hP.sub (ws' := [(h0, .inr (0, [.int 0, .int ln, .ref a2, .ref a3, .ref a4, .ref a5, .ref a6, .ref a7, .ref a8, .ref a9, .ref a10, .ref a11, .ref a12, .ref a13, .ref a14])), (a11, .inl (cI, 30, .inl fb))]) [0, 1] rfl
        have hDc := hD.sub (ws' := [(h0, .inr (0, [.int 0, .int ln, .ref a2, .ref a3, .ref a4, .ref a5, .ref a6, .ref a7, .ref a8, .ref a9, .ref a10, .ref a11, .ref a12, .ref a13, .ref a14])), (a11, .inl (cI, 30, .inl fb))]) [0, 1] (by decide) rfl
        have hFc := va_free (wc := [(h0, .inr (0, [.int 0, .int ln, .ref a2, .ref a3, .ref a4, .ref a5, .ref a6, .ref a7, .ref a8, .ref a9, .ref a10, .ref a11, .ref a12, .ref a13, .ref a14])), (a11, .inl (cI, 30, .inl fb))]) hD hS hA [0, 1] rfl
        refine va_callv (va_runV (As := [.int (nI L)]) (rest := []) ⟨hx, hb, hml, hown, hts⟩ (k_leadBurnsOn l D cI cB cP H.size h0 0 ln a2 a3 a4 a5 a6 a7 a8 a9 a10 a11 a12 a13 a14 L fb (by omega) (fun b hb => jb _ (by omega) (by omega))) (cwV 1 hts gw_k_leadOn_2 rfl rfl rfl (by decide +kernel) ⟨Nat.le_of_ble_eq_true rfl, Nat.le_of_ble_eq_true rfl⟩) ⟨ny_blind, va_recv hK hPc (ci := 0) (q0 := 0) rfl rfl, ny_pre hPc hK hN hDc⟩ rfl rfl hl.1 rfl (lv_room (Nat.le_of_ble_eq_true rfl)) dX0_leadOn_51 ⟨Nat.le_of_ble_eq_true rfl, Nat.le_of_ble_eq_true rfl⟩) hS (fun q _ h => hFc q h) hFc (fun u t H locs ht hvm hw hB hz1 hk1 hS => ?_)
        obtain ⟨g_33, hp35, hp36, hP1, hD1⟩ := hB
        rw [ht] at hP1
        obtain ⟨hP, hD⟩ := va_join (wr := [(a13, .inl (cI, 4, .inl fl)), (a14, .inl (cI, 7, .inl f32)), (a9, .inl (cI, 6, .inl g_21)), (a12, .inl (cI, 6, .inl g_25))]) (w1 := [(h0, .inr (0, [.int 0, .int ln, .ref a2, .ref a3, .ref a4, .ref a5, .ref a6, .ref a7, .ref a8, .ref a9, .ref a10, .ref a11, .ref a12, .ref a13, .ref a14])), (a11, .inl (cI, 30, .inl g_33))]) hP hD [0, 1] [2, 3, 4, 5] rfl rfl (by decide) (by decide) hk1 hFc hP1 hD1
        have hP : va_P D vwCl [(a13, .inl (cI, 4, .inl fl)), (a14, .inl (cI, 7, .inl f32)), (a9, .inl (cI, 6, .inl g_21)), (a12, .inl (cI, 6, .inl g_25)), (h0, .inr (0, [.int 0, .int ln, .ref a2, .ref a3, .ref a4, .ref a5, .ref a6, .ref a7, .ref a8, .ref a9, .ref a10, .ref a11, .ref a12, .ref a13, .ref a14])), (a11, .inl (cI, 30, .inl g_33))] H := hP
        have hD : va_D A [(a13, .inl (cI, 4, .inl fl)), (a14, .inl (cI, 7, .inl f32)), (a9, .inl (cI, 6, .inl g_21)), (a12, .inl (cI, 6, .inl g_25)), (h0, .inr (0, [.int 0, .int ln, .ref a2, .ref a3, .ref a4, .ref a5, .ref a6, .ref a7, .ref a8, .ref a9, .ref a10, .ref a11, .ref a12, .ref a13, .ref a14])), (a11, .inl (cI, 30, .inl g_33))] := hD
        refine lv_iinc (v := nI (L + 1)) (lv' := [(1, .int (nI (L + 1))), (0, .ref h0)]) hx hb dX0_leadOn_54 hl (k := 0) rfl (show nI L + 1 = _ from nI_1 L) (by decide) rfl (fun ls hl => ?_)
        refine lv_goto (tgt := 2) hx hb dX0_leadOn_57 (by decide) ?_
        exact ih (L + 1) g_21 g_33 g_25 f32 _ _ _ (by omega) (fun k hk => (Decidable.em (k = L)).elim (fun e9 => by subst e9; exact hp23) (fun e9 => by rw [hp24 k e9]; exact is k (by omega))) (fun k hk hk6 => by rw [hp24 k (by omega)]; exact js k (by omega) hk6) (fun k hk => (Decidable.em (k = L)).elim (fun e9 => by subst e9; exact hp27) (fun e9 => by rw [hp28 k e9]; exact ic k (by omega))) (fun k hk hk6 => by rw [hp28 k (by omega)]; exact jc k (by omega) hk6) (fun k hk => (Decidable.em (k < L * 5)).elim (fun e9 => by rw [hp36 k (Or.inl e9)]; exact ib k e9) (fun e9 => by have q := hp35 (k - L * 5) (by omega); rwa [show L * 5 + (k - L * 5) = k by omega] at q)) (fun k hk hk6 => by rw [hp36 k (by omega)]; exact jb k (by omega) hk6) (by omega) (hP.sub [4, 2, 5, 3, 0, 1] rfl) (hD.sub [4, 2, 5, 3, 0, 1] (by decide) rfl) hS (lv_sub hl [0, 1] rfl)
  exact loop1 _ 0 fs fb fc fh _ _ _ (by decide) (fun k hk => absurd hk (Nat.not_lt_zero _)) (fun k _ hk => us k hk) (fun k hk => absurd hk (Nat.not_lt_zero _)) (fun k _ hk => uc k hk) (fun k hk => absurd hk (by omega)) (fun k _ hk => ub k hk) (Nat.lt_succ_self _) (hP.sub [0, 1, 2, 3, 4, 5] rfl) (hD.sub [0, 1, 2, 3, 4, 5] (by decide) rfl) hS (lv_sub hl [0, 1] rfl)
end
section
def wk_k_clear : List Cond := .code yX0_clear cX0_clear 1 none :: ([.fieldLink RX0 54 "FlightDesk$Book" "legCount" "I", .fieldLink RX0 58 "FlightDesk$Book" "lineCount" "I", .fieldLink RX0 33 "FlightDesk$Book" "speed" "[I", .methodLink RX0 61 yJ7_fill_53178, .static yJ7_fill_53178, .initialized RJ7, .code yJ7_fill_53178 cJ7_fill_53178 4 none, .fieldLink RX0 36 "FlightDesk$Book" "wind" "[I", .fieldLink RX0 39 "FlightDesk$Book" "burn" "[I", .fieldLink RX0 42 "FlightDesk$Book" "climb" "[I", .fieldLink RX0 45 "FlightDesk$Book" "limit" "[I"] ++ wsX00)
theorem iw_k_clear_0 : ∀ w ∈ wsX00, w ∈ wk_k_clear := fun _ h => List.mem_cons_of_mem _ (List.mem_append_right _ h)
set_option maxRecDepth 20000 in
theorem gw_k_clear_0 : GoodIn wk_k_clear (va_wsS RX0 61 yJ7_fill_53178 wk_k_fill) := goodIn_sub (by decide +kernel) (by decide +kernel)
set_option maxHeartbeats 4000000 in
set_option maxRecDepth 100000 in
theorem k_clear (l : Launch) (D : va_G) (cI cB cP : ClassId) (sz : Nat) (h0 : Nat) (lc : Int32) (ln : Int32) (a2 : Nat) (a3 : Nat) (a4 : Nat) (a5 : Nat) (a6 : Nat) (a7 : Nat) (a8 : Nat) (a9 : Nat) (a10 : Nat) (a11 : Nat) (a12 : Nat) (a13 : Nat) (a14 : Nat) (f9 : Nat → Int32) (f10 : Nat → Int32) (f11 : Nat → Int32) (f12 : Nat → Int32) (f13 : Nat → Int32) : Met l yX0_clear wk_k_clear ({ frames := 1, cells := 0, slots := 0, locals := 23 } : Room) (va_Pc [.ref h0] (Pw D cI cB cP sz [(h0, .inr (0, [.int lc, .int ln, .ref a2, .ref a3, .ref a4, .ref a5, .ref a6, .ref a7, .ref a8, .ref a9, .ref a10, .ref a11, .ref a12, .ref a13, .ref a14])), (a9, .inl (cI, 6, .inl f9)), (a10, .inl (cI, 288, .inl f10)), (a11, .inl (cI, 30, .inl f11)), (a12, .inl (cI, 6, .inl f12)), (a13, .inl (cI, 4, .inl f13))])) (va_Qv (fun (_ : Unit) => True) (fun _ t => ∃ g9 : Nat → Int32, ∃ g10 : Nat → Int32, ∃ g11 : Nat → Int32, ∃ g12 : Nat → Int32, ∃ g13 : Nat → Int32, (∀ k : Nat, k < 6 → g9 k = -1000) ∧ (∀ k : Nat, k < 288 → g10 k = -1000) ∧ (∀ k : Nat, k < 30 → g11 k = -1000) ∧ (∀ k : Nat, k < 6 → g12 k = -1000) ∧ (∀ k : Nat, k < 4 → g13 k = -1000) ∧ va_P D vwCl [(h0, .inr (0, [.int 0, .int 0, .ref a2, .ref a3, .ref a4, .ref a5, .ref a6, .ref a7, .ref a8, .ref a9, .ref a10, .ref a11, .ref a12, .ref a13, .ref a14])), (a9, .inl (cI, 6, .inl g9)), (a10, .inl (cI, 288, .inl g10)), (a11, .inl (cI, 30, .inl g11)), (a12, .inl (cI, 6, .inl g12)), (a13, .inl (cI, 4, .inl g13))] t.heap ∧ va_D (va_A [(h0, .inr (0, [.int lc, .int ln, .ref a2, .ref a3, .ref a4, .ref a5, .ref a6, .ref a7, .ref a8, .ref a9, .ref a10, .ref a11, .ref a12, .ref a13, .ref a14])), (a9, .inl (cI, 6, .inl f9)), (a10, .inl (cI, 288, .inl f10)), (a11, .inl (cI, 30, .inl f11)), (a12, .inl (cI, 6, .inl f12)), (a13, .inl (cI, 4, .inl f13))] sz) [(h0, .inr (0, [.int 0, .int 0, .ref a2, .ref a3, .ref a4, .ref a5, .ref a6, .ref a7, .ref a8, .ref a9, .ref a10, .ref a11, .ref a12, .ref a13, .ref a14])), (a9, .inl (cI, 6, .inl g9)), (a10, .inl (cI, 288, .inl g10)), (a11, .inl (cI, 30, .inl g11)), (a12, .inl (cI, 6, .inl g12)), (a13, .inl (cI, 4, .inl g13))]) (va_A [(h0, .inr (0, [.int lc, .int ln, .ref a2, .ref a3, .ref a4, .ref a5, .ref a6, .ref a7, .ref a8, .ref a9, .ref a10, .ref a11, .ref a12, .ref a13, .ref a14])), (a9, .inl (cI, 6, .inl f9)), (a10, .inl (cI, 288, .inl f10)), (a11, .inl (cI, 30, .inl f11)), (a12, .inl (cI, 6, .inl f12)), (a13, .inl (cI, 4, .inl f13))] sz)) 0 0 (va_A [(h0, .inr (0, [.int lc, .int ln, .ref a2, .ref a3, .ref a4, .ref a5, .ref a6, .ref a7, .ref a8, .ref a9, .ref a10, .ref a11, .ref a12, .ref a13, .ref a14])), (a9, .inl (cI, 6, .inl f9)), (a10, .inl (cI, 288, .inl f10)), (a11, .inl (cI, 30, .inl f11)), (a12, .inl (cI, 6, .inl f12)), (a13, .inl (cI, 4, .inl f13))] sz) := by
  refine Met.ofW (cc := cX0_clear) (maxL := 1) (ret := none) (by decide) rfl ?_
  intro p e s m args below meth c s₁ B hml hv
  obtain ⟨rfl, hsz, hP, ⟨hK, hN⟩, hD0⟩ := hv
  have hx := B.exec
  have hb := B.bytes
  have hr := B.returns
  have hts := atoms_spec (ws := wk_k_clear) B.pre
  have hown : s.vm.findClass RX0 = some m.cls := findClass_of_methodNamed B.named
  have hlocks := B.notSynchronized
  subst hsz
  have hD := hD0.self (sz := s.heap.size)
  generalize hAe : va_A [(h0, .inr (0, [.int lc, .int ln, .ref a2, .ref a3, .ref a4, .ref a5, .ref a6, .ref a7, .ref a8, .ref a9, .ref a10, .ref a11, .ref a12, .ref a13, .ref a14])), (a9, .inl (cI, 6, .inl f9)), (a10, .inl (cI, 288, .inl f10)), (a11, .inl (cI, 30, .inl f11)), (a12, .inl (cI, 6, .inl f12)), (a13, .inl (cI, 4, .inl f13))] s.heap.size = A at hD ⊢
  have hA : ∀ q : Nat, s.heap.size ≤ q → A q := fun q h => by rw [← hAe]; exact Or.inr h
  have hS : va_S A s.heap s.heap [] := va_S.rf
  have hP : va_P D vwCl [(h0, .inr (0, [.int lc, .int ln, .ref a2, .ref a3, .ref a4, .ref a5, .ref a6, .ref a7, .ref a8, .ref a9, .ref a10, .ref a11, .ref a12, .ref a13, .ref a14])), (a9, .inl (cI, 6, .inl f9)), (a10, .inl (cI, 288, .inl f10)), (a11, .inl (cI, 30, .inl f11)), (a12, .inl (cI, 6, .inl f12)), (a13, .inl (cI, 4, .inl f13))] s.heap := hP
  have hl := lv_entry ([.ref h0]) (n := 1) (Nat.le_of_ble_eq_true rfl)
  rw [lg_entry_eq]
  generalize (lg_sl ([.ref h0]) ++ List.replicate (1 - (lg_sl ([.ref h0])).length) Slot.unset).toArray = ls at hl ⊢
  have hl : lv_has ls 1 [(0, .ref h0)] := hl
  refine lv_aload_n hx hb dX0_clear_0 rfl (lv_at hl 0 rfl) ?_
  refine lv_iconst (v := 0) hx hb dX0_clear_1 (by decide) ?_
  refine va_put (D := D) (ci := 0) (v := .int 0) (ty := .int) (C := RX0) (T := TX0) (N := 15) hx hb hts iw_k_clear_0 tyX0 tyX0_ok nmX0 hown hK hP hD hS 0 rfl rfl 0 (by decide) (hts (.fieldLink RX0 54 "FlightDesk$Book" "legCount" "I") (by decide +kernel)) (fun _ h9 => h9) rfl (by decide +kernel) rfl rfl (Nat.le_of_ble_eq_true rfl) dX0_clear_2 (fun H locs hP hD hS => ?_)
  have hP : va_P D vwCl [(h0, .inr (0, [.int 0, .int ln, .ref a2, .ref a3, .ref a4, .ref a5, .ref a6, .ref a7, .ref a8, .ref a9, .ref a10, .ref a11, .ref a12, .ref a13, .ref a14])), (a9, .inl (cI, 6, .inl f9)), (a10, .inl (cI, 288, .inl f10)), (a11, .inl (cI, 30, .inl f11)), (a12, .inl (cI, 6, .inl f12)), (a13, .inl (cI, 4, .inl f13))] H := hP
  have hD : va_D A [(h0, .inr (0, [.int 0, .int ln, .ref a2, .ref a3, .ref a4, .ref a5, .ref a6, .ref a7, .ref a8, .ref a9, .ref a10, .ref a11, .ref a12, .ref a13, .ref a14])), (a9, .inl (cI, 6, .inl f9)), (a10, .inl (cI, 288, .inl f10)), (a11, .inl (cI, 30, .inl f11)), (a12, .inl (cI, 6, .inl f12)), (a13, .inl (cI, 4, .inl f13))] := hD
  refine lv_aload_n hx hb dX0_clear_5 rfl (lv_at hl 0 rfl) ?_
  refine lv_iconst (v := 0) hx hb dX0_clear_6 (by decide) ?_
  refine va_put (D := D) (ci := 0) (v := .int 0) (ty := .int) (C := RX0) (T := TX0) (N := 15) hx hb hts iw_k_clear_0 tyX0 tyX0_ok nmX0 hown hK hP hD hS 0 rfl rfl 1 (by decide) (hts (.fieldLink RX0 58 "FlightDesk$Book" "lineCount" "I") (by decide +kernel)) (fun _ h9 => h9) rfl (by decide +kernel) rfl rfl (Nat.le_of_ble_eq_true rfl) dX0_clear_7 (fun H locs hP hD hS => ?_)
  have hP : va_P D vwCl [(h0, .inr (0, [.int 0, .int 0, .ref a2, .ref a3, .ref a4, .ref a5, .ref a6, .ref a7, .ref a8, .ref a9, .ref a10, .ref a11, .ref a12, .ref a13, .ref a14])), (a9, .inl (cI, 6, .inl f9)), (a10, .inl (cI, 288, .inl f10)), (a11, .inl (cI, 30, .inl f11)), (a12, .inl (cI, 6, .inl f12)), (a13, .inl (cI, 4, .inl f13))] H := hP
  have hD : va_D A [(h0, .inr (0, [.int 0, .int 0, .ref a2, .ref a3, .ref a4, .ref a5, .ref a6, .ref a7, .ref a8, .ref a9, .ref a10, .ref a11, .ref a12, .ref a13, .ref a14])), (a9, .inl (cI, 6, .inl f9)), (a10, .inl (cI, 288, .inl f10)), (a11, .inl (cI, 30, .inl f11)), (a12, .inl (cI, 6, .inl f12)), (a13, .inl (cI, 4, .inl f13))] := hD
  refine lv_aload_n hx hb dX0_clear_10 rfl (lv_at hl 0 rfl) ?_
  refine va_get (D := D) (ci := 0) (v := .ref a9) (C := RX0) (T := TX0) (N := 15) hx hb hts iw_k_clear_0 hown hK hP 0 rfl rfl 9 (by decide) (hts (.fieldLink RX0 33 "FlightDesk$Book" "speed" "[I") (by decide +kernel)) (fun _ h9 => h9) rfl dX0_clear_11 ?_
  refine lv_sipush (v := (-1000)) hx hb dX0_clear_14 (by decide) ?_
  have hPc := hP.sub (ws' := [(a9, .inl (cI, 6, .inl f9))]) [1] rfl
  have hDc := hD.sub (ws' := [(a9, .inl (cI, 6, .inl f9))]) [1] (by decide) rfl
  have hFc := va_free (wc := [(a9, .inl (cI, 6, .inl f9))]) hD hS hA [1] rfl
  refine va_callv (va_runS (As := [.ref a9, .int (-1000)]) (rest := []) ⟨hx, hb, hml, hown, hts⟩ (k_fill l D cI cB cP H.size a9 6 f9 (-1000) (by decide)) (va_cwS 2 hts gw_k_clear_0 rfl rfl rfl (by decide +kernel) ⟨Nat.le_of_ble_eq_true rfl, Nat.le_of_ble_eq_true rfl⟩) ⟨ny_blind, ny_pre hPc hK hN hDc⟩ rfl rfl hl.1 rfl (lv_room (Nat.le_of_ble_eq_true rfl)) dX0_clear_17 ⟨Nat.le_of_ble_eq_true rfl, Nat.le_of_ble_eq_true rfl⟩) hS (fun q _ h => hFc q h) hFc (fun u t H locs ht hvm hw hB hz1 hk1 hS => ?_)
  obtain ⟨g_1, hp3, hP1, hD1⟩ := hB
  rw [ht] at hP1
  obtain ⟨hP, hD⟩ := va_join (wr := [(h0, .inr (0, [.int 0, .int 0, .ref a2, .ref a3, .ref a4, .ref a5, .ref a6, .ref a7, .ref a8, .ref a9, .ref a10, .ref a11, .ref a12, .ref a13, .ref a14])), (a10, .inl (cI, 288, .inl f10)), (a11, .inl (cI, 30, .inl f11)), (a12, .inl (cI, 6, .inl f12)), (a13, .inl (cI, 4, .inl f13))]) (w1 := [(a9, .inl (cI, 6, .inl g_1))]) hP hD [1] [0, 2, 3, 4, 5] rfl rfl (by decide) (by decide) hk1 hFc hP1 hD1
  have hP : va_P D vwCl [(h0, .inr (0, [.int 0, .int 0, .ref a2, .ref a3, .ref a4, .ref a5, .ref a6, .ref a7, .ref a8, .ref a9, .ref a10, .ref a11, .ref a12, .ref a13, .ref a14])), (a10, .inl (cI, 288, .inl f10)), (a11, .inl (cI, 30, .inl f11)), (a12, .inl (cI, 6, .inl f12)), (a13, .inl (cI, 4, .inl f13)), (a9, .inl (cI, 6, .inl g_1))] H := hP
  have hD : va_D A [(h0, .inr (0, [.int 0, .int 0, .ref a2, .ref a3, .ref a4, .ref a5, .ref a6, .ref a7, .ref a8, .ref a9, .ref a10, .ref a11, .ref a12, .ref a13, .ref a14])), (a10, .inl (cI, 288, .inl f10)), (a11, .inl (cI, 30, .inl f11)), (a12, .inl (cI, 6, .inl f12)), (a13, .inl (cI, 4, .inl f13)), (a9, .inl (cI, 6, .inl g_1))] := hD
  refine lv_aload_n hx hb dX0_clear_20 rfl (lv_at hl 0 rfl) ?_
  refine va_get (D := D) (ci := 0) (v := .ref a10) (C := RX0) (T := TX0) (N := 15) hx hb hts iw_k_clear_0 hown hK hP 0 rfl rfl 10 (by decide) (hts (.fieldLink RX0 36 "FlightDesk$Book" "wind" "[I") (by decide +kernel)) (fun _ h9 => h9) rfl dX0_clear_21 ?_
  refine lv_sipush (v := (-1000)) hx hb dX0_clear_24 (by decide) ?_
  have hPc := hP.sub (ws' := [(a10, .inl (cI, 288, .inl f10))]) [1] rfl
  have hDc := hD.sub (ws' := [(a10, .inl (cI, 288, .inl f10))]) [1] (by decide) rfl
  have hFc := va_free (wc := [(a10, .inl (cI, 288, .inl f10))]) hD hS hA [1] rfl
  refine va_callv (va_runS (As := [.ref a10, .int (-1000)]) (rest := []) ⟨hx, hb, hml, hown, hts⟩ (k_fill l D cI cB cP H.size a10 288 f10 (-1000) (by decide)) (va_cwS 2 hts gw_k_clear_0 rfl rfl rfl (by decide +kernel) ⟨Nat.le_of_ble_eq_true rfl, Nat.le_of_ble_eq_true rfl⟩) ⟨ny_blind, ny_pre hPc hK hN hDc⟩ rfl rfl hl.1 rfl (lv_room (Nat.le_of_ble_eq_true rfl)) dX0_clear_27 ⟨Nat.le_of_ble_eq_true rfl, Nat.le_of_ble_eq_true rfl⟩) hS (fun q _ h => hFc q h) hFc (fun u t H locs ht hvm hw hB hz1 hk1 hS => ?_)
  obtain ⟨g_4, hp6, hP1, hD1⟩ := hB
  rw [ht] at hP1
  obtain ⟨hP, hD⟩ := va_join (wr := [(h0, .inr (0, [.int 0, .int 0, .ref a2, .ref a3, .ref a4, .ref a5, .ref a6, .ref a7, .ref a8, .ref a9, .ref a10, .ref a11, .ref a12, .ref a13, .ref a14])), (a11, .inl (cI, 30, .inl f11)), (a12, .inl (cI, 6, .inl f12)), (a13, .inl (cI, 4, .inl f13)), (a9, .inl (cI, 6, .inl g_1))]) (w1 := [(a10, .inl (cI, 288, .inl g_4))]) hP hD [1] [0, 2, 3, 4, 5] rfl rfl (by decide) (by decide) hk1 hFc hP1 hD1
  have hP : va_P D vwCl [(h0, .inr (0, [.int 0, .int 0, .ref a2, .ref a3, .ref a4, .ref a5, .ref a6, .ref a7, .ref a8, .ref a9, .ref a10, .ref a11, .ref a12, .ref a13, .ref a14])), (a11, .inl (cI, 30, .inl f11)), (a12, .inl (cI, 6, .inl f12)), (a13, .inl (cI, 4, .inl f13)), (a9, .inl (cI, 6, .inl g_1)), (a10, .inl (cI, 288, .inl g_4))] H := hP
  have hD : va_D A [(h0, .inr (0, [.int 0, .int 0, .ref a2, .ref a3, .ref a4, .ref a5, .ref a6, .ref a7, .ref a8, .ref a9, .ref a10, .ref a11, .ref a12, .ref a13, .ref a14])), (a11, .inl (cI, 30, .inl f11)), (a12, .inl (cI, 6, .inl f12)), (a13, .inl (cI, 4, .inl f13)), (a9, .inl (cI, 6, .inl g_1)), (a10, .inl (cI, 288, .inl g_4))] := hD
  refine lv_aload_n hx hb dX0_clear_30 rfl (lv_at hl 0 rfl) ?_
  refine va_get (D := D) (ci := 0) (v := .ref a11) (C := RX0) (T := TX0) (N := 15) hx hb hts iw_k_clear_0 hown hK hP 0 rfl rfl 11 (by decide) (hts (.fieldLink RX0 39 "FlightDesk$Book" "burn" "[I") (by decide +kernel)) (fun _ h9 => h9) rfl dX0_clear_31 ?_
  refine lv_sipush (v := (-1000)) hx hb dX0_clear_34 (by decide) ?_
  have hPc := hP.sub (ws' := [(a11, .inl (cI, 30, .inl f11))]) [1] rfl
  have hDc := hD.sub (ws' := [(a11, .inl (cI, 30, .inl f11))]) [1] (by decide) rfl
  have hFc := va_free (wc := [(a11, .inl (cI, 30, .inl f11))]) hD hS hA [1] rfl
  refine va_callv (va_runS (As := [.ref a11, .int (-1000)]) (rest := []) ⟨hx, hb, hml, hown, hts⟩ (k_fill l D cI cB cP H.size a11 30 f11 (-1000) (by decide)) (va_cwS 2 hts gw_k_clear_0 rfl rfl rfl (by decide +kernel) ⟨Nat.le_of_ble_eq_true rfl, Nat.le_of_ble_eq_true rfl⟩) ⟨ny_blind, ny_pre hPc hK hN hDc⟩ rfl rfl hl.1 rfl (lv_room (Nat.le_of_ble_eq_true rfl)) dX0_clear_37 ⟨Nat.le_of_ble_eq_true rfl, Nat.le_of_ble_eq_true rfl⟩) hS (fun q _ h => hFc q h) hFc (fun u t H locs ht hvm hw hB hz1 hk1 hS => ?_)
  obtain ⟨g_7, hp9, hP1, hD1⟩ := hB
  rw [ht] at hP1
  obtain ⟨hP, hD⟩ := va_join (wr := [(h0, .inr (0, [.int 0, .int 0, .ref a2, .ref a3, .ref a4, .ref a5, .ref a6, .ref a7, .ref a8, .ref a9, .ref a10, .ref a11, .ref a12, .ref a13, .ref a14])), (a12, .inl (cI, 6, .inl f12)), (a13, .inl (cI, 4, .inl f13)), (a9, .inl (cI, 6, .inl g_1)), (a10, .inl (cI, 288, .inl g_4))]) (w1 := [(a11, .inl (cI, 30, .inl g_7))]) hP hD [1] [0, 2, 3, 4, 5] rfl rfl (by decide) (by decide) hk1 hFc hP1 hD1
  have hP : va_P D vwCl [(h0, .inr (0, [.int 0, .int 0, .ref a2, .ref a3, .ref a4, .ref a5, .ref a6, .ref a7, .ref a8, .ref a9, .ref a10, .ref a11, .ref a12, .ref a13, .ref a14])), (a12, .inl (cI, 6, .inl f12)), (a13, .inl (cI, 4, .inl f13)), (a9, .inl (cI, 6, .inl g_1)), (a10, .inl (cI, 288, .inl g_4)), (a11, .inl (cI, 30, .inl g_7))] H := hP
  have hD : va_D A [(h0, .inr (0, [.int 0, .int 0, .ref a2, .ref a3, .ref a4, .ref a5, .ref a6, .ref a7, .ref a8, .ref a9, .ref a10, .ref a11, .ref a12, .ref a13, .ref a14])), (a12, .inl (cI, 6, .inl f12)), (a13, .inl (cI, 4, .inl f13)), (a9, .inl (cI, 6, .inl g_1)), (a10, .inl (cI, 288, .inl g_4)), (a11, .inl (cI, 30, .inl g_7))] := hD
  refine lv_aload_n hx hb dX0_clear_40 rfl (lv_at hl 0 rfl) ?_
  refine va_get (D := D) (ci := 0) (v := .ref a12) (C := RX0) (T := TX0) (N := 15) hx hb hts iw_k_clear_0 hown hK hP 0 rfl rfl 12 (by decide) (hts (.fieldLink RX0 42 "FlightDesk$Book" "climb" "[I") (by decide +kernel)) (fun _ h9 => h9) rfl dX0_clear_41 ?_
  refine lv_sipush (v := (-1000)) hx hb dX0_clear_44 (by decide) ?_
  have hPc := hP.sub (ws' := [(a12, .inl (cI, 6, .inl f12))]) [1] rfl
  have hDc := hD.sub (ws' := [(a12, .inl (cI, 6, .inl f12))]) [1] (by decide) rfl
  have hFc := va_free (wc := [(a12, .inl (cI, 6, .inl f12))]) hD hS hA [1] rfl
  refine va_callv (va_runS (As := [.ref a12, .int (-1000)]) (rest := []) ⟨hx, hb, hml, hown, hts⟩ (k_fill l D cI cB cP H.size a12 6 f12 (-1000) (by decide)) (va_cwS 2 hts gw_k_clear_0 rfl rfl rfl (by decide +kernel) ⟨Nat.le_of_ble_eq_true rfl, Nat.le_of_ble_eq_true rfl⟩) ⟨ny_blind, ny_pre hPc hK hN hDc⟩ rfl rfl hl.1 rfl (lv_room (Nat.le_of_ble_eq_true rfl)) dX0_clear_47 ⟨Nat.le_of_ble_eq_true rfl, Nat.le_of_ble_eq_true rfl⟩) hS (fun q _ h => hFc q h) hFc (fun u t H locs ht hvm hw hB hz1 hk1 hS => ?_)
  obtain ⟨g_10, hp12, hP1, hD1⟩ := hB
  rw [ht] at hP1
  obtain ⟨hP, hD⟩ := va_join (wr := [(h0, .inr (0, [.int 0, .int 0, .ref a2, .ref a3, .ref a4, .ref a5, .ref a6, .ref a7, .ref a8, .ref a9, .ref a10, .ref a11, .ref a12, .ref a13, .ref a14])), (a13, .inl (cI, 4, .inl f13)), (a9, .inl (cI, 6, .inl g_1)), (a10, .inl (cI, 288, .inl g_4)), (a11, .inl (cI, 30, .inl g_7))]) (w1 := [(a12, .inl (cI, 6, .inl g_10))]) hP hD [1] [0, 2, 3, 4, 5] rfl rfl (by decide) (by decide) hk1 hFc hP1 hD1
  have hP : va_P D vwCl [(h0, .inr (0, [.int 0, .int 0, .ref a2, .ref a3, .ref a4, .ref a5, .ref a6, .ref a7, .ref a8, .ref a9, .ref a10, .ref a11, .ref a12, .ref a13, .ref a14])), (a13, .inl (cI, 4, .inl f13)), (a9, .inl (cI, 6, .inl g_1)), (a10, .inl (cI, 288, .inl g_4)), (a11, .inl (cI, 30, .inl g_7)), (a12, .inl (cI, 6, .inl g_10))] H := hP
  have hD : va_D A [(h0, .inr (0, [.int 0, .int 0, .ref a2, .ref a3, .ref a4, .ref a5, .ref a6, .ref a7, .ref a8, .ref a9, .ref a10, .ref a11, .ref a12, .ref a13, .ref a14])), (a13, .inl (cI, 4, .inl f13)), (a9, .inl (cI, 6, .inl g_1)), (a10, .inl (cI, 288, .inl g_4)), (a11, .inl (cI, 30, .inl g_7)), (a12, .inl (cI, 6, .inl g_10))] := hD
  refine lv_aload_n hx hb dX0_clear_50 rfl (lv_at hl 0 rfl) ?_
  refine va_get (D := D) (ci := 0) (v := .ref a13) (C := RX0) (T := TX0) (N := 15) hx hb hts iw_k_clear_0 hown hK hP 0 rfl rfl 13 (by decide) (hts (.fieldLink RX0 45 "FlightDesk$Book" "limit" "[I") (by decide +kernel)) (fun _ h9 => h9) rfl dX0_clear_51 ?_
  refine lv_sipush (v := (-1000)) hx hb dX0_clear_54 (by decide) ?_
  have hPc := hP.sub (ws' := [(a13, .inl (cI, 4, .inl f13))]) [1] rfl
  have hDc := hD.sub (ws' := [(a13, .inl (cI, 4, .inl f13))]) [1] (by decide) rfl
  have hFc := va_free (wc := [(a13, .inl (cI, 4, .inl f13))]) hD hS hA [1] rfl
  refine va_callv (va_runS (As := [.ref a13, .int (-1000)]) (rest := []) ⟨hx, hb, hml, hown, hts⟩ (k_fill l D cI cB cP H.size a13 4 f13 (-1000) (by decide)) (va_cwS 2 hts gw_k_clear_0 rfl rfl rfl (by decide +kernel) ⟨Nat.le_of_ble_eq_true rfl, Nat.le_of_ble_eq_true rfl⟩) ⟨ny_blind, ny_pre hPc hK hN hDc⟩ rfl rfl hl.1 rfl (lv_room (Nat.le_of_ble_eq_true rfl)) dX0_clear_57 ⟨Nat.le_of_ble_eq_true rfl, Nat.le_of_ble_eq_true rfl⟩) hS (fun q _ h => hFc q h) hFc (fun u t H locs ht hvm hw hB hz1 hk1 hS => ?_)
  obtain ⟨g_13, hp15, hP1, hD1⟩ := hB
  rw [ht] at hP1
  obtain ⟨hP, hD⟩ := va_join (wr := [(h0, .inr (0, [.int 0, .int 0, .ref a2, .ref a3, .ref a4, .ref a5, .ref a6, .ref a7, .ref a8, .ref a9, .ref a10, .ref a11, .ref a12, .ref a13, .ref a14])), (a9, .inl (cI, 6, .inl g_1)), (a10, .inl (cI, 288, .inl g_4)), (a11, .inl (cI, 30, .inl g_7)), (a12, .inl (cI, 6, .inl g_10))]) (w1 := [(a13, .inl (cI, 4, .inl g_13))]) hP hD [1] [0, 2, 3, 4, 5] rfl rfl (by decide) (by decide) hk1 hFc hP1 hD1
  have hP : va_P D vwCl [(h0, .inr (0, [.int 0, .int 0, .ref a2, .ref a3, .ref a4, .ref a5, .ref a6, .ref a7, .ref a8, .ref a9, .ref a10, .ref a11, .ref a12, .ref a13, .ref a14])), (a9, .inl (cI, 6, .inl g_1)), (a10, .inl (cI, 288, .inl g_4)), (a11, .inl (cI, 30, .inl g_7)), (a12, .inl (cI, 6, .inl g_10)), (a13, .inl (cI, 4, .inl g_13))] H := hP
  have hD : va_D A [(h0, .inr (0, [.int 0, .int 0, .ref a2, .ref a3, .ref a4, .ref a5, .ref a6, .ref a7, .ref a8, .ref a9, .ref a10, .ref a11, .ref a12, .ref a13, .ref a14])), (a9, .inl (cI, 6, .inl g_1)), (a10, .inl (cI, 288, .inl g_4)), (a11, .inl (cI, 30, .inl g_7)), (a12, .inl (cI, 6, .inl g_10)), (a13, .inl (cI, 4, .inl g_13))] := hD
  have hP9 := hP.sub (ws' := [(h0, .inr (0, [.int 0, .int 0, .ref a2, .ref a3, .ref a4, .ref a5, .ref a6, .ref a7, .ref a8, .ref a9, .ref a10, .ref a11, .ref a12, .ref a13, .ref a14])), (a9, .inl (cI, 6, .inl g_1)), (a10, .inl (cI, 288, .inl g_4)), (a11, .inl (cI, 30, .inl g_7)), (a12, .inl (cI, 6, .inl g_10)), (a13, .inl (cI, 4, .inl g_13))]) [0, 1, 2, 3, 4, 5] rfl
  have hD9 := hD.sub (ws' := [(h0, .inr (0, [.int 0, .int 0, .ref a2, .ref a3, .ref a4, .ref a5, .ref a6, .ref a7, .ref a8, .ref a9, .ref a10, .ref a11, .ref a12, .ref a13, .ref a14])), (a9, .inl (cI, 6, .inl g_1)), (a10, .inl (cI, 288, .inl g_4)), (a11, .inl (cI, 30, .inl g_7)), (a12, .inl (cI, 6, .inl g_10)), (a13, .inl (cI, 4, .inl g_13))]) [0, 1, 2, 3, 4, 5] (by decide) rfl
  refine W.widen (k := 0) (n := 0) (by decide) (by decide) ?_
  exact W.vret hx hb hr (fun t ht hW => ⟨⟨(), rfl, trivial, g_1, g_4, g_7, g_10, g_13, (hp3), (hp6), (hp9), (hp12), (hp15), by rw [ht]; exact hP9, hD9⟩, hS.F ht⟩) hS.2.2 dX0_clear_60

def wk_k_Book : List Cond := .code yX0_init cX0_init 1 none :: ([.methodLink RX0 3 objectInit, .instanceMethod objectInit, .code objectInit ⟨#[0xb1]⟩ 1 none, .arrayClass .int, .fieldLink RX0 9 "FlightDesk$Book" "from" "[I", .fieldLink RX0 15 "FlightDesk$Book" "to" "[I", .fieldLink RX0 18 "FlightDesk$Book" "miles" "[I", .fieldLink RX0 21 "FlightDesk$Book" "lowest" "[I", .fieldLink RX0 24 "FlightDesk$Book" "highest" "[I", .fieldLink RX0 27 "FlightDesk$Book" "firstDay" "[I", .fieldLink RX0 30 "FlightDesk$Book" "lastDay" "[I", .fieldLink RX0 33 "FlightDesk$Book" "speed" "[I", .fieldLink RX0 36 "FlightDesk$Book" "wind" "[I", .fieldLink RX0 39 "FlightDesk$Book" "burn" "[I", .fieldLink RX0 42 "FlightDesk$Book" "climb" "[I", .fieldLink RX0 45 "FlightDesk$Book" "limit" "[I", .fieldLink RX0 48 "FlightDesk$Book" "height" "[I", .methodLink RX0 51 yX0_clear, .instanceMethod yX0_clear, .selects RX0 yX0_clear yX0_clear, .initialized RX0, .code yX0_clear cX0_clear 1 none, .fieldLink RX0 54 "FlightDesk$Book" "legCount" "I", .fieldLink RX0 58 "FlightDesk$Book" "lineCount" "I", .methodLink RX0 61 yJ7_fill_53178, .static yJ7_fill_53178, .initialized RJ7, .code yJ7_fill_53178 cJ7_fill_53178 4 none] ++ wsX00)
theorem iw_k_Book_0 : ∀ w ∈ wsX00, w ∈ wk_k_Book := fun _ h => List.mem_cons_of_mem _ (List.mem_append_right _ h)
set_option maxRecDepth 20000 in
theorem gw_k_Book_0 : GoodIn wk_k_Book (wsV RX0 51 RX0 yX0_clear wk_k_clear) := goodIn_sub (by decide +kernel) (by decide +kernel)
set_option maxHeartbeats 4000000 in
set_option maxRecDepth 100000 in
theorem k_Book (l : Launch) (D : va_G) (cI cB cP : ClassId) (sz : Nat) (h0 : Nat) : Met l yX0_init wk_k_Book ({ frames := 2, cells := 13, slots := 453, locals := 43 } : Room) (va_Pc [.ref h0] (Pw D cI cB cP sz [(h0, .inr (0, [.int 0, .int 0, .null, .null, .null, .null, .null, .null, .null, .null, .null, .null, .null, .null, .null]))])) (va_Qv (fun (_ : Unit) => True) (fun _ t => ∃ q2 : Nat, ∃ q3 : Nat, ∃ q4 : Nat, ∃ q5 : Nat, ∃ q6 : Nat, ∃ q7 : Nat, ∃ q8 : Nat, ∃ q9 : Nat, ∃ q10 : Nat, ∃ q11 : Nat, ∃ q12 : Nat, ∃ q13 : Nat, ∃ q14 : Nat, ∃ g2 : Nat → Int32, ∃ g3 : Nat → Int32, ∃ g4 : Nat → Int32, ∃ g5 : Nat → Int32, ∃ g6 : Nat → Int32, ∃ g7 : Nat → Int32, ∃ g8 : Nat → Int32, ∃ g9 : Nat → Int32, ∃ g10 : Nat → Int32, ∃ g11 : Nat → Int32, ∃ g12 : Nat → Int32, ∃ g13 : Nat → Int32, ∃ g14 : Nat → Int32, (∀ k : Nat, k < 6 → g9 k = -1000) ∧ (∀ k : Nat, k < 288 → g10 k = -1000) ∧ (∀ k : Nat, k < 30 → g11 k = -1000) ∧ (∀ k : Nat, k < 6 → g12 k = -1000) ∧ (∀ k : Nat, k < 4 → g13 k = -1000) ∧ va_P D vwCl [(h0, .inr (0, [.int 0, .int 0, .ref q2, .ref q3, .ref q4, .ref q5, .ref q6, .ref q7, .ref q8, .ref q9, .ref q10, .ref q11, .ref q12, .ref q13, .ref q14])), (q2, .inl (cI, 16, .inl g2)), (q3, .inl (cI, 16, .inl g3)), (q4, .inl (cI, 16, .inl g4)), (q5, .inl (cI, 16, .inl g5)), (q6, .inl (cI, 16, .inl g6)), (q7, .inl (cI, 16, .inl g7)), (q8, .inl (cI, 16, .inl g8)), (q9, .inl (cI, 6, .inl g9)), (q10, .inl (cI, 288, .inl g10)), (q11, .inl (cI, 30, .inl g11)), (q12, .inl (cI, 6, .inl g12)), (q13, .inl (cI, 4, .inl g13)), (q14, .inl (cI, 7, .inl g14))] t.heap ∧ va_D (va_A [(h0, .inr (0, [.int 0, .int 0, .null, .null, .null, .null, .null, .null, .null, .null, .null, .null, .null, .null, .null]))] sz) [(h0, .inr (0, [.int 0, .int 0, .ref q2, .ref q3, .ref q4, .ref q5, .ref q6, .ref q7, .ref q8, .ref q9, .ref q10, .ref q11, .ref q12, .ref q13, .ref q14])), (q2, .inl (cI, 16, .inl g2)), (q3, .inl (cI, 16, .inl g3)), (q4, .inl (cI, 16, .inl g4)), (q5, .inl (cI, 16, .inl g5)), (q6, .inl (cI, 16, .inl g6)), (q7, .inl (cI, 16, .inl g7)), (q8, .inl (cI, 16, .inl g8)), (q9, .inl (cI, 6, .inl g9)), (q10, .inl (cI, 288, .inl g10)), (q11, .inl (cI, 30, .inl g11)), (q12, .inl (cI, 6, .inl g12)), (q13, .inl (cI, 4, .inl g13)), (q14, .inl (cI, 7, .inl g14))]) (va_A [(h0, .inr (0, [.int 0, .int 0, .null, .null, .null, .null, .null, .null, .null, .null, .null, .null, .null, .null, .null]))] sz)) 13 453 (va_A [(h0, .inr (0, [.int 0, .int 0, .null, .null, .null, .null, .null, .null, .null, .null, .null, .null, .null, .null, .null]))] sz) := by
  refine Met.ofW (cc := cX0_init) (maxL := 1) (ret := none) (by decide) rfl ?_
  intro p e s m args below meth c s₁ B hml hv
  obtain ⟨rfl, hsz, hP, ⟨hK, hN⟩, hD0⟩ := hv
  have hx := B.exec
  have hb := B.bytes
  have hr := B.returns
  have hts := atoms_spec (ws := wk_k_Book) B.pre
  have hown : s.vm.findClass RX0 = some m.cls := findClass_of_methodNamed B.named
  have hlocks := B.notSynchronized
  have hin : meth.name = "<init>" := (name_of_methodNamed B.named B.method).1
  subst hsz
  have hD := hD0.self (sz := s.heap.size)
  generalize hAe : va_A [(h0, .inr (0, [.int 0, .int 0, .null, .null, .null, .null, .null, .null, .null, .null, .null, .null, .null, .null, .null]))] s.heap.size = A at hD ⊢
  have hA : ∀ q : Nat, s.heap.size ≤ q → A q := fun q h => by rw [← hAe]; exact Or.inr h
  have hS : va_S A s.heap s.heap [] := va_S.rf
  have hP : va_P D vwCl [(h0, .inr (0, [.int 0, .int 0, .null, .null, .null, .null, .null, .null, .null, .null, .null, .null, .null, .null, .null]))] s.heap := hP
  have hl := lv_entry ([.ref h0]) (n := 1) (Nat.le_of_ble_eq_true rfl)
  rw [lg_entry_eq]
  generalize (lg_sl ([.ref h0]) ++ List.replicate (1 - (lg_sl ([.ref h0])).length) Slot.unset).toArray = ls at hl ⊢
  have hl : lv_has ls 1 [(0, .ref h0)] := hl
  refine lv_aload_n hx hb dX0_init_0 rfl (lv_at hl 0 rfl) ?_
  refine W.objInit hx hb hown (hts (.methodLink RX0 3 objectInit) (by decide +kernel)) (hts (.instanceMethod objectInit) (by decide +kernel)) (hts (.code objectInit ⟨#[0xb1]⟩ 1 none) (by decide +kernel)) rfl (by rw [hml]; exact hl.1) rfl dX0_init_1 (Nat.le_of_ble_eq_true rfl) (Nat.le_of_ble_eq_true rfl) ?_
  refine W.eq (g2 := F0 m 4 ls []) rfl ?_
  refine lv_aload_n hx hb dX0_init_4 rfl (lv_at hl 0 rfl) ?_
  refine lv_bipush (v := 16) hx hb dX0_init_5 (by decide) ?_
  refine ny_i (N' := 16) hx hb (hts (.arrayClass .int) (by decide +kernel)) hK hP hD hS hA (by decide) (by decide) (by decide) (Nat.le_of_ble_eq_true rfl) (Nat.le_of_ble_eq_true rfl) dX0_init_7 (fun q1 H hP hD hS => ?_)
  have hP : va_P D vwCl [(h0, .inr (0, [.int 0, .int 0, .null, .null, .null, .null, .null, .null, .null, .null, .null, .null, .null, .null, .null])), (q1, .inl (cI, 16, .inl (fun _ => 0)))] H := hP
  have hD : va_D A [(h0, .inr (0, [.int 0, .int 0, .null, .null, .null, .null, .null, .null, .null, .null, .null, .null, .null, .null, .null])), (q1, .inl (cI, 16, .inl (fun _ => 0)))] := hD
  refine W.widen (k := 1) (n := 16) (by decide) (by decide) ?_
  refine va_putF (D := D) (ci := 0) (v := .ref q1) (ty := .array .int) (C := RX0) (T := TX0) (N := 15) hx hb hts iw_k_Book_0 tyX0 tyX0_ok nmX0 hown hK hP hD hS 0 rfl rfl 2 (by decide) (hts (.fieldLink RX0 9 "FlightDesk$Book" "from" "[I") (by decide +kernel)) (fun _ h9 => h9) rfl hin rfl (by decide +kernel) rfl rfl (Nat.le_of_ble_eq_true rfl) dX0_init_9 (fun H locs hP hD hS => ?_)
  have hP : va_P D vwCl [(h0, .inr (0, [.int 0, .int 0, .ref q1, .null, .null, .null, .null, .null, .null, .null, .null, .null, .null, .null, .null])), (q1, .inl (cI, 16, .inl (fun _ => 0)))] H := hP
  have hD : va_D A [(h0, .inr (0, [.int 0, .int 0, .ref q1, .null, .null, .null, .null, .null, .null, .null, .null, .null, .null, .null, .null])), (q1, .inl (cI, 16, .inl (fun _ => 0)))] := hD
  refine lv_aload_n hx hb dX0_init_12 rfl (lv_at hl 0 rfl) ?_
  refine lv_bipush (v := 16) hx hb dX0_init_13 (by decide) ?_
  refine ny_i (N' := 16) hx hb (hts (.arrayClass .int) (by decide +kernel)) hK hP hD hS hA (by decide) (by decide) (by decide) (Nat.le_of_ble_eq_true rfl) (Nat.le_of_ble_eq_true rfl) dX0_init_15 (fun q2 H hP hD hS => ?_)
  have hP : va_P D vwCl [(h0, .inr (0, [.int 0, .int 0, .ref q1, .null, .null, .null, .null, .null, .null, .null, .null, .null, .null, .null, .null])), (q1, .inl (cI, 16, .inl (fun _ => 0))), (q2, .inl (cI, 16, .inl (fun _ => 0)))] H := hP
  have hD : va_D A [(h0, .inr (0, [.int 0, .int 0, .ref q1, .null, .null, .null, .null, .null, .null, .null, .null, .null, .null, .null, .null])), (q1, .inl (cI, 16, .inl (fun _ => 0))), (q2, .inl (cI, 16, .inl (fun _ => 0)))] := hD
  refine W.widen (k := 2) (n := 32) (by decide) (by decide) ?_
  refine va_putF (D := D) (ci := 0) (v := .ref q2) (ty := .array .int) (C := RX0) (T := TX0) (N := 15) hx hb hts iw_k_Book_0 tyX0 tyX0_ok nmX0 hown hK hP hD hS 0 rfl rfl 3 (by decide) (hts (.fieldLink RX0 15 "FlightDesk$Book" "to" "[I") (by decide +kernel)) (fun _ h9 => h9) rfl hin rfl (by decide +kernel) rfl rfl (Nat.le_of_ble_eq_true rfl) dX0_init_17 (fun H locs hP hD hS => ?_)
  have hP : va_P D vwCl [(h0, .inr (0, [.int 0, .int 0, .ref q1, .ref q2, .null, .null, .null, .null, .null, .null, .null, .null, .null, .null, .null])), (q1, .inl (cI, 16, .inl (fun _ => 0))), (q2, .inl (cI, 16, .inl (fun _ => 0)))] H := hP
  have hD : va_D A [(h0, .inr (0, [.int 0, .int 0, .ref q1, .ref q2, .null, .null, .null, .null, .null, .null, .null, .null, .null, .null, .null])), (q1, .inl (cI, 16, .inl (fun _ => 0))), (q2, .inl (cI, 16, .inl (fun _ => 0)))] := hD
  refine lv_aload_n hx hb dX0_init_20 rfl (lv_at hl 0 rfl) ?_
  refine lv_bipush (v := 16) hx hb dX0_init_21 (by decide) ?_
  refine ny_i (N' := 16) hx hb (hts (.arrayClass .int) (by decide +kernel)) hK hP hD hS hA (by decide) (by decide) (by decide) (Nat.le_of_ble_eq_true rfl) (Nat.le_of_ble_eq_true rfl) dX0_init_23 (fun q3 H hP hD hS => ?_)
  have hP : va_P D vwCl [(h0, .inr (0, [.int 0, .int 0, .ref q1, .ref q2, .null, .null, .null, .null, .null, .null, .null, .null, .null, .null, .null])), (q1, .inl (cI, 16, .inl (fun _ => 0))), (q2, .inl (cI, 16, .inl (fun _ => 0))), (q3, .inl (cI, 16, .inl (fun _ => 0)))] H := hP
  have hD : va_D A [(h0, .inr (0, [.int 0, .int 0, .ref q1, .ref q2, .null, .null, .null, .null, .null, .null, .null, .null, .null, .null, .null])), (q1, .inl (cI, 16, .inl (fun _ => 0))), (q2, .inl (cI, 16, .inl (fun _ => 0))), (q3, .inl (cI, 16, .inl (fun _ => 0)))] := hD
  refine W.widen (k := 3) (n := 48) (by decide) (by decide) ?_
  refine va_putF (D := D) (ci := 0) (v := .ref q3) (ty := .array .int) (C := RX0) (T := TX0) (N := 15) hx hb hts iw_k_Book_0 tyX0 tyX0_ok nmX0 hown hK hP hD hS 0 rfl rfl 4 (by decide) (hts (.fieldLink RX0 18 "FlightDesk$Book" "miles" "[I") (by decide +kernel)) (fun _ h9 => h9) rfl hin rfl (by decide +kernel) rfl rfl (Nat.le_of_ble_eq_true rfl) dX0_init_25 (fun H locs hP hD hS => ?_)
  have hP : va_P D vwCl [(h0, .inr (0, [.int 0, .int 0, .ref q1, .ref q2, .ref q3, .null, .null, .null, .null, .null, .null, .null, .null, .null, .null])), (q1, .inl (cI, 16, .inl (fun _ => 0))), (q2, .inl (cI, 16, .inl (fun _ => 0))), (q3, .inl (cI, 16, .inl (fun _ => 0)))] H := hP
  have hD : va_D A [(h0, .inr (0, [.int 0, .int 0, .ref q1, .ref q2, .ref q3, .null, .null, .null, .null, .null, .null, .null, .null, .null, .null])), (q1, .inl (cI, 16, .inl (fun _ => 0))), (q2, .inl (cI, 16, .inl (fun _ => 0))), (q3, .inl (cI, 16, .inl (fun _ => 0)))] := hD
  refine lv_aload_n hx hb dX0_init_28 rfl (lv_at hl 0 rfl) ?_
  refine lv_bipush (v := 16) hx hb dX0_init_29 (by decide) ?_
  refine ny_i (N' := 16) hx hb (hts (.arrayClass .int) (by decide +kernel)) hK hP hD hS hA (by decide) (by decide) (by decide) (Nat.le_of_ble_eq_true rfl) (Nat.le_of_ble_eq_true rfl) dX0_init_31 (fun q4 H hP hD hS => ?_)
  have hP : va_P D vwCl [(h0, .inr (0, [.int 0, .int 0, .ref q1, .ref q2, .ref q3, .null, .null, .null, .null, .null, .null, .null, .null, .null, .null])), (q1, .inl (cI, 16, .inl (fun _ => 0))), (q2, .inl (cI, 16, .inl (fun _ => 0))), (q3, .inl (cI, 16, .inl (fun _ => 0))), (q4, .inl (cI, 16, .inl (fun _ => 0)))] H := hP
  have hD : va_D A [(h0, .inr (0, [.int 0, .int 0, .ref q1, .ref q2, .ref q3, .null, .null, .null, .null, .null, .null, .null, .null, .null, .null])), (q1, .inl (cI, 16, .inl (fun _ => 0))), (q2, .inl (cI, 16, .inl (fun _ => 0))), (q3, .inl (cI, 16, .inl (fun _ => 0))), (q4, .inl (cI, 16, .inl (fun _ => 0)))] := hD
  refine W.widen (k := 4) (n := 64) (by decide) (by decide) ?_
  refine va_putF (D := D) (ci := 0) (v := .ref q4) (ty := .array .int) (C := RX0) (T := TX0) (N := 15) hx hb hts iw_k_Book_0 tyX0 tyX0_ok nmX0 hown hK hP hD hS 0 rfl rfl 5 (by decide) (hts (.fieldLink RX0 21 "FlightDesk$Book" "lowest" "[I") (by decide +kernel)) (fun _ h9 => h9) rfl hin rfl (by decide +kernel) rfl rfl (Nat.le_of_ble_eq_true rfl) dX0_init_33 (fun H locs hP hD hS => ?_)
  have hP : va_P D vwCl [(h0, .inr (0, [.int 0, .int 0, .ref q1, .ref q2, .ref q3, .ref q4, .null, .null, .null, .null, .null, .null, .null, .null, .null])), (q1, .inl (cI, 16, .inl (fun _ => 0))), (q2, .inl (cI, 16, .inl (fun _ => 0))), (q3, .inl (cI, 16, .inl (fun _ => 0))), (q4, .inl (cI, 16, .inl (fun _ => 0)))] H := hP
  have hD : va_D A [(h0, .inr (0, [.int 0, .int 0, .ref q1, .ref q2, .ref q3, .ref q4, .null, .null, .null, .null, .null, .null, .null, .null, .null])), (q1, .inl (cI, 16, .inl (fun _ => 0))), (q2, .inl (cI, 16, .inl (fun _ => 0))), (q3, .inl (cI, 16, .inl (fun _ => 0))), (q4, .inl (cI, 16, .inl (fun _ => 0)))] := hD
  refine lv_aload_n hx hb dX0_init_36 rfl (lv_at hl 0 rfl) ?_
  refine lv_bipush (v := 16) hx hb dX0_init_37 (by decide) ?_
  refine ny_i (N' := 16) hx hb (hts (.arrayClass .int) (by decide +kernel)) hK hP hD hS hA (by decide) (by decide) (by decide) (Nat.le_of_ble_eq_true rfl) (Nat.le_of_ble_eq_true rfl) dX0_init_39 (fun q5 H hP hD hS => ?_)
  have hP : va_P D vwCl [(h0, .inr (0, [.int 0, .int 0, .ref q1, .ref q2, .ref q3, .ref q4, .null, .null, .null, .null, .null, .null, .null, .null, .null])), (q1, .inl (cI, 16, .inl (fun _ => 0))), (q2, .inl (cI, 16, .inl (fun _ => 0))), (q3, .inl (cI, 16, .inl (fun _ => 0))), (q4, .inl (cI, 16, .inl (fun _ => 0))), (q5, .inl (cI, 16, .inl (fun _ => 0)))] H := hP
  have hD : va_D A [(h0, .inr (0, [.int 0, .int 0, .ref q1, .ref q2, .ref q3, .ref q4, .null, .null, .null, .null, .null, .null, .null, .null, .null])), (q1, .inl (cI, 16, .inl (fun _ => 0))), (q2, .inl (cI, 16, .inl (fun _ => 0))), (q3, .inl (cI, 16, .inl (fun _ => 0))), (q4, .inl (cI, 16, .inl (fun _ => 0))), (q5, .inl (cI, 16, .inl (fun _ => 0)))] := hD
  refine W.widen (k := 5) (n := 80) (by decide) (by decide) ?_
  refine va_putF (D := D) (ci := 0) (v := .ref q5) (ty := .array .int) (C := RX0) (T := TX0) (N := 15) hx hb hts iw_k_Book_0 tyX0 tyX0_ok nmX0 hown hK hP hD hS 0 rfl rfl 6 (by decide) (hts (.fieldLink RX0 24 "FlightDesk$Book" "highest" "[I") (by decide +kernel)) (fun _ h9 => h9) rfl hin rfl (by decide +kernel) rfl rfl (Nat.le_of_ble_eq_true rfl) dX0_init_41 (fun H locs hP hD hS => ?_)
  have hP : va_P D vwCl [(h0, .inr (0, [.int 0, .int 0, .ref q1, .ref q2, .ref q3, .ref q4, .ref q5, .null, .null, .null, .null, .null, .null, .null, .null])), (q1, .inl (cI, 16, .inl (fun _ => 0))), (q2, .inl (cI, 16, .inl (fun _ => 0))), (q3, .inl (cI, 16, .inl (fun _ => 0))), (q4, .inl (cI, 16, .inl (fun _ => 0))), (q5, .inl (cI, 16, .inl (fun _ => 0)))] H := hP
  have hD : va_D A [(h0, .inr (0, [.int 0, .int 0, .ref q1, .ref q2, .ref q3, .ref q4, .ref q5, .null, .null, .null, .null, .null, .null, .null, .null])), (q1, .inl (cI, 16, .inl (fun _ => 0))), (q2, .inl (cI, 16, .inl (fun _ => 0))), (q3, .inl (cI, 16, .inl (fun _ => 0))), (q4, .inl (cI, 16, .inl (fun _ => 0))), (q5, .inl (cI, 16, .inl (fun _ => 0)))] := hD
  refine lv_aload_n hx hb dX0_init_44 rfl (lv_at hl 0 rfl) ?_
  refine lv_bipush (v := 16) hx hb dX0_init_45 (by decide) ?_
  refine ny_i (N' := 16) hx hb (hts (.arrayClass .int) (by decide +kernel)) hK hP hD hS hA (by decide) (by decide) (by decide) (Nat.le_of_ble_eq_true rfl) (Nat.le_of_ble_eq_true rfl) dX0_init_47 (fun q6 H hP hD hS => ?_)
  have hP : va_P D vwCl [(h0, .inr (0, [.int 0, .int 0, .ref q1, .ref q2, .ref q3, .ref q4, .ref q5, .null, .null, .null, .null, .null, .null, .null, .null])), (q1, .inl (cI, 16, .inl (fun _ => 0))), (q2, .inl (cI, 16, .inl (fun _ => 0))), (q3, .inl (cI, 16, .inl (fun _ => 0))), (q4, .inl (cI, 16, .inl (fun _ => 0))), (q5, .inl (cI, 16, .inl (fun _ => 0))), (q6, .inl (cI, 16, .inl (fun _ => 0)))] H := hP
  have hD : va_D A [(h0, .inr (0, [.int 0, .int 0, .ref q1, .ref q2, .ref q3, .ref q4, .ref q5, .null, .null, .null, .null, .null, .null, .null, .null])), (q1, .inl (cI, 16, .inl (fun _ => 0))), (q2, .inl (cI, 16, .inl (fun _ => 0))), (q3, .inl (cI, 16, .inl (fun _ => 0))), (q4, .inl (cI, 16, .inl (fun _ => 0))), (q5, .inl (cI, 16, .inl (fun _ => 0))), (q6, .inl (cI, 16, .inl (fun _ => 0)))] := hD
  refine W.widen (k := 6) (n := 96) (by decide) (by decide) ?_
  refine va_putF (D := D) (ci := 0) (v := .ref q6) (ty := .array .int) (C := RX0) (T := TX0) (N := 15) hx hb hts iw_k_Book_0 tyX0 tyX0_ok nmX0 hown hK hP hD hS 0 rfl rfl 7 (by decide) (hts (.fieldLink RX0 27 "FlightDesk$Book" "firstDay" "[I") (by decide +kernel)) (fun _ h9 => h9) rfl hin rfl (by decide +kernel) rfl rfl (Nat.le_of_ble_eq_true rfl) dX0_init_49 (fun H locs hP hD hS => ?_)
  have hP : va_P D vwCl [(h0, .inr (0, [.int 0, .int 0, .ref q1, .ref q2, .ref q3, .ref q4, .ref q5, .ref q6, .null, .null, .null, .null, .null, .null, .null])), (q1, .inl (cI, 16, .inl (fun _ => 0))), (q2, .inl (cI, 16, .inl (fun _ => 0))), (q3, .inl (cI, 16, .inl (fun _ => 0))), (q4, .inl (cI, 16, .inl (fun _ => 0))), (q5, .inl (cI, 16, .inl (fun _ => 0))), (q6, .inl (cI, 16, .inl (fun _ => 0)))] H := hP
  have hD : va_D A [(h0, .inr (0, [.int 0, .int 0, .ref q1, .ref q2, .ref q3, .ref q4, .ref q5, .ref q6, .null, .null, .null, .null, .null, .null, .null])), (q1, .inl (cI, 16, .inl (fun _ => 0))), (q2, .inl (cI, 16, .inl (fun _ => 0))), (q3, .inl (cI, 16, .inl (fun _ => 0))), (q4, .inl (cI, 16, .inl (fun _ => 0))), (q5, .inl (cI, 16, .inl (fun _ => 0))), (q6, .inl (cI, 16, .inl (fun _ => 0)))] := hD
  refine lv_aload_n hx hb dX0_init_52 rfl (lv_at hl 0 rfl) ?_
  refine lv_bipush (v := 16) hx hb dX0_init_53 (by decide) ?_
  refine ny_i (N' := 16) hx hb (hts (.arrayClass .int) (by decide +kernel)) hK hP hD hS hA (by decide) (by decide) (by decide) (Nat.le_of_ble_eq_true rfl) (Nat.le_of_ble_eq_true rfl) dX0_init_55 (fun q7 H hP hD hS => ?_)
  have hP : va_P D vwCl [(h0, .inr (0, [.int 0, .int 0, .ref q1, .ref q2, .ref q3, .ref q4, .ref q5, .ref q6, .null, .null, .null, .null, .null, .null, .null])), (q1, .inl (cI, 16, .inl (fun _ => 0))), (q2, .inl (cI, 16, .inl (fun _ => 0))), (q3, .inl (cI, 16, .inl (fun _ => 0))), (q4, .inl (cI, 16, .inl (fun _ => 0))), (q5, .inl (cI, 16, .inl (fun _ => 0))), (q6, .inl (cI, 16, .inl (fun _ => 0))), (q7, .inl (cI, 16, .inl (fun _ => 0)))] H := hP
  have hD : va_D A [(h0, .inr (0, [.int 0, .int 0, .ref q1, .ref q2, .ref q3, .ref q4, .ref q5, .ref q6, .null, .null, .null, .null, .null, .null, .null])), (q1, .inl (cI, 16, .inl (fun _ => 0))), (q2, .inl (cI, 16, .inl (fun _ => 0))), (q3, .inl (cI, 16, .inl (fun _ => 0))), (q4, .inl (cI, 16, .inl (fun _ => 0))), (q5, .inl (cI, 16, .inl (fun _ => 0))), (q6, .inl (cI, 16, .inl (fun _ => 0))), (q7, .inl (cI, 16, .inl (fun _ => 0)))] := hD
  refine W.widen (k := 7) (n := 112) (by decide) (by decide) ?_
  refine va_putF (D := D) (ci := 0) (v := .ref q7) (ty := .array .int) (C := RX0) (T := TX0) (N := 15) hx hb hts iw_k_Book_0 tyX0 tyX0_ok nmX0 hown hK hP hD hS 0 rfl rfl 8 (by decide) (hts (.fieldLink RX0 30 "FlightDesk$Book" "lastDay" "[I") (by decide +kernel)) (fun _ h9 => h9) rfl hin rfl (by decide +kernel) rfl rfl (Nat.le_of_ble_eq_true rfl) dX0_init_57 (fun H locs hP hD hS => ?_)
  have hP : va_P D vwCl [(h0, .inr (0, [.int 0, .int 0, .ref q1, .ref q2, .ref q3, .ref q4, .ref q5, .ref q6, .ref q7, .null, .null, .null, .null, .null, .null])), (q1, .inl (cI, 16, .inl (fun _ => 0))), (q2, .inl (cI, 16, .inl (fun _ => 0))), (q3, .inl (cI, 16, .inl (fun _ => 0))), (q4, .inl (cI, 16, .inl (fun _ => 0))), (q5, .inl (cI, 16, .inl (fun _ => 0))), (q6, .inl (cI, 16, .inl (fun _ => 0))), (q7, .inl (cI, 16, .inl (fun _ => 0)))] H := hP
  have hD : va_D A [(h0, .inr (0, [.int 0, .int 0, .ref q1, .ref q2, .ref q3, .ref q4, .ref q5, .ref q6, .ref q7, .null, .null, .null, .null, .null, .null])), (q1, .inl (cI, 16, .inl (fun _ => 0))), (q2, .inl (cI, 16, .inl (fun _ => 0))), (q3, .inl (cI, 16, .inl (fun _ => 0))), (q4, .inl (cI, 16, .inl (fun _ => 0))), (q5, .inl (cI, 16, .inl (fun _ => 0))), (q6, .inl (cI, 16, .inl (fun _ => 0))), (q7, .inl (cI, 16, .inl (fun _ => 0)))] := hD
  refine lv_aload_n hx hb dX0_init_60 rfl (lv_at hl 0 rfl) ?_
  refine lv_bipush (v := 6) hx hb dX0_init_61 (by decide) ?_
  refine ny_i (N' := 6) hx hb (hts (.arrayClass .int) (by decide +kernel)) hK hP hD hS hA (by decide) (by decide) (by decide) (Nat.le_of_ble_eq_true rfl) (Nat.le_of_ble_eq_true rfl) dX0_init_63 (fun q8 H hP hD hS => ?_)
  have hP : va_P D vwCl [(h0, .inr (0, [.int 0, .int 0, .ref q1, .ref q2, .ref q3, .ref q4, .ref q5, .ref q6, .ref q7, .null, .null, .null, .null, .null, .null])), (q1, .inl (cI, 16, .inl (fun _ => 0))), (q2, .inl (cI, 16, .inl (fun _ => 0))), (q3, .inl (cI, 16, .inl (fun _ => 0))), (q4, .inl (cI, 16, .inl (fun _ => 0))), (q5, .inl (cI, 16, .inl (fun _ => 0))), (q6, .inl (cI, 16, .inl (fun _ => 0))), (q7, .inl (cI, 16, .inl (fun _ => 0))), (q8, .inl (cI, 6, .inl (fun _ => 0)))] H := hP
  have hD : va_D A [(h0, .inr (0, [.int 0, .int 0, .ref q1, .ref q2, .ref q3, .ref q4, .ref q5, .ref q6, .ref q7, .null, .null, .null, .null, .null, .null])), (q1, .inl (cI, 16, .inl (fun _ => 0))), (q2, .inl (cI, 16, .inl (fun _ => 0))), (q3, .inl (cI, 16, .inl (fun _ => 0))), (q4, .inl (cI, 16, .inl (fun _ => 0))), (q5, .inl (cI, 16, .inl (fun _ => 0))), (q6, .inl (cI, 16, .inl (fun _ => 0))), (q7, .inl (cI, 16, .inl (fun _ => 0))), (q8, .inl (cI, 6, .inl (fun _ => 0)))] := hD
  refine W.widen (k := 8) (n := 118) (by decide) (by decide) ?_
  refine va_putF (D := D) (ci := 0) (v := .ref q8) (ty := .array .int) (C := RX0) (T := TX0) (N := 15) hx hb hts iw_k_Book_0 tyX0 tyX0_ok nmX0 hown hK hP hD hS 0 rfl rfl 9 (by decide) (hts (.fieldLink RX0 33 "FlightDesk$Book" "speed" "[I") (by decide +kernel)) (fun _ h9 => h9) rfl hin rfl (by decide +kernel) rfl rfl (Nat.le_of_ble_eq_true rfl) dX0_init_65 (fun H locs hP hD hS => ?_)
  have hP : va_P D vwCl [(h0, .inr (0, [.int 0, .int 0, .ref q1, .ref q2, .ref q3, .ref q4, .ref q5, .ref q6, .ref q7, .ref q8, .null, .null, .null, .null, .null])), (q1, .inl (cI, 16, .inl (fun _ => 0))), (q2, .inl (cI, 16, .inl (fun _ => 0))), (q3, .inl (cI, 16, .inl (fun _ => 0))), (q4, .inl (cI, 16, .inl (fun _ => 0))), (q5, .inl (cI, 16, .inl (fun _ => 0))), (q6, .inl (cI, 16, .inl (fun _ => 0))), (q7, .inl (cI, 16, .inl (fun _ => 0))), (q8, .inl (cI, 6, .inl (fun _ => 0)))] H := hP
  have hD : va_D A [(h0, .inr (0, [.int 0, .int 0, .ref q1, .ref q2, .ref q3, .ref q4, .ref q5, .ref q6, .ref q7, .ref q8, .null, .null, .null, .null, .null])), (q1, .inl (cI, 16, .inl (fun _ => 0))), (q2, .inl (cI, 16, .inl (fun _ => 0))), (q3, .inl (cI, 16, .inl (fun _ => 0))), (q4, .inl (cI, 16, .inl (fun _ => 0))), (q5, .inl (cI, 16, .inl (fun _ => 0))), (q6, .inl (cI, 16, .inl (fun _ => 0))), (q7, .inl (cI, 16, .inl (fun _ => 0))), (q8, .inl (cI, 6, .inl (fun _ => 0)))] := hD
  refine lv_aload_n hx hb dX0_init_68 rfl (lv_at hl 0 rfl) ?_
  refine lv_sipush (v := 288) hx hb dX0_init_69 (by decide) ?_
  refine ny_i (N' := 288) hx hb (hts (.arrayClass .int) (by decide +kernel)) hK hP hD hS hA (by decide) (by decide) (by decide) (Nat.le_of_ble_eq_true rfl) (Nat.le_of_ble_eq_true rfl) dX0_init_72 (fun q9 H hP hD hS => ?_)
  have hP : va_P D vwCl [(h0, .inr (0, [.int 0, .int 0, .ref q1, .ref q2, .ref q3, .ref q4, .ref q5, .ref q6, .ref q7, .ref q8, .null, .null, .null, .null, .null])), (q1, .inl (cI, 16, .inl (fun _ => 0))), (q2, .inl (cI, 16, .inl (fun _ => 0))), (q3, .inl (cI, 16, .inl (fun _ => 0))), (q4, .inl (cI, 16, .inl (fun _ => 0))), (q5, .inl (cI, 16, .inl (fun _ => 0))), (q6, .inl (cI, 16, .inl (fun _ => 0))), (q7, .inl (cI, 16, .inl (fun _ => 0))), (q8, .inl (cI, 6, .inl (fun _ => 0))), (q9, .inl (cI, 288, .inl (fun _ => 0)))] H := hP
  have hD : va_D A [(h0, .inr (0, [.int 0, .int 0, .ref q1, .ref q2, .ref q3, .ref q4, .ref q5, .ref q6, .ref q7, .ref q8, .null, .null, .null, .null, .null])), (q1, .inl (cI, 16, .inl (fun _ => 0))), (q2, .inl (cI, 16, .inl (fun _ => 0))), (q3, .inl (cI, 16, .inl (fun _ => 0))), (q4, .inl (cI, 16, .inl (fun _ => 0))), (q5, .inl (cI, 16, .inl (fun _ => 0))), (q6, .inl (cI, 16, .inl (fun _ => 0))), (q7, .inl (cI, 16, .inl (fun _ => 0))), (q8, .inl (cI, 6, .inl (fun _ => 0))), (q9, .inl (cI, 288, .inl (fun _ => 0)))] := hD
  refine W.widen (k := 9) (n := 406) (by decide) (by decide) ?_
  refine va_putF (D := D) (ci := 0) (v := .ref q9) (ty := .array .int) (C := RX0) (T := TX0) (N := 15) hx hb hts iw_k_Book_0 tyX0 tyX0_ok nmX0 hown hK hP hD hS 0 rfl rfl 10 (by decide) (hts (.fieldLink RX0 36 "FlightDesk$Book" "wind" "[I") (by decide +kernel)) (fun _ h9 => h9) rfl hin rfl (by decide +kernel) rfl rfl (Nat.le_of_ble_eq_true rfl) dX0_init_74 (fun H locs hP hD hS => ?_)
  have hP : va_P D vwCl [(h0, .inr (0, [.int 0, .int 0, .ref q1, .ref q2, .ref q3, .ref q4, .ref q5, .ref q6, .ref q7, .ref q8, .ref q9, .null, .null, .null, .null])), (q1, .inl (cI, 16, .inl (fun _ => 0))), (q2, .inl (cI, 16, .inl (fun _ => 0))), (q3, .inl (cI, 16, .inl (fun _ => 0))), (q4, .inl (cI, 16, .inl (fun _ => 0))), (q5, .inl (cI, 16, .inl (fun _ => 0))), (q6, .inl (cI, 16, .inl (fun _ => 0))), (q7, .inl (cI, 16, .inl (fun _ => 0))), (q8, .inl (cI, 6, .inl (fun _ => 0))), (q9, .inl (cI, 288, .inl (fun _ => 0)))] H := hP
  have hD : va_D A [(h0, .inr (0, [.int 0, .int 0, .ref q1, .ref q2, .ref q3, .ref q4, .ref q5, .ref q6, .ref q7, .ref q8, .ref q9, .null, .null, .null, .null])), (q1, .inl (cI, 16, .inl (fun _ => 0))), (q2, .inl (cI, 16, .inl (fun _ => 0))), (q3, .inl (cI, 16, .inl (fun _ => 0))), (q4, .inl (cI, 16, .inl (fun _ => 0))), (q5, .inl (cI, 16, .inl (fun _ => 0))), (q6, .inl (cI, 16, .inl (fun _ => 0))), (q7, .inl (cI, 16, .inl (fun _ => 0))), (q8, .inl (cI, 6, .inl (fun _ => 0))), (q9, .inl (cI, 288, .inl (fun _ => 0)))] := hD
  refine lv_aload_n hx hb dX0_init_77 rfl (lv_at hl 0 rfl) ?_
  refine lv_bipush (v := 30) hx hb dX0_init_78 (by decide) ?_
  refine ny_i (N' := 30) hx hb (hts (.arrayClass .int) (by decide +kernel)) hK hP hD hS hA (by decide) (by decide) (by decide) (Nat.le_of_ble_eq_true rfl) (Nat.le_of_ble_eq_true rfl) dX0_init_80 (fun q10 H hP hD hS => ?_)
  have hP : va_P D vwCl [(h0, .inr (0, [.int 0, .int 0, .ref q1, .ref q2, .ref q3, .ref q4, .ref q5, .ref q6, .ref q7, .ref q8, .ref q9, .null, .null, .null, .null])), (q1, .inl (cI, 16, .inl (fun _ => 0))), (q2, .inl (cI, 16, .inl (fun _ => 0))), (q3, .inl (cI, 16, .inl (fun _ => 0))), (q4, .inl (cI, 16, .inl (fun _ => 0))), (q5, .inl (cI, 16, .inl (fun _ => 0))), (q6, .inl (cI, 16, .inl (fun _ => 0))), (q7, .inl (cI, 16, .inl (fun _ => 0))), (q8, .inl (cI, 6, .inl (fun _ => 0))), (q9, .inl (cI, 288, .inl (fun _ => 0))), (q10, .inl (cI, 30, .inl (fun _ => 0)))] H := hP
  have hD : va_D A [(h0, .inr (0, [.int 0, .int 0, .ref q1, .ref q2, .ref q3, .ref q4, .ref q5, .ref q6, .ref q7, .ref q8, .ref q9, .null, .null, .null, .null])), (q1, .inl (cI, 16, .inl (fun _ => 0))), (q2, .inl (cI, 16, .inl (fun _ => 0))), (q3, .inl (cI, 16, .inl (fun _ => 0))), (q4, .inl (cI, 16, .inl (fun _ => 0))), (q5, .inl (cI, 16, .inl (fun _ => 0))), (q6, .inl (cI, 16, .inl (fun _ => 0))), (q7, .inl (cI, 16, .inl (fun _ => 0))), (q8, .inl (cI, 6, .inl (fun _ => 0))), (q9, .inl (cI, 288, .inl (fun _ => 0))), (q10, .inl (cI, 30, .inl (fun _ => 0)))] := hD
  refine W.widen (k := 10) (n := 436) (by decide) (by decide) ?_
  refine va_putF (D := D) (ci := 0) (v := .ref q10) (ty := .array .int) (C := RX0) (T := TX0) (N := 15) hx hb hts iw_k_Book_0 tyX0 tyX0_ok nmX0 hown hK hP hD hS 0 rfl rfl 11 (by decide) (hts (.fieldLink RX0 39 "FlightDesk$Book" "burn" "[I") (by decide +kernel)) (fun _ h9 => h9) rfl hin rfl (by decide +kernel) rfl rfl (Nat.le_of_ble_eq_true rfl) dX0_init_82 (fun H locs hP hD hS => ?_)
  have hP : va_P D vwCl [(h0, .inr (0, [.int 0, .int 0, .ref q1, .ref q2, .ref q3, .ref q4, .ref q5, .ref q6, .ref q7, .ref q8, .ref q9, .ref q10, .null, .null, .null])), (q1, .inl (cI, 16, .inl (fun _ => 0))), (q2, .inl (cI, 16, .inl (fun _ => 0))), (q3, .inl (cI, 16, .inl (fun _ => 0))), (q4, .inl (cI, 16, .inl (fun _ => 0))), (q5, .inl (cI, 16, .inl (fun _ => 0))), (q6, .inl (cI, 16, .inl (fun _ => 0))), (q7, .inl (cI, 16, .inl (fun _ => 0))), (q8, .inl (cI, 6, .inl (fun _ => 0))), (q9, .inl (cI, 288, .inl (fun _ => 0))), (q10, .inl (cI, 30, .inl (fun _ => 0)))] H := hP
  have hD : va_D A [(h0, .inr (0, [.int 0, .int 0, .ref q1, .ref q2, .ref q3, .ref q4, .ref q5, .ref q6, .ref q7, .ref q8, .ref q9, .ref q10, .null, .null, .null])), (q1, .inl (cI, 16, .inl (fun _ => 0))), (q2, .inl (cI, 16, .inl (fun _ => 0))), (q3, .inl (cI, 16, .inl (fun _ => 0))), (q4, .inl (cI, 16, .inl (fun _ => 0))), (q5, .inl (cI, 16, .inl (fun _ => 0))), (q6, .inl (cI, 16, .inl (fun _ => 0))), (q7, .inl (cI, 16, .inl (fun _ => 0))), (q8, .inl (cI, 6, .inl (fun _ => 0))), (q9, .inl (cI, 288, .inl (fun _ => 0))), (q10, .inl (cI, 30, .inl (fun _ => 0)))] := hD
  refine lv_aload_n hx hb dX0_init_85 rfl (lv_at hl 0 rfl) ?_
  refine lv_bipush (v := 6) hx hb dX0_init_86 (by decide) ?_
  refine ny_i (N' := 6) hx hb (hts (.arrayClass .int) (by decide +kernel)) hK hP hD hS hA (by decide) (by decide) (by decide) (Nat.le_of_ble_eq_true rfl) (Nat.le_of_ble_eq_true rfl) dX0_init_88 (fun q11 H hP hD hS => ?_)
  have hP : va_P D vwCl [(h0, .inr (0, [.int 0, .int 0, .ref q1, .ref q2, .ref q3, .ref q4, .ref q5, .ref q6, .ref q7, .ref q8, .ref q9, .ref q10, .null, .null, .null])), (q1, .inl (cI, 16, .inl (fun _ => 0))), (q2, .inl (cI, 16, .inl (fun _ => 0))), (q3, .inl (cI, 16, .inl (fun _ => 0))), (q4, .inl (cI, 16, .inl (fun _ => 0))), (q5, .inl (cI, 16, .inl (fun _ => 0))), (q6, .inl (cI, 16, .inl (fun _ => 0))), (q7, .inl (cI, 16, .inl (fun _ => 0))), (q8, .inl (cI, 6, .inl (fun _ => 0))), (q9, .inl (cI, 288, .inl (fun _ => 0))), (q10, .inl (cI, 30, .inl (fun _ => 0))), (q11, .inl (cI, 6, .inl (fun _ => 0)))] H := hP
  have hD : va_D A [(h0, .inr (0, [.int 0, .int 0, .ref q1, .ref q2, .ref q3, .ref q4, .ref q5, .ref q6, .ref q7, .ref q8, .ref q9, .ref q10, .null, .null, .null])), (q1, .inl (cI, 16, .inl (fun _ => 0))), (q2, .inl (cI, 16, .inl (fun _ => 0))), (q3, .inl (cI, 16, .inl (fun _ => 0))), (q4, .inl (cI, 16, .inl (fun _ => 0))), (q5, .inl (cI, 16, .inl (fun _ => 0))), (q6, .inl (cI, 16, .inl (fun _ => 0))), (q7, .inl (cI, 16, .inl (fun _ => 0))), (q8, .inl (cI, 6, .inl (fun _ => 0))), (q9, .inl (cI, 288, .inl (fun _ => 0))), (q10, .inl (cI, 30, .inl (fun _ => 0))), (q11, .inl (cI, 6, .inl (fun _ => 0)))] := hD
  refine W.widen (k := 11) (n := 442) (by decide) (by decide) ?_
  refine va_putF (D := D) (ci := 0) (v := .ref q11) (ty := .array .int) (C := RX0) (T := TX0) (N := 15) hx hb hts iw_k_Book_0 tyX0 tyX0_ok nmX0 hown hK hP hD hS 0 rfl rfl 12 (by decide) (hts (.fieldLink RX0 42 "FlightDesk$Book" "climb" "[I") (by decide +kernel)) (fun _ h9 => h9) rfl hin rfl (by decide +kernel) rfl rfl (Nat.le_of_ble_eq_true rfl) dX0_init_90 (fun H locs hP hD hS => ?_)
  have hP : va_P D vwCl [(h0, .inr (0, [.int 0, .int 0, .ref q1, .ref q2, .ref q3, .ref q4, .ref q5, .ref q6, .ref q7, .ref q8, .ref q9, .ref q10, .ref q11, .null, .null])), (q1, .inl (cI, 16, .inl (fun _ => 0))), (q2, .inl (cI, 16, .inl (fun _ => 0))), (q3, .inl (cI, 16, .inl (fun _ => 0))), (q4, .inl (cI, 16, .inl (fun _ => 0))), (q5, .inl (cI, 16, .inl (fun _ => 0))), (q6, .inl (cI, 16, .inl (fun _ => 0))), (q7, .inl (cI, 16, .inl (fun _ => 0))), (q8, .inl (cI, 6, .inl (fun _ => 0))), (q9, .inl (cI, 288, .inl (fun _ => 0))), (q10, .inl (cI, 30, .inl (fun _ => 0))), (q11, .inl (cI, 6, .inl (fun _ => 0)))] H := hP
  have hD : va_D A [(h0, .inr (0, [.int 0, .int 0, .ref q1, .ref q2, .ref q3, .ref q4, .ref q5, .ref q6, .ref q7, .ref q8, .ref q9, .ref q10, .ref q11, .null, .null])), (q1, .inl (cI, 16, .inl (fun _ => 0))), (q2, .inl (cI, 16, .inl (fun _ => 0))), (q3, .inl (cI, 16, .inl (fun _ => 0))), (q4, .inl (cI, 16, .inl (fun _ => 0))), (q5, .inl (cI, 16, .inl (fun _ => 0))), (q6, .inl (cI, 16, .inl (fun _ => 0))), (q7, .inl (cI, 16, .inl (fun _ => 0))), (q8, .inl (cI, 6, .inl (fun _ => 0))), (q9, .inl (cI, 288, .inl (fun _ => 0))), (q10, .inl (cI, 30, .inl (fun _ => 0))), (q11, .inl (cI, 6, .inl (fun _ => 0)))] := hD
  refine lv_aload_n hx hb dX0_init_93 rfl (lv_at hl 0 rfl) ?_
  refine lv_iconst (v := 4) hx hb dX0_init_94 (by decide) ?_
  refine ny_i (N' := 4) hx hb (hts (.arrayClass .int) (by decide +kernel)) hK hP hD hS hA (by decide) (by decide) (by decide) (Nat.le_of_ble_eq_true rfl) (Nat.le_of_ble_eq_true rfl) dX0_init_95 (fun q12 H hP hD hS => ?_)
  have hP : va_P D vwCl [(h0, .inr (0, [.int 0, .int 0, .ref q1, .ref q2, .ref q3, .ref q4, .ref q5, .ref q6, .ref q7, .ref q8, .ref q9, .ref q10, .ref q11, .null, .null])), (q1, .inl (cI, 16, .inl (fun _ => 0))), (q2, .inl (cI, 16, .inl (fun _ => 0))), (q3, .inl (cI, 16, .inl (fun _ => 0))), (q4, .inl (cI, 16, .inl (fun _ => 0))), (q5, .inl (cI, 16, .inl (fun _ => 0))), (q6, .inl (cI, 16, .inl (fun _ => 0))), (q7, .inl (cI, 16, .inl (fun _ => 0))), (q8, .inl (cI, 6, .inl (fun _ => 0))), (q9, .inl (cI, 288, .inl (fun _ => 0))), (q10, .inl (cI, 30, .inl (fun _ => 0))), (q11, .inl (cI, 6, .inl (fun _ => 0))), (q12, .inl (cI, 4, .inl (fun _ => 0)))] H := hP
  have hD : va_D A [(h0, .inr (0, [.int 0, .int 0, .ref q1, .ref q2, .ref q3, .ref q4, .ref q5, .ref q6, .ref q7, .ref q8, .ref q9, .ref q10, .ref q11, .null, .null])), (q1, .inl (cI, 16, .inl (fun _ => 0))), (q2, .inl (cI, 16, .inl (fun _ => 0))), (q3, .inl (cI, 16, .inl (fun _ => 0))), (q4, .inl (cI, 16, .inl (fun _ => 0))), (q5, .inl (cI, 16, .inl (fun _ => 0))), (q6, .inl (cI, 16, .inl (fun _ => 0))), (q7, .inl (cI, 16, .inl (fun _ => 0))), (q8, .inl (cI, 6, .inl (fun _ => 0))), (q9, .inl (cI, 288, .inl (fun _ => 0))), (q10, .inl (cI, 30, .inl (fun _ => 0))), (q11, .inl (cI, 6, .inl (fun _ => 0))), (q12, .inl (cI, 4, .inl (fun _ => 0)))] := hD
  refine W.widen (k := 12) (n := 446) (by decide) (by decide) ?_
  refine va_putF (D := D) (ci := 0) (v := .ref q12) (ty := .array .int) (C := RX0) (T := TX0) (N := 15) hx hb hts iw_k_Book_0 tyX0 tyX0_ok nmX0 hown hK hP hD hS 0 rfl rfl 13 (by decide) (hts (.fieldLink RX0 45 "FlightDesk$Book" "limit" "[I") (by decide +kernel)) (fun _ h9 => h9) rfl hin rfl (by decide +kernel) rfl rfl (Nat.le_of_ble_eq_true rfl) dX0_init_97 (fun H locs hP hD hS => ?_)
  have hP : va_P D vwCl [(h0, .inr (0, [.int 0, .int 0, .ref q1, .ref q2, .ref q3, .ref q4, .ref q5, .ref q6, .ref q7, .ref q8, .ref q9, .ref q10, .ref q11, .ref q12, .null])), (q1, .inl (cI, 16, .inl (fun _ => 0))), (q2, .inl (cI, 16, .inl (fun _ => 0))), (q3, .inl (cI, 16, .inl (fun _ => 0))), (q4, .inl (cI, 16, .inl (fun _ => 0))), (q5, .inl (cI, 16, .inl (fun _ => 0))), (q6, .inl (cI, 16, .inl (fun _ => 0))), (q7, .inl (cI, 16, .inl (fun _ => 0))), (q8, .inl (cI, 6, .inl (fun _ => 0))), (q9, .inl (cI, 288, .inl (fun _ => 0))), (q10, .inl (cI, 30, .inl (fun _ => 0))), (q11, .inl (cI, 6, .inl (fun _ => 0))), (q12, .inl (cI, 4, .inl (fun _ => 0)))] H := hP
  have hD : va_D A [(h0, .inr (0, [.int 0, .int 0, .ref q1, .ref q2, .ref q3, .ref q4, .ref q5, .ref q6, .ref q7, .ref q8, .ref q9, .ref q10, .ref q11, .ref q12, .null])), (q1, .inl (cI, 16, .inl (fun _ => 0))), (q2, .inl (cI, 16, .inl (fun _ => 0))), (q3, .inl (cI, 16, .inl (fun _ => 0))), (q4, .inl (cI, 16, .inl (fun _ => 0))), (q5, .inl (cI, 16, .inl (fun _ => 0))), (q6, .inl (cI, 16, .inl (fun _ => 0))), (q7, .inl (cI, 16, .inl (fun _ => 0))), (q8, .inl (cI, 6, .inl (fun _ => 0))), (q9, .inl (cI, 288, .inl (fun _ => 0))), (q10, .inl (cI, 30, .inl (fun _ => 0))), (q11, .inl (cI, 6, .inl (fun _ => 0))), (q12, .inl (cI, 4, .inl (fun _ => 0)))] := hD
  refine lv_aload_n hx hb dX0_init_100 rfl (lv_at hl 0 rfl) ?_
  refine lv_bipush (v := 7) hx hb dX0_init_101 (by decide) ?_
  refine ny_i (N' := 7) hx hb (hts (.arrayClass .int) (by decide +kernel)) hK hP hD hS hA (by decide) (by decide) (by decide) (Nat.le_of_ble_eq_true rfl) (Nat.le_of_ble_eq_true rfl) dX0_init_103 (fun q13 H hP hD hS => ?_)
  have hP : va_P D vwCl [(h0, .inr (0, [.int 0, .int 0, .ref q1, .ref q2, .ref q3, .ref q4, .ref q5, .ref q6, .ref q7, .ref q8, .ref q9, .ref q10, .ref q11, .ref q12, .null])), (q1, .inl (cI, 16, .inl (fun _ => 0))), (q2, .inl (cI, 16, .inl (fun _ => 0))), (q3, .inl (cI, 16, .inl (fun _ => 0))), (q4, .inl (cI, 16, .inl (fun _ => 0))), (q5, .inl (cI, 16, .inl (fun _ => 0))), (q6, .inl (cI, 16, .inl (fun _ => 0))), (q7, .inl (cI, 16, .inl (fun _ => 0))), (q8, .inl (cI, 6, .inl (fun _ => 0))), (q9, .inl (cI, 288, .inl (fun _ => 0))), (q10, .inl (cI, 30, .inl (fun _ => 0))), (q11, .inl (cI, 6, .inl (fun _ => 0))), (q12, .inl (cI, 4, .inl (fun _ => 0))), (q13, .inl (cI, 7, .inl (fun _ => 0)))] H := hP
  have hD : va_D A [(h0, .inr (0, [.int 0, .int 0, .ref q1, .ref q2, .ref q3, .ref q4, .ref q5, .ref q6, .ref q7, .ref q8, .ref q9, .ref q10, .ref q11, .ref q12, .null])), (q1, .inl (cI, 16, .inl (fun _ => 0))), (q2, .inl (cI, 16, .inl (fun _ => 0))), (q3, .inl (cI, 16, .inl (fun _ => 0))), (q4, .inl (cI, 16, .inl (fun _ => 0))), (q5, .inl (cI, 16, .inl (fun _ => 0))), (q6, .inl (cI, 16, .inl (fun _ => 0))), (q7, .inl (cI, 16, .inl (fun _ => 0))), (q8, .inl (cI, 6, .inl (fun _ => 0))), (q9, .inl (cI, 288, .inl (fun _ => 0))), (q10, .inl (cI, 30, .inl (fun _ => 0))), (q11, .inl (cI, 6, .inl (fun _ => 0))), (q12, .inl (cI, 4, .inl (fun _ => 0))), (q13, .inl (cI, 7, .inl (fun _ => 0)))] := hD
  refine W.widen (k := 13) (n := 453) (by decide) (by decide) ?_
  refine va_putF (D := D) (ci := 0) (v := .ref q13) (ty := .array .int) (C := RX0) (T := TX0) (N := 15) hx hb hts iw_k_Book_0 tyX0 tyX0_ok nmX0 hown hK hP hD hS 0 rfl rfl 14 (by decide) (hts (.fieldLink RX0 48 "FlightDesk$Book" "height" "[I") (by decide +kernel)) (fun _ h9 => h9) rfl hin rfl (by decide +kernel) rfl rfl (Nat.le_of_ble_eq_true rfl) dX0_init_105 (fun H locs hP hD hS => ?_)
  have hP : va_P D vwCl [(h0, .inr (0, [.int 0, .int 0, .ref q1, .ref q2, .ref q3, .ref q4, .ref q5, .ref q6, .ref q7, .ref q8, .ref q9, .ref q10, .ref q11, .ref q12, .ref q13])), (q1, .inl (cI, 16, .inl (fun _ => 0))), (q2, .inl (cI, 16, .inl (fun _ => 0))), (q3, .inl (cI, 16, .inl (fun _ => 0))), (q4, .inl (cI, 16, .inl (fun _ => 0))), (q5, .inl (cI, 16, .inl (fun _ => 0))), (q6, .inl (cI, 16, .inl (fun _ => 0))), (q7, .inl (cI, 16, .inl (fun _ => 0))), (q8, .inl (cI, 6, .inl (fun _ => 0))), (q9, .inl (cI, 288, .inl (fun _ => 0))), (q10, .inl (cI, 30, .inl (fun _ => 0))), (q11, .inl (cI, 6, .inl (fun _ => 0))), (q12, .inl (cI, 4, .inl (fun _ => 0))), (q13, .inl (cI, 7, .inl (fun _ => 0)))] H := hP
  have hD : va_D A [(h0, .inr (0, [.int 0, .int 0, .ref q1, .ref q2, .ref q3, .ref q4, .ref q5, .ref q6, .ref q7, .ref q8, .ref q9, .ref q10, .ref q11, .ref q12, .ref q13])), (q1, .inl (cI, 16, .inl (fun _ => 0))), (q2, .inl (cI, 16, .inl (fun _ => 0))), (q3, .inl (cI, 16, .inl (fun _ => 0))), (q4, .inl (cI, 16, .inl (fun _ => 0))), (q5, .inl (cI, 16, .inl (fun _ => 0))), (q6, .inl (cI, 16, .inl (fun _ => 0))), (q7, .inl (cI, 16, .inl (fun _ => 0))), (q8, .inl (cI, 6, .inl (fun _ => 0))), (q9, .inl (cI, 288, .inl (fun _ => 0))), (q10, .inl (cI, 30, .inl (fun _ => 0))), (q11, .inl (cI, 6, .inl (fun _ => 0))), (q12, .inl (cI, 4, .inl (fun _ => 0))), (q13, .inl (cI, 7, .inl (fun _ => 0)))] := hD
  refine lv_aload_n hx hb dX0_init_108 rfl (lv_at hl 0 rfl) ?_
  have hPc := hP.sub (ws' := [(h0, .inr (0, [.int 0, .int 0, .ref q1, .ref q2, .ref q3, .ref q4, .ref q5, .ref q6, .ref q7, .ref q8, .ref q9, .ref q10, .ref q11, .ref q12, .ref q13])), (q8, .inl (cI, 6, .inl (fun _ => 0))), (q9, .inl (cI, 288, .inl (fun _ => 0))), (q10, .inl (cI, 30, .inl (fun _ => 0))), (q11, .inl (cI, 6, .inl (fun _ => 0))), (q12, .inl (cI, 4, .inl (fun _ => 0)))]) [0, 8, 9, 10, 11, 12] rfl
  have hDc := hD.sub (ws' := [(h0, .inr (0, [.int 0, .int 0, .ref q1, .ref q2, .ref q3, .ref q4, .ref q5, .ref q6, .ref q7, .ref q8, .ref q9, .ref q10, .ref q11, .ref q12, .ref q13])), (q8, .inl (cI, 6, .inl (fun _ => 0))), (q9, .inl (cI, 288, .inl (fun _ => 0))), (q10, .inl (cI, 30, .inl (fun _ => 0))), (q11, .inl (cI, 6, .inl (fun _ => 0))), (q12, .inl (cI, 4, .inl (fun _ => 0)))]) [0, 8, 9, 10, 11, 12] (by decide) rfl
  have hFc := va_free (wc := [(h0, .inr (0, [.int 0, .int 0, .ref q1, .ref q2, .ref q3, .ref q4, .ref q5, .ref q6, .ref q7, .ref q8, .ref q9, .ref q10, .ref q11, .ref q12, .ref q13])), (q8, .inl (cI, 6, .inl (fun _ => 0))), (q9, .inl (cI, 288, .inl (fun _ => 0))), (q10, .inl (cI, 30, .inl (fun _ => 0))), (q11, .inl (cI, 6, .inl (fun _ => 0))), (q12, .inl (cI, 4, .inl (fun _ => 0)))]) hD hS hA [0, 8, 9, 10, 11, 12] rfl
  refine va_callv (va_runV (As := []) (rest := []) ⟨hx, hb, hml, hown, hts⟩ (k_clear l D cI cB cP H.size h0 0 0 q1 q2 q3 q4 q5 q6 q7 q8 q9 q10 q11 q12 q13 (fun _ => 0) (fun _ => 0) (fun _ => 0) (fun _ => 0) (fun _ => 0)) (cwV 0 hts gw_k_Book_0 rfl rfl rfl (by decide +kernel) ⟨Nat.le_of_ble_eq_true rfl, Nat.le_of_ble_eq_true rfl⟩) ⟨ny_blind, va_recv hK hPc (ci := 0) (q0 := 0) rfl rfl, ny_pre hPc hK hN hDc⟩ rfl rfl hl.1 rfl (lv_room (Nat.le_of_ble_eq_true rfl)) dX0_init_109 ⟨Nat.le_of_ble_eq_true rfl, Nat.le_of_ble_eq_true rfl⟩) hS (fun q _ h => hFc q h) hFc (fun u t H locs ht hvm hw hB hz1 hk1 hS => ?_)
  obtain ⟨g_14, g_15, g_16, g_17, g_18, hp20, hp21, hp22, hp23, hp24, hP1, hD1⟩ := hB
  rw [ht] at hP1
  obtain ⟨hP, hD⟩ := va_join (wr := [(q1, .inl (cI, 16, .inl (fun _ => 0))), (q2, .inl (cI, 16, .inl (fun _ => 0))), (q3, .inl (cI, 16, .inl (fun _ => 0))), (q4, .inl (cI, 16, .inl (fun _ => 0))), (q5, .inl (cI, 16, .inl (fun _ => 0))), (q6, .inl (cI, 16, .inl (fun _ => 0))), (q7, .inl (cI, 16, .inl (fun _ => 0))), (q13, .inl (cI, 7, .inl (fun _ => 0)))]) (w1 := [(h0, .inr (0, [.int 0, .int 0, .ref q1, .ref q2, .ref q3, .ref q4, .ref q5, .ref q6, .ref q7, .ref q8, .ref q9, .ref q10, .ref q11, .ref q12, .ref q13])), (q8, .inl (cI, 6, .inl g_14)), (q9, .inl (cI, 288, .inl g_15)), (q10, .inl (cI, 30, .inl g_16)), (q11, .inl (cI, 6, .inl g_17)), (q12, .inl (cI, 4, .inl g_18))]) hP hD [0, 8, 9, 10, 11, 12] [1, 2, 3, 4, 5, 6, 7, 13] rfl rfl (by decide) (by decide) hk1 hFc hP1 hD1
  have hP : va_P D vwCl [(q1, .inl (cI, 16, .inl (fun _ => 0))), (q2, .inl (cI, 16, .inl (fun _ => 0))), (q3, .inl (cI, 16, .inl (fun _ => 0))), (q4, .inl (cI, 16, .inl (fun _ => 0))), (q5, .inl (cI, 16, .inl (fun _ => 0))), (q6, .inl (cI, 16, .inl (fun _ => 0))), (q7, .inl (cI, 16, .inl (fun _ => 0))), (q13, .inl (cI, 7, .inl (fun _ => 0))), (h0, .inr (0, [.int 0, .int 0, .ref q1, .ref q2, .ref q3, .ref q4, .ref q5, .ref q6, .ref q7, .ref q8, .ref q9, .ref q10, .ref q11, .ref q12, .ref q13])), (q8, .inl (cI, 6, .inl g_14)), (q9, .inl (cI, 288, .inl g_15)), (q10, .inl (cI, 30, .inl g_16)), (q11, .inl (cI, 6, .inl g_17)), (q12, .inl (cI, 4, .inl g_18))] H := hP
  have hD : va_D A [(q1, .inl (cI, 16, .inl (fun _ => 0))), (q2, .inl (cI, 16, .inl (fun _ => 0))), (q3, .inl (cI, 16, .inl (fun _ => 0))), (q4, .inl (cI, 16, .inl (fun _ => 0))), (q5, .inl (cI, 16, .inl (fun _ => 0))), (q6, .inl (cI, 16, .inl (fun _ => 0))), (q7, .inl (cI, 16, .inl (fun _ => 0))), (q13, .inl (cI, 7, .inl (fun _ => 0))), (h0, .inr (0, [.int 0, .int 0, .ref q1, .ref q2, .ref q3, .ref q4, .ref q5, .ref q6, .ref q7, .ref q8, .ref q9, .ref q10, .ref q11, .ref q12, .ref q13])), (q8, .inl (cI, 6, .inl g_14)), (q9, .inl (cI, 288, .inl g_15)), (q10, .inl (cI, 30, .inl g_16)), (q11, .inl (cI, 6, .inl g_17)), (q12, .inl (cI, 4, .inl g_18))] := hD
  have hP9 := hP.sub (ws' := [(h0, .inr (0, [.int 0, .int 0, .ref q1, .ref q2, .ref q3, .ref q4, .ref q5, .ref q6, .ref q7, .ref q8, .ref q9, .ref q10, .ref q11, .ref q12, .ref q13])), (q1, .inl (cI, 16, .inl (fun _ => 0))), (q2, .inl (cI, 16, .inl (fun _ => 0))), (q3, .inl (cI, 16, .inl (fun _ => 0))), (q4, .inl (cI, 16, .inl (fun _ => 0))), (q5, .inl (cI, 16, .inl (fun _ => 0))), (q6, .inl (cI, 16, .inl (fun _ => 0))), (q7, .inl (cI, 16, .inl (fun _ => 0))), (q8, .inl (cI, 6, .inl g_14)), (q9, .inl (cI, 288, .inl g_15)), (q10, .inl (cI, 30, .inl g_16)), (q11, .inl (cI, 6, .inl g_17)), (q12, .inl (cI, 4, .inl g_18)), (q13, .inl (cI, 7, .inl (fun _ => 0)))]) [8, 0, 1, 2, 3, 4, 5, 6, 9, 10, 11, 12, 13, 7] rfl
  have hD9 := hD.sub (ws' := [(h0, .inr (0, [.int 0, .int 0, .ref q1, .ref q2, .ref q3, .ref q4, .ref q5, .ref q6, .ref q7, .ref q8, .ref q9, .ref q10, .ref q11, .ref q12, .ref q13])), (q1, .inl (cI, 16, .inl (fun _ => 0))), (q2, .inl (cI, 16, .inl (fun _ => 0))), (q3, .inl (cI, 16, .inl (fun _ => 0))), (q4, .inl (cI, 16, .inl (fun _ => 0))), (q5, .inl (cI, 16, .inl (fun _ => 0))), (q6, .inl (cI, 16, .inl (fun _ => 0))), (q7, .inl (cI, 16, .inl (fun _ => 0))), (q8, .inl (cI, 6, .inl g_14)), (q9, .inl (cI, 288, .inl g_15)), (q10, .inl (cI, 30, .inl g_16)), (q11, .inl (cI, 6, .inl g_17)), (q12, .inl (cI, 4, .inl g_18)), (q13, .inl (cI, 7, .inl (fun _ => 0)))]) [8, 0, 1, 2, 3, 4, 5, 6, 9, 10, 11, 12, 13, 7] (by decide) rfl
  refine W.widen (k := 13) (n := 453) (by decide) (by decide) ?_
  exact W.vret hx hb hr (fun t ht hW => ⟨⟨(), rfl, trivial, q1, q2, q3, q4, q5, q6, q7, q8, q9, q10, q11, q12, q13, (fun _ => 0), (fun _ => 0), (fun _ => 0), (fun _ => 0), (fun _ => 0), (fun _ => 0), (fun _ => 0), g_14, g_15, g_16, g_17, g_18, (fun _ => 0), (hp20), (hp21), (hp22), (hp23), (hp24), by rw [ht]; exact hP9, hD9⟩, hS.F ht⟩) hS.2.2 dX0_init_112
end
section
def wk_k_copy : List Cond := .code yX0_copy cX0_copy 2 none :: ([.methodLink RX0 96 Lib.Math.min.name, .static Lib.Math.min.name, .initialized "java/lang/Math", .code Lib.Math.min.name Lib.Math.min.code 2 (some .int), .methodLink RX0 99 arraycopyName, .native arraycopyName, .static arraycopyName, .initialized "java/lang/System"])
set_option maxHeartbeats 4000000 in
set_option maxRecDepth 100000 in
theorem k_copy (l : Launch) (D : va_G) (cI cB cP : ClassId) (sz : Nat) (a0 : Nat) (a1 : Nat) (n : Nat) (f : Nat → Int32) (g : Nat → Int32) (hn : n < 2 ^ 31) : Met l yX0_copy wk_k_copy ({ frames := 1, cells := 0, slots := 0, locals := 40 } : Room) (va_Pc [.ref a0, .ref a1] (Pw D cI cB cP sz [(a0, .inl (cI, n, .inl f)), (a1, .inl (cI, n, .inl g))])) (va_Qv (fun (_ : Unit) => True) (fun _ t => ∃ g9 : Nat → Int32, va_P D vwCl [(a0, .inl (cI, n, .inl f)), (a1, .inl (cI, n, .inl g9))] t.heap ∧ va_D (va_A [(a0, .inl (cI, n, .inl f)), (a1, .inl (cI, n, .inl g))] sz) [(a0, .inl (cI, n, .inl f)), (a1, .inl (cI, n, .inl g9))]) (va_A [(a0, .inl (cI, n, .inl f)), (a1, .inl (cI, n, .inl g))] sz)) 0 0 (va_A [(a0, .inl (cI, n, .inl f)), (a1, .inl (cI, n, .inl g))] sz) := by
  refine Met.ofW (cc := cX0_copy) (maxL := 2) (ret := none) (by decide) rfl ?_
  intro p e s m args below meth c s₁ B hml hv
  obtain ⟨rfl, hsz, hP, ⟨hK, hN⟩, hD0⟩ := hv
  have hx := B.exec
  have hb := B.bytes
  have hr := B.returns
  have hts := atoms_spec (ws := wk_k_copy) B.pre
  have hown : s.vm.findClass RX0 = some m.cls := findClass_of_methodNamed B.named
  have hlocks := B.notSynchronized
  subst hsz
  have hD := hD0.self (sz := s.heap.size)
  generalize hAe : va_A [(a0, .inl (cI, n, .inl f)), (a1, .inl (cI, n, .inl g))] s.heap.size = A at hD ⊢
  have hA : ∀ q : Nat, s.heap.size ≤ q → A q := fun q h => by rw [← hAe]; exact Or.inr h
  have hS : va_S A s.heap s.heap [] := va_S.rf
  have hP : va_P D vwCl [(a0, .inl (cI, n, .inl f)), (a1, .inl (cI, n, .inl g))] s.heap := hP
  have hl := lv_entry ([.ref a0, .ref a1]) (n := 2) (Nat.le_of_ble_eq_true rfl)
  rw [lg_entry_eq]
  generalize (lg_sl ([.ref a0, .ref a1]) ++ List.replicate (2 - (lg_sl ([.ref a0, .ref a1])).length) Slot.unset).toArray = ls at hl ⊢
  have hl : lv_has ls 2 [(0, .ref a0), (1, .ref a1)] := hl
  refine lv_aload_n hx hb dX0_copy_0 rfl (lv_at hl 0 rfl) ?_
  refine lv_iconst (v := 0) hx hb dX0_copy_1 (by decide) ?_
  refine lv_aload_n hx hb dX0_copy_2 rfl (lv_at hl 1 rfl) ?_
  refine lv_iconst (v := 0) hx hb dX0_copy_3 (by decide) ?_
  refine lv_aload_n hx hb dX0_copy_4 rfl (lv_at hl 0 rfl) ?_
  refine va_alen (v := nI n) hx hb hK hP 0 0 rfl rfl rfl dX0_copy_5 ?_
  refine lv_aload_n hx hb dX0_copy_6 rfl (lv_at hl 1 rfl) ?_
  refine va_alen (v := nI n) hx hb hK hP 1 0 rfl rfl rfl dX0_copy_7 ?_
  refine va_mmin hx hb (by rw [hml]; exact hl.1.symm) hown (hts (.methodLink RX0 96 Lib.Math.min.name) (by decide +kernel)) (hts (.static Lib.Math.min.name) (by decide +kernel)) (hts (.initialized "java/lang/Math") (by decide +kernel)) (hts (.code Lib.Math.min.name Lib.Math.min.code 2 (some .int)) (by decide +kernel)) (Nat.le_of_ble_eq_true rfl) (Nat.le_of_ble_eq_true rfl) (Nat.le_of_ble_eq_true rfl) (Nat.le_of_ble_eq_true rfl) dX0_copy_8 ?_
  refine lv_topi (fun vv ev => ?_)
  obtain rfl : vv = nI n := ev.trans (by simp)
  refine va_copyi hx hb (by rw [hml]; exact hl.1.symm) hown (hts (.methodLink RX0 99 arraycopyName) (by decide +kernel)) (hts (.native arraycopyName) (by decide +kernel)) (hts (.static arraycopyName) (by decide +kernel)) (hts (.initialized "java/lang/System") (by decide +kernel)) hK hP hD hS 0 1 0 0 rfl rfl rfl rfl rfl (by decide) (by decide) (nI_pos (by omega)) (by rw [nI_clamp (by omega)]; exact Nat.le_of_eq (Nat.zero_add n)) (by rw [nI_clamp (by omega)]; exact Nat.le_of_eq (Nat.zero_add n)) (fun _ _ => rfl) (Nat.le_of_ble_eq_true rfl) (Nat.le_of_ble_eq_true rfl) dX0_copy_11 (fun H locs hP hD hS => ?_)
  have hP : va_P D vwCl [(a0, .inl (cI, n, .inl f)), (a1, .inl (cI, n, .inl (va_cpy f g (0 : Int32).toNatClampNeg (0 : Int32).toNatClampNeg (nI n).toNatClampNeg)))] H := hP
  have hD : va_D A [(a0, .inl (cI, n, .inl f)), (a1, .inl (cI, n, .inl (va_cpy f g (0 : Int32).toNatClampNeg (0 : Int32).toNatClampNeg (nI n).toNatClampNeg)))] := hD
  obtain ⟨f1, ef1⟩ : ∃ z : Nat → Int32, z = (va_cpy f g (0 : Int32).toNatClampNeg (0 : Int32).toNatClampNeg (nI n).toNatClampNeg) := ⟨_, rfl⟩
  rw [← ef1] at hP hD
  have hP9 := hP.sub (ws' := [(a0, .inl (cI, n, .inl f)), (a1, .inl (cI, n, .inl f1))]) [0, 1] rfl
  have hD9 := hD.sub (ws' := [(a0, .inl (cI, n, .inl f)), (a1, .inl (cI, n, .inl f1))]) [0, 1] (by decide) rfl
  refine W.widen (k := 0) (n := 0) (by decide) (by decide) ?_
  exact W.vret hx hb hr (fun t ht hW => ⟨⟨(), rfl, trivial, f1, by rw [ht]; exact hP9, hD9⟩, hS.F ht⟩) hS.2.2 dX0_copy_14

def wk_k_take : List Cond := .code yX0_take cX0_take 2 none :: ([.fieldLink RX0 54 "FlightDesk$Book" "legCount" "I", .fieldLink RX0 58 "FlightDesk$Book" "lineCount" "I", .fieldLink RX0 9 "FlightDesk$Book" "from" "[I", .methodLink RX0 79 yX0_copy, .static yX0_copy, .initialized RX0, .code yX0_copy cX0_copy 2 none, .methodLink RX0 96 Lib.Math.min.name, .static Lib.Math.min.name, .initialized "java/lang/Math", .code Lib.Math.min.name Lib.Math.min.code 2 (some .int), .methodLink RX0 99 arraycopyName, .native arraycopyName, .static arraycopyName, .initialized "java/lang/System", .fieldLink RX0 15 "FlightDesk$Book" "to" "[I", .fieldLink RX0 18 "FlightDesk$Book" "miles" "[I", .fieldLink RX0 21 "FlightDesk$Book" "lowest" "[I", .fieldLink RX0 24 "FlightDesk$Book" "highest" "[I", .fieldLink RX0 27 "FlightDesk$Book" "firstDay" "[I", .fieldLink RX0 30 "FlightDesk$Book" "lastDay" "[I", .fieldLink RX0 33 "FlightDesk$Book" "speed" "[I", .fieldLink RX0 36 "FlightDesk$Book" "wind" "[I", .fieldLink RX0 39 "FlightDesk$Book" "burn" "[I", .fieldLink RX0 42 "FlightDesk$Book" "climb" "[I", .fieldLink RX0 45 "FlightDesk$Book" "limit" "[I", .fieldLink RX0 48 "FlightDesk$Book" "height" "[I"] ++ wsX00)
theorem iw_k_take_0 : ∀ w ∈ wsX00, w ∈ wk_k_take := fun _ h => List.mem_cons_of_mem _ (List.mem_append_right _ h)
set_option maxRecDepth 20000 in
theorem gw_k_take_0 : GoodIn wk_k_take (wsS RX0 79 yX0_copy wk_k_copy) := goodIn_sub (by decide +kernel) (by decide +kernel)
set_option maxHeartbeats 4000000 in
set_option maxRecDepth 100000 in
theorem k_take (l : Launch) (D : va_G) (cI cB cP : ClassId) (sz : Nat) (h0 : Nat) (lc : Int32) (ln : Int32) (a2 : Nat) (a3 : Nat) (a4 : Nat) (a5 : Nat) (a6 : Nat) (a7 : Nat) (a8 : Nat) (a9 : Nat) (a10 : Nat) (a11 : Nat) (a12 : Nat) (a13 : Nat) (a14 : Nat) (h1 : Nat) (mc : Int32) (mn : Int32) (b2 : Nat) (b3 : Nat) (b4 : Nat) (b5 : Nat) (b6 : Nat) (b7 : Nat) (b8 : Nat) (b9 : Nat) (b10 : Nat) (b11 : Nat) (b12 : Nat) (b13 : Nat) (b14 : Nat) (f2 : Nat → Int32) (f3 : Nat → Int32) (f4 : Nat → Int32) (f5 : Nat → Int32) (f6 : Nat → Int32) (f7 : Nat → Int32) (f8 : Nat → Int32) (f9 : Nat → Int32) (f10 : Nat → Int32) (f11 : Nat → Int32) (f12 : Nat → Int32) (f13 : Nat → Int32) (f14 : Nat → Int32) (g2 : Nat → Int32) (g3 : Nat → Int32) (g4 : Nat → Int32) (g5 : Nat → Int32) (g6 : Nat → Int32) (g7 : Nat → Int32) (g8 : Nat → Int32) (g9 : Nat → Int32) (g10 : Nat → Int32) (g11 : Nat → Int32) (g12 : Nat → Int32) (g13 : Nat → Int32) (g14 : Nat → Int32) : Met l yX0_take wk_k_take ({ frames := 2, cells := 0, slots := 0, locals := 61 } : Room) (va_Pc [.ref h0, .ref h1] (Pw D cI cB cP sz [(h0, .inr (0, [.int lc, .int ln, .ref a2, .ref a3, .ref a4, .ref a5, .ref a6, .ref a7, .ref a8, .ref a9, .ref a10, .ref a11, .ref a12, .ref a13, .ref a14])), (h1, .inr (0, [.int mc, .int mn, .ref b2, .ref b3, .ref b4, .ref b5, .ref b6, .ref b7, .ref b8, .ref b9, .ref b10, .ref b11, .ref b12, .ref b13, .ref b14])), (a2, .inl (cI, 16, .inl f2)), (a3, .inl (cI, 16, .inl f3)), (a4, .inl (cI, 16, .inl f4)), (a5, .inl (cI, 16, .inl f5)), (a6, .inl (cI, 16, .inl f6)), (a7, .inl (cI, 16, .inl f7)), (a8, .inl (cI, 16, .inl f8)), (a9, .inl (cI, 6, .inl f9)), (a10, .inl (cI, 288, .inl f10)), (a11, .inl (cI, 30, .inl f11)), (a12, .inl (cI, 6, .inl f12)), (a13, .inl (cI, 4, .inl f13)), (a14, .inl (cI, 7, .inl f14)), (b2, .inl (cI, 16, .inl g2)), (b3, .inl (cI, 16, .inl g3)), (b4, .inl (cI, 16, .inl g4)), (b5, .inl (cI, 16, .inl g5)), (b6, .inl (cI, 16, .inl g6)), (b7, .inl (cI, 16, .inl g7)), (b8, .inl (cI, 16, .inl g8)), (b9, .inl (cI, 6, .inl g9)), (b10, .inl (cI, 288, .inl g10)), (b11, .inl (cI, 30, .inl g11)), (b12, .inl (cI, 6, .inl g12)), (b13, .inl (cI, 4, .inl g13)), (b14, .inl (cI, 7, .inl g14))])) (va_Qv (fun (_ : Unit) => True) (fun _ t => va_P D vwCl [(h0, .inr (0, [.int mc, .int mn, .ref a2, .ref a3, .ref a4, .ref a5, .ref a6, .ref a7, .ref a8, .ref a9, .ref a10, .ref a11, .ref a12, .ref a13, .ref a14]))] t.heap ∧ va_D (va_A [(h0, .inr (0, [.int lc, .int ln, .ref a2, .ref a3, .ref a4, .ref a5, .ref a6, .ref a7, .ref a8, .ref a9, .ref a10, .ref a11, .ref a12, .ref a13, .ref a14])), (h1, .inr (0, [.int mc, .int mn, .ref b2, .ref b3, .ref b4, .ref b5, .ref b6, .ref b7, .ref b8, .ref b9, .ref b10, .ref b11, .ref b12, .ref b13, .ref b14])), (a2, .inl (cI, 16, .inl f2)), (a3, .inl (cI, 16, .inl f3)), (a4, .inl (cI, 16, .inl f4)), (a5, .inl (cI, 16, .inl f5)), (a6, .inl (cI, 16, .inl f6)), (a7, .inl (cI, 16, .inl f7)), (a8, .inl (cI, 16, .inl f8)), (a9, .inl (cI, 6, .inl f9)), (a10, .inl (cI, 288, .inl f10)), (a11, .inl (cI, 30, .inl f11)), (a12, .inl (cI, 6, .inl f12)), (a13, .inl (cI, 4, .inl f13)), (a14, .inl (cI, 7, .inl f14)), (b2, .inl (cI, 16, .inl g2)), (b3, .inl (cI, 16, .inl g3)), (b4, .inl (cI, 16, .inl g4)), (b5, .inl (cI, 16, .inl g5)), (b6, .inl (cI, 16, .inl g6)), (b7, .inl (cI, 16, .inl g7)), (b8, .inl (cI, 16, .inl g8)), (b9, .inl (cI, 6, .inl g9)), (b10, .inl (cI, 288, .inl g10)), (b11, .inl (cI, 30, .inl g11)), (b12, .inl (cI, 6, .inl g12)), (b13, .inl (cI, 4, .inl g13)), (b14, .inl (cI, 7, .inl g14))] sz) [(h0, .inr (0, [.int mc, .int mn, .ref a2, .ref a3, .ref a4, .ref a5, .ref a6, .ref a7, .ref a8, .ref a9, .ref a10, .ref a11, .ref a12, .ref a13, .ref a14]))]) (va_A [(h0, .inr (0, [.int lc, .int ln, .ref a2, .ref a3, .ref a4, .ref a5, .ref a6, .ref a7, .ref a8, .ref a9, .ref a10, .ref a11, .ref a12, .ref a13, .ref a14])), (h1, .inr (0, [.int mc, .int mn, .ref b2, .ref b3, .ref b4, .ref b5, .ref b6, .ref b7, .ref b8, .ref b9, .ref b10, .ref b11, .ref b12, .ref b13, .ref b14])), (a2, .inl (cI, 16, .inl f2)), (a3, .inl (cI, 16, .inl f3)), (a4, .inl (cI, 16, .inl f4)), (a5, .inl (cI, 16, .inl f5)), (a6, .inl (cI, 16, .inl f6)), (a7, .inl (cI, 16, .inl f7)), (a8, .inl (cI, 16, .inl f8)), (a9, .inl (cI, 6, .inl f9)), (a10, .inl (cI, 288, .inl f10)), (a11, .inl (cI, 30, .inl f11)), (a12, .inl (cI, 6, .inl f12)), (a13, .inl (cI, 4, .inl f13)), (a14, .inl (cI, 7, .inl f14)), (b2, .inl (cI, 16, .inl g2)), (b3, .inl (cI, 16, .inl g3)), (b4, .inl (cI, 16, .inl g4)), (b5, .inl (cI, 16, .inl g5)), (b6, .inl (cI, 16, .inl g6)), (b7, .inl (cI, 16, .inl g7)), (b8, .inl (cI, 16, .inl g8)), (b9, .inl (cI, 6, .inl g9)), (b10, .inl (cI, 288, .inl g10)), (b11, .inl (cI, 30, .inl g11)), (b12, .inl (cI, 6, .inl g12)), (b13, .inl (cI, 4, .inl g13)), (b14, .inl (cI, 7, .inl g14))] sz)) 0 0 (va_A [(h0, .inr (0, [.int lc, .int ln, .ref a2, .ref a3, .ref a4, .ref a5, .ref a6, .ref a7, .ref a8, .ref a9, .ref a10, .ref a11, .ref a12, .ref a13, .ref a14])), (h1, .inr (0, [.int mc, .int mn, .ref b2, .ref b3, .ref b4, .ref b5, .ref b6, .ref b7, .ref b8, .ref b9, .ref b10, .ref b11, .ref b12, .ref b13, .ref b14])), (a2, .inl (cI, 16, .inl f2)), (a3, .inl (cI, 16, .inl f3)), (a4, .inl (cI, 16, .inl f4)), (a5, .inl (cI, 16, .inl f5)), (a6, .inl (cI, 16, .inl f6)), (a7, .inl (cI, 16, .inl f7)), (a8, .inl (cI, 16, .inl f8)), (a9, .inl (cI, 6, .inl f9)), (a10, .inl (cI, 288, .inl f10)), (a11, .inl (cI, 30, .inl f11)), (a12, .inl (cI, 6, .inl f12)), (a13, .inl (cI, 4, .inl f13)), (a14, .inl (cI, 7, .inl f14)), (b2, .inl (cI, 16, .inl g2)), (b3, .inl (cI, 16, .inl g3)), (b4, .inl (cI, 16, .inl g4)), (b5, .inl (cI, 16, .inl g5)), (b6, .inl (cI, 16, .inl g6)), (b7, .inl (cI, 16, .inl g7)), (b8, .inl (cI, 16, .inl g8)), (b9, .inl (cI, 6, .inl g9)), (b10, .inl (cI, 288, .inl g10)), (b11, .inl (cI, 30, .inl g11)), (b12, .inl (cI, 6, .inl g12)), (b13, .inl (cI, 4, .inl g13)), (b14, .inl (cI, 7, .inl g14))] sz) := by
  refine Met.ofW (cc := cX0_take) (maxL := 2) (ret := none) (by decide) rfl ?_
  intro p e s m args below meth c s₁ B hml hv
  obtain ⟨rfl, hsz, hP, ⟨hK, hN⟩, hD0⟩ := hv
  have hx := B.exec
  have hb := B.bytes
  have hr := B.returns
  have hts := atoms_spec (ws := wk_k_take) B.pre
  have hown : s.vm.findClass RX0 = some m.cls := findClass_of_methodNamed B.named
  have hlocks := B.notSynchronized
  subst hsz
  have hD := hD0.self (sz := s.heap.size)
  generalize hAe : va_A [(h0, .inr (0, [.int lc, .int ln, .ref a2, .ref a3, .ref a4, .ref a5, .ref a6, .ref a7, .ref a8, .ref a9, .ref a10, .ref a11, .ref a12, .ref a13, .ref a14])), (h1, .inr (0, [.int mc, .int mn, .ref b2, .ref b3, .ref b4, .ref b5, .ref b6, .ref b7, .ref b8, .ref b9, .ref b10, .ref b11, .ref b12, .ref b13, .ref b14])), (a2, .inl (cI, 16, .inl f2)), (a3, .inl (cI, 16, .inl f3)), (a4, .inl (cI, 16, .inl f4)), (a5, .inl (cI, 16, .inl f5)), (a6, .inl (cI, 16, .inl f6)), (a7, .inl (cI, 16, .inl f7)), (a8, .inl (cI, 16, .inl f8)), (a9, .inl (cI, 6, .inl f9)), (a10, .inl (cI, 288, .inl f10)), (a11, .inl (cI, 30, .inl f11)), (a12, .inl (cI, 6, .inl f12)), (a13, .inl (cI, 4, .inl f13)), (a14, .inl (cI, 7, .inl f14)), (b2, .inl (cI, 16, .inl g2)), (b3, .inl (cI, 16, .inl g3)), (b4, .inl (cI, 16, .inl g4)), (b5, .inl (cI, 16, .inl g5)), (b6, .inl (cI, 16, .inl g6)), (b7, .inl (cI, 16, .inl g7)), (b8, .inl (cI, 16, .inl g8)), (b9, .inl (cI, 6, .inl g9)), (b10, .inl (cI, 288, .inl g10)), (b11, .inl (cI, 30, .inl g11)), (b12, .inl (cI, 6, .inl g12)), (b13, .inl (cI, 4, .inl g13)), (b14, .inl (cI, 7, .inl g14))] s.heap.size = A at hD ⊢
  have hA : ∀ q : Nat, s.heap.size ≤ q → A q := fun q h => by rw [← hAe]; exact Or.inr h
  have hS : va_S A s.heap s.heap [] := va_S.rf
  have hP : va_P D vwCl [(h0, .inr (0, [.int lc, .int ln, .ref a2, .ref a3, .ref a4, .ref a5, .ref a6, .ref a7, .ref a8, .ref a9, .ref a10, .ref a11, .ref a12, .ref a13, .ref a14])), (h1, .inr (0, [.int mc, .int mn, .ref b2, .ref b3, .ref b4, .ref b5, .ref b6, .ref b7, .ref b8, .ref b9, .ref b10, .ref b11, .ref b12, .ref b13, .ref b14])), (a2, .inl (cI, 16, .inl f2)), (a3, .inl (cI, 16, .inl f3)), (a4, .inl (cI, 16, .inl f4)), (a5, .inl (cI, 16, .inl f5)), (a6, .inl (cI, 16, .inl f6)), (a7, .inl (cI, 16, .inl f7)), (a8, .inl (cI, 16, .inl f8)), (a9, .inl (cI, 6, .inl f9)), (a10, .inl (cI, 288, .inl f10)), (a11, .inl (cI, 30, .inl f11)), (a12, .inl (cI, 6, .inl f12)), (a13, .inl (cI, 4, .inl f13)), (a14, .inl (cI, 7, .inl f14)), (b2, .inl (cI, 16, .inl g2)), (b3, .inl (cI, 16, .inl g3)), (b4, .inl (cI, 16, .inl g4)), (b5, .inl (cI, 16, .inl g5)), (b6, .inl (cI, 16, .inl g6)), (b7, .inl (cI, 16, .inl g7)), (b8, .inl (cI, 16, .inl g8)), (b9, .inl (cI, 6, .inl g9)), (b10, .inl (cI, 288, .inl g10)), (b11, .inl (cI, 30, .inl g11)), (b12, .inl (cI, 6, .inl g12)), (b13, .inl (cI, 4, .inl g13)), (b14, .inl (cI, 7, .inl g14))] s.heap := hP
  have hl := lv_entry ([.ref h0, .ref h1]) (n := 2) (Nat.le_of_ble_eq_true rfl)
  rw [lg_entry_eq]
  generalize (lg_sl ([.ref h0, .ref h1]) ++ List.replicate (2 - (lg_sl ([.ref h0, .ref h1])).length) Slot.unset).toArray = ls at hl ⊢
  have hl : lv_has ls 2 [(0, .ref h0), (1, .ref h1)] := hl
  refine lv_aload_n hx hb dX0_take_0 rfl (lv_at hl 0 rfl) ?_
  refine lv_aload_n hx hb dX0_take_1 rfl (lv_at hl 1 rfl) ?_
  refine va_get (D := D) (ci := 0) (v := .int mc) (C := RX0) (T := TX0) (N := 15) hx hb hts iw_k_take_0 hown hK hP 1 rfl rfl 0 (by decide) (hts (.fieldLink RX0 54 "FlightDesk$Book" "legCount" "I") (by decide +kernel)) (fun _ h9 => h9) rfl dX0_take_2 ?_
  refine va_put (D := D) (ci := 0) (v := .int mc) (ty := .int) (C := RX0) (T := TX0) (N := 15) hx hb hts iw_k_take_0 tyX0 tyX0_ok nmX0 hown hK hP hD hS 0 rfl rfl 0 (by decide) (hts (.fieldLink RX0 54 "FlightDesk$Book" "legCount" "I") (by decide +kernel)) (fun _ h9 => h9) rfl (by decide +kernel) rfl rfl (Nat.le_of_ble_eq_true rfl) dX0_take_5 (fun H locs hP hD hS => ?_)
  have hP : va_P D vwCl [(h0, .inr (0, [.int mc, .int ln, .ref a2, .ref a3, .ref a4, .ref a5, .ref a6, .ref a7, .ref a8, .ref a9, .ref a10, .ref a11, .ref a12, .ref a13, .ref a14])), (h1, .inr (0, [.int mc, .int mn, .ref b2, .ref b3, .ref b4, .ref b5, .ref b6, .ref b7, .ref b8, .ref b9, .ref b10, .ref b11, .ref b12, .ref b13, .ref b14])), (a2, .inl (cI, 16, .inl f2)), (a3, .inl (cI, 16, .inl f3)), (a4, .inl (cI, 16, .inl f4)), (a5, .inl (cI, 16, .inl f5)), (a6, .inl (cI, 16, .inl f6)), (a7, .inl (cI, 16, .inl f7)), (a8, .inl (cI, 16, .inl f8)), (a9, .inl (cI, 6, .inl f9)), (a10, .inl (cI, 288, .inl f10)), (a11, .inl (cI, 30, .inl f11)), (a12, .inl (cI, 6, .inl f12)), (a13, .inl (cI, 4, .inl f13)), (a14, .inl (cI, 7, .inl f14)), (b2, .inl (cI, 16, .inl g2)), (b3, .inl (cI, 16, .inl g3)), (b4, .inl (cI, 16, .inl g4)), (b5, .inl (cI, 16, .inl g5)), (b6, .inl (cI, 16, .inl g6)), (b7, .inl (cI, 16, .inl g7)), (b8, .inl (cI, 16, .inl g8)), (b9, .inl (cI, 6, .inl g9)), (b10, .inl (cI, 288, .inl g10)), (b11, .inl (cI, 30, .inl g11)), (b12, .inl (cI, 6, .inl g12)), (b13, .inl (cI, 4, .inl g13)), (b14, .inl (cI, 7, .inl g14))] H := hP
  have hD : va_D A [(h0, .inr (0, [.int mc, .int ln, .ref a2, .ref a3, .ref a4, .ref a5, .ref a6, .ref a7, .ref a8, .ref a9, .ref a10, .ref a11, .ref a12, .ref a13, .ref a14])), (h1, .inr (0, [.int mc, .int mn, .ref b2, .ref b3, .ref b4, .ref b5, .ref b6, .ref b7, .ref b8, .ref b9, .ref b10, .ref b11, .ref b12, .ref b13, .ref b14])), (a2, .inl (cI, 16, .inl f2)), (a3, .inl (cI, 16, .inl f3)), (a4, .inl (cI, 16, .inl f4)), (a5, .inl (cI, 16, .inl f5)), (a6, .inl (cI, 16, .inl f6)), (a7, .inl (cI, 16, .inl f7)), (a8, .inl (cI, 16, .inl f8)), (a9, .inl (cI, 6, .inl f9)), (a10, .inl (cI, 288, .inl f10)), (a11, .inl (cI, 30, .inl f11)), (a12, .inl (cI, 6, .inl f12)), (a13, .inl (cI, 4, .inl f13)), (a14, .inl (cI, 7, .inl f14)), (b2, .inl (cI, 16, .inl g2)), (b3, .inl (cI, 16, .inl g3)), (b4, .inl (cI, 16, .inl g4)), (b5, .inl (cI, 16, .inl g5)), (b6, .inl (cI, 16, .inl g6)), (b7, .inl (cI, 16, .inl g7)), (b8, .inl (cI, 16, .inl g8)), (b9, .inl (cI, 6, .inl g9)), (b10, .inl (cI, 288, .inl g10)), (b11, .inl (cI, 30, .inl g11)), (b12, .inl (cI, 6, .inl g12)), (b13, .inl (cI, 4, .inl g13)), (b14, .inl (cI, 7, .inl g14))] := hD
  refine lv_aload_n hx hb dX0_take_8 rfl (lv_at hl 0 rfl) ?_
  refine lv_aload_n hx hb dX0_take_9 rfl (lv_at hl 1 rfl) ?_
  refine va_get (D := D) (ci := 0) (v := .int mn) (C := RX0) (T := TX0) (N := 15) hx hb hts iw_k_take_0 hown hK hP 1 rfl rfl 1 (by decide) (hts (.fieldLink RX0 58 "FlightDesk$Book" "lineCount" "I") (by decide +kernel)) (fun _ h9 => h9) rfl dX0_take_10 ?_
  refine va_put (D := D) (ci := 0) (v := .int mn) (ty := .int) (C := RX0) (T := TX0) (N := 15) hx hb hts iw_k_take_0 tyX0 tyX0_ok nmX0 hown hK hP hD hS 0 rfl rfl 1 (by decide) (hts (.fieldLink RX0 58 "FlightDesk$Book" "lineCount" "I") (by decide +kernel)) (fun _ h9 => h9) rfl (by decide +kernel) rfl rfl (Nat.le_of_ble_eq_true rfl) dX0_take_13 (fun H locs hP hD hS => ?_)
  have hP : va_P D vwCl [(h0, .inr (0, [.int mc, .int mn, .ref a2, .ref a3, .ref a4, .ref a5, .ref a6, .ref a7, .ref a8, .ref a9, .ref a10, .ref a11, .ref a12, .ref a13, .ref a14])), (h1, .inr (0, [.int mc, .int mn, .ref b2, .ref b3, .ref b4, .ref b5, .ref b6, .ref b7, .ref b8, .ref b9, .ref b10, .ref b11, .ref b12, .ref b13, .ref b14])), (a2, .inl (cI, 16, .inl f2)), (a3, .inl (cI, 16, .inl f3)), (a4, .inl (cI, 16, .inl f4)), (a5, .inl (cI, 16, .inl f5)), (a6, .inl (cI, 16, .inl f6)), (a7, .inl (cI, 16, .inl f7)), (a8, .inl (cI, 16, .inl f8)), (a9, .inl (cI, 6, .inl f9)), (a10, .inl (cI, 288, .inl f10)), (a11, .inl (cI, 30, .inl f11)), (a12, .inl (cI, 6, .inl f12)), (a13, .inl (cI, 4, .inl f13)), (a14, .inl (cI, 7, .inl f14)), (b2, .inl (cI, 16, .inl g2)), (b3, .inl (cI, 16, .inl g3)), (b4, .inl (cI, 16, .inl g4)), (b5, .inl (cI, 16, .inl g5)), (b6, .inl (cI, 16, .inl g6)), (b7, .inl (cI, 16, .inl g7)), (b8, .inl (cI, 16, .inl g8)), (b9, .inl (cI, 6, .inl g9)), (b10, .inl (cI, 288, .inl g10)), (b11, .inl (cI, 30, .inl g11)), (b12, .inl (cI, 6, .inl g12)), (b13, .inl (cI, 4, .inl g13)), (b14, .inl (cI, 7, .inl g14))] H := hP
  have hD : va_D A [(h0, .inr (0, [.int mc, .int mn, .ref a2, .ref a3, .ref a4, .ref a5, .ref a6, .ref a7, .ref a8, .ref a9, .ref a10, .ref a11, .ref a12, .ref a13, .ref a14])), (h1, .inr (0, [.int mc, .int mn, .ref b2, .ref b3, .ref b4, .ref b5, .ref b6, .ref b7, .ref b8, .ref b9, .ref b10, .ref b11, .ref b12, .ref b13, .ref b14])), (a2, .inl (cI, 16, .inl f2)), (a3, .inl (cI, 16, .inl f3)), (a4, .inl (cI, 16, .inl f4)), (a5, .inl (cI, 16, .inl f5)), (a6, .inl (cI, 16, .inl f6)), (a7, .inl (cI, 16, .inl f7)), (a8, .inl (cI, 16, .inl f8)), (a9, .inl (cI, 6, .inl f9)), (a10, .inl (cI, 288, .inl f10)), (a11, .inl (cI, 30, .inl f11)), (a12, .inl (cI, 6, .inl f12)), (a13, .inl (cI, 4, .inl f13)), (a14, .inl (cI, 7, .inl f14)), (b2, .inl (cI, 16, .inl g2)), (b3, .inl (cI, 16, .inl g3)), (b4, .inl (cI, 16, .inl g4)), (b5, .inl (cI, 16, .inl g5)), (b6, .inl (cI, 16, .inl g6)), (b7, .inl (cI, 16, .inl g7)), (b8, .inl (cI, 16, .inl g8)), (b9, .inl (cI, 6, .inl g9)), (b10, .inl (cI, 288, .inl g10)), (b11, .inl (cI, 30, .inl g11)), (b12, .inl (cI, 6, .inl g12)), (b13, .inl (cI, 4, .inl g13)), (b14, .inl (cI, 7, .inl g14))] := hD
  refine lv_aload_n hx hb dX0_take_16 rfl (lv_at hl 1 rfl) ?_
  refine va_get (D := D) (ci := 0) (v := .ref b2) (C := RX0) (T := TX0) (N := 15) hx hb hts iw_k_take_0 hown hK hP 1 rfl rfl 2 (by decide) (hts (.fieldLink RX0 9 "FlightDesk$Book" "from" "[I") (by decide +kernel)) (fun _ h9 => h9) rfl dX0_take_17 ?_
  refine lv_aload_n hx hb dX0_take_20 rfl (lv_at hl 0 rfl) ?_
  refine va_get (D := D) (ci := 0) (v := .ref a2) (C := RX0) (T := TX0) (N := 15) hx hb hts iw_k_take_0 hown hK hP 0 rfl rfl 2 (by decide) (hts (.fieldLink RX0 9 "FlightDesk$Book" "from" "[I") (by decide +kernel)) (fun _ h9 => h9) rfl dX0_take_21 ?_
  have hPc := hP.sub (ws' := [(b2, .inl (cI, 16, .inl g2)), (a2, .inl (cI, 16, .inl f2))]) [15, 2] rfl
  have hDc := hD.sub (ws' := [(b2, .inl (cI, 16, .inl g2)), (a2, .inl (cI, 16, .inl f2))]) [15, 2] (by decide) rfl
  have hFc := va_free (wc := [(b2, .inl (cI, 16, .inl g2)), (a2, .inl (cI, 16, .inl f2))]) hD hS hA [15, 2] rfl
  refine va_callv (va_runS (As := [.ref b2, .ref a2]) (rest := []) ⟨hx, hb, hml, hown, hts⟩ (k_copy l D cI cB cP H.size b2 a2 16 g2 f2 (by decide)) (cwS 2 hts gw_k_take_0 rfl rfl rfl (by decide +kernel) ⟨Nat.le_of_ble_eq_true rfl, Nat.le_of_ble_eq_true rfl⟩) ⟨ny_blind, ny_pre hPc hK hN hDc⟩ rfl rfl hl.1 rfl (lv_room (Nat.le_of_ble_eq_true rfl)) dX0_take_24 ⟨Nat.le_of_ble_eq_true rfl, Nat.le_of_ble_eq_true rfl⟩) hS (fun q _ h => hFc q h) hFc (fun u t H locs ht hvm hw hB hz1 hk1 hS => ?_)
  obtain ⟨g_1, hP1, hD1⟩ := hB
  rw [ht] at hP1
  obtain ⟨hP, hD⟩ := va_join (wr := [(h0, .inr (0, [.int mc, .int mn, .ref a2, .ref a3, .ref a4, .ref a5, .ref a6, .ref a7, .ref a8, .ref a9, .ref a10, .ref a11, .ref a12, .ref a13, .ref a14])), (h1, .inr (0, [.int mc, .int mn, .ref b2, .ref b3, .ref b4, .ref b5, .ref b6, .ref b7, .ref b8, .ref b9, .ref b10, .ref b11, .ref b12, .ref b13, .ref b14])), (a3, .inl (cI, 16, .inl f3)), (a4, .inl (cI, 16, .inl f4)), (a5, .inl (cI, 16, .inl f5)), (a6, .inl (cI, 16, .inl f6)), (a7, .inl (cI, 16, .inl f7)), (a8, .inl (cI, 16, .inl f8)), (a9, .inl (cI, 6, .inl f9)), (a10, .inl (cI, 288, .inl f10)), (a11, .inl (cI, 30, .inl f11)), (a12, .inl (cI, 6, .inl f12)), (a13, .inl (cI, 4, .inl f13)), (a14, .inl (cI, 7, .inl f14)), (b3, .inl (cI, 16, .inl g3)), (b4, .inl (cI, 16, .inl g4)), (b5, .inl (cI, 16, .inl g5)), (b6, .inl (cI, 16, .inl g6)), (b7, .inl (cI, 16, .inl g7)), (b8, .inl (cI, 16, .inl g8)), (b9, .inl (cI, 6, .inl g9)), (b10, .inl (cI, 288, .inl g10)), (b11, .inl (cI, 30, .inl g11)), (b12, .inl (cI, 6, .inl g12)), (b13, .inl (cI, 4, .inl g13)), (b14, .inl (cI, 7, .inl g14))]) (w1 := [(b2, .inl (cI, 16, .inl g2)), (a2, .inl (cI, 16, .inl g_1))]) hP hD [15, 2] [0, 1, 3, 4, 5, 6, 7, 8, 9, 10, 11, 12, 13, 14, 16, 17, 18, 19, 20, 21, 22, 23, 24, 25, 26, 27] rfl rfl (by decide) (by decide) hk1 hFc hP1 hD1
  have hP : va_P D vwCl [(h0, .inr (0, [.int mc, .int mn, .ref a2, .ref a3, .ref a4, .ref a5, .ref a6, .ref a7, .ref a8, .ref a9, .ref a10, .ref a11, .ref a12, .ref a13, .ref a14])), (h1, .inr (0, [.int mc, .int mn, .ref b2, .ref b3, .ref b4, .ref b5, .ref b6, .ref b7, .ref b8, .ref b9, .ref b10, .ref b11, .ref b12, .ref b13, .ref b14])), (a3, .inl (cI, 16, .inl f3)), (a4, .inl (cI, 16, .inl f4)), (a5, .inl (cI, 16, .inl f5)), (a6, .inl (cI, 16, .inl f6)), (a7, .inl (cI, 16, .inl f7)), (a8, .inl (cI, 16, .inl f8)), (a9, .inl (cI, 6, .inl f9)), (a10, .inl (cI, 288, .inl f10)), (a11, .inl (cI, 30, .inl f11)), (a12, .inl (cI, 6, .inl f12)), (a13, .inl (cI, 4, .inl f13)), (a14, .inl (cI, 7, .inl f14)), (b3, .inl (cI, 16, .inl g3)), (b4, .inl (cI, 16, .inl g4)), (b5, .inl (cI, 16, .inl g5)), (b6, .inl (cI, 16, .inl g6)), (b7, .inl (cI, 16, .inl g7)), (b8, .inl (cI, 16, .inl g8)), (b9, .inl (cI, 6, .inl g9)), (b10, .inl (cI, 288, .inl g10)), (b11, .inl (cI, 30, .inl g11)), (b12, .inl (cI, 6, .inl g12)), (b13, .inl (cI, 4, .inl g13)), (b14, .inl (cI, 7, .inl g14)), (b2, .inl (cI, 16, .inl g2)), (a2, .inl (cI, 16, .inl g_1))] H := hP
  have hD : va_D A [(h0, .inr (0, [.int mc, .int mn, .ref a2, .ref a3, .ref a4, .ref a5, .ref a6, .ref a7, .ref a8, .ref a9, .ref a10, .ref a11, .ref a12, .ref a13, .ref a14])), (h1, .inr (0, [.int mc, .int mn, .ref b2, .ref b3, .ref b4, .ref b5, .ref b6, .ref b7, .ref b8, .ref b9, .ref b10, .ref b11, .ref b12, .ref b13, .ref b14])), (a3, .inl (cI, 16, .inl f3)), (a4, .inl (cI, 16, .inl f4)), (a5, .inl (cI, 16, .inl f5)), (a6, .inl (cI, 16, .inl f6)), (a7, .inl (cI, 16, .inl f7)), (a8, .inl (cI, 16, .inl f8)), (a9, .inl (cI, 6, .inl f9)), (a10, .inl (cI, 288, .inl f10)), (a11, .inl (cI, 30, .inl f11)), (a12, .inl (cI, 6, .inl f12)), (a13, .inl (cI, 4, .inl f13)), (a14, .inl (cI, 7, .inl f14)), (b3, .inl (cI, 16, .inl g3)), (b4, .inl (cI, 16, .inl g4)), (b5, .inl (cI, 16, .inl g5)), (b6, .inl (cI, 16, .inl g6)), (b7, .inl (cI, 16, .inl g7)), (b8, .inl (cI, 16, .inl g8)), (b9, .inl (cI, 6, .inl g9)), (b10, .inl (cI, 288, .inl g10)), (b11, .inl (cI, 30, .inl g11)), (b12, .inl (cI, 6, .inl g12)), (b13, .inl (cI, 4, .inl g13)), (b14, .inl (cI, 7, .inl g14)), (b2, .inl (cI, 16, .inl g2)), (a2, .inl (cI, 16, .inl g_1))] := hD
  refine lv_aload_n hx hb dX0_take_27 rfl (lv_at hl 1 rfl) ?_
  refine va_get (D := D) (ci := 0) (v := .ref b3) (C := RX0) (T := TX0) (N := 15) hx hb hts iw_k_take_0 hown hK hP 1 rfl rfl 3 (by decide) (hts (.fieldLink RX0 15 "FlightDesk$Book" "to" "[I") (by decide +kernel)) (fun _ h9 => h9) rfl dX0_take_28 ?_
  refine lv_aload_n hx hb dX0_take_31 rfl (lv_at hl 0 rfl) ?_
  refine va_get (D := D) (ci := 0) (v := .ref a3) (C := RX0) (T := TX0) (N := 15) hx hb hts iw_k_take_0 hown hK hP 0 rfl rfl 3 (by decide) (hts (.fieldLink RX0 15 "FlightDesk$Book" "to" "[I") (by decide +kernel)) (fun _ h9 => h9) rfl dX0_take_32 ?_
  have hPc := hP.sub (ws' := [(b3, .inl (cI, 16, .inl g3)), (a3, .inl (cI, 16, .inl f3))]) [14, 2] rfl
  have hDc := hD.sub (ws' := [(b3, .inl (cI, 16, .inl g3)), (a3, .inl (cI, 16, .inl f3))]) [14, 2] (by decide) rfl
  have hFc := va_free (wc := [(b3, .inl (cI, 16, .inl g3)), (a3, .inl (cI, 16, .inl f3))]) hD hS hA [14, 2] rfl
  refine va_callv (va_runS (As := [.ref b3, .ref a3]) (rest := []) ⟨hx, hb, hml, hown, hts⟩ (k_copy l D cI cB cP H.size b3 a3 16 g3 f3 (by decide)) (cwS 2 hts gw_k_take_0 rfl rfl rfl (by decide +kernel) ⟨Nat.le_of_ble_eq_true rfl, Nat.le_of_ble_eq_true rfl⟩) ⟨ny_blind, ny_pre hPc hK hN hDc⟩ rfl rfl hl.1 rfl (lv_room (Nat.le_of_ble_eq_true rfl)) dX0_take_35 ⟨Nat.le_of_ble_eq_true rfl, Nat.le_of_ble_eq_true rfl⟩) hS (fun q _ h => hFc q h) hFc (fun u t H locs ht hvm hw hB hz1 hk1 hS => ?_)
  obtain ⟨g_3, hP1, hD1⟩ := hB
  rw [ht] at hP1
  obtain ⟨hP, hD⟩ := va_join (wr := [(h0, .inr (0, [.int mc, .int mn, .ref a2, .ref a3, .ref a4, .ref a5, .ref a6, .ref a7, .ref a8, .ref a9, .ref a10, .ref a11, .ref a12, .ref a13, .ref a14])), (h1, .inr (0, [.int mc, .int mn, .ref b2, .ref b3, .ref b4, .ref b5, .ref b6, .ref b7, .ref b8, .ref b9, .ref b10, .ref b11, .ref b12, .ref b13, .ref b14])), (a4, .inl (cI, 16, .inl f4)), (a5, .inl (cI, 16, .inl f5)), (a6, .inl (cI, 16, .inl f6)), (a7, .inl (cI, 16, .inl f7)), (a8, .inl (cI, 16, .inl f8)), (a9, .inl (cI, 6, .inl f9)), (a10, .inl (cI, 288, .inl f10)), (a11, .inl (cI, 30, .inl f11)), (a12, .inl (cI, 6, .inl f12)), (a13, .inl (cI, 4, .inl f13)), (a14, .inl (cI, 7, .inl f14)), (b4, .inl (cI, 16, .inl g4)), (b5, .inl (cI, 16, .inl g5)), (b6, .inl (cI, 16, .inl g6)), (b7, .inl (cI, 16, .inl g7)), (b8, .inl (cI, 16, .inl g8)), (b9, .inl (cI, 6, .inl g9)), (b10, .inl (cI, 288, .inl g10)), (b11, .inl (cI, 30, .inl g11)), (b12, .inl (cI, 6, .inl g12)), (b13, .inl (cI, 4, .inl g13)), (b14, .inl (cI, 7, .inl g14)), (b2, .inl (cI, 16, .inl g2)), (a2, .inl (cI, 16, .inl g_1))]) (w1 := [(b3, .inl (cI, 16, .inl g3)), (a3, .inl (cI, 16, .inl g_3))]) hP hD [14, 2] [0, 1, 3, 4, 5, 6, 7, 8, 9, 10, 11, 12, 13, 15, 16, 17, 18, 19, 20, 21, 22, 23, 24, 25, 26, 27] rfl rfl (by decide) (by decide) hk1 hFc hP1 hD1
  have hP : va_P D vwCl [(h0, .inr (0, [.int mc, .int mn, .ref a2, .ref a3, .ref a4, .ref a5, .ref a6, .ref a7, .ref a8, .ref a9, .ref a10, .ref a11, .ref a12, .ref a13, .ref a14])), (h1, .inr (0, [.int mc, .int mn, .ref b2, .ref b3, .ref b4, .ref b5, .ref b6, .ref b7, .ref b8, .ref b9, .ref b10, .ref b11, .ref b12, .ref b13, .ref b14])), (a4, .inl (cI, 16, .inl f4)), (a5, .inl (cI, 16, .inl f5)), (a6, .inl (cI, 16, .inl f6)), (a7, .inl (cI, 16, .inl f7)), (a8, .inl (cI, 16, .inl f8)), (a9, .inl (cI, 6, .inl f9)), (a10, .inl (cI, 288, .inl f10)), (a11, .inl (cI, 30, .inl f11)), (a12, .inl (cI, 6, .inl f12)), (a13, .inl (cI, 4, .inl f13)), (a14, .inl (cI, 7, .inl f14)), (b4, .inl (cI, 16, .inl g4)), (b5, .inl (cI, 16, .inl g5)), (b6, .inl (cI, 16, .inl g6)), (b7, .inl (cI, 16, .inl g7)), (b8, .inl (cI, 16, .inl g8)), (b9, .inl (cI, 6, .inl g9)), (b10, .inl (cI, 288, .inl g10)), (b11, .inl (cI, 30, .inl g11)), (b12, .inl (cI, 6, .inl g12)), (b13, .inl (cI, 4, .inl g13)), (b14, .inl (cI, 7, .inl g14)), (b2, .inl (cI, 16, .inl g2)), (a2, .inl (cI, 16, .inl g_1)), (b3, .inl (cI, 16, .inl g3)), (a3, .inl (cI, 16, .inl g_3))] H := hP
  have hD : va_D A [(h0, .inr (0, [.int mc, .int mn, .ref a2, .ref a3, .ref a4, .ref a5, .ref a6, .ref a7, .ref a8, .ref a9, .ref a10, .ref a11, .ref a12, .ref a13, .ref a14])), (h1, .inr (0, [.int mc, .int mn, .ref b2, .ref b3, .ref b4, .ref b5, .ref b6, .ref b7, .ref b8, .ref b9, .ref b10, .ref b11, .ref b12, .ref b13, .ref b14])), (a4, .inl (cI, 16, .inl f4)), (a5, .inl (cI, 16, .inl f5)), (a6, .inl (cI, 16, .inl f6)), (a7, .inl (cI, 16, .inl f7)), (a8, .inl (cI, 16, .inl f8)), (a9, .inl (cI, 6, .inl f9)), (a10, .inl (cI, 288, .inl f10)), (a11, .inl (cI, 30, .inl f11)), (a12, .inl (cI, 6, .inl f12)), (a13, .inl (cI, 4, .inl f13)), (a14, .inl (cI, 7, .inl f14)), (b4, .inl (cI, 16, .inl g4)), (b5, .inl (cI, 16, .inl g5)), (b6, .inl (cI, 16, .inl g6)), (b7, .inl (cI, 16, .inl g7)), (b8, .inl (cI, 16, .inl g8)), (b9, .inl (cI, 6, .inl g9)), (b10, .inl (cI, 288, .inl g10)), (b11, .inl (cI, 30, .inl g11)), (b12, .inl (cI, 6, .inl g12)), (b13, .inl (cI, 4, .inl g13)), (b14, .inl (cI, 7, .inl g14)), (b2, .inl (cI, 16, .inl g2)), (a2, .inl (cI, 16, .inl g_1)), (b3, .inl (cI, 16, .inl g3)), (a3, .inl (cI, 16, .inl g_3))] := hD
  refine lv_aload_n hx hb dX0_take_38 rfl (lv_at hl 1 rfl) ?_
  refine va_get (D := D) (ci := 0) (v := .ref b4) (C := RX0) (T := TX0) (N := 15) hx hb hts iw_k_take_0 hown hK hP 1 rfl rfl 4 (by decide) (hts (.fieldLink RX0 18 "FlightDesk$Book" "miles" "[I") (by decide +kernel)) (fun _ h9 => h9) rfl dX0_take_39 ?_
  refine lv_aload_n hx hb dX0_take_42 rfl (lv_at hl 0 rfl) ?_
  refine va_get (D := D) (ci := 0) (v := .ref a4) (C := RX0) (T := TX0) (N := 15) hx hb hts iw_k_take_0 hown hK hP 0 rfl rfl 4 (by decide) (hts (.fieldLink RX0 18 "FlightDesk$Book" "miles" "[I") (by decide +kernel)) (fun _ h9 => h9) rfl dX0_take_43 ?_
  have hPc := hP.sub (ws' := [(b4, .inl (cI, 16, .inl g4)), (a4, .inl (cI, 16, .inl f4))]) [13, 2] rfl
  have hDc := hD.sub (ws' := [(b4, .inl (cI, 16, .inl g4)), (a4, .inl (cI, 16, .inl f4))]) [13, 2] (by decide) rfl
  have hFc := va_free (wc := [(b4, .inl (cI, 16, .inl g4)), (a4, .inl (cI, 16, .inl f4))]) hD hS hA [13, 2] rfl
  refine va_callv (va_runS (As := [.ref b4, .ref a4]) (rest := []) ⟨hx, hb, hml, hown, hts⟩ (k_copy l D cI cB cP H.size b4 a4 16 g4 f4 (by decide)) (cwS 2 hts gw_k_take_0 rfl rfl rfl (by decide +kernel) ⟨Nat.le_of_ble_eq_true rfl, Nat.le_of_ble_eq_true rfl⟩) ⟨ny_blind, ny_pre hPc hK hN hDc⟩ rfl rfl hl.1 rfl (lv_room (Nat.le_of_ble_eq_true rfl)) dX0_take_46 ⟨Nat.le_of_ble_eq_true rfl, Nat.le_of_ble_eq_true rfl⟩) hS (fun q _ h => hFc q h) hFc (fun u t H locs ht hvm hw hB hz1 hk1 hS => ?_)
  obtain ⟨g_5, hP1, hD1⟩ := hB
  rw [ht] at hP1
  obtain ⟨hP, hD⟩ := va_join (wr := [(h0, .inr (0, [.int mc, .int mn, .ref a2, .ref a3, .ref a4, .ref a5, .ref a6, .ref a7, .ref a8, .ref a9, .ref a10, .ref a11, .ref a12, .ref a13, .ref a14])), (h1, .inr (0, [.int mc, .int mn, .ref b2, .ref b3, .ref b4, .ref b5, .ref b6, .ref b7, .ref b8, .ref b9, .ref b10, .ref b11, .ref b12, .ref b13, .ref b14])), (a5, .inl (cI, 16, .inl f5)), (a6, .inl (cI, 16, .inl f6)), (a7, .inl (cI, 16, .inl f7)), (a8, .inl (cI, 16, .inl f8)), (a9, .inl (cI, 6, .inl f9)), (a10, .inl (cI, 288, .inl f10)), (a11, .inl (cI, 30, .inl f11)), (a12, .inl (cI, 6, .inl f12)), (a13, .inl (cI, 4, .inl f13)), (a14, .inl (cI, 7, .inl f14)), (b5, .inl (cI, 16, .inl g5)), (b6, .inl (cI, 16, .inl g6)), (b7, .inl (cI, 16, .inl g7)), (b8, .inl (cI, 16, .inl g8)), (b9, .inl (cI, 6, .inl g9)), (b10, .inl (cI, 288, .inl g10)), (b11, .inl (cI, 30, .inl g11)), (b12, .inl (cI, 6, .inl g12)), (b13, .inl (cI, 4, .inl g13)), (b14, .inl (cI, 7, .inl g14)), (b2, .inl (cI, 16, .inl g2)), (a2, .inl (cI, 16, .inl g_1)), (b3, .inl (cI, 16, .inl g3)), (a3, .inl (cI, 16, .inl g_3))]) (w1 := [(b4, .inl (cI, 16, .inl g4)), (a4, .inl (cI, 16, .inl g_5))]) hP hD [13, 2] [0, 1, 3, 4, 5, 6, 7, 8, 9, 10, 11, 12, 14, 15, 16, 17, 18, 19, 20, 21, 22, 23, 24, 25, 26, 27] rfl rfl (by decide) (by decide) hk1 hFc hP1 hD1
  have hP : va_P D vwCl [(h0, .inr (0, [.int mc, .int mn, .ref a2, .ref a3, .ref a4, .ref a5, .ref a6, .ref a7, .ref a8, .ref a9, .ref a10, .ref a11, .ref a12, .ref a13, .ref a14])), (h1, .inr (0, [.int mc, .int mn, .ref b2, .ref b3, .ref b4, .ref b5, .ref b6, .ref b7, .ref b8, .ref b9, .ref b10, .ref b11, .ref b12, .ref b13, .ref b14])), (a5, .inl (cI, 16, .inl f5)), (a6, .inl (cI, 16, .inl f6)), (a7, .inl (cI, 16, .inl f7)), (a8, .inl (cI, 16, .inl f8)), (a9, .inl (cI, 6, .inl f9)), (a10, .inl (cI, 288, .inl f10)), (a11, .inl (cI, 30, .inl f11)), (a12, .inl (cI, 6, .inl f12)), (a13, .inl (cI, 4, .inl f13)), (a14, .inl (cI, 7, .inl f14)), (b5, .inl (cI, 16, .inl g5)), (b6, .inl (cI, 16, .inl g6)), (b7, .inl (cI, 16, .inl g7)), (b8, .inl (cI, 16, .inl g8)), (b9, .inl (cI, 6, .inl g9)), (b10, .inl (cI, 288, .inl g10)), (b11, .inl (cI, 30, .inl g11)), (b12, .inl (cI, 6, .inl g12)), (b13, .inl (cI, 4, .inl g13)), (b14, .inl (cI, 7, .inl g14)), (b2, .inl (cI, 16, .inl g2)), (a2, .inl (cI, 16, .inl g_1)), (b3, .inl (cI, 16, .inl g3)), (a3, .inl (cI, 16, .inl g_3)), (b4, .inl (cI, 16, .inl g4)), (a4, .inl (cI, 16, .inl g_5))] H := hP
  have hD : va_D A [(h0, .inr (0, [.int mc, .int mn, .ref a2, .ref a3, .ref a4, .ref a5, .ref a6, .ref a7, .ref a8, .ref a9, .ref a10, .ref a11, .ref a12, .ref a13, .ref a14])), (h1, .inr (0, [.int mc, .int mn, .ref b2, .ref b3, .ref b4, .ref b5, .ref b6, .ref b7, .ref b8, .ref b9, .ref b10, .ref b11, .ref b12, .ref b13, .ref b14])), (a5, .inl (cI, 16, .inl f5)), (a6, .inl (cI, 16, .inl f6)), (a7, .inl (cI, 16, .inl f7)), (a8, .inl (cI, 16, .inl f8)), (a9, .inl (cI, 6, .inl f9)), (a10, .inl (cI, 288, .inl f10)), (a11, .inl (cI, 30, .inl f11)), (a12, .inl (cI, 6, .inl f12)), (a13, .inl (cI, 4, .inl f13)), (a14, .inl (cI, 7, .inl f14)), (b5, .inl (cI, 16, .inl g5)), (b6, .inl (cI, 16, .inl g6)), (b7, .inl (cI, 16, .inl g7)), (b8, .inl (cI, 16, .inl g8)), (b9, .inl (cI, 6, .inl g9)), (b10, .inl (cI, 288, .inl g10)), (b11, .inl (cI, 30, .inl g11)), (b12, .inl (cI, 6, .inl g12)), (b13, .inl (cI, 4, .inl g13)), (b14, .inl (cI, 7, .inl g14)), (b2, .inl (cI, 16, .inl g2)), (a2, .inl (cI, 16, .inl g_1)), (b3, .inl (cI, 16, .inl g3)), (a3, .inl (cI, 16, .inl g_3)), (b4, .inl (cI, 16, .inl g4)), (a4, .inl (cI, 16, .inl g_5))] := hD
  refine lv_aload_n hx hb dX0_take_49 rfl (lv_at hl 1 rfl) ?_
  refine va_get (D := D) (ci := 0) (v := .ref b5) (C := RX0) (T := TX0) (N := 15) hx hb hts iw_k_take_0 hown hK hP 1 rfl rfl 5 (by decide) (hts (.fieldLink RX0 21 "FlightDesk$Book" "lowest" "[I") (by decide +kernel)) (fun _ h9 => h9) rfl dX0_take_50 ?_
  refine lv_aload_n hx hb dX0_take_53 rfl (lv_at hl 0 rfl) ?_
  refine va_get (D := D) (ci := 0) (v := .ref a5) (C := RX0) (T := TX0) (N := 15) hx hb hts iw_k_take_0 hown hK hP 0 rfl rfl 5 (by decide) (hts (.fieldLink RX0 21 "FlightDesk$Book" "lowest" "[I") (by decide +kernel)) (fun _ h9 => h9) rfl dX0_take_54 ?_
  have hPc := hP.sub (ws' := [(b5, .inl (cI, 16, .inl g5)), (a5, .inl (cI, 16, .inl f5))]) [12, 2] rfl
  have hDc := hD.sub (ws' := [(b5, .inl (cI, 16, .inl g5)), (a5, .inl (cI, 16, .inl f5))]) [12, 2] (by decide) rfl
  have hFc := va_free (wc := [(b5, .inl (cI, 16, .inl g5)), (a5, .inl (cI, 16, .inl f5))]) hD hS hA [12, 2] rfl
  refine va_callv (va_runS (As := [.ref b5, .ref a5]) (rest := []) ⟨hx, hb, hml, hown, hts⟩ (k_copy l D cI cB cP H.size b5 a5 16 g5 f5 (by decide)) (cwS 2 hts gw_k_take_0 rfl rfl rfl (by decide +kernel) ⟨Nat.le_of_ble_eq_true rfl, Nat.le_of_ble_eq_true rfl⟩) ⟨ny_blind, ny_pre hPc hK hN hDc⟩ rfl rfl hl.1 rfl (lv_room (Nat.le_of_ble_eq_true rfl)) dX0_take_57 ⟨Nat.le_of_ble_eq_true rfl, Nat.le_of_ble_eq_true rfl⟩) hS (fun q _ h => hFc q h) hFc (fun u t H locs ht hvm hw hB hz1 hk1 hS => ?_)
  obtain ⟨g_7, hP1, hD1⟩ := hB
  rw [ht] at hP1
  obtain ⟨hP, hD⟩ := va_join (wr := [(h0, .inr (0, [.int mc, .int mn, .ref a2, .ref a3, .ref a4, .ref a5, .ref a6, .ref a7, .ref a8, .ref a9, .ref a10, .ref a11, .ref a12, .ref a13, .ref a14])), (h1, .inr (0, [.int mc, .int mn, .ref b2, .ref b3, .ref b4, .ref b5, .ref b6, .ref b7, .ref b8, .ref b9, .ref b10, .ref b11, .ref b12, .ref b13, .ref b14])), (a6, .inl (cI, 16, .inl f6)), (a7, .inl (cI, 16, .inl f7)), (a8, .inl (cI, 16, .inl f8)), (a9, .inl (cI, 6, .inl f9)), (a10, .inl (cI, 288, .inl f10)), (a11, .inl (cI, 30, .inl f11)), (a12, .inl (cI, 6, .inl f12)), (a13, .inl (cI, 4, .inl f13)), (a14, .inl (cI, 7, .inl f14)), (b6, .inl (cI, 16, .inl g6)), (b7, .inl (cI, 16, .inl g7)), (b8, .inl (cI, 16, .inl g8)), (b9, .inl (cI, 6, .inl g9)), (b10, .inl (cI, 288, .inl g10)), (b11, .inl (cI, 30, .inl g11)), (b12, .inl (cI, 6, .inl g12)), (b13, .inl (cI, 4, .inl g13)), (b14, .inl (cI, 7, .inl g14)), (b2, .inl (cI, 16, .inl g2)), (a2, .inl (cI, 16, .inl g_1)), (b3, .inl (cI, 16, .inl g3)), (a3, .inl (cI, 16, .inl g_3)), (b4, .inl (cI, 16, .inl g4)), (a4, .inl (cI, 16, .inl g_5))]) (w1 := [(b5, .inl (cI, 16, .inl g5)), (a5, .inl (cI, 16, .inl g_7))]) hP hD [12, 2] [0, 1, 3, 4, 5, 6, 7, 8, 9, 10, 11, 13, 14, 15, 16, 17, 18, 19, 20, 21, 22, 23, 24, 25, 26, 27] rfl rfl (by decide) (by decide) hk1 hFc hP1 hD1
  have hP : va_P D vwCl [(h0, .inr (0, [.int mc, .int mn, .ref a2, .ref a3, .ref a4, .ref a5, .ref a6, .ref a7, .ref a8, .ref a9, .ref a10, .ref a11, .ref a12, .ref a13, .ref a14])), (h1, .inr (0, [.int mc, .int mn, .ref b2, .ref b3, .ref b4, .ref b5, .ref b6, .ref b7, .ref b8, .ref b9, .ref b10, .ref b11, .ref b12, .ref b13, .ref b14])), (a6, .inl (cI, 16, .inl f6)), (a7, .inl (cI, 16, .inl f7)), (a8, .inl (cI, 16, .inl f8)), (a9, .inl (cI, 6, .inl f9)), (a10, .inl (cI, 288, .inl f10)), (a11, .inl (cI, 30, .inl f11)), (a12, .inl (cI, 6, .inl f12)), (a13, .inl (cI, 4, .inl f13)), (a14, .inl (cI, 7, .inl f14)), (b6, .inl (cI, 16, .inl g6)), (b7, .inl (cI, 16, .inl g7)), (b8, .inl (cI, 16, .inl g8)), (b9, .inl (cI, 6, .inl g9)), (b10, .inl (cI, 288, .inl g10)), (b11, .inl (cI, 30, .inl g11)), (b12, .inl (cI, 6, .inl g12)), (b13, .inl (cI, 4, .inl g13)), (b14, .inl (cI, 7, .inl g14)), (b2, .inl (cI, 16, .inl g2)), (a2, .inl (cI, 16, .inl g_1)), (b3, .inl (cI, 16, .inl g3)), (a3, .inl (cI, 16, .inl g_3)), (b4, .inl (cI, 16, .inl g4)), (a4, .inl (cI, 16, .inl g_5)), (b5, .inl (cI, 16, .inl g5)), (a5, .inl (cI, 16, .inl g_7))] H := hP
  have hD : va_D A [(h0, .inr (0, [.int mc, .int mn, .ref a2, .ref a3, .ref a4, .ref a5, .ref a6, .ref a7, .ref a8, .ref a9, .ref a10, .ref a11, .ref a12, .ref a13, .ref a14])), (h1, .inr (0, [.int mc, .int mn, .ref b2, .ref b3, .ref b4, .ref b5, .ref b6, .ref b7, .ref b8, .ref b9, .ref b10, .ref b11, .ref b12, .ref b13, .ref b14])), (a6, .inl (cI, 16, .inl f6)), (a7, .inl (cI, 16, .inl f7)), (a8, .inl (cI, 16, .inl f8)), (a9, .inl (cI, 6, .inl f9)), (a10, .inl (cI, 288, .inl f10)), (a11, .inl (cI, 30, .inl f11)), (a12, .inl (cI, 6, .inl f12)), (a13, .inl (cI, 4, .inl f13)), (a14, .inl (cI, 7, .inl f14)), (b6, .inl (cI, 16, .inl g6)), (b7, .inl (cI, 16, .inl g7)), (b8, .inl (cI, 16, .inl g8)), (b9, .inl (cI, 6, .inl g9)), (b10, .inl (cI, 288, .inl g10)), (b11, .inl (cI, 30, .inl g11)), (b12, .inl (cI, 6, .inl g12)), (b13, .inl (cI, 4, .inl g13)), (b14, .inl (cI, 7, .inl g14)), (b2, .inl (cI, 16, .inl g2)), (a2, .inl (cI, 16, .inl g_1)), (b3, .inl (cI, 16, .inl g3)), (a3, .inl (cI, 16, .inl g_3)), (b4, .inl (cI, 16, .inl g4)), (a4, .inl (cI, 16, .inl g_5)), (b5, .inl (cI, 16, .inl g5)), (a5, .inl (cI, 16, .inl g_7))] := hD
  refine lv_aload_n hx hb dX0_take_60 rfl (lv_at hl 1 rfl) ?_
  refine va_get (D := D) (ci := 0) (v := .ref b6) (C := RX0) (T := TX0) (N := 15) hx hb hts iw_k_take_0 hown hK hP 1 rfl rfl 6 (by decide) (hts (.fieldLink RX0 24 "FlightDesk$Book" "highest" "[I") (by decide +kernel)) (fun _ h9 => h9) rfl dX0_take_61 ?_
  refine lv_aload_n hx hb dX0_take_64 rfl (lv_at hl 0 rfl) ?_
  refine va_get (D := D) (ci := 0) (v := .ref a6) (C := RX0) (T := TX0) (N := 15) hx hb hts iw_k_take_0 hown hK hP 0 rfl rfl 6 (by decide) (hts (.fieldLink RX0 24 "FlightDesk$Book" "highest" "[I") (by decide +kernel)) (fun _ h9 => h9) rfl dX0_take_65 ?_
  have hPc := hP.sub (ws' := [(b6, .inl (cI, 16, .inl g6)), (a6, .inl (cI, 16, .inl f6))]) [11, 2] rfl
  have hDc := hD.sub (ws' := [(b6, .inl (cI, 16, .inl g6)), (a6, .inl (cI, 16, .inl f6))]) [11, 2] (by decide) rfl
  have hFc := va_free (wc := [(b6, .inl (cI, 16, .inl g6)), (a6, .inl (cI, 16, .inl f6))]) hD hS hA [11, 2] rfl
  refine va_callv (va_runS (As := [.ref b6, .ref a6]) (rest := []) ⟨hx, hb, hml, hown, hts⟩ (k_copy l D cI cB cP H.size b6 a6 16 g6 f6 (by decide)) (cwS 2 hts gw_k_take_0 rfl rfl rfl (by decide +kernel) ⟨Nat.le_of_ble_eq_true rfl, Nat.le_of_ble_eq_true rfl⟩) ⟨ny_blind, ny_pre hPc hK hN hDc⟩ rfl rfl hl.1 rfl (lv_room (Nat.le_of_ble_eq_true rfl)) dX0_take_68 ⟨Nat.le_of_ble_eq_true rfl, Nat.le_of_ble_eq_true rfl⟩) hS (fun q _ h => hFc q h) hFc (fun u t H locs ht hvm hw hB hz1 hk1 hS => ?_)
  obtain ⟨g_9, hP1, hD1⟩ := hB
  rw [ht] at hP1
  obtain ⟨hP, hD⟩ := va_join (wr := [(h0, .inr (0, [.int mc, .int mn, .ref a2, .ref a3, .ref a4, .ref a5, .ref a6, .ref a7, .ref a8, .ref a9, .ref a10, .ref a11, .ref a12, .ref a13, .ref a14])), (h1, .inr (0, [.int mc, .int mn, .ref b2, .ref b3, .ref b4, .ref b5, .ref b6, .ref b7, .ref b8, .ref b9, .ref b10, .ref b11, .ref b12, .ref b13, .ref b14])), (a7, .inl (cI, 16, .inl f7)), (a8, .inl (cI, 16, .inl f8)), (a9, .inl (cI, 6, .inl f9)), (a10, .inl (cI, 288, .inl f10)), (a11, .inl (cI, 30, .inl f11)), (a12, .inl (cI, 6, .inl f12)), (a13, .inl (cI, 4, .inl f13)), (a14, .inl (cI, 7, .inl f14)), (b7, .inl (cI, 16, .inl g7)), (b8, .inl (cI, 16, .inl g8)), (b9, .inl (cI, 6, .inl g9)), (b10, .inl (cI, 288, .inl g10)), (b11, .inl (cI, 30, .inl g11)), (b12, .inl (cI, 6, .inl g12)), (b13, .inl (cI, 4, .inl g13)), (b14, .inl (cI, 7, .inl g14)), (b2, .inl (cI, 16, .inl g2)), (a2, .inl (cI, 16, .inl g_1)), (b3, .inl (cI, 16, .inl g3)), (a3, .inl (cI, 16, .inl g_3)), (b4, .inl (cI, 16, .inl g4)), (a4, .inl (cI, 16, .inl g_5)), (b5, .inl (cI, 16, .inl g5)), (a5, .inl (cI, 16, .inl g_7))]) (w1 := [(b6, .inl (cI, 16, .inl g6)), (a6, .inl (cI, 16, .inl g_9))]) hP hD [11, 2] [0, 1, 3, 4, 5, 6, 7, 8, 9, 10, 12, 13, 14, 15, 16, 17, 18, 19, 20, 21, 22, 23, 24, 25, 26, 27] rfl rfl (by decide) (by decide) hk1 hFc hP1 hD1
  have hP : va_P D vwCl [(h0, .inr (0, [.int mc, .int mn, .ref a2, .ref a3, .ref a4, .ref a5, .ref a6, .ref a7, .ref a8, .ref a9, .ref a10, .ref a11, .ref a12, .ref a13, .ref a14])), (h1, .inr (0, [.int mc, .int mn, .ref b2, .ref b3, .ref b4, .ref b5, .ref b6, .ref b7, .ref b8, .ref b9, .ref b10, .ref b11, .ref b12, .ref b13, .ref b14])), (a7, .inl (cI, 16, .inl f7)), (a8, .inl (cI, 16, .inl f8)), (a9, .inl (cI, 6, .inl f9)), (a10, .inl (cI, 288, .inl f10)), (a11, .inl (cI, 30, .inl f11)), (a12, .inl (cI, 6, .inl f12)), (a13, .inl (cI, 4, .inl f13)), (a14, .inl (cI, 7, .inl f14)), (b7, .inl (cI, 16, .inl g7)), (b8, .inl (cI, 16, .inl g8)), (b9, .inl (cI, 6, .inl g9)), (b10, .inl (cI, 288, .inl g10)), (b11, .inl (cI, 30, .inl g11)), (b12, .inl (cI, 6, .inl g12)), (b13, .inl (cI, 4, .inl g13)), (b14, .inl (cI, 7, .inl g14)), (b2, .inl (cI, 16, .inl g2)), (a2, .inl (cI, 16, .inl g_1)), (b3, .inl (cI, 16, .inl g3)), (a3, .inl (cI, 16, .inl g_3)), (b4, .inl (cI, 16, .inl g4)), (a4, .inl (cI, 16, .inl g_5)), (b5, .inl (cI, 16, .inl g5)), (a5, .inl (cI, 16, .inl g_7)), (b6, .inl (cI, 16, .inl g6)), (a6, .inl (cI, 16, .inl g_9))] H := hP
  have hD : va_D A [(h0, .inr (0, [.int mc, .int mn, .ref a2, .ref a3, .ref a4, .ref a5, .ref a6, .ref a7, .ref a8, .ref a9, .ref a10, .ref a11, .ref a12, .ref a13, .ref a14])), (h1, .inr (0, [.int mc, .int mn, .ref b2, .ref b3, .ref b4, .ref b5, .ref b6, .ref b7, .ref b8, .ref b9, .ref b10, .ref b11, .ref b12, .ref b13, .ref b14])), (a7, .inl (cI, 16, .inl f7)), (a8, .inl (cI, 16, .inl f8)), (a9, .inl (cI, 6, .inl f9)), (a10, .inl (cI, 288, .inl f10)), (a11, .inl (cI, 30, .inl f11)), (a12, .inl (cI, 6, .inl f12)), (a13, .inl (cI, 4, .inl f13)), (a14, .inl (cI, 7, .inl f14)), (b7, .inl (cI, 16, .inl g7)), (b8, .inl (cI, 16, .inl g8)), (b9, .inl (cI, 6, .inl g9)), (b10, .inl (cI, 288, .inl g10)), (b11, .inl (cI, 30, .inl g11)), (b12, .inl (cI, 6, .inl g12)), (b13, .inl (cI, 4, .inl g13)), (b14, .inl (cI, 7, .inl g14)), (b2, .inl (cI, 16, .inl g2)), (a2, .inl (cI, 16, .inl g_1)), (b3, .inl (cI, 16, .inl g3)), (a3, .inl (cI, 16, .inl g_3)), (b4, .inl (cI, 16, .inl g4)), (a4, .inl (cI, 16, .inl g_5)), (b5, .inl (cI, 16, .inl g5)), (a5, .inl (cI, 16, .inl g_7)), (b6, .inl (cI, 16, .inl g6)), (a6, .inl (cI, 16, .inl g_9))] := hD
  refine lv_aload_n hx hb dX0_take_71 rfl (lv_at hl 1 rfl) ?_
  refine va_get (D := D) (ci := 0) (v := .ref b7) (C := RX0) (T := TX0) (N := 15) hx hb hts iw_k_take_0 hown hK hP 1 rfl rfl 7 (by decide) (hts (.fieldLink RX0 27 "FlightDesk$Book" "firstDay" "[I") (by decide +kernel)) (fun _ h9 => h9) rfl dX0_take_72 ?_
  refine lv_aload_n hx hb dX0_take_75 rfl (lv_at hl 0 rfl) ?_
  refine va_get (D := D) (ci := 0) (v := .ref a7) (C := RX0) (T := TX0) (N := 15) hx hb hts iw_k_take_0 hown hK hP 0 rfl rfl 7 (by decide) (hts (.fieldLink RX0 27 "FlightDesk$Book" "firstDay" "[I") (by decide +kernel)) (fun _ h9 => h9) rfl dX0_take_76 ?_
  have hPc := hP.sub (ws' := [(b7, .inl (cI, 16, .inl g7)), (a7, .inl (cI, 16, .inl f7))]) [10, 2] rfl
  have hDc := hD.sub (ws' := [(b7, .inl (cI, 16, .inl g7)), (a7, .inl (cI, 16, .inl f7))]) [10, 2] (by decide) rfl
  have hFc := va_free (wc := [(b7, .inl (cI, 16, .inl g7)), (a7, .inl (cI, 16, .inl f7))]) hD hS hA [10, 2] rfl
  refine va_callv (va_runS (As := [.ref b7, .ref a7]) (rest := []) ⟨hx, hb, hml, hown, hts⟩ (k_copy l D cI cB cP H.size b7 a7 16 g7 f7 (by decide)) (cwS 2 hts gw_k_take_0 rfl rfl rfl (by decide +kernel) ⟨Nat.le_of_ble_eq_true rfl, Nat.le_of_ble_eq_true rfl⟩) ⟨ny_blind, ny_pre hPc hK hN hDc⟩ rfl rfl hl.1 rfl (lv_room (Nat.le_of_ble_eq_true rfl)) dX0_take_79 ⟨Nat.le_of_ble_eq_true rfl, Nat.le_of_ble_eq_true rfl⟩) hS (fun q _ h => hFc q h) hFc (fun u t H locs ht hvm hw hB hz1 hk1 hS => ?_)
  obtain ⟨g_11, hP1, hD1⟩ := hB
  rw [ht] at hP1
  obtain ⟨hP, hD⟩ := va_join (wr := [(h0, .inr (0, [.int mc, .int mn, .ref a2, .ref a3, .ref a4, .ref a5, .ref a6, .ref a7, .ref a8, .ref a9, .ref a10, .ref a11, .ref a12, .ref a13, .ref a14])), (h1, .inr (0, [.int mc, .int mn, .ref b2, .ref b3, .ref b4, .ref b5, .ref b6, .ref b7, .ref b8, .ref b9, .ref b10, .ref b11, .ref b12, .ref b13, .ref b14])), (a8, .inl (cI, 16, .inl f8)), (a9, .inl (cI, 6, .inl f9)), (a10, .inl (cI, 288, .inl f10)), (a11, .inl (cI, 30, .inl f11)), (a12, .inl (cI, 6, .inl f12)), (a13, .inl (cI, 4, .inl f13)), (a14, .inl (cI, 7, .inl f14)), (b8, .inl (cI, 16, .inl g8)), (b9, .inl (cI, 6, .inl g9)), (b10, .inl (cI, 288, .inl g10)), (b11, .inl (cI, 30, .inl g11)), (b12, .inl (cI, 6, .inl g12)), (b13, .inl (cI, 4, .inl g13)), (b14, .inl (cI, 7, .inl g14)), (b2, .inl (cI, 16, .inl g2)), (a2, .inl (cI, 16, .inl g_1)), (b3, .inl (cI, 16, .inl g3)), (a3, .inl (cI, 16, .inl g_3)), (b4, .inl (cI, 16, .inl g4)), (a4, .inl (cI, 16, .inl g_5)), (b5, .inl (cI, 16, .inl g5)), (a5, .inl (cI, 16, .inl g_7)), (b6, .inl (cI, 16, .inl g6)), (a6, .inl (cI, 16, .inl g_9))]) (w1 := [(b7, .inl (cI, 16, .inl g7)), (a7, .inl (cI, 16, .inl g_11))]) hP hD [10, 2] [0, 1, 3, 4, 5, 6, 7, 8, 9, 11, 12, 13, 14, 15, 16, 17, 18, 19, 20, 21, 22, 23, 24, 25, 26, 27] rfl rfl (by decide) (by decide) hk1 hFc hP1 hD1
  have hP : va_P D vwCl [(h0, .inr (0, [.int mc, .int mn, .ref a2, .ref a3, .ref a4, .ref a5, .ref a6, .ref a7, .ref a8, .ref a9, .ref a10, .ref a11, .ref a12, .ref a13, .ref a14])), (h1, .inr (0, [.int mc, .int mn, .ref b2, .ref b3, .ref b4, .ref b5, .ref b6, .ref b7, .ref b8, .ref b9, .ref b10, .ref b11, .ref b12, .ref b13, .ref b14])), (a8, .inl (cI, 16, .inl f8)), (a9, .inl (cI, 6, .inl f9)), (a10, .inl (cI, 288, .inl f10)), (a11, .inl (cI, 30, .inl f11)), (a12, .inl (cI, 6, .inl f12)), (a13, .inl (cI, 4, .inl f13)), (a14, .inl (cI, 7, .inl f14)), (b8, .inl (cI, 16, .inl g8)), (b9, .inl (cI, 6, .inl g9)), (b10, .inl (cI, 288, .inl g10)), (b11, .inl (cI, 30, .inl g11)), (b12, .inl (cI, 6, .inl g12)), (b13, .inl (cI, 4, .inl g13)), (b14, .inl (cI, 7, .inl g14)), (b2, .inl (cI, 16, .inl g2)), (a2, .inl (cI, 16, .inl g_1)), (b3, .inl (cI, 16, .inl g3)), (a3, .inl (cI, 16, .inl g_3)), (b4, .inl (cI, 16, .inl g4)), (a4, .inl (cI, 16, .inl g_5)), (b5, .inl (cI, 16, .inl g5)), (a5, .inl (cI, 16, .inl g_7)), (b6, .inl (cI, 16, .inl g6)), (a6, .inl (cI, 16, .inl g_9)), (b7, .inl (cI, 16, .inl g7)), (a7, .inl (cI, 16, .inl g_11))] H := hP
  have hD : va_D A [(h0, .inr (0, [.int mc, .int mn, .ref a2, .ref a3, .ref a4, .ref a5, .ref a6, .ref a7, .ref a8, .ref a9, .ref a10, .ref a11, .ref a12, .ref a13, .ref a14])), (h1, .inr (0, [.int mc, .int mn, .ref b2, .ref b3, .ref b4, .ref b5, .ref b6, .ref b7, .ref b8, .ref b9, .ref b10, .ref b11, .ref b12, .ref b13, .ref b14])), (a8, .inl (cI, 16, .inl f8)), (a9, .inl (cI, 6, .inl f9)), (a10, .inl (cI, 288, .inl f10)), (a11, .inl (cI, 30, .inl f11)), (a12, .inl (cI, 6, .inl f12)), (a13, .inl (cI, 4, .inl f13)), (a14, .inl (cI, 7, .inl f14)), (b8, .inl (cI, 16, .inl g8)), (b9, .inl (cI, 6, .inl g9)), (b10, .inl (cI, 288, .inl g10)), (b11, .inl (cI, 30, .inl g11)), (b12, .inl (cI, 6, .inl g12)), (b13, .inl (cI, 4, .inl g13)), (b14, .inl (cI, 7, .inl g14)), (b2, .inl (cI, 16, .inl g2)), (a2, .inl (cI, 16, .inl g_1)), (b3, .inl (cI, 16, .inl g3)), (a3, .inl (cI, 16, .inl g_3)), (b4, .inl (cI, 16, .inl g4)), (a4, .inl (cI, 16, .inl g_5)), (b5, .inl (cI, 16, .inl g5)), (a5, .inl (cI, 16, .inl g_7)), (b6, .inl (cI, 16, .inl g6)), (a6, .inl (cI, 16, .inl g_9)), (b7, .inl (cI, 16, .inl g7)), (a7, .inl (cI, 16, .inl g_11))] := hD
  refine lv_aload_n hx hb dX0_take_82 rfl (lv_at hl 1 rfl) ?_
  refine va_get (D := D) (ci := 0) (v := .ref b8) (C := RX0) (T := TX0) (N := 15) hx hb hts iw_k_take_0 hown hK hP 1 rfl rfl 8 (by decide) (hts (.fieldLink RX0 30 "FlightDesk$Book" "lastDay" "[I") (by decide +kernel)) (fun _ h9 => h9) rfl dX0_take_83 ?_
  refine lv_aload_n hx hb dX0_take_86 rfl (lv_at hl 0 rfl) ?_
  refine va_get (D := D) (ci := 0) (v := .ref a8) (C := RX0) (T := TX0) (N := 15) hx hb hts iw_k_take_0 hown hK hP 0 rfl rfl 8 (by decide) (hts (.fieldLink RX0 30 "FlightDesk$Book" "lastDay" "[I") (by decide +kernel)) (fun _ h9 => h9) rfl dX0_take_87 ?_
  have hPc := hP.sub (ws' := [(b8, .inl (cI, 16, .inl g8)), (a8, .inl (cI, 16, .inl f8))]) [9, 2] rfl
  have hDc := hD.sub (ws' := [(b8, .inl (cI, 16, .inl g8)), (a8, .inl (cI, 16, .inl f8))]) [9, 2] (by decide) rfl
  have hFc := va_free (wc := [(b8, .inl (cI, 16, .inl g8)), (a8, .inl (cI, 16, .inl f8))]) hD hS hA [9, 2] rfl
  refine va_callv (va_runS (As := [.ref b8, .ref a8]) (rest := []) ⟨hx, hb, hml, hown, hts⟩ (k_copy l D cI cB cP H.size b8 a8 16 g8 f8 (by decide)) (cwS 2 hts gw_k_take_0 rfl rfl rfl (by decide +kernel) ⟨Nat.le_of_ble_eq_true rfl, Nat.le_of_ble_eq_true rfl⟩) ⟨ny_blind, ny_pre hPc hK hN hDc⟩ rfl rfl hl.1 rfl (lv_room (Nat.le_of_ble_eq_true rfl)) dX0_take_90 ⟨Nat.le_of_ble_eq_true rfl, Nat.le_of_ble_eq_true rfl⟩) hS (fun q _ h => hFc q h) hFc (fun u t H locs ht hvm hw hB hz1 hk1 hS => ?_)
  obtain ⟨g_13, hP1, hD1⟩ := hB
  rw [ht] at hP1
  obtain ⟨hP, hD⟩ := va_join (wr := [(h0, .inr (0, [.int mc, .int mn, .ref a2, .ref a3, .ref a4, .ref a5, .ref a6, .ref a7, .ref a8, .ref a9, .ref a10, .ref a11, .ref a12, .ref a13, .ref a14])), (h1, .inr (0, [.int mc, .int mn, .ref b2, .ref b3, .ref b4, .ref b5, .ref b6, .ref b7, .ref b8, .ref b9, .ref b10, .ref b11, .ref b12, .ref b13, .ref b14])), (a9, .inl (cI, 6, .inl f9)), (a10, .inl (cI, 288, .inl f10)), (a11, .inl (cI, 30, .inl f11)), (a12, .inl (cI, 6, .inl f12)), (a13, .inl (cI, 4, .inl f13)), (a14, .inl (cI, 7, .inl f14)), (b9, .inl (cI, 6, .inl g9)), (b10, .inl (cI, 288, .inl g10)), (b11, .inl (cI, 30, .inl g11)), (b12, .inl (cI, 6, .inl g12)), (b13, .inl (cI, 4, .inl g13)), (b14, .inl (cI, 7, .inl g14)), (b2, .inl (cI, 16, .inl g2)), (a2, .inl (cI, 16, .inl g_1)), (b3, .inl (cI, 16, .inl g3)), (a3, .inl (cI, 16, .inl g_3)), (b4, .inl (cI, 16, .inl g4)), (a4, .inl (cI, 16, .inl g_5)), (b5, .inl (cI, 16, .inl g5)), (a5, .inl (cI, 16, .inl g_7)), (b6, .inl (cI, 16, .inl g6)), (a6, .inl (cI, 16, .inl g_9)), (b7, .inl (cI, 16, .inl g7)), (a7, .inl (cI, 16, .inl g_11))]) (w1 := [(b8, .inl (cI, 16, .inl g8)), (a8, .inl (cI, 16, .inl g_13))]) hP hD [9, 2] [0, 1, 3, 4, 5, 6, 7, 8, 10, 11, 12, 13, 14, 15, 16, 17, 18, 19, 20, 21, 22, 23, 24, 25, 26, 27] rfl rfl (by decide) (by decide) hk1 hFc hP1 hD1
  have hP : va_P D vwCl [(h0, .inr (0, [.int mc, .int mn, .ref a2, .ref a3, .ref a4, .ref a5, .ref a6, .ref a7, .ref a8, .ref a9, .ref a10, .ref a11, .ref a12, .ref a13, .ref a14])), (h1, .inr (0, [.int mc, .int mn, .ref b2, .ref b3, .ref b4, .ref b5, .ref b6, .ref b7, .ref b8, .ref b9, .ref b10, .ref b11, .ref b12, .ref b13, .ref b14])), (a9, .inl (cI, 6, .inl f9)), (a10, .inl (cI, 288, .inl f10)), (a11, .inl (cI, 30, .inl f11)), (a12, .inl (cI, 6, .inl f12)), (a13, .inl (cI, 4, .inl f13)), (a14, .inl (cI, 7, .inl f14)), (b9, .inl (cI, 6, .inl g9)), (b10, .inl (cI, 288, .inl g10)), (b11, .inl (cI, 30, .inl g11)), (b12, .inl (cI, 6, .inl g12)), (b13, .inl (cI, 4, .inl g13)), (b14, .inl (cI, 7, .inl g14)), (b2, .inl (cI, 16, .inl g2)), (a2, .inl (cI, 16, .inl g_1)), (b3, .inl (cI, 16, .inl g3)), (a3, .inl (cI, 16, .inl g_3)), (b4, .inl (cI, 16, .inl g4)), (a4, .inl (cI, 16, .inl g_5)), (b5, .inl (cI, 16, .inl g5)), (a5, .inl (cI, 16, .inl g_7)), (b6, .inl (cI, 16, .inl g6)), (a6, .inl (cI, 16, .inl g_9)), (b7, .inl (cI, 16, .inl g7)), (a7, .inl (cI, 16, .inl g_11)), (b8, .inl (cI, 16, .inl g8)), (a8, .inl (cI, 16, .inl g_13))] H := hP
  have hD : va_D A [(h0, .inr (0, [.int mc, .int mn, .ref a2, .ref a3, .ref a4, .ref a5, .ref a6, .ref a7, .ref a8, .ref a9, .ref a10, .ref a11, .ref a12, .ref a13, .ref a14])), (h1, .inr (0, [.int mc, .int mn, .ref b2, .ref b3, .ref b4, .ref b5, .ref b6, .ref b7, .ref b8, .ref b9, .ref b10, .ref b11, .ref b12, .ref b13, .ref b14])), (a9, .inl (cI, 6, .inl f9)), (a10, .inl (cI, 288, .inl f10)), (a11, .inl (cI, 30, .inl f11)), (a12, .inl (cI, 6, .inl f12)), (a13, .inl (cI, 4, .inl f13)), (a14, .inl (cI, 7, .inl f14)), (b9, .inl (cI, 6, .inl g9)), (b10, .inl (cI, 288, .inl g10)), (b11, .inl (cI, 30, .inl g11)), (b12, .inl (cI, 6, .inl g12)), (b13, .inl (cI, 4, .inl g13)), (b14, .inl (cI, 7, .inl g14)), (b2, .inl (cI, 16, .inl g2)), (a2, .inl (cI, 16, .inl g_1)), (b3, .inl (cI, 16, .inl g3)), (a3, .inl (cI, 16, .inl g_3)), (b4, .inl (cI, 16, .inl g4)), (a4, .inl (cI, 16, .inl g_5)), (b5, .inl (cI, 16, .inl g5)), (a5, .inl (cI, 16, .inl g_7)), (b6, .inl (cI, 16, .inl g6)), (a6, .inl (cI, 16, .inl g_9)), (b7, .inl (cI, 16, .inl g7)), (a7, .inl (cI, 16, .inl g_11)), (b8, .inl (cI, 16, .inl g8)), (a8, .inl (cI, 16, .inl g_13))] := hD
  refine lv_aload_n hx hb dX0_take_93 rfl (lv_at hl 1 rfl) ?_
  refine va_get (D := D) (ci := 0) (v := .ref b9) (C := RX0) (T := TX0) (N := 15) hx hb hts iw_k_take_0 hown hK hP 1 rfl rfl 9 (by decide) (hts (.fieldLink RX0 33 "FlightDesk$Book" "speed" "[I") (by decide +kernel)) (fun _ h9 => h9) rfl dX0_take_94 ?_
  refine lv_aload_n hx hb dX0_take_97 rfl (lv_at hl 0 rfl) ?_
  refine va_get (D := D) (ci := 0) (v := .ref a9) (C := RX0) (T := TX0) (N := 15) hx hb hts iw_k_take_0 hown hK hP 0 rfl rfl 9 (by decide) (hts (.fieldLink RX0 33 "FlightDesk$Book" "speed" "[I") (by decide +kernel)) (fun _ h9 => h9) rfl dX0_take_98 ?_
  have hPc := hP.sub (ws' := [(b9, .inl (cI, 6, .inl g9)), (a9, .inl (cI, 6, .inl f9))]) [8, 2] rfl
  have hDc := hD.sub (ws' := [(b9, .inl (cI, 6, .inl g9)), (a9, .inl (cI, 6, .inl f9))]) [8, 2] (by decide) rfl
  have hFc := va_free (wc := [(b9, .inl (cI, 6, .inl g9)), (a9, .inl (cI, 6, .inl f9))]) hD hS hA [8, 2] rfl
  refine va_callv (va_runS (As := [.ref b9, .ref a9]) (rest := []) ⟨hx, hb, hml, hown, hts⟩ (k_copy l D cI cB cP H.size b9 a9 6 g9 f9 (by decide)) (cwS 2 hts gw_k_take_0 rfl rfl rfl (by decide +kernel) ⟨Nat.le_of_ble_eq_true rfl, Nat.le_of_ble_eq_true rfl⟩) ⟨ny_blind, ny_pre hPc hK hN hDc⟩ rfl rfl hl.1 rfl (lv_room (Nat.le_of_ble_eq_true rfl)) dX0_take_101 ⟨Nat.le_of_ble_eq_true rfl, Nat.le_of_ble_eq_true rfl⟩) hS (fun q _ h => hFc q h) hFc (fun u t H locs ht hvm hw hB hz1 hk1 hS => ?_)
  obtain ⟨g_15, hP1, hD1⟩ := hB
  rw [ht] at hP1
  obtain ⟨hP, hD⟩ := va_join (wr := [(h0, .inr (0, [.int mc, .int mn, .ref a2, .ref a3, .ref a4, .ref a5, .ref a6, .ref a7, .ref a8, .ref a9, .ref a10, .ref a11, .ref a12, .ref a13, .ref a14])), (h1, .inr (0, [.int mc, .int mn, .ref b2, .ref b3, .ref b4, .ref b5, .ref b6, .ref b7, .ref b8, .ref b9, .ref b10, .ref b11, .ref b12, .ref b13, .ref b14])), (a10, .inl (cI, 288, .inl f10)), (a11, .inl (cI, 30, .inl f11)), (a12, .inl (cI, 6, .inl f12)), (a13, .inl (cI, 4, .inl f13)), (a14, .inl (cI, 7, .inl f14)), (b10, .inl (cI, 288, .inl g10)), (b11, .inl (cI, 30, .inl g11)), (b12, .inl (cI, 6, .inl g12)), (b13, .inl (cI, 4, .inl g13)), (b14, .inl (cI, 7, .inl g14)), (b2, .inl (cI, 16, .inl g2)), (a2, .inl (cI, 16, .inl g_1)), (b3, .inl (cI, 16, .inl g3)), (a3, .inl (cI, 16, .inl g_3)), (b4, .inl (cI, 16, .inl g4)), (a4, .inl (cI, 16, .inl g_5)), (b5, .inl (cI, 16, .inl g5)), (a5, .inl (cI, 16, .inl g_7)), (b6, .inl (cI, 16, .inl g6)), (a6, .inl (cI, 16, .inl g_9)), (b7, .inl (cI, 16, .inl g7)), (a7, .inl (cI, 16, .inl g_11)), (b8, .inl (cI, 16, .inl g8)), (a8, .inl (cI, 16, .inl g_13))]) (w1 := [(b9, .inl (cI, 6, .inl g9)), (a9, .inl (cI, 6, .inl g_15))]) hP hD [8, 2] [0, 1, 3, 4, 5, 6, 7, 9, 10, 11, 12, 13, 14, 15, 16, 17, 18, 19, 20, 21, 22, 23, 24, 25, 26, 27] rfl rfl (by decide) (by decide) hk1 hFc hP1 hD1
  have hP : va_P D vwCl [(h0, .inr (0, [.int mc, .int mn, .ref a2, .ref a3, .ref a4, .ref a5, .ref a6, .ref a7, .ref a8, .ref a9, .ref a10, .ref a11, .ref a12, .ref a13, .ref a14])), (h1, .inr (0, [.int mc, .int mn, .ref b2, .ref b3, .ref b4, .ref b5, .ref b6, .ref b7, .ref b8, .ref b9, .ref b10, .ref b11, .ref b12, .ref b13, .ref b14])), (a10, .inl (cI, 288, .inl f10)), (a11, .inl (cI, 30, .inl f11)), (a12, .inl (cI, 6, .inl f12)), (a13, .inl (cI, 4, .inl f13)), (a14, .inl (cI, 7, .inl f14)), (b10, .inl (cI, 288, .inl g10)), (b11, .inl (cI, 30, .inl g11)), (b12, .inl (cI, 6, .inl g12)), (b13, .inl (cI, 4, .inl g13)), (b14, .inl (cI, 7, .inl g14)), (b2, .inl (cI, 16, .inl g2)), (a2, .inl (cI, 16, .inl g_1)), (b3, .inl (cI, 16, .inl g3)), (a3, .inl (cI, 16, .inl g_3)), (b4, .inl (cI, 16, .inl g4)), (a4, .inl (cI, 16, .inl g_5)), (b5, .inl (cI, 16, .inl g5)), (a5, .inl (cI, 16, .inl g_7)), (b6, .inl (cI, 16, .inl g6)), (a6, .inl (cI, 16, .inl g_9)), (b7, .inl (cI, 16, .inl g7)), (a7, .inl (cI, 16, .inl g_11)), (b8, .inl (cI, 16, .inl g8)), (a8, .inl (cI, 16, .inl g_13)), (b9, .inl (cI, 6, .inl g9)), (a9, .inl (cI, 6, .inl g_15))] H := hP
  have hD : va_D A [(h0, .inr (0, [.int mc, .int mn, .ref a2, .ref a3, .ref a4, .ref a5, .ref a6, .ref a7, .ref a8, .ref a9, .ref a10, .ref a11, .ref a12, .ref a13, .ref a14])), (h1, .inr (0, [.int mc, .int mn, .ref b2, .ref b3, .ref b4, .ref b5, .ref b6, .ref b7, .ref b8, .ref b9, .ref b10, .ref b11, .ref b12, .ref b13, .ref b14])), (a10, .inl (cI, 288, .inl f10)), (a11, .inl (cI, 30, .inl f11)), (a12, .inl (cI, 6, .inl f12)), (a13, .inl (cI, 4, .inl f13)), (a14, .inl (cI, 7, .inl f14)), (b10, .inl (cI, 288, .inl g10)), (b11, .inl (cI, 30, .inl g11)), (b12, .inl (cI, 6, .inl g12)), (b13, .inl (cI, 4, .inl g13)), (b14, .inl (cI, 7, .inl g14)), (b2, .inl (cI, 16, .inl g2)), (a2, .inl (cI, 16, .inl g_1)), (b3, .inl (cI, 16, .inl g3)), (a3, .inl (cI, 16, .inl g_3)), (b4, .inl (cI, 16, .inl g4)), (a4, .inl (cI, 16, .inl g_5)), (b5, .inl (cI, 16, .inl g5)), (a5, .inl (cI, 16, .inl g_7)), (b6, .inl (cI, 16, .inl g6)), (a6, .inl (cI, 16, .inl g_9)), (b7, .inl (cI, 16, .inl g7)), (a7, .inl (cI, 16, .inl g_11)), (b8, .inl (cI, 16, .inl g8)), (a8, .inl (cI, 16, .inl g_13)), (b9, .inl (cI, 6, .inl g9)), (a9, .inl (cI, 6, .inl g_15))] := hD
  refine lv_aload_n hx hb dX0_take_104 rfl (lv_at hl 1 rfl) ?_
  refine va_get (D := D) (ci := 0) (v := .ref b10) (C := RX0) (T := TX0) (N := 15) hx hb hts iw_k_take_0 hown hK hP 1 rfl rfl 10 (by decide) (hts (.fieldLink RX0 36 "FlightDesk$Book" "wind" "[I") (by decide +kernel)) (fun _ h9 => h9) rfl dX0_take_105 ?_
  refine lv_aload_n hx hb dX0_take_108 rfl (lv_at hl 0 rfl) ?_
  refine va_get (D := D) (ci := 0) (v := .ref a10) (C := RX0) (T := TX0) (N := 15) hx hb hts iw_k_take_0 hown hK hP 0 rfl rfl 10 (by decide) (hts (.fieldLink RX0 36 "FlightDesk$Book" "wind" "[I") (by decide +kernel)) (fun _ h9 => h9) rfl dX0_take_109 ?_
  have hPc := hP.sub (ws' := [(b10, .inl (cI, 288, .inl g10)), (a10, .inl (cI, 288, .inl f10))]) [7, 2] rfl
  have hDc := hD.sub (ws' := [(b10, .inl (cI, 288, .inl g10)), (a10, .inl (cI, 288, .inl f10))]) [7, 2] (by decide) rfl
  have hFc := va_free (wc := [(b10, .inl (cI, 288, .inl g10)), (a10, .inl (cI, 288, .inl f10))]) hD hS hA [7, 2] rfl
  refine va_callv (va_runS (As := [.ref b10, .ref a10]) (rest := []) ⟨hx, hb, hml, hown, hts⟩ (k_copy l D cI cB cP H.size b10 a10 288 g10 f10 (by decide)) (cwS 2 hts gw_k_take_0 rfl rfl rfl (by decide +kernel) ⟨Nat.le_of_ble_eq_true rfl, Nat.le_of_ble_eq_true rfl⟩) ⟨ny_blind, ny_pre hPc hK hN hDc⟩ rfl rfl hl.1 rfl (lv_room (Nat.le_of_ble_eq_true rfl)) dX0_take_112 ⟨Nat.le_of_ble_eq_true rfl, Nat.le_of_ble_eq_true rfl⟩) hS (fun q _ h => hFc q h) hFc (fun u t H locs ht hvm hw hB hz1 hk1 hS => ?_)
  obtain ⟨g_17, hP1, hD1⟩ := hB
  rw [ht] at hP1
  obtain ⟨hP, hD⟩ := va_join (wr := [(h0, .inr (0, [.int mc, .int mn, .ref a2, .ref a3, .ref a4, .ref a5, .ref a6, .ref a7, .ref a8, .ref a9, .ref a10, .ref a11, .ref a12, .ref a13, .ref a14])), (h1, .inr (0, [.int mc, .int mn, .ref b2, .ref b3, .ref b4, .ref b5, .ref b6, .ref b7, .ref b8, .ref b9, .ref b10, .ref b11, .ref b12, .ref b13, .ref b14])), (a11, .inl (cI, 30, .inl f11)), (a12, .inl (cI, 6, .inl f12)), (a13, .inl (cI, 4, .inl f13)), (a14, .inl (cI, 7, .inl f14)), (b11, .inl (cI, 30, .inl g11)), (b12, .inl (cI, 6, .inl g12)), (b13, .inl (cI, 4, .inl g13)), (b14, .inl (cI, 7, .inl g14)), (b2, .inl (cI, 16, .inl g2)), (a2, .inl (cI, 16, .inl g_1)), (b3, .inl (cI, 16, .inl g3)), (a3, .inl (cI, 16, .inl g_3)), (b4, .inl (cI, 16, .inl g4)), (a4, .inl (cI, 16, .inl g_5)), (b5, .inl (cI, 16, .inl g5)), (a5, .inl (cI, 16, .inl g_7)), (b6, .inl (cI, 16, .inl g6)), (a6, .inl (cI, 16, .inl g_9)), (b7, .inl (cI, 16, .inl g7)), (a7, .inl (cI, 16, .inl g_11)), (b8, .inl (cI, 16, .inl g8)), (a8, .inl (cI, 16, .inl g_13)), (b9, .inl (cI, 6, .inl g9)), (a9, .inl (cI, 6, .inl g_15))]) (w1 := [(b10, .inl (cI, 288, .inl g10)), (a10, .inl (cI, 288, .inl g_17))]) hP hD [7, 2] [0, 1, 3, 4, 5, 6, 8, 9, 10, 11, 12, 13, 14, 15, 16, 17, 18, 19, 20, 21, 22, 23, 24, 25, 26, 27] rfl rfl (by decide) (by decide) hk1 hFc hP1 hD1
  have hP : va_P D vwCl [(h0, .inr (0, [.int mc, .int mn, .ref a2, .ref a3, .ref a4, .ref a5, .ref a6, .ref a7, .ref a8, .ref a9, .ref a10, .ref a11, .ref a12, .ref a13, .ref a14])), (h1, .inr (0, [.int mc, .int mn, .ref b2, .ref b3, .ref b4, .ref b5, .ref b6, .ref b7, .ref b8, .ref b9, .ref b10, .ref b11, .ref b12, .ref b13, .ref b14])), (a11, .inl (cI, 30, .inl f11)), (a12, .inl (cI, 6, .inl f12)), (a13, .inl (cI, 4, .inl f13)), (a14, .inl (cI, 7, .inl f14)), (b11, .inl (cI, 30, .inl g11)), (b12, .inl (cI, 6, .inl g12)), (b13, .inl (cI, 4, .inl g13)), (b14, .inl (cI, 7, .inl g14)), (b2, .inl (cI, 16, .inl g2)), (a2, .inl (cI, 16, .inl g_1)), (b3, .inl (cI, 16, .inl g3)), (a3, .inl (cI, 16, .inl g_3)), (b4, .inl (cI, 16, .inl g4)), (a4, .inl (cI, 16, .inl g_5)), (b5, .inl (cI, 16, .inl g5)), (a5, .inl (cI, 16, .inl g_7)), (b6, .inl (cI, 16, .inl g6)), (a6, .inl (cI, 16, .inl g_9)), (b7, .inl (cI, 16, .inl g7)), (a7, .inl (cI, 16, .inl g_11)), (b8, .inl (cI, 16, .inl g8)), (a8, .inl (cI, 16, .inl g_13)), (b9, .inl (cI, 6, .inl g9)), (a9, .inl (cI, 6, .inl g_15)), (b10, .inl (cI, 288, .inl g10)), (a10, .inl (cI, 288, .inl g_17))] H := hP
  have hD : va_D A [(h0, .inr (0, [.int mc, .int mn, .ref a2, .ref a3, .ref a4, .ref a5, .ref a6, .ref a7, .ref a8, .ref a9, .ref a10, .ref a11, .ref a12, .ref a13, .ref a14])), (h1, .inr (0, [.int mc, .int mn, .ref b2, .ref b3, .ref b4, .ref b5, .ref b6, .ref b7, .ref b8, .ref b9, .ref b10, .ref b11, .ref b12, .ref b13, .ref b14])), (a11, .inl (cI, 30, .inl f11)), (a12, .inl (cI, 6, .inl f12)), (a13, .inl (cI, 4, .inl f13)), (a14, .inl (cI, 7, .inl f14)), (b11, .inl (cI, 30, .inl g11)), (b12, .inl (cI, 6, .inl g12)), (b13, .inl (cI, 4, .inl g13)), (b14, .inl (cI, 7, .inl g14)), (b2, .inl (cI, 16, .inl g2)), (a2, .inl (cI, 16, .inl g_1)), (b3, .inl (cI, 16, .inl g3)), (a3, .inl (cI, 16, .inl g_3)), (b4, .inl (cI, 16, .inl g4)), (a4, .inl (cI, 16, .inl g_5)), (b5, .inl (cI, 16, .inl g5)), (a5, .inl (cI, 16, .inl g_7)), (b6, .inl (cI, 16, .inl g6)), (a6, .inl (cI, 16, .inl g_9)), (b7, .inl (cI, 16, .inl g7)), (a7, .inl (cI, 16, .inl g_11)), (b8, .inl (cI, 16, .inl g8)), (a8, .inl (cI, 16, .inl g_13)), (b9, .inl (cI, 6, .inl g9)), (a9, .inl (cI, 6, .inl g_15)), (b10, .inl (cI, 288, .inl g10)), (a10, .inl (cI, 288, .inl g_17))] := hD
  refine lv_aload_n hx hb dX0_take_115 rfl (lv_at hl 1 rfl) ?_
  refine va_get (D := D) (ci := 0) (v := .ref b11) (C := RX0) (T := TX0) (N := 15) hx hb hts iw_k_take_0 hown hK hP 1 rfl rfl 11 (by decide) (hts (.fieldLink RX0 39 "FlightDesk$Book" "burn" "[I") (by decide +kernel)) (fun _ h9 => h9) rfl dX0_take_116 ?_
  refine lv_aload_n hx hb dX0_take_119 rfl (lv_at hl 0 rfl) ?_
  refine va_get (D := D) (ci := 0) (v := .ref a11) (C := RX0) (T := TX0) (N := 15) hx hb hts iw_k_take_0 hown hK hP 0 rfl rfl 11 (by decide) (hts (.fieldLink RX0 39 "FlightDesk$Book" "burn" "[I") (by decide +kernel)) (fun _ h9 => h9) rfl dX0_take_120 ?_
  have hPc := hP.sub (ws' := [(b11, .inl (cI, 30, .inl g11)), (a11, .inl (cI, 30, .inl f11))]) [6, 2] rfl
  have hDc := hD.sub (ws' := [(b11, .inl (cI, 30, .inl g11)), (a11, .inl (cI, 30, .inl f11))]) [6, 2] (by decide) rfl
  have hFc := va_free (wc := [(b11, .inl (cI, 30, .inl g11)), (a11, .inl (cI, 30, .inl f11))]) hD hS hA [6, 2] rfl
  refine va_callv (va_runS (As := [.ref b11, .ref a11]) (rest := []) ⟨hx, hb, hml, hown, hts⟩ (k_copy l D cI cB cP H.size b11 a11 30 g11 f11 (by decide)) (cwS 2 hts gw_k_take_0 rfl rfl rfl (by decide +kernel) ⟨Nat.le_of_ble_eq_true rfl, Nat.le_of_ble_eq_true rfl⟩) ⟨ny_blind, ny_pre hPc hK hN hDc⟩ rfl rfl hl.1 rfl (lv_room (Nat.le_of_ble_eq_true rfl)) dX0_take_123 ⟨Nat.le_of_ble_eq_true rfl, Nat.le_of_ble_eq_true rfl⟩) hS (fun q _ h => hFc q h) hFc (fun u t H locs ht hvm hw hB hz1 hk1 hS => ?_)
  obtain ⟨g_19, hP1, hD1⟩ := hB
  rw [ht] at hP1
  obtain ⟨hP, hD⟩ := va_join (wr := [(h0, .inr (0, [.int mc, .int mn, .ref a2, .ref a3, .ref a4, .ref a5, .ref a6, .ref a7, .ref a8, .ref a9, .ref a10, .ref a11, .ref a12, .ref a13, .ref a14])), (h1, .inr (0, [.int mc, .int mn, .ref b2, .ref b3, .ref b4, .ref b5, .ref b6, .ref b7, .ref b8, .ref b9, .ref b10, .ref b11, .ref b12, .ref b13, .ref b14])), (a12, .inl (cI, 6, .inl f12)), (a13, .inl (cI, 4, .inl f13)), (a14, .inl (cI, 7, .inl f14)), (b12, .inl (cI, 6, .inl g12)), (b13, .inl (cI, 4, .inl g13)), (b14, .inl (cI, 7, .inl g14)), (b2, .inl (cI, 16, .inl g2)), (a2, .inl (cI, 16, .inl g_1)), (b3, .inl (cI, 16, .inl g3)), (a3, .inl (cI, 16, .inl g_3)), (b4, .inl (cI, 16, .inl g4)), (a4, .inl (cI, 16, .inl g_5)), (b5, .inl (cI, 16, .inl g5)), (a5, .inl (cI, 16, .inl g_7)), (b6, .inl (cI, 16, .inl g6)), (a6, .inl (cI, 16, .inl g_9)), (b7, .inl (cI, 16, .inl g7)), (a7, .inl (cI, 16, .inl g_11)), (b8, .inl (cI, 16, .inl g8)), (a8, .inl (cI, 16, .inl g_13)), (b9, .inl (cI, 6, .inl g9)), (a9, .inl (cI, 6, .inl g_15)), (b10, .inl (cI, 288, .inl g10)), (a10, .inl (cI, 288, .inl g_17))]) (w1 := [(b11, .inl (cI, 30, .inl g11)), (a11, .inl (cI, 30, .inl g_19))]) hP hD [6, 2] [0, 1, 3, 4, 5, 7, 8, 9, 10, 11, 12, 13, 14, 15, 16, 17, 18, 19, 20, 21, 22, 23, 24, 25, 26, 27] rfl rfl (by decide) (by decide) hk1 hFc hP1 hD1
  have hP : va_P D vwCl [(h0, .inr (0, [.int mc, .int mn, .ref a2, .ref a3, .ref a4, .ref a5, .ref a6, .ref a7, .ref a8, .ref a9, .ref a10, .ref a11, .ref a12, .ref a13, .ref a14])), (h1, .inr (0, [.int mc, .int mn, .ref b2, .ref b3, .ref b4, .ref b5, .ref b6, .ref b7, .ref b8, .ref b9, .ref b10, .ref b11, .ref b12, .ref b13, .ref b14])), (a12, .inl (cI, 6, .inl f12)), (a13, .inl (cI, 4, .inl f13)), (a14, .inl (cI, 7, .inl f14)), (b12, .inl (cI, 6, .inl g12)), (b13, .inl (cI, 4, .inl g13)), (b14, .inl (cI, 7, .inl g14)), (b2, .inl (cI, 16, .inl g2)), (a2, .inl (cI, 16, .inl g_1)), (b3, .inl (cI, 16, .inl g3)), (a3, .inl (cI, 16, .inl g_3)), (b4, .inl (cI, 16, .inl g4)), (a4, .inl (cI, 16, .inl g_5)), (b5, .inl (cI, 16, .inl g5)), (a5, .inl (cI, 16, .inl g_7)), (b6, .inl (cI, 16, .inl g6)), (a6, .inl (cI, 16, .inl g_9)), (b7, .inl (cI, 16, .inl g7)), (a7, .inl (cI, 16, .inl g_11)), (b8, .inl (cI, 16, .inl g8)), (a8, .inl (cI, 16, .inl g_13)), (b9, .inl (cI, 6, .inl g9)), (a9, .inl (cI, 6, .inl g_15)), (b10, .inl (cI, 288, .inl g10)), (a10, .inl (cI, 288, .inl g_17)), (b11, .inl (cI, 30, .inl g11)), (a11, .inl (cI, 30, .inl g_19))] H := hP
  have hD : va_D A [(h0, .inr (0, [.int mc, .int mn, .ref a2, .ref a3, .ref a4, .ref a5, .ref a6, .ref a7, .ref a8, .ref a9, .ref a10, .ref a11, .ref a12, .ref a13, .ref a14])), (h1, .inr (0, [.int mc, .int mn, .ref b2, .ref b3, .ref b4, .ref b5, .ref b6, .ref b7, .ref b8, .ref b9, .ref b10, .ref b11, .ref b12, .ref b13, .ref b14])), (a12, .inl (cI, 6, .inl f12)), (a13, .inl (cI, 4, .inl f13)), (a14, .inl (cI, 7, .inl f14)), (b12, .inl (cI, 6, .inl g12)), (b13, .inl (cI, 4, .inl g13)), (b14, .inl (cI, 7, .inl g14)), (b2, .inl (cI, 16, .inl g2)), (a2, .inl (cI, 16, .inl g_1)), (b3, .inl (cI, 16, .inl g3)), (a3, .inl (cI, 16, .inl g_3)), (b4, .inl (cI, 16, .inl g4)), (a4, .inl (cI, 16, .inl g_5)), (b5, .inl (cI, 16, .inl g5)), (a5, .inl (cI, 16, .inl g_7)), (b6, .inl (cI, 16, .inl g6)), (a6, .inl (cI, 16, .inl g_9)), (b7, .inl (cI, 16, .inl g7)), (a7, .inl (cI, 16, .inl g_11)), (b8, .inl (cI, 16, .inl g8)), (a8, .inl (cI, 16, .inl g_13)), (b9, .inl (cI, 6, .inl g9)), (a9, .inl (cI, 6, .inl g_15)), (b10, .inl (cI, 288, .inl g10)), (a10, .inl (cI, 288, .inl g_17)), (b11, .inl (cI, 30, .inl g11)), (a11, .inl (cI, 30, .inl g_19))] := hD
  refine lv_aload_n hx hb dX0_take_126 rfl (lv_at hl 1 rfl) ?_
  refine va_get (D := D) (ci := 0) (v := .ref b12) (C := RX0) (T := TX0) (N := 15) hx hb hts iw_k_take_0 hown hK hP 1 rfl rfl 12 (by decide) (hts (.fieldLink RX0 42 "FlightDesk$Book" "climb" "[I") (by decide +kernel)) (fun _ h9 => h9) rfl dX0_take_127 ?_
  refine lv_aload_n hx hb dX0_take_130 rfl (lv_at hl 0 rfl) ?_
  refine va_get (D := D) (ci := 0) (v := .ref a12) (C := RX0) (T := TX0) (N := 15) hx hb hts iw_k_take_0 hown hK hP 0 rfl rfl 12 (by decide) (hts (.fieldLink RX0 42 "FlightDesk$Book" "climb" "[I") (by decide +kernel)) (fun _ h9 => h9) rfl dX0_take_131 ?_
  have hPc := hP.sub (ws' := [(b12, .inl (cI, 6, .inl g12)), (a12, .inl (cI, 6, .inl f12))]) [5, 2] rfl
  have hDc := hD.sub (ws' := [(b12, .inl (cI, 6, .inl g12)), (a12, .inl (cI, 6, .inl f12))]) [5, 2] (by decide) rfl
  have hFc := va_free (wc := [(b12, .inl (cI, 6, .inl g12)), (a12, .inl (cI, 6, .inl f12))]) hD hS hA [5, 2] rfl
  refine va_callv (va_runS (As := [.ref b12, .ref a12]) (rest := []) ⟨hx, hb, hml, hown, hts⟩ (k_copy l D cI cB cP H.size b12 a12 6 g12 f12 (by decide)) (cwS 2 hts gw_k_take_0 rfl rfl rfl (by decide +kernel) ⟨Nat.le_of_ble_eq_true rfl, Nat.le_of_ble_eq_true rfl⟩) ⟨ny_blind, ny_pre hPc hK hN hDc⟩ rfl rfl hl.1 rfl (lv_room (Nat.le_of_ble_eq_true rfl)) dX0_take_134 ⟨Nat.le_of_ble_eq_true rfl, Nat.le_of_ble_eq_true rfl⟩) hS (fun q _ h => hFc q h) hFc (fun u t H locs ht hvm hw hB hz1 hk1 hS => ?_)
  obtain ⟨g_21, hP1, hD1⟩ := hB
  rw [ht] at hP1
  obtain ⟨hP, hD⟩ := va_join (wr := [(h0, .inr (0, [.int mc, .int mn, .ref a2, .ref a3, .ref a4, .ref a5, .ref a6, .ref a7, .ref a8, .ref a9, .ref a10, .ref a11, .ref a12, .ref a13, .ref a14])), (h1, .inr (0, [.int mc, .int mn, .ref b2, .ref b3, .ref b4, .ref b5, .ref b6, .ref b7, .ref b8, .ref b9, .ref b10, .ref b11, .ref b12, .ref b13, .ref b14])), (a13, .inl (cI, 4, .inl f13)), (a14, .inl (cI, 7, .inl f14)), (b13, .inl (cI, 4, .inl g13)), (b14, .inl (cI, 7, .inl g14)), (b2, .inl (cI, 16, .inl g2)), (a2, .inl (cI, 16, .inl g_1)), (b3, .inl (cI, 16, .inl g3)), (a3, .inl (cI, 16, .inl g_3)), (b4, .inl (cI, 16, .inl g4)), (a4, .inl (cI, 16, .inl g_5)), (b5, .inl (cI, 16, .inl g5)), (a5, .inl (cI, 16, .inl g_7)), (b6, .inl (cI, 16, .inl g6)), (a6, .inl (cI, 16, .inl g_9)), (b7, .inl (cI, 16, .inl g7)), (a7, .inl (cI, 16, .inl g_11)), (b8, .inl (cI, 16, .inl g8)), (a8, .inl (cI, 16, .inl g_13)), (b9, .inl (cI, 6, .inl g9)), (a9, .inl (cI, 6, .inl g_15)), (b10, .inl (cI, 288, .inl g10)), (a10, .inl (cI, 288, .inl g_17)), (b11, .inl (cI, 30, .inl g11)), (a11, .inl (cI, 30, .inl g_19))]) (w1 := [(b12, .inl (cI, 6, .inl g12)), (a12, .inl (cI, 6, .inl g_21))]) hP hD [5, 2] [0, 1, 3, 4, 6, 7, 8, 9, 10, 11, 12, 13, 14, 15, 16, 17, 18, 19, 20, 21, 22, 23, 24, 25, 26, 27] rfl rfl (by decide) (by decide) hk1 hFc hP1 hD1
  have hP : va_P D vwCl [(h0, .inr (0, [.int mc, .int mn, .ref a2, .ref a3, .ref a4, .ref a5, .ref a6, .ref a7, .ref a8, .ref a9, .ref a10, .ref a11, .ref a12, .ref a13, .ref a14])), (h1, .inr (0, [.int mc, .int mn, .ref b2, .ref b3, .ref b4, .ref b5, .ref b6, .ref b7, .ref b8, .ref b9, .ref b10, .ref b11, .ref b12, .ref b13, .ref b14])), (a13, .inl (cI, 4, .inl f13)), (a14, .inl (cI, 7, .inl f14)), (b13, .inl (cI, 4, .inl g13)), (b14, .inl (cI, 7, .inl g14)), (b2, .inl (cI, 16, .inl g2)), (a2, .inl (cI, 16, .inl g_1)), (b3, .inl (cI, 16, .inl g3)), (a3, .inl (cI, 16, .inl g_3)), (b4, .inl (cI, 16, .inl g4)), (a4, .inl (cI, 16, .inl g_5)), (b5, .inl (cI, 16, .inl g5)), (a5, .inl (cI, 16, .inl g_7)), (b6, .inl (cI, 16, .inl g6)), (a6, .inl (cI, 16, .inl g_9)), (b7, .inl (cI, 16, .inl g7)), (a7, .inl (cI, 16, .inl g_11)), (b8, .inl (cI, 16, .inl g8)), (a8, .inl (cI, 16, .inl g_13)), (b9, .inl (cI, 6, .inl g9)), (a9, .inl (cI, 6, .inl g_15)), (b10, .inl (cI, 288, .inl g10)), (a10, .inl (cI, 288, .inl g_17)), (b11, .inl (cI, 30, .inl g11)), (a11, .inl (cI, 30, .inl g_19)), (b12, .inl (cI, 6, .inl g12)), (a12, .inl (cI, 6, .inl g_21))] H := hP
  have hD : va_D A [(h0, .inr (0, [.int mc, .int mn, .ref a2, .ref a3, .ref a4, .ref a5, .ref a6, .ref a7, .ref a8, .ref a9, .ref a10, .ref a11, .ref a12, .ref a13, .ref a14])), (h1, .inr (0, [.int mc, .int mn, .ref b2, .ref b3, .ref b4, .ref b5, .ref b6, .ref b7, .ref b8, .ref b9, .ref b10, .ref b11, .ref b12, .ref b13, .ref b14])), (a13, .inl (cI, 4, .inl f13)), (a14, .inl (cI, 7, .inl f14)), (b13, .inl (cI, 4, .inl g13)), (b14, .inl (cI, 7, .inl g14)), (b2, .inl (cI, 16, .inl g2)), (a2, .inl (cI, 16, .inl g_1)), (b3, .inl (cI, 16, .inl g3)), (a3, .inl (cI, 16, .inl g_3)), (b4, .inl (cI, 16, .inl g4)), (a4, .inl (cI, 16, .inl g_5)), (b5, .inl (cI, 16, .inl g5)), (a5, .inl (cI, 16, .inl g_7)), (b6, .inl (cI, 16, .inl g6)), (a6, .inl (cI, 16, .inl g_9)), (b7, .inl (cI, 16, .inl g7)), (a7, .inl (cI, 16, .inl g_11)), (b8, .inl (cI, 16, .inl g8)), (a8, .inl (cI, 16, .inl g_13)), (b9, .inl (cI, 6, .inl g9)), (a9, .inl (cI, 6, .inl g_15)), (b10, .inl (cI, 288, .inl g10)), (a10, .inl (cI, 288, .inl g_17)), (b11, .inl (cI, 30, .inl g11)), (a11, .inl (cI, 30, .inl g_19)), (b12, .inl (cI, 6, .inl g12)), (a12, .inl (cI, 6, .inl g_21))] := hD
  refine lv_aload_n hx hb dX0_take_137 rfl (lv_at hl 1 rfl) ?_
  refine va_get (D := D) (ci := 0) (v := .ref b13) (C := RX0) (T := TX0) (N := 15) hx hb hts iw_k_take_0 hown hK hP 1 rfl rfl 13 (by decide) (hts (.fieldLink RX0 45 "FlightDesk$Book" "limit" "[I") (by decide +kernel)) (fun _ h9 => h9) rfl dX0_take_138 ?_
  refine lv_aload_n hx hb dX0_take_141 rfl (lv_at hl 0 rfl) ?_
  refine va_get (D := D) (ci := 0) (v := .ref a13) (C := RX0) (T := TX0) (N := 15) hx hb hts iw_k_take_0 hown hK hP 0 rfl rfl 13 (by decide) (hts (.fieldLink RX0 45 "FlightDesk$Book" "limit" "[I") (by decide +kernel)) (fun _ h9 => h9) rfl dX0_take_142 ?_
  have hPc := hP.sub (ws' := [(b13, .inl (cI, 4, .inl g13)), (a13, .inl (cI, 4, .inl f13))]) [4, 2] rfl
  have hDc := hD.sub (ws' := [(b13, .inl (cI, 4, .inl g13)), (a13, .inl (cI, 4, .inl f13))]) [4, 2] (by decide) rfl
  have hFc := va_free (wc := [(b13, .inl (cI, 4, .inl g13)), (a13, .inl (cI, 4, .inl f13))]) hD hS hA [4, 2] rfl
  refine va_callv (va_runS (As := [.ref b13, .ref a13]) (rest := []) ⟨hx, hb, hml, hown, hts⟩ (k_copy l D cI cB cP H.size b13 a13 4 g13 f13 (by decide)) (cwS 2 hts gw_k_take_0 rfl rfl rfl (by decide +kernel) ⟨Nat.le_of_ble_eq_true rfl, Nat.le_of_ble_eq_true rfl⟩) ⟨ny_blind, ny_pre hPc hK hN hDc⟩ rfl rfl hl.1 rfl (lv_room (Nat.le_of_ble_eq_true rfl)) dX0_take_145 ⟨Nat.le_of_ble_eq_true rfl, Nat.le_of_ble_eq_true rfl⟩) hS (fun q _ h => hFc q h) hFc (fun u t H locs ht hvm hw hB hz1 hk1 hS => ?_)
  obtain ⟨g_23, hP1, hD1⟩ := hB
  rw [ht] at hP1
  obtain ⟨hP, hD⟩ := va_join (wr := [(h0, .inr (0, [.int mc, .int mn, .ref a2, .ref a3, .ref a4, .ref a5, .ref a6, .ref a7, .ref a8, .ref a9, .ref a10, .ref a11, .ref a12, .ref a13, .ref a14])), (h1, .inr (0, [.int mc, .int mn, .ref b2, .ref b3, .ref b4, .ref b5, .ref b6, .ref b7, .ref b8, .ref b9, .ref b10, .ref b11, .ref b12, .ref b13, .ref b14])), (a14, .inl (cI, 7, .inl f14)), (b14, .inl (cI, 7, .inl g14)), (b2, .inl (cI, 16, .inl g2)), (a2, .inl (cI, 16, .inl g_1)), (b3, .inl (cI, 16, .inl g3)), (a3, .inl (cI, 16, .inl g_3)), (b4, .inl (cI, 16, .inl g4)), (a4, .inl (cI, 16, .inl g_5)), (b5, .inl (cI, 16, .inl g5)), (a5, .inl (cI, 16, .inl g_7)), (b6, .inl (cI, 16, .inl g6)), (a6, .inl (cI, 16, .inl g_9)), (b7, .inl (cI, 16, .inl g7)), (a7, .inl (cI, 16, .inl g_11)), (b8, .inl (cI, 16, .inl g8)), (a8, .inl (cI, 16, .inl g_13)), (b9, .inl (cI, 6, .inl g9)), (a9, .inl (cI, 6, .inl g_15)), (b10, .inl (cI, 288, .inl g10)), (a10, .inl (cI, 288, .inl g_17)), (b11, .inl (cI, 30, .inl g11)), (a11, .inl (cI, 30, .inl g_19)), (b12, .inl (cI, 6, .inl g12)), (a12, .inl (cI, 6, .inl g_21))]) (w1 := [(b13, .inl (cI, 4, .inl g13)), (a13, .inl (cI, 4, .inl g_23))]) hP hD [4, 2] [0, 1, 3, 5, 6, 7, 8, 9, 10, 11, 12, 13, 14, 15, 16, 17, 18, 19, 20, 21, 22, 23, 24, 25, 26, 27] rfl rfl (by decide) (by decide) hk1 hFc hP1 hD1
  have hP : va_P D vwCl [(h0, .inr (0, [.int mc, .int mn, .ref a2, .ref a3, .ref a4, .ref a5, .ref a6, .ref a7, .ref a8, .ref a9, .ref a10, .ref a11, .ref a12, .ref a13, .ref a14])), (h1, .inr (0, [.int mc, .int mn, .ref b2, .ref b3, .ref b4, .ref b5, .ref b6, .ref b7, .ref b8, .ref b9, .ref b10, .ref b11, .ref b12, .ref b13, .ref b14])), (a14, .inl (cI, 7, .inl f14)), (b14, .inl (cI, 7, .inl g14)), (b2, .inl (cI, 16, .inl g2)), (a2, .inl (cI, 16, .inl g_1)), (b3, .inl (cI, 16, .inl g3)), (a3, .inl (cI, 16, .inl g_3)), (b4, .inl (cI, 16, .inl g4)), (a4, .inl (cI, 16, .inl g_5)), (b5, .inl (cI, 16, .inl g5)), (a5, .inl (cI, 16, .inl g_7)), (b6, .inl (cI, 16, .inl g6)), (a6, .inl (cI, 16, .inl g_9)), (b7, .inl (cI, 16, .inl g7)), (a7, .inl (cI, 16, .inl g_11)), (b8, .inl (cI, 16, .inl g8)), (a8, .inl (cI, 16, .inl g_13)), (b9, .inl (cI, 6, .inl g9)), (a9, .inl (cI, 6, .inl g_15)), (b10, .inl (cI, 288, .inl g10)), (a10, .inl (cI, 288, .inl g_17)), (b11, .inl (cI, 30, .inl g11)), (a11, .inl (cI, 30, .inl g_19)), (b12, .inl (cI, 6, .inl g12)), (a12, .inl (cI, 6, .inl g_21)), (b13, .inl (cI, 4, .inl g13)), (a13, .inl (cI, 4, .inl g_23))] H := hP
  have hD : va_D A [(h0, .inr (0, [.int mc, .int mn, .ref a2, .ref a3, .ref a4, .ref a5, .ref a6, .ref a7, .ref a8, .ref a9, .ref a10, .ref a11, .ref a12, .ref a13, .ref a14])), (h1, .inr (0, [.int mc, .int mn, .ref b2, .ref b3, .ref b4, .ref b5, .ref b6, .ref b7, .ref b8, .ref b9, .ref b10, .ref b11, .ref b12, .ref b13, .ref b14])), (a14, .inl (cI, 7, .inl f14)), (b14, .inl (cI, 7, .inl g14)), (b2, .inl (cI, 16, .inl g2)), (a2, .inl (cI, 16, .inl g_1)), (b3, .inl (cI, 16, .inl g3)), (a3, .inl (cI, 16, .inl g_3)), (b4, .inl (cI, 16, .inl g4)), (a4, .inl (cI, 16, .inl g_5)), (b5, .inl (cI, 16, .inl g5)), (a5, .inl (cI, 16, .inl g_7)), (b6, .inl (cI, 16, .inl g6)), (a6, .inl (cI, 16, .inl g_9)), (b7, .inl (cI, 16, .inl g7)), (a7, .inl (cI, 16, .inl g_11)), (b8, .inl (cI, 16, .inl g8)), (a8, .inl (cI, 16, .inl g_13)), (b9, .inl (cI, 6, .inl g9)), (a9, .inl (cI, 6, .inl g_15)), (b10, .inl (cI, 288, .inl g10)), (a10, .inl (cI, 288, .inl g_17)), (b11, .inl (cI, 30, .inl g11)), (a11, .inl (cI, 30, .inl g_19)), (b12, .inl (cI, 6, .inl g12)), (a12, .inl (cI, 6, .inl g_21)), (b13, .inl (cI, 4, .inl g13)), (a13, .inl (cI, 4, .inl g_23))] := hD
  refine lv_aload_n hx hb dX0_take_148 rfl (lv_at hl 1 rfl) ?_
  refine va_get (D := D) (ci := 0) (v := .ref b14) (C := RX0) (T := TX0) (N := 15) hx hb hts iw_k_take_0 hown hK hP 1 rfl rfl 14 (by decide) (hts (.fieldLink RX0 48 "FlightDesk$Book" "height" "[I") (by decide +kernel)) (fun _ h9 => h9) rfl dX0_take_149 ?_
  refine lv_aload_n hx hb dX0_take_152 rfl (lv_at hl 0 rfl) ?_
  refine va_get (D := D) (ci := 0) (v := .ref a14) (C := RX0) (T := TX0) (N := 15) hx hb hts iw_k_take_0 hown hK hP 0 rfl rfl 14 (by decide) (hts (.fieldLink RX0 48 "FlightDesk$Book" "height" "[I") (by decide +kernel)) (fun _ h9 => h9) rfl dX0_take_153 ?_
  have hPc := hP.sub (ws' := [(b14, .inl (cI, 7, .inl g14)), (a14, .inl (cI, 7, .inl f14))]) [3, 2] rfl
  have hDc := hD.sub (ws' := [(b14, .inl (cI, 7, .inl g14)), (a14, .inl (cI, 7, .inl f14))]) [3, 2] (by decide) rfl
  have hFc := va_free (wc := [(b14, .inl (cI, 7, .inl g14)), (a14, .inl (cI, 7, .inl f14))]) hD hS hA [3, 2] rfl
  refine va_callv (va_runS (As := [.ref b14, .ref a14]) (rest := []) ⟨hx, hb, hml, hown, hts⟩ (k_copy l D cI cB cP H.size b14 a14 7 g14 f14 (by decide)) (cwS 2 hts gw_k_take_0 rfl rfl rfl (by decide +kernel) ⟨Nat.le_of_ble_eq_true rfl, Nat.le_of_ble_eq_true rfl⟩) ⟨ny_blind, ny_pre hPc hK hN hDc⟩ rfl rfl hl.1 rfl (lv_room (Nat.le_of_ble_eq_true rfl)) dX0_take_156 ⟨Nat.le_of_ble_eq_true rfl, Nat.le_of_ble_eq_true rfl⟩) hS (fun q _ h => hFc q h) hFc (fun u t H locs ht hvm hw hB hz1 hk1 hS => ?_)
  obtain ⟨g_25, hP1, hD1⟩ := hB
  rw [ht] at hP1
  obtain ⟨hP, hD⟩ := va_join (wr := [(h0, .inr (0, [.int mc, .int mn, .ref a2, .ref a3, .ref a4, .ref a5, .ref a6, .ref a7, .ref a8, .ref a9, .ref a10, .ref a11, .ref a12, .ref a13, .ref a14])), (h1, .inr (0, [.int mc, .int mn, .ref b2, .ref b3, .ref b4, .ref b5, .ref b6, .ref b7, .ref b8, .ref b9, .ref b10, .ref b11, .ref b12, .ref b13, .ref b14])), (b2, .inl (cI, 16, .inl g2)), (a2, .inl (cI, 16, .inl g_1)), (b3, .inl (cI, 16, .inl g3)), (a3, .inl (cI, 16, .inl g_3)), (b4, .inl (cI, 16, .inl g4)), (a4, .inl (cI, 16, .inl g_5)), (b5, .inl (cI, 16, .inl g5)), (a5, .inl (cI, 16, .inl g_7)), (b6, .inl (cI, 16, .inl g6)), (a6, .inl (cI, 16, .inl g_9)), (b7, .inl (cI, 16, .inl g7)), (a7, .inl (cI, 16, .inl g_11)), (b8, .inl (cI, 16, .inl g8)), (a8, .inl (cI, 16, .inl g_13)), (b9, .inl (cI, 6, .inl g9)), (a9, .inl (cI, 6, .inl g_15)), (b10, .inl (cI, 288, .inl g10)), (a10, .inl (cI, 288, .inl g_17)), (b11, .inl (cI, 30, .inl g11)), (a11, .inl (cI, 30, .inl g_19)), (b12, .inl (cI, 6, .inl g12)), (a12, .inl (cI, 6, .inl g_21)), (b13, .inl (cI, 4, .inl g13)), (a13, .inl (cI, 4, .inl g_23))]) (w1 := [(b14, .inl (cI, 7, .inl g14)), (a14, .inl (cI, 7, .inl g_25))]) hP hD [3, 2] [0, 1, 4, 5, 6, 7, 8, 9, 10, 11, 12, 13, 14, 15, 16, 17, 18, 19, 20, 21, 22, 23, 24, 25, 26, 27] rfl rfl (by decide) (by decide) hk1 hFc hP1 hD1
  have hP : va_P D vwCl [(h0, .inr (0, [.int mc, .int mn, .ref a2, .ref a3, .ref a4, .ref a5, .ref a6, .ref a7, .ref a8, .ref a9, .ref a10, .ref a11, .ref a12, .ref a13, .ref a14])), (h1, .inr (0, [.int mc, .int mn, .ref b2, .ref b3, .ref b4, .ref b5, .ref b6, .ref b7, .ref b8, .ref b9, .ref b10, .ref b11, .ref b12, .ref b13, .ref b14])), (b2, .inl (cI, 16, .inl g2)), (a2, .inl (cI, 16, .inl g_1)), (b3, .inl (cI, 16, .inl g3)), (a3, .inl (cI, 16, .inl g_3)), (b4, .inl (cI, 16, .inl g4)), (a4, .inl (cI, 16, .inl g_5)), (b5, .inl (cI, 16, .inl g5)), (a5, .inl (cI, 16, .inl g_7)), (b6, .inl (cI, 16, .inl g6)), (a6, .inl (cI, 16, .inl g_9)), (b7, .inl (cI, 16, .inl g7)), (a7, .inl (cI, 16, .inl g_11)), (b8, .inl (cI, 16, .inl g8)), (a8, .inl (cI, 16, .inl g_13)), (b9, .inl (cI, 6, .inl g9)), (a9, .inl (cI, 6, .inl g_15)), (b10, .inl (cI, 288, .inl g10)), (a10, .inl (cI, 288, .inl g_17)), (b11, .inl (cI, 30, .inl g11)), (a11, .inl (cI, 30, .inl g_19)), (b12, .inl (cI, 6, .inl g12)), (a12, .inl (cI, 6, .inl g_21)), (b13, .inl (cI, 4, .inl g13)), (a13, .inl (cI, 4, .inl g_23)), (b14, .inl (cI, 7, .inl g14)), (a14, .inl (cI, 7, .inl g_25))] H := hP
  have hD : va_D A [(h0, .inr (0, [.int mc, .int mn, .ref a2, .ref a3, .ref a4, .ref a5, .ref a6, .ref a7, .ref a8, .ref a9, .ref a10, .ref a11, .ref a12, .ref a13, .ref a14])), (h1, .inr (0, [.int mc, .int mn, .ref b2, .ref b3, .ref b4, .ref b5, .ref b6, .ref b7, .ref b8, .ref b9, .ref b10, .ref b11, .ref b12, .ref b13, .ref b14])), (b2, .inl (cI, 16, .inl g2)), (a2, .inl (cI, 16, .inl g_1)), (b3, .inl (cI, 16, .inl g3)), (a3, .inl (cI, 16, .inl g_3)), (b4, .inl (cI, 16, .inl g4)), (a4, .inl (cI, 16, .inl g_5)), (b5, .inl (cI, 16, .inl g5)), (a5, .inl (cI, 16, .inl g_7)), (b6, .inl (cI, 16, .inl g6)), (a6, .inl (cI, 16, .inl g_9)), (b7, .inl (cI, 16, .inl g7)), (a7, .inl (cI, 16, .inl g_11)), (b8, .inl (cI, 16, .inl g8)), (a8, .inl (cI, 16, .inl g_13)), (b9, .inl (cI, 6, .inl g9)), (a9, .inl (cI, 6, .inl g_15)), (b10, .inl (cI, 288, .inl g10)), (a10, .inl (cI, 288, .inl g_17)), (b11, .inl (cI, 30, .inl g11)), (a11, .inl (cI, 30, .inl g_19)), (b12, .inl (cI, 6, .inl g12)), (a12, .inl (cI, 6, .inl g_21)), (b13, .inl (cI, 4, .inl g13)), (a13, .inl (cI, 4, .inl g_23)), (b14, .inl (cI, 7, .inl g14)), (a14, .inl (cI, 7, .inl g_25))] := hD
  have hP9 := hP.sub (ws' := [(h0, .inr (0, [.int mc, .int mn, .ref a2, .ref a3, .ref a4, .ref a5, .ref a6, .ref a7, .ref a8, .ref a9, .ref a10, .ref a11, .ref a12, .ref a13, .ref a14]))]) [0] rfl
  have hD9 := hD.sub (ws' := [(h0, .inr (0, [.int mc, .int mn, .ref a2, .ref a3, .ref a4, .ref a5, .ref a6, .ref a7, .ref a8, .ref a9, .ref a10, .ref a11, .ref a12, .ref a13, .ref a14]))]) [0] (by decide) rfl
  refine W.widen (k := 0) (n := 0) (by decide) (by decide) ?_
  exact W.vret hx hb hr (fun t ht hW => ⟨⟨(), rfl, trivial, by rw [ht]; exact hP9, hD9⟩, hS.F ht⟩) hS.2.2 dX0_take_159
end
section
def wk_k_Flight : List Cond := .code yX1_init cX1_init 2 none :: ([.methodLink RX1 3 objectInit, .instanceMethod objectInit, .code objectInit ⟨#[0xb1]⟩ 1 none, .fieldLink RX1 9 "FlightDesk$Flight" "book" "LFlightDesk$Book;"] ++ wsX10)
theorem iw_k_Flight_1 : ∀ w ∈ wsX10, w ∈ wk_k_Flight := fun _ h => List.mem_cons_of_mem _ (List.mem_append_right _ h)
set_option maxHeartbeats 4000000 in
set_option maxRecDepth 100000 in
theorem k_Flight (l : Launch) (D : va_G) (cI cB cP : ClassId) (sz : Nat) (h0 : Nat) (b : Nat) : Met l yX1_init wk_k_Flight ({ frames := 1, cells := 0, slots := 0, locals := 12 } : Room) (va_Pc [.ref h0, .ref b] (Pw D cI cB cP sz [(h0, .inr (1, [.null, .int 0, .int 0, .int 0, .int 0, .int 0, .int 0]))])) (va_Qv (fun (_ : Unit) => True) (fun _ t => va_P D vwCl [(h0, .inr (1, [.ref b, .int 0, .int 0, .int 0, .int 0, .int 0, .int 0]))] t.heap ∧ va_D (va_A [(h0, .inr (1, [.null, .int 0, .int 0, .int 0, .int 0, .int 0, .int 0]))] sz) [(h0, .inr (1, [.ref b, .int 0, .int 0, .int 0, .int 0, .int 0, .int 0]))]) (va_A [(h0, .inr (1, [.null, .int 0, .int 0, .int 0, .int 0, .int 0, .int 0]))] sz)) 0 0 (va_A [(h0, .inr (1, [.null, .int 0, .int 0, .int 0, .int 0, .int 0, .int 0]))] sz) := by
  refine Met.ofW (cc := cX1_init) (maxL := 2) (ret := none) (by decide) rfl ?_
  intro p e s m args below meth c s₁ B hml hv
  obtain ⟨rfl, hsz, hP, ⟨hK, hN⟩, hD0⟩ := hv
  have hx := B.exec
  have hb := B.bytes
  have hr := B.returns
  have hts := atoms_spec (ws := wk_k_Flight) B.pre
  have hown : s.vm.findClass RX1 = some m.cls := findClass_of_methodNamed B.named
  have hlocks := B.notSynchronized
  have hin : meth.name = "<init>" := (name_of_methodNamed B.named B.method).1
  subst hsz
  have hD := hD0.self (sz := s.heap.size)
  generalize hAe : va_A [(h0, .inr (1, [.null, .int 0, .int 0, .int 0, .int 0, .int 0, .int 0]))] s.heap.size = A at hD ⊢
  have hA : ∀ q : Nat, s.heap.size ≤ q → A q := fun q h => by rw [← hAe]; exact Or.inr h
  have hS : va_S A s.heap s.heap [] := va_S.rf
  have hP : va_P D vwCl [(h0, .inr (1, [.null, .int 0, .int 0, .int 0, .int 0, .int 0, .int 0]))] s.heap := hP
  have hl := lv_entry ([.ref h0, .ref b]) (n := 2) (Nat.le_of_ble_eq_true rfl)
  rw [lg_entry_eq]
  generalize (lg_sl ([.ref h0, .ref b]) ++ List.replicate (2 - (lg_sl ([.ref h0, .ref b])).length) Slot.unset).toArray = ls at hl ⊢
  have hl : lv_has ls 2 [(0, .ref h0), (1, .ref b)] := hl
  refine lv_aload_n hx hb dX1_init_0 rfl (lv_at hl 0 rfl) ?_
  refine W.objInit hx hb hown (hts (.methodLink RX1 3 objectInit) (by decide +kernel)) (hts (.instanceMethod objectInit) (by decide +kernel)) (hts (.code objectInit ⟨#[0xb1]⟩ 1 none) (by decide +kernel)) rfl (by rw [hml]; exact hl.1) rfl dX1_init_1 (Nat.le_of_ble_eq_true rfl) (Nat.le_of_ble_eq_true rfl) ?_
  refine W.eq (g2 := F0 m 4 ls []) rfl ?_
  refine lv_aload_n hx hb dX1_init_4 rfl (lv_at hl 0 rfl) ?_
  refine lv_aload_n hx hb dX1_init_5 rfl (lv_at hl 1 rfl) ?_
  refine va_putF (D := D) (ci := 1) (v := .ref b) (ty := .object "FlightDesk$Book") (C := RX1) (T := TX1) (N := 7) hx hb hts iw_k_Flight_1 tyX1 tyX1_ok nmX1 hown hK hP hD hS 0 rfl rfl 0 (by decide) (hts (.fieldLink RX1 9 "FlightDesk$Flight" "book" "LFlightDesk$Book;") (by decide +kernel)) (fun _ h9 => h9) rfl hin rfl (by decide +kernel) rfl rfl (Nat.le_of_ble_eq_true rfl) dX1_init_6 (fun H locs hP hD hS => ?_)
  have hP : va_P D vwCl [(h0, .inr (1, [.ref b, .int 0, .int 0, .int 0, .int 0, .int 0, .int 0]))] H := hP
  have hD : va_D A [(h0, .inr (1, [.ref b, .int 0, .int 0, .int 0, .int 0, .int 0, .int 0]))] := hD
  have hP9 := hP.sub (ws' := [(h0, .inr (1, [.ref b, .int 0, .int 0, .int 0, .int 0, .int 0, .int 0]))]) [0] rfl
  have hD9 := hD.sub (ws' := [(h0, .inr (1, [.ref b, .int 0, .int 0, .int 0, .int 0, .int 0, .int 0]))]) [0] (by decide) rfl
  refine W.widen (k := 0) (n := 0) (by decide) (by decide) ?_
  exact W.vret hx hb hr (fun t ht hW => ⟨⟨(), rfl, trivial, by rw [ht]; exact hP9, hD9⟩, hS.F ht⟩) hS.2.2 dX1_init_9

def wk_k_Way : List Cond := .code yX6_init cX6_init 1 none :: ([.methodLink RX6 3 objectInit, .instanceMethod objectInit, .code objectInit ⟨#[0xb1]⟩ 1 none, .arrayClass .int, .fieldLink RX6 9 "FlightDesk$Way" "leg" "[I", .fieldLink RX6 15 "FlightDesk$Way" "level" "[I", .fieldLink RX6 18 "FlightDesk$Way" "left" "[I"] ++ wsX60)
theorem iw_k_Way_6 : ∀ w ∈ wsX60, w ∈ wk_k_Way := fun _ h => List.mem_cons_of_mem _ (List.mem_append_right _ h)
set_option maxHeartbeats 4000000 in
set_option maxRecDepth 100000 in
theorem k_Way (l : Launch) (D : va_G) (cI cB cP : ClassId) (sz : Nat) (h0 : Nat) : Met l yX6_init wk_k_Way ({ frames := 1, cells := 3, slots := 48, locals := 12 } : Room) (va_Pc [.ref h0] (Pw D cI cB cP sz [(h0, .inr (6, [.int 0, .int 0, .null, .null, .null]))])) (va_Qv (fun (_ : Unit) => True) (fun _ t => ∃ q2 : Nat, ∃ q3 : Nat, ∃ q4 : Nat, va_P D vwCl [(h0, .inr (6, [.int 0, .int 0, .ref q2, .ref q3, .ref q4]))] t.heap ∧ va_D (va_A [(h0, .inr (6, [.int 0, .int 0, .null, .null, .null]))] sz) [(h0, .inr (6, [.int 0, .int 0, .ref q2, .ref q3, .ref q4]))]) (va_A [(h0, .inr (6, [.int 0, .int 0, .null, .null, .null]))] sz)) 3 48 (va_A [(h0, .inr (6, [.int 0, .int 0, .null, .null, .null]))] sz) := by
  refine Met.ofW (cc := cX6_init) (maxL := 1) (ret := none) (by decide) rfl ?_
  intro p e s m args below meth c s₁ B hml hv
  obtain ⟨rfl, hsz, hP, ⟨hK, hN⟩, hD0⟩ := hv
  have hx := B.exec
  have hb := B.bytes
  have hr := B.returns
  have hts := atoms_spec (ws := wk_k_Way) B.pre
  have hown : s.vm.findClass RX6 = some m.cls := findClass_of_methodNamed B.named
  have hlocks := B.notSynchronized
  have hin : meth.name = "<init>" := (name_of_methodNamed B.named B.method).1
  subst hsz
  have hD := hD0.self (sz := s.heap.size)
  generalize hAe : va_A [(h0, .inr (6, [.int 0, .int 0, .null, .null, .null]))] s.heap.size = A at hD ⊢
  have hA : ∀ q : Nat, s.heap.size ≤ q → A q := fun q h => by rw [← hAe]; exact Or.inr h
  have hS : va_S A s.heap s.heap [] := va_S.rf
  have hP : va_P D vwCl [(h0, .inr (6, [.int 0, .int 0, .null, .null, .null]))] s.heap := hP
  have hl := lv_entry ([.ref h0]) (n := 1) (Nat.le_of_ble_eq_true rfl)
  rw [lg_entry_eq]
  generalize (lg_sl ([.ref h0]) ++ List.replicate (1 - (lg_sl ([.ref h0])).length) Slot.unset).toArray = ls at hl ⊢
  have hl : lv_has ls 1 [(0, .ref h0)] := hl
  refine lv_aload_n hx hb dX6_init_0 rfl (lv_at hl 0 rfl) ?_
  refine W.objInit hx hb hown (hts (.methodLink RX6 3 objectInit) (by decide +kernel)) (hts (.instanceMethod objectInit) (by decide +kernel)) (hts (.code objectInit ⟨#[0xb1]⟩ 1 none) (by decide +kernel)) rfl (by rw [hml]; exact hl.1) rfl dX6_init_1 (Nat.le_of_ble_eq_true rfl) (Nat.le_of_ble_eq_true rfl) ?_
  refine W.eq (g2 := F0 m 4 ls []) rfl ?_
  refine lv_aload_n hx hb dX6_init_4 rfl (lv_at hl 0 rfl) ?_
  refine lv_bipush (v := 16) hx hb dX6_init_5 (by decide) ?_
  refine ny_i (N' := 16) hx hb (hts (.arrayClass .int) (by decide +kernel)) hK hP hD hS hA (by decide) (by decide) (by decide) (Nat.le_of_ble_eq_true rfl) (Nat.le_of_ble_eq_true rfl) dX6_init_7 (fun q1 H hP hD hS => ?_)
  have hP : va_P D vwCl [(h0, .inr (6, [.int 0, .int 0, .null, .null, .null])), (q1, .inl (cI, 16, .inl (fun _ => 0)))] H := hP
  have hD : va_D A [(h0, .inr (6, [.int 0, .int 0, .null, .null, .null])), (q1, .inl (cI, 16, .inl (fun _ => 0)))] := hD
  refine W.widen (k := 1) (n := 16) (by decide) (by decide) ?_
  refine va_putF (D := D) (ci := 6) (v := .ref q1) (ty := .array .int) (C := RX6) (T := TX6) (N := 5) hx hb hts iw_k_Way_6 tyX6 tyX6_ok nmX6 hown hK hP hD hS 0 rfl rfl 2 (by decide) (hts (.fieldLink RX6 9 "FlightDesk$Way" "leg" "[I") (by decide +kernel)) (fun _ h9 => h9) rfl hin rfl (by decide +kernel) rfl rfl (Nat.le_of_ble_eq_true rfl) dX6_init_9 (fun H locs hP hD hS => ?_)
  have hP : va_P D vwCl [(h0, .inr (6, [.int 0, .int 0, .ref q1, .null, .null])), (q1, .inl (cI, 16, .inl (fun _ => 0)))] H := hP
  have hD : va_D A [(h0, .inr (6, [.int 0, .int 0, .ref q1, .null, .null])), (q1, .inl (cI, 16, .inl (fun _ => 0)))] := hD
  refine lv_aload_n hx hb dX6_init_12 rfl (lv_at hl 0 rfl) ?_
  refine lv_bipush (v := 16) hx hb dX6_init_13 (by decide) ?_
  refine ny_i (N' := 16) hx hb (hts (.arrayClass .int) (by decide +kernel)) hK hP hD hS hA (by decide) (by decide) (by decide) (Nat.le_of_ble_eq_true rfl) (Nat.le_of_ble_eq_true rfl) dX6_init_15 (fun q2 H hP hD hS => ?_)
  have hP : va_P D vwCl [(h0, .inr (6, [.int 0, .int 0, .ref q1, .null, .null])), (q1, .inl (cI, 16, .inl (fun _ => 0))), (q2, .inl (cI, 16, .inl (fun _ => 0)))] H := hP
  have hD : va_D A [(h0, .inr (6, [.int 0, .int 0, .ref q1, .null, .null])), (q1, .inl (cI, 16, .inl (fun _ => 0))), (q2, .inl (cI, 16, .inl (fun _ => 0)))] := hD
  refine W.widen (k := 2) (n := 32) (by decide) (by decide) ?_
  refine va_putF (D := D) (ci := 6) (v := .ref q2) (ty := .array .int) (C := RX6) (T := TX6) (N := 5) hx hb hts iw_k_Way_6 tyX6 tyX6_ok nmX6 hown hK hP hD hS 0 rfl rfl 3 (by decide) (hts (.fieldLink RX6 15 "FlightDesk$Way" "level" "[I") (by decide +kernel)) (fun _ h9 => h9) rfl hin rfl (by decide +kernel) rfl rfl (Nat.le_of_ble_eq_true rfl) dX6_init_17 (fun H locs hP hD hS => ?_)
  have hP : va_P D vwCl [(h0, .inr (6, [.int 0, .int 0, .ref q1, .ref q2, .null])), (q1, .inl (cI, 16, .inl (fun _ => 0))), (q2, .inl (cI, 16, .inl (fun _ => 0)))] H := hP
  have hD : va_D A [(h0, .inr (6, [.int 0, .int 0, .ref q1, .ref q2, .null])), (q1, .inl (cI, 16, .inl (fun _ => 0))), (q2, .inl (cI, 16, .inl (fun _ => 0)))] := hD
  refine lv_aload_n hx hb dX6_init_20 rfl (lv_at hl 0 rfl) ?_
  refine lv_bipush (v := 16) hx hb dX6_init_21 (by decide) ?_
  refine ny_i (N' := 16) hx hb (hts (.arrayClass .int) (by decide +kernel)) hK hP hD hS hA (by decide) (by decide) (by decide) (Nat.le_of_ble_eq_true rfl) (Nat.le_of_ble_eq_true rfl) dX6_init_23 (fun q3 H hP hD hS => ?_)
  have hP : va_P D vwCl [(h0, .inr (6, [.int 0, .int 0, .ref q1, .ref q2, .null])), (q1, .inl (cI, 16, .inl (fun _ => 0))), (q2, .inl (cI, 16, .inl (fun _ => 0))), (q3, .inl (cI, 16, .inl (fun _ => 0)))] H := hP
  have hD : va_D A [(h0, .inr (6, [.int 0, .int 0, .ref q1, .ref q2, .null])), (q1, .inl (cI, 16, .inl (fun _ => 0))), (q2, .inl (cI, 16, .inl (fun _ => 0))), (q3, .inl (cI, 16, .inl (fun _ => 0)))] := hD
  refine W.widen (k := 3) (n := 48) (by decide) (by decide) ?_
  refine va_putF (D := D) (ci := 6) (v := .ref q3) (ty := .array .int) (C := RX6) (T := TX6) (N := 5) hx hb hts iw_k_Way_6 tyX6 tyX6_ok nmX6 hown hK hP hD hS 0 rfl rfl 4 (by decide) (hts (.fieldLink RX6 18 "FlightDesk$Way" "left" "[I") (by decide +kernel)) (fun _ h9 => h9) rfl hin rfl (by decide +kernel) rfl rfl (Nat.le_of_ble_eq_true rfl) dX6_init_25 (fun H locs hP hD hS => ?_)
  have hP : va_P D vwCl [(h0, .inr (6, [.int 0, .int 0, .ref q1, .ref q2, .ref q3])), (q1, .inl (cI, 16, .inl (fun _ => 0))), (q2, .inl (cI, 16, .inl (fun _ => 0))), (q3, .inl (cI, 16, .inl (fun _ => 0)))] H := hP
  have hD : va_D A [(h0, .inr (6, [.int 0, .int 0, .ref q1, .ref q2, .ref q3])), (q1, .inl (cI, 16, .inl (fun _ => 0))), (q2, .inl (cI, 16, .inl (fun _ => 0))), (q3, .inl (cI, 16, .inl (fun _ => 0)))] := hD
  have hP9 := hP.sub (ws' := [(h0, .inr (6, [.int 0, .int 0, .ref q1, .ref q2, .ref q3]))]) [0] rfl
  have hD9 := hD.sub (ws' := [(h0, .inr (6, [.int 0, .int 0, .ref q1, .ref q2, .ref q3]))]) [0] (by decide) rfl
  refine W.widen (k := 3) (n := 48) (by decide) (by decide) ?_
  exact W.vret hx hb hr (fun t ht hW => ⟨⟨(), rfl, trivial, q1, q2, q3, by rw [ht]; exact hP9, hD9⟩, hS.F ht⟩) hS.2.2 dX6_init_28

def wk_k_Plan : List Cond := .code yX2_init cX2_init 4 none :: ([.methodLink RX2 3 objectInit, .instanceMethod objectInit, .code objectInit ⟨#[0xb1]⟩ 1 none, .classLink RX2 9 RX6, .instantiable RX6 5, .initialized RX6, .instanceMethod yX6_init, .code yX6_init cX6_init 1 none, .methodLink RX6 3 objectInit, .arrayClass .int, .fieldLink RX6 9 "FlightDesk$Way" "leg" "[I", .fieldLink RX6 15 "FlightDesk$Way" "level" "[I", .fieldLink RX6 18 "FlightDesk$Way" "left" "[I", .fieldLink RX2 12 "FlightDesk$Plan" "best" "LFlightDesk$Way;", .fieldLink RX2 18 "FlightDesk$Plan" "minutes" "[I", .fieldLink RX2 22 "FlightDesk$Plan" "onward" "[I", .fieldLink RX2 25 "FlightDesk$Plan" "back" "[I", .fieldLink RX2 28 "FlightDesk$Plan" "groundCarrying" "[I", .fieldLink RX2 31 "FlightDesk$Plan" "book" "LFlightDesk$Book;", .fieldLink RX2 35 "FlightDesk$Plan" "flight" "LFlightDesk$Flight;", .fieldLink RX2 39 "FlightDesk$Plan" "world" "I"] ++ wsX60 ++ wsX20)
theorem iw_k_Plan_6 : ∀ w ∈ wsX60, w ∈ wk_k_Plan := fun _ h => List.mem_cons_of_mem _ (List.mem_append_left _ (List.mem_append_right _ h))
theorem iw_k_Plan_2 : ∀ w ∈ wsX20, w ∈ wk_k_Plan := fun _ h => List.mem_cons_of_mem _ (List.mem_append_right _ h)
set_option maxRecDepth 20000 in
theorem gw_k_Plan_0 : GoodIn wk_k_Plan wk_k_Way := goodIn_sub (by decide +kernel) (by decide +kernel)
set_option maxHeartbeats 4000000 in
set_option maxRecDepth 100000 in
theorem k_Plan (l : Launch) (D : va_G) (cI cB cP : ClassId) (sz : Nat) (h0 : Nat) (b : Nat) (f : Nat) (w : Int32) : Met l yX2_init wk_k_Plan ({ frames := 2, cells := 8, slots := 790, locals := 32 } : Room) (va_Pc [.ref h0, .ref b, .ref f, .int w] (Pw D cI cB cP sz [(h0, .inr (2, [.null, .null, .int 0, .null, .int 0, .int 0, .int 0, .int 0, .int 0, .null, .null, .null, .null]))])) (va_Qv (fun (_ : Unit) => True) (fun _ t => ∃ q3 : Nat, ∃ q9 : Nat, ∃ q10 : Nat, ∃ q11 : Nat, ∃ q12 : Nat, va_P D vwCl [(h0, .inr (2, [.ref b, .ref f, .int w, .ref q3, .int 0, .int 0, .int 0, .int 0, .int 0, .ref q9, .ref q10, .ref q11, .ref q12]))] t.heap ∧ va_D (va_A [(h0, .inr (2, [.null, .null, .int 0, .null, .int 0, .int 0, .int 0, .int 0, .int 0, .null, .null, .null, .null]))] sz) [(h0, .inr (2, [.ref b, .ref f, .int w, .ref q3, .int 0, .int 0, .int 0, .int 0, .int 0, .ref q9, .ref q10, .ref q11, .ref q12]))]) (va_A [(h0, .inr (2, [.null, .null, .int 0, .null, .int 0, .int 0, .int 0, .int 0, .int 0, .null, .null, .null, .null]))] sz)) 8 790 (va_A [(h0, .inr (2, [.null, .null, .int 0, .null, .int 0, .int 0, .int 0, .int 0, .int 0, .null, .null, .null, .null]))] sz) := by
  refine Met.ofW (cc := cX2_init) (maxL := 4) (ret := none) (by decide) rfl ?_
  intro p e s m args below meth c s₁ B hml hv
  obtain ⟨rfl, hsz, hP, ⟨hK, hN⟩, hD0⟩ := hv
  have hx := B.exec
  have hb := B.bytes
  have hr := B.returns
  have hts := atoms_spec (ws := wk_k_Plan) B.pre
  have hown : s.vm.findClass RX2 = some m.cls := findClass_of_methodNamed B.named
  have hlocks := B.notSynchronized
  have hin : meth.name = "<init>" := (name_of_methodNamed B.named B.method).1
  subst hsz
  have hD := hD0.self (sz := s.heap.size)
  generalize hAe : va_A [(h0, .inr (2, [.null, .null, .int 0, .null, .int 0, .int 0, .int 0, .int 0, .int 0, .null, .null, .null, .null]))] s.heap.size = A at hD ⊢
  have hA : ∀ q : Nat, s.heap.size ≤ q → A q := fun q h => by rw [← hAe]; exact Or.inr h
  have hS : va_S A s.heap s.heap [] := va_S.rf
  have hP : va_P D vwCl [(h0, .inr (2, [.null, .null, .int 0, .null, .int 0, .int 0, .int 0, .int 0, .int 0, .null, .null, .null, .null]))] s.heap := hP
  have hl := lv_entry ([.ref h0, .ref b, .ref f, .int w]) (n := 4) (Nat.le_of_ble_eq_true rfl)
  rw [lg_entry_eq]
  generalize (lg_sl ([.ref h0, .ref b, .ref f, .int w]) ++ List.replicate (4 - (lg_sl ([.ref h0, .ref b, .ref f, .int w])).length) Slot.unset).toArray = ls at hl ⊢
  have hl : lv_has ls 4 [(0, .ref h0), (1, .ref b), (2, .ref f), (3, .int w)] := hl
  refine lv_aload_n hx hb dX2_init_0 rfl (lv_at hl 0 rfl) ?_
  refine W.objInit hx hb hown (hts (.methodLink RX2 3 objectInit) (by decide +kernel)) (hts (.instanceMethod objectInit) (by decide +kernel)) (hts (.code objectInit ⟨#[0xb1]⟩ 1 none) (by decide +kernel)) rfl (by rw [hml]; exact hl.1) rfl dX2_init_1 (Nat.le_of_ble_eq_true rfl) (Nat.le_of_ble_eq_true rfl) ?_
  refine W.eq (g2 := F0 m 4 ls []) rfl ?_
  refine lv_aload_n hx hb dX2_init_4 rfl (lv_at hl 0 rfl) ?_
  refine va_new (ci := 6) (fs := [.int 0, .int 0, .null, .null, .null]) (C := RX6) (T := TX6) (N := 5) hx hb hts iw_k_Plan_6 tyX6 tyX6_ok hown (hts (.classLink RX2 9 RX6) (by decide +kernel)) (hts (.instantiable RX6 5) (by decide +kernel)) (hts (.initialized RX6) (by decide +kernel)) hK hP hD hS hA rfl (by decide +kernel) (Nat.le_of_ble_eq_true rfl) (Nat.le_of_ble_eq_true rfl) dX2_init_5 (fun q1 H hP hD hS => ?_)
  have hP : va_P D vwCl [(h0, .inr (2, [.null, .null, .int 0, .null, .int 0, .int 0, .int 0, .int 0, .int 0, .null, .null, .null, .null])), (q1, .inr (6, [.int 0, .int 0, .null, .null, .null]))] H := hP
  have hD : va_D A [(h0, .inr (2, [.null, .null, .int 0, .null, .int 0, .int 0, .int 0, .int 0, .int 0, .null, .null, .null, .null])), (q1, .inr (6, [.int 0, .int 0, .null, .null, .null]))] := hD
  refine W.widen (k := 1) (n := 5) (by decide) (by decide) ?_
  refine lv_dup hx hb dX2_init_8 rfl ?_
  have hPc := hP.sub (ws' := [(q1, .inr (6, [.int 0, .int 0, .null, .null, .null]))]) [1] rfl
  have hDc := hD.sub (ws' := [(q1, .inr (6, [.int 0, .int 0, .null, .null, .null]))]) [1] (by decide) rfl
  have hFc := va_free (wc := [(q1, .inr (6, [.int 0, .int 0, .null, .null, .null]))]) hD hS hA [1] rfl
  refine va_callv (va_runIN (As := []) (rest := [.ref q1, .ref h0]) ⟨hx, hb, hml, hown, hts⟩ (k_Way l D cI cB cP H.size q1) ⟨va_cnB 0 hts gw_k_Plan_0 rfl rfl rfl (hN.2.1) (hts (.initialized RX6) (by decide +kernel)) (by decide +kernel) ⟨Nat.le_of_ble_eq_true rfl, Nat.le_of_ble_eq_true rfl⟩, rfl, (hts (.instanceMethod yX6_init) (by decide +kernel))⟩ ⟨ny_blind, ny_pre hPc hK hN hDc⟩ rfl rfl hl.1 rfl (lv_room (Nat.le_of_ble_eq_true rfl)) dX2_init_9 ⟨Nat.le_of_ble_eq_true rfl, Nat.le_of_ble_eq_true rfl⟩) hS (fun q _ h => hFc q h) hFc (fun u t H locs ht hvm hw hB hz1 hk1 hS => ?_)
  obtain ⟨q_2, q_3, q_4, hP1, hD1⟩ := hB
  rw [ht] at hP1
  obtain ⟨hP, hD⟩ := va_join (wr := [(h0, .inr (2, [.null, .null, .int 0, .null, .int 0, .int 0, .int 0, .int 0, .int 0, .null, .null, .null, .null]))]) (w1 := [(q1, .inr (6, [.int 0, .int 0, .ref q_2, .ref q_3, .ref q_4]))]) hP hD [1] [0] rfl rfl (by decide) (by decide) hk1 hFc hP1 hD1
  have hP : va_P D vwCl [(h0, .inr (2, [.null, .null, .int 0, .null, .int 0, .int 0, .int 0, .int 0, .int 0, .null, .null, .null, .null])), (q1, .inr (6, [.int 0, .int 0, .ref q_2, .ref q_3, .ref q_4]))] H := hP
  have hD : va_D A [(h0, .inr (2, [.null, .null, .int 0, .null, .int 0, .int 0, .int 0, .int 0, .int 0, .null, .null, .null, .null])), (q1, .inr (6, [.int 0, .int 0, .ref q_2, .ref q_3, .ref q_4]))] := hD
  refine W.widen (k := 4) (n := 53) (by decide) (by decide) ?_
  refine va_putF (D := D) (ci := 2) (v := .ref q1) (ty := .object "FlightDesk$Way") (C := RX2) (T := TX2) (N := 13) hx hb hts iw_k_Plan_2 tyX2 tyX2_ok nmX2 hown hK hP hD hS 0 rfl rfl 3 (by decide) (hts (.fieldLink RX2 12 "FlightDesk$Plan" "best" "LFlightDesk$Way;") (by decide +kernel)) (fun _ h9 => h9) rfl hin rfl (by decide +kernel) rfl rfl (Nat.le_of_ble_eq_true rfl) dX2_init_12 (fun H locs hP hD hS => ?_)
  have hP : va_P D vwCl [(h0, .inr (2, [.null, .null, .int 0, .ref q1, .int 0, .int 0, .int 0, .int 0, .int 0, .null, .null, .null, .null])), (q1, .inr (6, [.int 0, .int 0, .ref q_2, .ref q_3, .ref q_4]))] H := hP
  have hD : va_D A [(h0, .inr (2, [.null, .null, .int 0, .ref q1, .int 0, .int 0, .int 0, .int 0, .int 0, .null, .null, .null, .null])), (q1, .inr (6, [.int 0, .int 0, .ref q_2, .ref q_3, .ref q_4]))] := hD
  refine lv_aload_n hx hb dX2_init_15 rfl (lv_at hl 0 rfl) ?_
  refine lv_bipush (v := 96) hx hb dX2_init_16 (by decide) ?_
  refine ny_i (N' := 96) hx hb (hts (.arrayClass .int) (by decide +kernel)) hK hP hD hS hA (by decide) (by decide) (by decide) (Nat.le_of_ble_eq_true rfl) (Nat.le_of_ble_eq_true rfl) dX2_init_18 (fun q6 H hP hD hS => ?_)
  have hP : va_P D vwCl [(h0, .inr (2, [.null, .null, .int 0, .ref q1, .int 0, .int 0, .int 0, .int 0, .int 0, .null, .null, .null, .null])), (q1, .inr (6, [.int 0, .int 0, .ref q_2, .ref q_3, .ref q_4])), (q6, .inl (cI, 96, .inl (fun _ => 0)))] H := hP
  have hD : va_D A [(h0, .inr (2, [.null, .null, .int 0, .ref q1, .int 0, .int 0, .int 0, .int 0, .int 0, .null, .null, .null, .null])), (q1, .inr (6, [.int 0, .int 0, .ref q_2, .ref q_3, .ref q_4])), (q6, .inl (cI, 96, .inl (fun _ => 0)))] := hD
  refine W.widen (k := 5) (n := 149) (by decide) (by decide) ?_
  refine va_putF (D := D) (ci := 2) (v := .ref q6) (ty := .array .int) (C := RX2) (T := TX2) (N := 13) hx hb hts iw_k_Plan_2 tyX2 tyX2_ok nmX2 hown hK hP hD hS 0 rfl rfl 9 (by decide) (hts (.fieldLink RX2 18 "FlightDesk$Plan" "minutes" "[I") (by decide +kernel)) (fun _ h9 => h9) rfl hin rfl (by decide +kernel) rfl rfl (Nat.le_of_ble_eq_true rfl) dX2_init_20 (fun H locs hP hD hS => ?_)
  have hP : va_P D vwCl [(h0, .inr (2, [.null, .null, .int 0, .ref q1, .int 0, .int 0, .int 0, .int 0, .int 0, .ref q6, .null, .null, .null])), (q1, .inr (6, [.int 0, .int 0, .ref q_2, .ref q_3, .ref q_4])), (q6, .inl (cI, 96, .inl (fun _ => 0)))] H := hP
  have hD : va_D A [(h0, .inr (2, [.null, .null, .int 0, .ref q1, .int 0, .int 0, .int 0, .int 0, .int 0, .ref q6, .null, .null, .null])), (q1, .inr (6, [.int 0, .int 0, .ref q_2, .ref q_3, .ref q_4])), (q6, .inl (cI, 96, .inl (fun _ => 0)))] := hD
  refine lv_aload_n hx hb dX2_init_23 rfl (lv_at hl 0 rfl) ?_
  refine lv_bipush (v := 70) hx hb dX2_init_24 (by decide) ?_
  refine ny_i (N' := 70) hx hb (hts (.arrayClass .int) (by decide +kernel)) hK hP hD hS hA (by decide) (by decide) (by decide) (Nat.le_of_ble_eq_true rfl) (Nat.le_of_ble_eq_true rfl) dX2_init_26 (fun q7 H hP hD hS => ?_)
  have hP : va_P D vwCl [(h0, .inr (2, [.null, .null, .int 0, .ref q1, .int 0, .int 0, .int 0, .int 0, .int 0, .ref q6, .null, .null, .null])), (q1, .inr (6, [.int 0, .int 0, .ref q_2, .ref q_3, .ref q_4])), (q6, .inl (cI, 96, .inl (fun _ => 0))), (q7, .inl (cI, 70, .inl (fun _ => 0)))] H := hP
  have hD : va_D A [(h0, .inr (2, [.null, .null, .int 0, .ref q1, .int 0, .int 0, .int 0, .int 0, .int 0, .ref q6, .null, .null, .null])), (q1, .inr (6, [.int 0, .int 0, .ref q_2, .ref q_3, .ref q_4])), (q6, .inl (cI, 96, .inl (fun _ => 0))), (q7, .inl (cI, 70, .inl (fun _ => 0)))] := hD
  refine W.widen (k := 6) (n := 219) (by decide) (by decide) ?_
  refine va_putF (D := D) (ci := 2) (v := .ref q7) (ty := .array .int) (C := RX2) (T := TX2) (N := 13) hx hb hts iw_k_Plan_2 tyX2 tyX2_ok nmX2 hown hK hP hD hS 0 rfl rfl 10 (by decide) (hts (.fieldLink RX2 22 "FlightDesk$Plan" "onward" "[I") (by decide +kernel)) (fun _ h9 => h9) rfl hin rfl (by decide +kernel) rfl rfl (Nat.le_of_ble_eq_true rfl) dX2_init_28 (fun H locs hP hD hS => ?_)
  have hP : va_P D vwCl [(h0, .inr (2, [.null, .null, .int 0, .ref q1, .int 0, .int 0, .int 0, .int 0, .int 0, .ref q6, .ref q7, .null, .null])), (q1, .inr (6, [.int 0, .int 0, .ref q_2, .ref q_3, .ref q_4])), (q6, .inl (cI, 96, .inl (fun _ => 0))), (q7, .inl (cI, 70, .inl (fun _ => 0)))] H := hP
  have hD : va_D A [(h0, .inr (2, [.null, .null, .int 0, .ref q1, .int 0, .int 0, .int 0, .int 0, .int 0, .ref q6, .ref q7, .null, .null])), (q1, .inr (6, [.int 0, .int 0, .ref q_2, .ref q_3, .ref q_4])), (q6, .inl (cI, 96, .inl (fun _ => 0))), (q7, .inl (cI, 70, .inl (fun _ => 0)))] := hD
  refine lv_aload_n hx hb dX2_init_31 rfl (lv_at hl 0 rfl) ?_
  refine lv_bipush (v := 70) hx hb dX2_init_32 (by decide) ?_
  refine ny_i (N' := 70) hx hb (hts (.arrayClass .int) (by decide +kernel)) hK hP hD hS hA (by decide) (by decide) (by decide) (Nat.le_of_ble_eq_true rfl) (Nat.le_of_ble_eq_true rfl) dX2_init_34 (fun q8 H hP hD hS => ?_)
  have hP : va_P D vwCl [(h0, .inr (2, [.null, .null, .int 0, .ref q1, .int 0, .int 0, .int 0, .int 0, .int 0, .ref q6, .ref q7, .null, .null])), (q1, .inr (6, [.int 0, .int 0, .ref q_2, .ref q_3, .ref q_4])), (q6, .inl (cI, 96, .inl (fun _ => 0))), (q7, .inl (cI, 70, .inl (fun _ => 0))), (q8, .inl (cI, 70, .inl (fun _ => 0)))] H := hP
  have hD : va_D A [(h0, .inr (2, [.null, .null, .int 0, .ref q1, .int 0, .int 0, .int 0, .int 0, .int 0, .ref q6, .ref q7, .null, .null])), (q1, .inr (6, [.int 0, .int 0, .ref q_2, .ref q_3, .ref q_4])), (q6, .inl (cI, 96, .inl (fun _ => 0))), (q7, .inl (cI, 70, .inl (fun _ => 0))), (q8, .inl (cI, 70, .inl (fun _ => 0)))] := hD
  refine W.widen (k := 7) (n := 289) (by decide) (by decide) ?_
  refine va_putF (D := D) (ci := 2) (v := .ref q8) (ty := .array .int) (C := RX2) (T := TX2) (N := 13) hx hb hts iw_k_Plan_2 tyX2 tyX2_ok nmX2 hown hK hP hD hS 0 rfl rfl 11 (by decide) (hts (.fieldLink RX2 25 "FlightDesk$Plan" "back" "[I") (by decide +kernel)) (fun _ h9 => h9) rfl hin rfl (by decide +kernel) rfl rfl (Nat.le_of_ble_eq_true rfl) dX2_init_36 (fun H locs hP hD hS => ?_)
  have hP : va_P D vwCl [(h0, .inr (2, [.null, .null, .int 0, .ref q1, .int 0, .int 0, .int 0, .int 0, .int 0, .ref q6, .ref q7, .ref q8, .null])), (q1, .inr (6, [.int 0, .int 0, .ref q_2, .ref q_3, .ref q_4])), (q6, .inl (cI, 96, .inl (fun _ => 0))), (q7, .inl (cI, 70, .inl (fun _ => 0))), (q8, .inl (cI, 70, .inl (fun _ => 0)))] H := hP
  have hD : va_D A [(h0, .inr (2, [.null, .null, .int 0, .ref q1, .int 0, .int 0, .int 0, .int 0, .int 0, .ref q6, .ref q7, .ref q8, .null])), (q1, .inr (6, [.int 0, .int 0, .ref q_2, .ref q_3, .ref q_4])), (q6, .inl (cI, 96, .inl (fun _ => 0))), (q7, .inl (cI, 70, .inl (fun _ => 0))), (q8, .inl (cI, 70, .inl (fun _ => 0)))] := hD
  refine lv_aload_n hx hb dX2_init_39 rfl (lv_at hl 0 rfl) ?_
  refine lv_sipush (v := 501) hx hb dX2_init_40 (by decide) ?_
  refine ny_i (N' := 501) hx hb (hts (.arrayClass .int) (by decide +kernel)) hK hP hD hS hA (by decide) (by decide) (by decide) (Nat.le_of_ble_eq_true rfl) (Nat.le_of_ble_eq_true rfl) dX2_init_43 (fun q9 H hP hD hS => ?_)
  have hP : va_P D vwCl [(h0, .inr (2, [.null, .null, .int 0, .ref q1, .int 0, .int 0, .int 0, .int 0, .int 0, .ref q6, .ref q7, .ref q8, .null])), (q1, .inr (6, [.int 0, .int 0, .ref q_2, .ref q_3, .ref q_4])), (q6, .inl (cI, 96, .inl (fun _ => 0))), (q7, .inl (cI, 70, .inl (fun _ => 0))), (q8, .inl (cI, 70, .inl (fun _ => 0))), (q9, .inl (cI, 501, .inl (fun _ => 0)))] H := hP
  have hD : va_D A [(h0, .inr (2, [.null, .null, .int 0, .ref q1, .int 0, .int 0, .int 0, .int 0, .int 0, .ref q6, .ref q7, .ref q8, .null])), (q1, .inr (6, [.int 0, .int 0, .ref q_2, .ref q_3, .ref q_4])), (q6, .inl (cI, 96, .inl (fun _ => 0))), (q7, .inl (cI, 70, .inl (fun _ => 0))), (q8, .inl (cI, 70, .inl (fun _ => 0))), (q9, .inl (cI, 501, .inl (fun _ => 0)))] := hD
  refine W.widen (k := 8) (n := 790) (by decide) (by decide) ?_
  refine va_putF (D := D) (ci := 2) (v := .ref q9) (ty := .array .int) (C := RX2) (T := TX2) (N := 13) hx hb hts iw_k_Plan_2 tyX2 tyX2_ok nmX2 hown hK hP hD hS 0 rfl rfl 12 (by decide) (hts (.fieldLink RX2 28 "FlightDesk$Plan" "groundCarrying" "[I") (by decide +kernel)) (fun _ h9 => h9) rfl hin rfl (by decide +kernel) rfl rfl (Nat.le_of_ble_eq_true rfl) dX2_init_45 (fun H locs hP hD hS => ?_)
  have hP : va_P D vwCl [(h0, .inr (2, [.null, .null, .int 0, .ref q1, .int 0, .int 0, .int 0, .int 0, .int 0, .ref q6, .ref q7, .ref q8, .ref q9])), (q1, .inr (6, [.int 0, .int 0, .ref q_2, .ref q_3, .ref q_4])), (q6, .inl (cI, 96, .inl (fun _ => 0))), (q7, .inl (cI, 70, .inl (fun _ => 0))), (q8, .inl (cI, 70, .inl (fun _ => 0))), (q9, .inl (cI, 501, .inl (fun _ => 0)))] H := hP
  have hD : va_D A [(h0, .inr (2, [.null, .null, .int 0, .ref q1, .int 0, .int 0, .int 0, .int 0, .int 0, .ref q6, .ref q7, .ref q8, .ref q9])), (q1, .inr (6, [.int 0, .int 0, .ref q_2, .ref q_3, .ref q_4])), (q6, .inl (cI, 96, .inl (fun _ => 0))), (q7, .inl (cI, 70, .inl (fun _ => 0))), (q8, .inl (cI, 70, .inl (fun _ => 0))), (q9, .inl (cI, 501, .inl (fun _ => 0)))] := hD
  refine lv_aload_n hx hb dX2_init_48 rfl (lv_at hl 0 rfl) ?_
  refine lv_aload_n hx hb dX2_init_49 rfl (lv_at hl 1 rfl) ?_
  refine va_putF (D := D) (ci := 2) (v := .ref b) (ty := .object "FlightDesk$Book") (C := RX2) (T := TX2) (N := 13) hx hb hts iw_k_Plan_2 tyX2 tyX2_ok nmX2 hown hK hP hD hS 0 rfl rfl 0 (by decide) (hts (.fieldLink RX2 31 "FlightDesk$Plan" "book" "LFlightDesk$Book;") (by decide +kernel)) (fun _ h9 => h9) rfl hin rfl (by decide +kernel) rfl rfl (Nat.le_of_ble_eq_true rfl) dX2_init_50 (fun H locs hP hD hS => ?_)
  have hP : va_P D vwCl [(h0, .inr (2, [.ref b, .null, .int 0, .ref q1, .int 0, .int 0, .int 0, .int 0, .int 0, .ref q6, .ref q7, .ref q8, .ref q9])), (q1, .inr (6, [.int 0, .int 0, .ref q_2, .ref q_3, .ref q_4])), (q6, .inl (cI, 96, .inl (fun _ => 0))), (q7, .inl (cI, 70, .inl (fun _ => 0))), (q8, .inl (cI, 70, .inl (fun _ => 0))), (q9, .inl (cI, 501, .inl (fun _ => 0)))] H := hP
  have hD : va_D A [(h0, .inr (2, [.ref b, .null, .int 0, .ref q1, .int 0, .int 0, .int 0, .int 0, .int 0, .ref q6, .ref q7, .ref q8, .ref q9])), (q1, .inr (6, [.int 0, .int 0, .ref q_2, .ref q_3, .ref q_4])), (q6, .inl (cI, 96, .inl (fun _ => 0))), (q7, .inl (cI, 70, .inl (fun _ => 0))), (q8, .inl (cI, 70, .inl (fun _ => 0))), (q9, .inl (cI, 501, .inl (fun _ => 0)))] := hD
  refine lv_aload_n hx hb dX2_init_53 rfl (lv_at hl 0 rfl) ?_
  refine lv_aload_n hx hb dX2_init_54 rfl (lv_at hl 2 rfl) ?_
  refine va_putF (D := D) (ci := 2) (v := .ref f) (ty := .object "FlightDesk$Flight") (C := RX2) (T := TX2) (N := 13) hx hb hts iw_k_Plan_2 tyX2 tyX2_ok nmX2 hown hK hP hD hS 0 rfl rfl 1 (by decide) (hts (.fieldLink RX2 35 "FlightDesk$Plan" "flight" "LFlightDesk$Flight;") (by decide +kernel)) (fun _ h9 => h9) rfl hin rfl (by decide +kernel) rfl rfl (Nat.le_of_ble_eq_true rfl) dX2_init_55 (fun H locs hP hD hS => ?_)
  have hP : va_P D vwCl [(h0, .inr (2, [.ref b, .ref f, .int 0, .ref q1, .int 0, .int 0, .int 0, .int 0, .int 0, .ref q6, .ref q7, .ref q8, .ref q9])), (q1, .inr (6, [.int 0, .int 0, .ref q_2, .ref q_3, .ref q_4])), (q6, .inl (cI, 96, .inl (fun _ => 0))), (q7, .inl (cI, 70, .inl (fun _ => 0))), (q8, .inl (cI, 70, .inl (fun _ => 0))), (q9, .inl (cI, 501, .inl (fun _ => 0)))] H := hP
  have hD : va_D A [(h0, .inr (2, [.ref b, .ref f, .int 0, .ref q1, .int 0, .int 0, .int 0, .int 0, .int 0, .ref q6, .ref q7, .ref q8, .ref q9])), (q1, .inr (6, [.int 0, .int 0, .ref q_2, .ref q_3, .ref q_4])), (q6, .inl (cI, 96, .inl (fun _ => 0))), (q7, .inl (cI, 70, .inl (fun _ => 0))), (q8, .inl (cI, 70, .inl (fun _ => 0))), (q9, .inl (cI, 501, .inl (fun _ => 0)))] := hD
  refine lv_aload_n hx hb dX2_init_58 rfl (lv_at hl 0 rfl) ?_
  refine lv_iload_n hx hb dX2_init_59 rfl (lv_at hl 3 rfl) ?_
  refine va_putF (D := D) (ci := 2) (v := .int w) (ty := .int) (C := RX2) (T := TX2) (N := 13) hx hb hts iw_k_Plan_2 tyX2 tyX2_ok nmX2 hown hK hP hD hS 0 rfl rfl 2 (by decide) (hts (.fieldLink RX2 39 "FlightDesk$Plan" "world" "I") (by decide +kernel)) (fun _ h9 => h9) rfl hin rfl (by decide +kernel) rfl rfl (Nat.le_of_ble_eq_true rfl) dX2_init_60 (fun H locs hP hD hS => ?_)
  have hP : va_P D vwCl [(h0, .inr (2, [.ref b, .ref f, .int w, .ref q1, .int 0, .int 0, .int 0, .int 0, .int 0, .ref q6, .ref q7, .ref q8, .ref q9])), (q1, .inr (6, [.int 0, .int 0, .ref q_2, .ref q_3, .ref q_4])), (q6, .inl (cI, 96, .inl (fun _ => 0))), (q7, .inl (cI, 70, .inl (fun _ => 0))), (q8, .inl (cI, 70, .inl (fun _ => 0))), (q9, .inl (cI, 501, .inl (fun _ => 0)))] H := hP
  have hD : va_D A [(h0, .inr (2, [.ref b, .ref f, .int w, .ref q1, .int 0, .int 0, .int 0, .int 0, .int 0, .ref q6, .ref q7, .ref q8, .ref q9])), (q1, .inr (6, [.int 0, .int 0, .ref q_2, .ref q_3, .ref q_4])), (q6, .inl (cI, 96, .inl (fun _ => 0))), (q7, .inl (cI, 70, .inl (fun _ => 0))), (q8, .inl (cI, 70, .inl (fun _ => 0))), (q9, .inl (cI, 501, .inl (fun _ => 0)))] := hD
  have hP9 := hP.sub (ws' := [(h0, .inr (2, [.ref b, .ref f, .int w, .ref q1, .int 0, .int 0, .int 0, .int 0, .int 0, .ref q6, .ref q7, .ref q8, .ref q9]))]) [0] rfl
  have hD9 := hD.sub (ws' := [(h0, .inr (2, [.ref b, .ref f, .int w, .ref q1, .int 0, .int 0, .int 0, .int 0, .int 0, .ref q6, .ref q7, .ref q8, .ref q9]))]) [0] (by decide) rfl
  refine W.widen (k := 8) (n := 790) (by decide) (by decide) ?_
  exact W.vret hx hb hr (fun t ht hW => ⟨⟨(), rfl, trivial, q1, q6, q7, q8, q9, by rw [ht]; exact hP9, hD9⟩, hS.F ht⟩) hS.2.2 dX2_init_63

def wk_k_Scanner : List Cond := .code yX4_init cX4_init 2 none :: ([.methodLink RX4 3 objectInit, .instanceMethod objectInit, .code objectInit ⟨#[0xb1]⟩ 1 none, .arrayClass .int, .fieldLink RX4 11 "FlightDesk$Scanner" "kind" "[I", .fieldLink RX4 15 "FlightDesk$Scanner" "place" "[I", .fieldLink RX4 18 "FlightDesk$Scanner" "value" "[I", .fieldLink RX4 21 "FlightDesk$Scanner" "tape" "LFlightDesk$Tape;"] ++ wsX40)
theorem iw_k_Scanner_4 : ∀ w ∈ wsX40, w ∈ wk_k_Scanner := fun _ h => List.mem_cons_of_mem _ (List.mem_append_right _ h)
set_option maxHeartbeats 4000000 in
set_option maxRecDepth 100000 in
theorem k_Scanner (l : Launch) (D : va_G) (cI cB cP : ClassId) (sz : Nat) (h0 : Nat) (tp : Nat) : Met l yX4_init wk_k_Scanner ({ frames := 1, cells := 3, slots := 36, locals := 12 } : Room) (va_Pc [.ref h0, .ref tp] (Pw D cI cB cP sz [(h0, .inr (4, [.null, .int 0, .null, .null, .null, .int 0]))])) (va_Qv (fun (_ : Unit) => True) (fun _ t => ∃ q2 : Nat, ∃ q3 : Nat, ∃ q4 : Nat, ∃ g2 : Nat → Int32, ∃ g3 : Nat → Int32, ∃ g4 : Nat → Int32, va_P D vwCl [(h0, .inr (4, [.ref tp, .int 0, .ref q2, .ref q3, .ref q4, .int 0])), (q2, .inl (cI, 12, .inl g2)), (q3, .inl (cI, 12, .inl g3)), (q4, .inl (cI, 12, .inl g4))] t.heap ∧ va_D (va_A [(h0, .inr (4, [.null, .int 0, .null, .null, .null, .int 0]))] sz) [(h0, .inr (4, [.ref tp, .int 0, .ref q2, .ref q3, .ref q4, .int 0])), (q2, .inl (cI, 12, .inl g2)), (q3, .inl (cI, 12, .inl g3)), (q4, .inl (cI, 12, .inl g4))]) (va_A [(h0, .inr (4, [.null, .int 0, .null, .null, .null, .int 0]))] sz)) 3 36 (va_A [(h0, .inr (4, [.null, .int 0, .null, .null, .null, .int 0]))] sz) := by
  refine Met.ofW (cc := cX4_init) (maxL := 2) (ret := none) (by decide) rfl ?_
  intro p e s m args below meth c s₁ B hml hv
  obtain ⟨rfl, hsz, hP, ⟨hK, hN⟩, hD0⟩ := hv
  have hx := B.exec
  have hb := B.bytes
  have hr := B.returns
  have hts := atoms_spec (ws := wk_k_Scanner) B.pre
  have hown : s.vm.findClass RX4 = some m.cls := findClass_of_methodNamed B.named
  have hlocks := B.notSynchronized
  have hin : meth.name = "<init>" := (name_of_methodNamed B.named B.method).1
  subst hsz
  have hD := hD0.self (sz := s.heap.size)
  generalize hAe : va_A [(h0, .inr (4, [.null, .int 0, .null, .null, .null, .int 0]))] s.heap.size = A at hD ⊢
  have hA : ∀ q : Nat, s.heap.size ≤ q → A q := fun q h => by rw [← hAe]; exact Or.inr h
  have hS : va_S A s.heap s.heap [] := va_S.rf
  have hP : va_P D vwCl [(h0, .inr (4, [.null, .int 0, .null, .null, .null, .int 0]))] s.heap := hP
  have hl := lv_entry ([.ref h0, .ref tp]) (n := 2) (Nat.le_of_ble_eq_true rfl)
  rw [lg_entry_eq]
  generalize (lg_sl ([.ref h0, .ref tp]) ++ List.replicate (2 - (lg_sl ([.ref h0, .ref tp])).length) Slot.unset).toArray = ls at hl ⊢
  have hl : lv_has ls 2 [(0, .ref h0), (1, .ref tp)] := hl
  refine lv_aload_n hx hb dX4_init_0 rfl (lv_at hl 0 rfl) ?_
  refine W.objInit hx hb hown (hts (.methodLink RX4 3 objectInit) (by decide +kernel)) (hts (.instanceMethod objectInit) (by decide +kernel)) (hts (.code objectInit ⟨#[0xb1]⟩ 1 none) (by decide +kernel)) rfl (by rw [hml]; exact hl.1) rfl dX4_init_1 (Nat.le_of_ble_eq_true rfl) (Nat.le_of_ble_eq_true rfl) ?_
  refine W.eq (g2 := F0 m 4 ls []) rfl ?_
  refine lv_aload_n hx hb dX4_init_4 rfl (lv_at hl 0 rfl) ?_
  refine lv_bipush (v := 12) hx hb dX4_init_5 (by decide) ?_
  refine ny_i (N' := 12) hx hb (hts (.arrayClass .int) (by decide +kernel)) hK hP hD hS hA (by decide) (by decide) (by decide) (Nat.le_of_ble_eq_true rfl) (Nat.le_of_ble_eq_true rfl) dX4_init_7 (fun q1 H hP hD hS => ?_)
  have hP : va_P D vwCl [(h0, .inr (4, [.null, .int 0, .null, .null, .null, .int 0])), (q1, .inl (cI, 12, .inl (fun _ => 0)))] H := hP
  have hD : va_D A [(h0, .inr (4, [.null, .int 0, .null, .null, .null, .int 0])), (q1, .inl (cI, 12, .inl (fun _ => 0)))] := hD
  refine W.widen (k := 1) (n := 12) (by decide) (by decide) ?_
  refine va_putF (D := D) (ci := 4) (v := .ref q1) (ty := .array .int) (C := RX4) (T := TX4) (N := 6) hx hb hts iw_k_Scanner_4 tyX4 tyX4_ok nmX4 hown hK hP hD hS 0 rfl rfl 2 (by decide) (hts (.fieldLink RX4 11 "FlightDesk$Scanner" "kind" "[I") (by decide +kernel)) (fun _ h9 => h9) rfl hin rfl (by decide +kernel) rfl rfl (Nat.le_of_ble_eq_true rfl) dX4_init_9 (fun H locs hP hD hS => ?_)
  have hP : va_P D vwCl [(h0, .inr (4, [.null, .int 0, .ref q1, .null, .null, .int 0])), (q1, .inl (cI, 12, .inl (fun _ => 0)))] H := hP
  have hD : va_D A [(h0, .inr (4, [.null, .int 0, .ref q1, .null, .null, .int 0])), (q1, .inl (cI, 12, .inl (fun _ => 0)))] := hD
  refine lv_aload_n hx hb dX4_init_12 rfl (lv_at hl 0 rfl) ?_
  refine lv_bipush (v := 12) hx hb dX4_init_13 (by decide) ?_
  refine ny_i (N' := 12) hx hb (hts (.arrayClass .int) (by decide +kernel)) hK hP hD hS hA (by decide) (by decide) (by decide) (Nat.le_of_ble_eq_true rfl) (Nat.le_of_ble_eq_true rfl) dX4_init_15 (fun q2 H hP hD hS => ?_)
  have hP : va_P D vwCl [(h0, .inr (4, [.null, .int 0, .ref q1, .null, .null, .int 0])), (q1, .inl (cI, 12, .inl (fun _ => 0))), (q2, .inl (cI, 12, .inl (fun _ => 0)))] H := hP
  have hD : va_D A [(h0, .inr (4, [.null, .int 0, .ref q1, .null, .null, .int 0])), (q1, .inl (cI, 12, .inl (fun _ => 0))), (q2, .inl (cI, 12, .inl (fun _ => 0)))] := hD
  refine W.widen (k := 2) (n := 24) (by decide) (by decide) ?_
  refine va_putF (D := D) (ci := 4) (v := .ref q2) (ty := .array .int) (C := RX4) (T := TX4) (N := 6) hx hb hts iw_k_Scanner_4 tyX4 tyX4_ok nmX4 hown hK hP hD hS 0 rfl rfl 3 (by decide) (hts (.fieldLink RX4 15 "FlightDesk$Scanner" "place" "[I") (by decide +kernel)) (fun _ h9 => h9) rfl hin rfl (by decide +kernel) rfl rfl (Nat.le_of_ble_eq_true rfl) dX4_init_17 (fun H locs hP hD hS => ?_)
  have hP : va_P D vwCl [(h0, .inr (4, [.null, .int 0, .ref q1, .ref q2, .null, .int 0])), (q1, .inl (cI, 12, .inl (fun _ => 0))), (q2, .inl (cI, 12, .inl (fun _ => 0)))] H := hP
  have hD : va_D A [(h0, .inr (4, [.null, .int 0, .ref q1, .ref q2, .null, .int 0])), (q1, .inl (cI, 12, .inl (fun _ => 0))), (q2, .inl (cI, 12, .inl (fun _ => 0)))] := hD
  refine lv_aload_n hx hb dX4_init_20 rfl (lv_at hl 0 rfl) ?_
  refine lv_bipush (v := 12) hx hb dX4_init_21 (by decide) ?_
  refine ny_i (N' := 12) hx hb (hts (.arrayClass .int) (by decide +kernel)) hK hP hD hS hA (by decide) (by decide) (by decide) (Nat.le_of_ble_eq_true rfl) (Nat.le_of_ble_eq_true rfl) dX4_init_23 (fun q3 H hP hD hS => ?_)
  have hP : va_P D vwCl [(h0, .inr (4, [.null, .int 0, .ref q1, .ref q2, .null, .int 0])), (q1, .inl (cI, 12, .inl (fun _ => 0))), (q2, .inl (cI, 12, .inl (fun _ => 0))), (q3, .inl (cI, 12, .inl (fun _ => 0)))] H := hP
  have hD : va_D A [(h0, .inr (4, [.null, .int 0, .ref q1, .ref q2, .null, .int 0])), (q1, .inl (cI, 12, .inl (fun _ => 0))), (q2, .inl (cI, 12, .inl (fun _ => 0))), (q3, .inl (cI, 12, .inl (fun _ => 0)))] := hD
  refine W.widen (k := 3) (n := 36) (by decide) (by decide) ?_
  refine va_putF (D := D) (ci := 4) (v := .ref q3) (ty := .array .int) (C := RX4) (T := TX4) (N := 6) hx hb hts iw_k_Scanner_4 tyX4 tyX4_ok nmX4 hown hK hP hD hS 0 rfl rfl 4 (by decide) (hts (.fieldLink RX4 18 "FlightDesk$Scanner" "value" "[I") (by decide +kernel)) (fun _ h9 => h9) rfl hin rfl (by decide +kernel) rfl rfl (Nat.le_of_ble_eq_true rfl) dX4_init_25 (fun H locs hP hD hS => ?_)
  have hP : va_P D vwCl [(h0, .inr (4, [.null, .int 0, .ref q1, .ref q2, .ref q3, .int 0])), (q1, .inl (cI, 12, .inl (fun _ => 0))), (q2, .inl (cI, 12, .inl (fun _ => 0))), (q3, .inl (cI, 12, .inl (fun _ => 0)))] H := hP
  have hD : va_D A [(h0, .inr (4, [.null, .int 0, .ref q1, .ref q2, .ref q3, .int 0])), (q1, .inl (cI, 12, .inl (fun _ => 0))), (q2, .inl (cI, 12, .inl (fun _ => 0))), (q3, .inl (cI, 12, .inl (fun _ => 0)))] := hD
  refine lv_aload_n hx hb dX4_init_28 rfl (lv_at hl 0 rfl) ?_
  refine lv_aload_n hx hb dX4_init_29 rfl (lv_at hl 1 rfl) ?_
  refine va_putF (D := D) (ci := 4) (v := .ref tp) (ty := .object "FlightDesk$Tape") (C := RX4) (T := TX4) (N := 6) hx hb hts iw_k_Scanner_4 tyX4 tyX4_ok nmX4 hown hK hP hD hS 0 rfl rfl 0 (by decide) (hts (.fieldLink RX4 21 "FlightDesk$Scanner" "tape" "LFlightDesk$Tape;") (by decide +kernel)) (fun _ h9 => h9) rfl hin rfl (by decide +kernel) rfl rfl (Nat.le_of_ble_eq_true rfl) dX4_init_30 (fun H locs hP hD hS => ?_)
  have hP : va_P D vwCl [(h0, .inr (4, [.ref tp, .int 0, .ref q1, .ref q2, .ref q3, .int 0])), (q1, .inl (cI, 12, .inl (fun _ => 0))), (q2, .inl (cI, 12, .inl (fun _ => 0))), (q3, .inl (cI, 12, .inl (fun _ => 0)))] H := hP
  have hD : va_D A [(h0, .inr (4, [.ref tp, .int 0, .ref q1, .ref q2, .ref q3, .int 0])), (q1, .inl (cI, 12, .inl (fun _ => 0))), (q2, .inl (cI, 12, .inl (fun _ => 0))), (q3, .inl (cI, 12, .inl (fun _ => 0)))] := hD
  have hP9 := hP.sub (ws' := [(h0, .inr (4, [.ref tp, .int 0, .ref q1, .ref q2, .ref q3, .int 0])), (q1, .inl (cI, 12, .inl (fun _ => 0))), (q2, .inl (cI, 12, .inl (fun _ => 0))), (q3, .inl (cI, 12, .inl (fun _ => 0)))]) [0, 1, 2, 3] rfl
  have hD9 := hD.sub (ws' := [(h0, .inr (4, [.ref tp, .int 0, .ref q1, .ref q2, .ref q3, .int 0])), (q1, .inl (cI, 12, .inl (fun _ => 0))), (q2, .inl (cI, 12, .inl (fun _ => 0))), (q3, .inl (cI, 12, .inl (fun _ => 0)))]) [0, 1, 2, 3] (by decide) rfl
  refine W.widen (k := 3) (n := 36) (by decide) (by decide) ?_
  exact W.vret hx hb hr (fun t ht hW => ⟨⟨(), rfl, trivial, q1, q2, q3, (fun _ => 0), (fun _ => 0), (fun _ => 0), by rw [ht]; exact hP9, hD9⟩, hS.F ht⟩) hS.2.2 dX4_init_33

def wk_k_Tape : List Cond := .code yX5_init cX5_init 1 none :: ([.methodLink RX5 3 objectInit, .instanceMethod objectInit, .code objectInit ⟨#[0xb1]⟩ 1 none, .arrayClass .int, .fieldLink RX5 9 "FlightDesk$Tape" "bytes" "[I"] ++ wsX50)
theorem iw_k_Tape_5 : ∀ w ∈ wsX50, w ∈ wk_k_Tape := fun _ h => List.mem_cons_of_mem _ (List.mem_append_right _ h)
set_option maxHeartbeats 4000000 in
set_option maxRecDepth 100000 in
theorem k_Tape (l : Launch) (D : va_G) (cI cB cP : ClassId) (sz : Nat) (h0 : Nat) : Met l yX5_init wk_k_Tape ({ frames := 1, cells := 1, slots := 1000, locals := 12 } : Room) (va_Pc [.ref h0] (Pw D cI cB cP sz [(h0, .inr (5, [.null, .int 0]))])) (va_Qv (fun (_ : Unit) => True) (fun _ t => ∃ q1 : Nat, ∃ g1 : Nat → Int32, va_P D vwCl [(h0, .inr (5, [.ref q1, .int 0])), (q1, .inl (cI, 1000, .inl g1))] t.heap ∧ va_D (va_A [(h0, .inr (5, [.null, .int 0]))] sz) [(h0, .inr (5, [.ref q1, .int 0])), (q1, .inl (cI, 1000, .inl g1))]) (va_A [(h0, .inr (5, [.null, .int 0]))] sz)) 1 1000 (va_A [(h0, .inr (5, [.null, .int 0]))] sz) := by
  refine Met.ofW (cc := cX5_init) (maxL := 1) (ret := none) (by decide) rfl ?_
  intro p e s m args below meth c s₁ B hml hv
  obtain ⟨rfl, hsz, hP, ⟨hK, hN⟩, hD0⟩ := hv
  have hx := B.exec
  have hb := B.bytes
  have hr := B.returns
  have hts := atoms_spec (ws := wk_k_Tape) B.pre
  have hown : s.vm.findClass RX5 = some m.cls := findClass_of_methodNamed B.named
  have hlocks := B.notSynchronized
  have hin : meth.name = "<init>" := (name_of_methodNamed B.named B.method).1
  subst hsz
  have hD := hD0.self (sz := s.heap.size)
  generalize hAe : va_A [(h0, .inr (5, [.null, .int 0]))] s.heap.size = A at hD ⊢
  have hA : ∀ q : Nat, s.heap.size ≤ q → A q := fun q h => by rw [← hAe]; exact Or.inr h
  have hS : va_S A s.heap s.heap [] := va_S.rf
  have hP : va_P D vwCl [(h0, .inr (5, [.null, .int 0]))] s.heap := hP
  have hl := lv_entry ([.ref h0]) (n := 1) (Nat.le_of_ble_eq_true rfl)
  rw [lg_entry_eq]
  generalize (lg_sl ([.ref h0]) ++ List.replicate (1 - (lg_sl ([.ref h0])).length) Slot.unset).toArray = ls at hl ⊢
  have hl : lv_has ls 1 [(0, .ref h0)] := hl
  refine lv_aload_n hx hb dX5_init_0 rfl (lv_at hl 0 rfl) ?_
  refine W.objInit hx hb hown (hts (.methodLink RX5 3 objectInit) (by decide +kernel)) (hts (.instanceMethod objectInit) (by decide +kernel)) (hts (.code objectInit ⟨#[0xb1]⟩ 1 none) (by decide +kernel)) rfl (by rw [hml]; exact hl.1) rfl dX5_init_1 (Nat.le_of_ble_eq_true rfl) (Nat.le_of_ble_eq_true rfl) ?_
  refine W.eq (g2 := F0 m 4 ls []) rfl ?_
  refine lv_aload_n hx hb dX5_init_4 rfl (lv_at hl 0 rfl) ?_
  refine lv_sipush (v := 1000) hx hb dX5_init_5 (by decide) ?_
  refine ny_i (N' := 1000) hx hb (hts (.arrayClass .int) (by decide +kernel)) hK hP hD hS hA (by decide) (by decide) (by decide) (Nat.le_of_ble_eq_true rfl) (Nat.le_of_ble_eq_true rfl) dX5_init_8 (fun q1 H hP hD hS => ?_)
  have hP : va_P D vwCl [(h0, .inr (5, [.null, .int 0])), (q1, .inl (cI, 1000, .inl (fun _ => 0)))] H := hP
  have hD : va_D A [(h0, .inr (5, [.null, .int 0])), (q1, .inl (cI, 1000, .inl (fun _ => 0)))] := hD
  refine W.widen (k := 1) (n := 1000) (by decide) (by decide) ?_
  refine va_putF (D := D) (ci := 5) (v := .ref q1) (ty := .array .int) (C := RX5) (T := TX5) (N := 2) hx hb hts iw_k_Tape_5 tyX5 tyX5_ok nmX5 hown hK hP hD hS 0 rfl rfl 0 (by decide) (hts (.fieldLink RX5 9 "FlightDesk$Tape" "bytes" "[I") (by decide +kernel)) (fun _ h9 => h9) rfl hin rfl (by decide +kernel) rfl rfl (Nat.le_of_ble_eq_true rfl) dX5_init_10 (fun H locs hP hD hS => ?_)
  have hP : va_P D vwCl [(h0, .inr (5, [.ref q1, .int 0])), (q1, .inl (cI, 1000, .inl (fun _ => 0)))] H := hP
  have hD : va_D A [(h0, .inr (5, [.ref q1, .int 0])), (q1, .inl (cI, 1000, .inl (fun _ => 0)))] := hD
  have hP9 := hP.sub (ws' := [(h0, .inr (5, [.ref q1, .int 0])), (q1, .inl (cI, 1000, .inl (fun _ => 0)))]) [0, 1] rfl
  have hD9 := hD.sub (ws' := [(h0, .inr (5, [.ref q1, .int 0])), (q1, .inl (cI, 1000, .inl (fun _ => 0)))]) [0, 1] (by decide) rfl
  refine W.widen (k := 1) (n := 1000) (by decide) (by decide) ?_
  exact W.vret hx hb hr (fun t ht hW => ⟨⟨(), rfl, trivial, q1, (fun _ => 0), by rw [ht]; exact hP9, hD9⟩, hS.F ht⟩) hS.2.2 dX5_init_13

def wk_k_Reader : List Cond := .code yX3_init cX3_init 2 none :: ([.methodLink RX3 3 objectInit, .instanceMethod objectInit, .code objectInit ⟨#[0xb1]⟩ 1 none, .classLink RX3 9 RX4, .instantiable RX4 6, .initialized RX4, .instanceMethod yX4_init, .methodLink RX3 11 yX4_init, .code yX4_init cX4_init 2 none, .methodLink RX4 3 objectInit, .arrayClass .int, .fieldLink RX4 11 "FlightDesk$Scanner" "kind" "[I", .fieldLink RX4 15 "FlightDesk$Scanner" "place" "[I", .fieldLink RX4 18 "FlightDesk$Scanner" "value" "[I", .fieldLink RX4 21 "FlightDesk$Scanner" "tape" "LFlightDesk$Tape;", .fieldLink RX3 14 "FlightDesk$Reader" "scanner" "LFlightDesk$Scanner;", .classLink RX3 20 RX0, .instantiable RX0 15, .initialized RX0, .instanceMethod yX0_init, .methodLink RX3 22 yX0_init, .code yX0_init cX0_init 1 none, .methodLink RX0 3 objectInit, .fieldLink RX0 9 "FlightDesk$Book" "from" "[I", .fieldLink RX0 15 "FlightDesk$Book" "to" "[I", .fieldLink RX0 18 "FlightDesk$Book" "miles" "[I", .fieldLink RX0 21 "FlightDesk$Book" "lowest" "[I", .fieldLink RX0 24 "FlightDesk$Book" "highest" "[I", .fieldLink RX0 27 "FlightDesk$Book" "firstDay" "[I", .fieldLink RX0 30 "FlightDesk$Book" "lastDay" "[I", .fieldLink RX0 33 "FlightDesk$Book" "speed" "[I", .fieldLink RX0 36 "FlightDesk$Book" "wind" "[I", .fieldLink RX0 39 "FlightDesk$Book" "burn" "[I", .fieldLink RX0 42 "FlightDesk$Book" "climb" "[I", .fieldLink RX0 45 "FlightDesk$Book" "limit" "[I", .fieldLink RX0 48 "FlightDesk$Book" "height" "[I", .methodLink RX0 51 yX0_clear, .instanceMethod yX0_clear, .selects RX0 yX0_clear yX0_clear, .code yX0_clear cX0_clear 1 none, .fieldLink RX0 54 "FlightDesk$Book" "legCount" "I", .fieldLink RX0 58 "FlightDesk$Book" "lineCount" "I", .methodLink RX0 61 yJ7_fill_53178, .static yJ7_fill_53178, .initialized RJ7, .code yJ7_fill_53178 cJ7_fill_53178 4 none, .fieldLink RX3 23 "FlightDesk$Reader" "draft" "LFlightDesk$Book;", .fieldLink RX3 27 "FlightDesk$Reader" "found" "I", .fieldLink RX3 31 "FlightDesk$Reader" "foundAt" "I"] ++ wsX40 ++ wsX30 ++ wsX00)
theorem iw_k_Reader_4 : ∀ w ∈ wsX40, w ∈ wk_k_Reader := fun _ h => List.mem_cons_of_mem _ (List.mem_append_left _ (List.mem_append_left _ (List.mem_append_right _ h)))
theorem iw_k_Reader_3 : ∀ w ∈ wsX30, w ∈ wk_k_Reader := fun _ h => List.mem_cons_of_mem _ (List.mem_append_left _ (List.mem_append_right _ h))
theorem iw_k_Reader_0 : ∀ w ∈ wsX00, w ∈ wk_k_Reader := fun _ h => List.mem_cons_of_mem _ (List.mem_append_right _ h)
set_option maxRecDepth 20000 in
theorem gw_k_Reader_0 : GoodIn wk_k_Reader wk_k_Scanner := goodIn_sub (by decide +kernel) (by decide +kernel)
set_option maxRecDepth 20000 in
theorem gw_k_Reader_1 : GoodIn wk_k_Reader wk_k_Book := goodIn_sub (by decide +kernel) (by decide +kernel)
set_option maxHeartbeats 4000000 in
set_option maxRecDepth 100000 in
theorem k_Reader (l : Launch) (D : va_G) (cI cB cP : ClassId) (sz : Nat) (h0 : Nat) (tp : Nat) : Met l yX3_init wk_k_Reader ({ frames := 3, cells := 18, slots := 510, locals := 63 } : Room) (va_Pc [.ref h0, .ref tp] (Pw D cI cB cP sz [(h0, .inr (3, [.null, .null, .int 0, .int 0, .int 0]))])) (va_Qv (fun (_ : Unit) => True) (fun _ t => ∃ sc : Nat, ∃ dr : Nat, ∃ s2 : Nat, ∃ s3 : Nat, ∃ s4 : Nat, ∃ gs2 : Nat → Int32, ∃ gs3 : Nat → Int32, ∃ gs4 : Nat → Int32, ∃ q2 : Nat, ∃ q3 : Nat, ∃ q4 : Nat, ∃ q5 : Nat, ∃ q6 : Nat, ∃ q7 : Nat, ∃ q8 : Nat, ∃ q9 : Nat, ∃ q10 : Nat, ∃ q11 : Nat, ∃ q12 : Nat, ∃ q13 : Nat, ∃ q14 : Nat, ∃ g2 : Nat → Int32, ∃ g3 : Nat → Int32, ∃ g4 : Nat → Int32, ∃ g5 : Nat → Int32, ∃ g6 : Nat → Int32, ∃ g7 : Nat → Int32, ∃ g8 : Nat → Int32, ∃ g9 : Nat → Int32, ∃ g10 : Nat → Int32, ∃ g11 : Nat → Int32, ∃ g12 : Nat → Int32, ∃ g13 : Nat → Int32, ∃ g14 : Nat → Int32, va_P D vwCl [(h0, .inr (3, [.ref sc, .ref dr, .int 0, .int (-1), .int 0])), (sc, .inr (4, [.ref tp, .int 0, .ref s2, .ref s3, .ref s4, .int 0])), (s2, .inl (cI, 12, .inl gs2)), (s3, .inl (cI, 12, .inl gs3)), (s4, .inl (cI, 12, .inl gs4)), (dr, .inr (0, [.int 0, .int 0, .ref q2, .ref q3, .ref q4, .ref q5, .ref q6, .ref q7, .ref q8, .ref q9, .ref q10, .ref q11, .ref q12, .ref q13, .ref q14])), (q2, .inl (cI, 16, .inl g2)), (q3, .inl (cI, 16, .inl g3)), (q4, .inl (cI, 16, .inl g4)), (q5, .inl (cI, 16, .inl g5)), (q6, .inl (cI, 16, .inl g6)), (q7, .inl (cI, 16, .inl g7)), (q8, .inl (cI, 16, .inl g8)), (q9, .inl (cI, 6, .inl g9)), (q10, .inl (cI, 288, .inl g10)), (q11, .inl (cI, 30, .inl g11)), (q12, .inl (cI, 6, .inl g12)), (q13, .inl (cI, 4, .inl g13)), (q14, .inl (cI, 7, .inl g14))] t.heap ∧ va_D (va_A [(h0, .inr (3, [.null, .null, .int 0, .int 0, .int 0]))] sz) [(h0, .inr (3, [.ref sc, .ref dr, .int 0, .int (-1), .int 0])), (sc, .inr (4, [.ref tp, .int 0, .ref s2, .ref s3, .ref s4, .int 0])), (s2, .inl (cI, 12, .inl gs2)), (s3, .inl (cI, 12, .inl gs3)), (s4, .inl (cI, 12, .inl gs4)), (dr, .inr (0, [.int 0, .int 0, .ref q2, .ref q3, .ref q4, .ref q5, .ref q6, .ref q7, .ref q8, .ref q9, .ref q10, .ref q11, .ref q12, .ref q13, .ref q14])), (q2, .inl (cI, 16, .inl g2)), (q3, .inl (cI, 16, .inl g3)), (q4, .inl (cI, 16, .inl g4)), (q5, .inl (cI, 16, .inl g5)), (q6, .inl (cI, 16, .inl g6)), (q7, .inl (cI, 16, .inl g7)), (q8, .inl (cI, 16, .inl g8)), (q9, .inl (cI, 6, .inl g9)), (q10, .inl (cI, 288, .inl g10)), (q11, .inl (cI, 30, .inl g11)), (q12, .inl (cI, 6, .inl g12)), (q13, .inl (cI, 4, .inl g13)), (q14, .inl (cI, 7, .inl g14))]) (va_A [(h0, .inr (3, [.null, .null, .int 0, .int 0, .int 0]))] sz)) 18 510 (va_A [(h0, .inr (3, [.null, .null, .int 0, .int 0, .int 0]))] sz) := by
  refine Met.ofW (cc := cX3_init) (maxL := 2) (ret := none) (by decide) rfl ?_
  intro p e s m args below meth c s₁ B hml hv
  obtain ⟨rfl, hsz, hP, ⟨hK, hN⟩, hD0⟩ := hv
  have hx := B.exec
  have hb := B.bytes
  have hr := B.returns
  have hts := atoms_spec (ws := wk_k_Reader) B.pre
  have hown : s.vm.findClass RX3 = some m.cls := findClass_of_methodNamed B.named
  have hlocks := B.notSynchronized
  have hin : meth.name = "<init>" := (name_of_methodNamed B.named B.method).1
  subst hsz
  have hD := hD0.self (sz := s.heap.size)
  generalize hAe : va_A [(h0, .inr (3, [.null, .null, .int 0, .int 0, .int 0]))] s.heap.size = A at hD ⊢
  have hA : ∀ q : Nat, s.heap.size ≤ q → A q := fun q h => by rw [← hAe]; exact Or.inr h
  have hS : va_S A s.heap s.heap [] := va_S.rf
  have hP : va_P D vwCl [(h0, .inr (3, [.null, .null, .int 0, .int 0, .int 0]))] s.heap := hP
  have hl := lv_entry ([.ref h0, .ref tp]) (n := 2) (Nat.le_of_ble_eq_true rfl)
  rw [lg_entry_eq]
  generalize (lg_sl ([.ref h0, .ref tp]) ++ List.replicate (2 - (lg_sl ([.ref h0, .ref tp])).length) Slot.unset).toArray = ls at hl ⊢
  have hl : lv_has ls 2 [(0, .ref h0), (1, .ref tp)] := hl
  refine lv_aload_n hx hb dX3_init_0 rfl (lv_at hl 0 rfl) ?_
  refine W.objInit hx hb hown (hts (.methodLink RX3 3 objectInit) (by decide +kernel)) (hts (.instanceMethod objectInit) (by decide +kernel)) (hts (.code objectInit ⟨#[0xb1]⟩ 1 none) (by decide +kernel)) rfl (by rw [hml]; exact hl.1) rfl dX3_init_1 (Nat.le_of_ble_eq_true rfl) (Nat.le_of_ble_eq_true rfl) ?_
  refine W.eq (g2 := F0 m 4 ls []) rfl ?_
  refine lv_aload_n hx hb dX3_init_4 rfl (lv_at hl 0 rfl) ?_
  refine va_new (ci := 4) (fs := [.null, .int 0, .null, .null, .null, .int 0]) (C := RX4) (T := TX4) (N := 6) hx hb hts iw_k_Reader_4 tyX4 tyX4_ok hown (hts (.classLink RX3 9 RX4) (by decide +kernel)) (hts (.instantiable RX4 6) (by decide +kernel)) (hts (.initialized RX4) (by decide +kernel)) hK hP hD hS hA rfl (by decide +kernel) (Nat.le_of_ble_eq_true rfl) (Nat.le_of_ble_eq_true rfl) dX3_init_5 (fun q1 H hP hD hS => ?_)
  have hP : va_P D vwCl [(h0, .inr (3, [.null, .null, .int 0, .int 0, .int 0])), (q1, .inr (4, [.null, .int 0, .null, .null, .null, .int 0]))] H := hP
  have hD : va_D A [(h0, .inr (3, [.null, .null, .int 0, .int 0, .int 0])), (q1, .inr (4, [.null, .int 0, .null, .null, .null, .int 0]))] := hD
  refine W.widen (k := 1) (n := 6) (by decide) (by decide) ?_
  refine lv_dup hx hb dX3_init_8 rfl ?_
  refine lv_aload_n hx hb dX3_init_9 rfl (lv_at hl 1 rfl) ?_
  have hPc := hP.sub (ws' := [(q1, .inr (4, [.null, .int 0, .null, .null, .null, .int 0]))]) [1] rfl
  have hDc := hD.sub (ws' := [(q1, .inr (4, [.null, .int 0, .null, .null, .null, .int 0]))]) [1] (by decide) rfl
  have hFc := va_free (wc := [(q1, .inr (4, [.null, .int 0, .null, .null, .null, .int 0]))]) hD hS hA [1] rfl
  refine va_callv (va_runI (As := [.ref tp]) (rest := [.ref q1, .ref h0]) ⟨hx, hb, hml, hown, hts⟩ (k_Scanner l D cI cB cP H.size q1 tp) (cwI 1 hts gw_k_Reader_0 rfl rfl rfl (hts (.initialized RX4) (by decide +kernel)) (hts (.methodLink RX3 11 yX4_init) (by decide +kernel)) (hts (.instanceMethod yX4_init) (by decide +kernel)) rfl (by decide +kernel) ⟨Nat.le_of_ble_eq_true rfl, Nat.le_of_ble_eq_true rfl⟩) ⟨ny_blind, ny_pre hPc hK hN hDc⟩ rfl rfl hl.1 rfl (lv_room (Nat.le_of_ble_eq_true rfl)) dX3_init_10 ⟨Nat.le_of_ble_eq_true rfl, Nat.le_of_ble_eq_true rfl⟩) hS (fun q _ h => hFc q h) hFc (fun u t H locs ht hvm hw hB hz1 hk1 hS => ?_)
  obtain ⟨q_2, q_3, q_4, g_5, g_6, g_7, hP1, hD1⟩ := hB
  rw [ht] at hP1
  obtain ⟨hP, hD⟩ := va_join (wr := [(h0, .inr (3, [.null, .null, .int 0, .int 0, .int 0]))]) (w1 := [(q1, .inr (4, [.ref tp, .int 0, .ref q_2, .ref q_3, .ref q_4, .int 0])), (q_2, .inl (cI, 12, .inl g_5)), (q_3, .inl (cI, 12, .inl g_6)), (q_4, .inl (cI, 12, .inl g_7))]) hP hD [1] [0] rfl rfl (by decide) (by decide) hk1 hFc hP1 hD1
  have hP : va_P D vwCl [(h0, .inr (3, [.null, .null, .int 0, .int 0, .int 0])), (q1, .inr (4, [.ref tp, .int 0, .ref q_2, .ref q_3, .ref q_4, .int 0])), (q_2, .inl (cI, 12, .inl g_5)), (q_3, .inl (cI, 12, .inl g_6)), (q_4, .inl (cI, 12, .inl g_7))] H := hP
  have hD : va_D A [(h0, .inr (3, [.null, .null, .int 0, .int 0, .int 0])), (q1, .inr (4, [.ref tp, .int 0, .ref q_2, .ref q_3, .ref q_4, .int 0])), (q_2, .inl (cI, 12, .inl g_5)), (q_3, .inl (cI, 12, .inl g_6)), (q_4, .inl (cI, 12, .inl g_7))] := hD
  refine W.widen (k := 4) (n := 42) (by decide) (by decide) ?_
  refine va_putF (D := D) (ci := 3) (v := .ref q1) (ty := .object "FlightDesk$Scanner") (C := RX3) (T := TX3) (N := 5) hx hb hts iw_k_Reader_3 tyX3 tyX3_ok nmX3 hown hK hP hD hS 0 rfl rfl 0 (by decide) (hts (.fieldLink RX3 14 "FlightDesk$Reader" "scanner" "LFlightDesk$Scanner;") (by decide +kernel)) (fun _ h9 => h9) rfl hin rfl (by decide +kernel) rfl rfl (Nat.le_of_ble_eq_true rfl) dX3_init_13 (fun H locs hP hD hS => ?_)
  have hP : va_P D vwCl [(h0, .inr (3, [.ref q1, .null, .int 0, .int 0, .int 0])), (q1, .inr (4, [.ref tp, .int 0, .ref q_2, .ref q_3, .ref q_4, .int 0])), (q_2, .inl (cI, 12, .inl g_5)), (q_3, .inl (cI, 12, .inl g_6)), (q_4, .inl (cI, 12, .inl g_7))] H := hP
  have hD : va_D A [(h0, .inr (3, [.ref q1, .null, .int 0, .int 0, .int 0])), (q1, .inr (4, [.ref tp, .int 0, .ref q_2, .ref q_3, .ref q_4, .int 0])), (q_2, .inl (cI, 12, .inl g_5)), (q_3, .inl (cI, 12, .inl g_6)), (q_4, .inl (cI, 12, .inl g_7))] := hD
  refine lv_aload_n hx hb dX3_init_16 rfl (lv_at hl 0 rfl) ?_
  refine va_new (ci := 0) (fs := [.int 0, .int 0, .null, .null, .null, .null, .null, .null, .null, .null, .null, .null, .null, .null, .null]) (C := RX0) (T := TX0) (N := 15) hx hb hts iw_k_Reader_0 tyX0 tyX0_ok hown (hts (.classLink RX3 20 RX0) (by decide +kernel)) (hts (.instantiable RX0 15) (by decide +kernel)) (hts (.initialized RX0) (by decide +kernel)) hK hP hD hS hA rfl (by decide +kernel) (Nat.le_of_ble_eq_true rfl) (Nat.le_of_ble_eq_true rfl) dX3_init_17 (fun q9 H hP hD hS => ?_)
  have hP : va_P D vwCl [(h0, .inr (3, [.ref q1, .null, .int 0, .int 0, .int 0])), (q1, .inr (4, [.ref tp, .int 0, .ref q_2, .ref q_3, .ref q_4, .int 0])), (q_2, .inl (cI, 12, .inl g_5)), (q_3, .inl (cI, 12, .inl g_6)), (q_4, .inl (cI, 12, .inl g_7)), (q9, .inr (0, [.int 0, .int 0, .null, .null, .null, .null, .null, .null, .null, .null, .null, .null, .null, .null, .null]))] H := hP
  have hD : va_D A [(h0, .inr (3, [.ref q1, .null, .int 0, .int 0, .int 0])), (q1, .inr (4, [.ref tp, .int 0, .ref q_2, .ref q_3, .ref q_4, .int 0])), (q_2, .inl (cI, 12, .inl g_5)), (q_3, .inl (cI, 12, .inl g_6)), (q_4, .inl (cI, 12, .inl g_7)), (q9, .inr (0, [.int 0, .int 0, .null, .null, .null, .null, .null, .null, .null, .null, .null, .null, .null, .null, .null]))] := hD
  refine W.widen (k := 5) (n := 57) (by decide) (by decide) ?_
  refine lv_dup hx hb dX3_init_20 rfl ?_
  have hPc := hP.sub (ws' := [(q9, .inr (0, [.int 0, .int 0, .null, .null, .null, .null, .null, .null, .null, .null, .null, .null, .null, .null, .null]))]) [5] rfl
  have hDc := hD.sub (ws' := [(q9, .inr (0, [.int 0, .int 0, .null, .null, .null, .null, .null, .null, .null, .null, .null, .null, .null, .null, .null]))]) [5] (by decide) rfl
  have hFc := va_free (wc := [(q9, .inr (0, [.int 0, .int 0, .null, .null, .null, .null, .null, .null, .null, .null, .null, .null, .null, .null, .null]))]) hD hS hA [5] rfl
  refine va_callv (va_runI (As := []) (rest := [.ref q9, .ref h0]) ⟨hx, hb, hml, hown, hts⟩ (k_Book l D cI cB cP H.size q9) (cwI 0 hts gw_k_Reader_1 rfl rfl rfl (hts (.initialized RX0) (by decide +kernel)) (hts (.methodLink RX3 22 yX0_init) (by decide +kernel)) (hts (.instanceMethod yX0_init) (by decide +kernel)) rfl (by decide +kernel) ⟨Nat.le_of_ble_eq_true rfl, Nat.le_of_ble_eq_true rfl⟩) ⟨ny_blind, ny_pre hPc hK hN hDc⟩ rfl rfl hl.1 rfl (lv_room (Nat.le_of_ble_eq_true rfl)) dX3_init_21 ⟨Nat.le_of_ble_eq_true rfl, Nat.le_of_ble_eq_true rfl⟩) hS (fun q _ h => hFc q h) hFc (fun u t H locs ht hvm hw hB hz1 hk1 hS => ?_)
  obtain ⟨q_10, q_11, q_12, q_13, q_14, q_15, q_16, q_17, q_18, q_19, q_20, q_21, q_22, g_23, g_24, g_25, g_26, g_27, g_28, g_29, g_30, g_31, g_32, g_33, g_34, g_35, hp37, hp38, hp39, hp40, hp41, hP1, hD1⟩ := hB
  rw [ht] at hP1
  obtain ⟨hP, hD⟩ := va_join (wr := [(h0, .inr (3, [.ref q1, .null, .int 0, .int 0, .int 0])), (q1, .inr (4, [.ref tp, .int 0, .ref q_2, .ref q_3, .ref q_4, .int 0])), (q_2, .inl (cI, 12, .inl g_5)), (q_3, .inl (cI, 12, .inl g_6)), (q_4, .inl (cI, 12, .inl g_7))]) (w1 := [(q9, .inr (0, [.int 0, .int 0, .ref q_10, .ref q_11, .ref q_12, .ref q_13, .ref q_14, .ref q_15, .ref q_16, .ref q_17, .ref q_18, .ref q_19, .ref q_20, .ref q_21, .ref q_22])), (q_10, .inl (cI, 16, .inl g_23)), (q_11, .inl (cI, 16, .inl g_24)), (q_12, .inl (cI, 16, .inl g_25)), (q_13, .inl (cI, 16, .inl g_26)), (q_14, .inl (cI, 16, .inl g_27)), (q_15, .inl (cI, 16, .inl g_28)), (q_16, .inl (cI, 16, .inl g_29)), (q_17, .inl (cI, 6, .inl g_30)), (q_18, .inl (cI, 288, .inl g_31)), (q_19, .inl (cI, 30, .inl g_32)), (q_20, .inl (cI, 6, .inl g_33)), (q_21, .inl (cI, 4, .inl g_34)), (q_22, .inl (cI, 7, .inl g_35))]) hP hD [5] [0, 1, 2, 3, 4] rfl rfl (by decide) (by decide) hk1 hFc hP1 hD1
  have hP : va_P D vwCl [(h0, .inr (3, [.ref q1, .null, .int 0, .int 0, .int 0])), (q1, .inr (4, [.ref tp, .int 0, .ref q_2, .ref q_3, .ref q_4, .int 0])), (q_2, .inl (cI, 12, .inl g_5)), (q_3, .inl (cI, 12, .inl g_6)), (q_4, .inl (cI, 12, .inl g_7)), (q9, .inr (0, [.int 0, .int 0, .ref q_10, .ref q_11, .ref q_12, .ref q_13, .ref q_14, .ref q_15, .ref q_16, .ref q_17, .ref q_18, .ref q_19, .ref q_20, .ref q_21, .ref q_22])), (q_10, .inl (cI, 16, .inl g_23)), (q_11, .inl (cI, 16, .inl g_24)), (q_12, .inl (cI, 16, .inl g_25)), (q_13, .inl (cI, 16, .inl g_26)), (q_14, .inl (cI, 16, .inl g_27)), (q_15, .inl (cI, 16, .inl g_28)), (q_16, .inl (cI, 16, .inl g_29)), (q_17, .inl (cI, 6, .inl g_30)), (q_18, .inl (cI, 288, .inl g_31)), (q_19, .inl (cI, 30, .inl g_32)), (q_20, .inl (cI, 6, .inl g_33)), (q_21, .inl (cI, 4, .inl g_34)), (q_22, .inl (cI, 7, .inl g_35))] H := hP
  have hD : va_D A [(h0, .inr (3, [.ref q1, .null, .int 0, .int 0, .int 0])), (q1, .inr (4, [.ref tp, .int 0, .ref q_2, .ref q_3, .ref q_4, .int 0])), (q_2, .inl (cI, 12, .inl g_5)), (q_3, .inl (cI, 12, .inl g_6)), (q_4, .inl (cI, 12, .inl g_7)), (q9, .inr (0, [.int 0, .int 0, .ref q_10, .ref q_11, .ref q_12, .ref q_13, .ref q_14, .ref q_15, .ref q_16, .ref q_17, .ref q_18, .ref q_19, .ref q_20, .ref q_21, .ref q_22])), (q_10, .inl (cI, 16, .inl g_23)), (q_11, .inl (cI, 16, .inl g_24)), (q_12, .inl (cI, 16, .inl g_25)), (q_13, .inl (cI, 16, .inl g_26)), (q_14, .inl (cI, 16, .inl g_27)), (q_15, .inl (cI, 16, .inl g_28)), (q_16, .inl (cI, 16, .inl g_29)), (q_17, .inl (cI, 6, .inl g_30)), (q_18, .inl (cI, 288, .inl g_31)), (q_19, .inl (cI, 30, .inl g_32)), (q_20, .inl (cI, 6, .inl g_33)), (q_21, .inl (cI, 4, .inl g_34)), (q_22, .inl (cI, 7, .inl g_35))] := hD
  refine W.widen (k := 18) (n := 510) (by decide) (by decide) ?_
  refine va_putF (D := D) (ci := 3) (v := .ref q9) (ty := .object "FlightDesk$Book") (C := RX3) (T := TX3) (N := 5) hx hb hts iw_k_Reader_3 tyX3 tyX3_ok nmX3 hown hK hP hD hS 0 rfl rfl 1 (by decide) (hts (.fieldLink RX3 23 "FlightDesk$Reader" "draft" "LFlightDesk$Book;") (by decide +kernel)) (fun _ h9 => h9) rfl hin rfl (by decide +kernel) rfl rfl (Nat.le_of_ble_eq_true rfl) dX3_init_24 (fun H locs hP hD hS => ?_)
  have hP : va_P D vwCl [(h0, .inr (3, [.ref q1, .ref q9, .int 0, .int 0, .int 0])), (q1, .inr (4, [.ref tp, .int 0, .ref q_2, .ref q_3, .ref q_4, .int 0])), (q_2, .inl (cI, 12, .inl g_5)), (q_3, .inl (cI, 12, .inl g_6)), (q_4, .inl (cI, 12, .inl g_7)), (q9, .inr (0, [.int 0, .int 0, .ref q_10, .ref q_11, .ref q_12, .ref q_13, .ref q_14, .ref q_15, .ref q_16, .ref q_17, .ref q_18, .ref q_19, .ref q_20, .ref q_21, .ref q_22])), (q_10, .inl (cI, 16, .inl g_23)), (q_11, .inl (cI, 16, .inl g_24)), (q_12, .inl (cI, 16, .inl g_25)), (q_13, .inl (cI, 16, .inl g_26)), (q_14, .inl (cI, 16, .inl g_27)), (q_15, .inl (cI, 16, .inl g_28)), (q_16, .inl (cI, 16, .inl g_29)), (q_17, .inl (cI, 6, .inl g_30)), (q_18, .inl (cI, 288, .inl g_31)), (q_19, .inl (cI, 30, .inl g_32)), (q_20, .inl (cI, 6, .inl g_33)), (q_21, .inl (cI, 4, .inl g_34)), (q_22, .inl (cI, 7, .inl g_35))] H := hP
  have hD : va_D A [(h0, .inr (3, [.ref q1, .ref q9, .int 0, .int 0, .int 0])), (q1, .inr (4, [.ref tp, .int 0, .ref q_2, .ref q_3, .ref q_4, .int 0])), (q_2, .inl (cI, 12, .inl g_5)), (q_3, .inl (cI, 12, .inl g_6)), (q_4, .inl (cI, 12, .inl g_7)), (q9, .inr (0, [.int 0, .int 0, .ref q_10, .ref q_11, .ref q_12, .ref q_13, .ref q_14, .ref q_15, .ref q_16, .ref q_17, .ref q_18, .ref q_19, .ref q_20, .ref q_21, .ref q_22])), (q_10, .inl (cI, 16, .inl g_23)), (q_11, .inl (cI, 16, .inl g_24)), (q_12, .inl (cI, 16, .inl g_25)), (q_13, .inl (cI, 16, .inl g_26)), (q_14, .inl (cI, 16, .inl g_27)), (q_15, .inl (cI, 16, .inl g_28)), (q_16, .inl (cI, 16, .inl g_29)), (q_17, .inl (cI, 6, .inl g_30)), (q_18, .inl (cI, 288, .inl g_31)), (q_19, .inl (cI, 30, .inl g_32)), (q_20, .inl (cI, 6, .inl g_33)), (q_21, .inl (cI, 4, .inl g_34)), (q_22, .inl (cI, 7, .inl g_35))] := hD
  refine lv_aload_n hx hb dX3_init_27 rfl (lv_at hl 0 rfl) ?_
  refine lv_iconst (v := 0) hx hb dX3_init_28 (by decide) ?_
  refine va_put (D := D) (ci := 3) (v := .int 0) (ty := .int) (C := RX3) (T := TX3) (N := 5) hx hb hts iw_k_Reader_3 tyX3 tyX3_ok nmX3 hown hK hP hD hS 0 rfl rfl 2 (by decide) (hts (.fieldLink RX3 27 "FlightDesk$Reader" "found" "I") (by decide +kernel)) (fun _ h9 => h9) rfl (by decide +kernel) rfl rfl (Nat.le_of_ble_eq_true rfl) dX3_init_29 (fun H locs hP hD hS => ?_)
  have hP : va_P D vwCl [(h0, .inr (3, [.ref q1, .ref q9, .int 0, .int 0, .int 0])), (q1, .inr (4, [.ref tp, .int 0, .ref q_2, .ref q_3, .ref q_4, .int 0])), (q_2, .inl (cI, 12, .inl g_5)), (q_3, .inl (cI, 12, .inl g_6)), (q_4, .inl (cI, 12, .inl g_7)), (q9, .inr (0, [.int 0, .int 0, .ref q_10, .ref q_11, .ref q_12, .ref q_13, .ref q_14, .ref q_15, .ref q_16, .ref q_17, .ref q_18, .ref q_19, .ref q_20, .ref q_21, .ref q_22])), (q_10, .inl (cI, 16, .inl g_23)), (q_11, .inl (cI, 16, .inl g_24)), (q_12, .inl (cI, 16, .inl g_25)), (q_13, .inl (cI, 16, .inl g_26)), (q_14, .inl (cI, 16, .inl g_27)), (q_15, .inl (cI, 16, .inl g_28)), (q_16, .inl (cI, 16, .inl g_29)), (q_17, .inl (cI, 6, .inl g_30)), (q_18, .inl (cI, 288, .inl g_31)), (q_19, .inl (cI, 30, .inl g_32)), (q_20, .inl (cI, 6, .inl g_33)), (q_21, .inl (cI, 4, .inl g_34)), (q_22, .inl (cI, 7, .inl g_35))] H := hP
  have hD : va_D A [(h0, .inr (3, [.ref q1, .ref q9, .int 0, .int 0, .int 0])), (q1, .inr (4, [.ref tp, .int 0, .ref q_2, .ref q_3, .ref q_4, .int 0])), (q_2, .inl (cI, 12, .inl g_5)), (q_3, .inl (cI, 12, .inl g_6)), (q_4, .inl (cI, 12, .inl g_7)), (q9, .inr (0, [.int 0, .int 0, .ref q_10, .ref q_11, .ref q_12, .ref q_13, .ref q_14, .ref q_15, .ref q_16, .ref q_17, .ref q_18, .ref q_19, .ref q_20, .ref q_21, .ref q_22])), (q_10, .inl (cI, 16, .inl g_23)), (q_11, .inl (cI, 16, .inl g_24)), (q_12, .inl (cI, 16, .inl g_25)), (q_13, .inl (cI, 16, .inl g_26)), (q_14, .inl (cI, 16, .inl g_27)), (q_15, .inl (cI, 16, .inl g_28)), (q_16, .inl (cI, 16, .inl g_29)), (q_17, .inl (cI, 6, .inl g_30)), (q_18, .inl (cI, 288, .inl g_31)), (q_19, .inl (cI, 30, .inl g_32)), (q_20, .inl (cI, 6, .inl g_33)), (q_21, .inl (cI, 4, .inl g_34)), (q_22, .inl (cI, 7, .inl g_35))] := hD
  refine lv_aload_n hx hb dX3_init_32 rfl (lv_at hl 0 rfl) ?_
  refine lv_iconst (v := (-1)) hx hb dX3_init_33 (by decide) ?_
  refine va_put (D := D) (ci := 3) (v := .int (-1)) (ty := .int) (C := RX3) (T := TX3) (N := 5) hx hb hts iw_k_Reader_3 tyX3 tyX3_ok nmX3 hown hK hP hD hS 0 rfl rfl 3 (by decide) (hts (.fieldLink RX3 31 "FlightDesk$Reader" "foundAt" "I") (by decide +kernel)) (fun _ h9 => h9) rfl (by decide +kernel) rfl rfl (Nat.le_of_ble_eq_true rfl) dX3_init_34 (fun H locs hP hD hS => ?_)
  have hP : va_P D vwCl [(h0, .inr (3, [.ref q1, .ref q9, .int 0, .int (-1), .int 0])), (q1, .inr (4, [.ref tp, .int 0, .ref q_2, .ref q_3, .ref q_4, .int 0])), (q_2, .inl (cI, 12, .inl g_5)), (q_3, .inl (cI, 12, .inl g_6)), (q_4, .inl (cI, 12, .inl g_7)), (q9, .inr (0, [.int 0, .int 0, .ref q_10, .ref q_11, .ref q_12, .ref q_13, .ref q_14, .ref q_15, .ref q_16, .ref q_17, .ref q_18, .ref q_19, .ref q_20, .ref q_21, .ref q_22])), (q_10, .inl (cI, 16, .inl g_23)), (q_11, .inl (cI, 16, .inl g_24)), (q_12, .inl (cI, 16, .inl g_25)), (q_13, .inl (cI, 16, .inl g_26)), (q_14, .inl (cI, 16, .inl g_27)), (q_15, .inl (cI, 16, .inl g_28)), (q_16, .inl (cI, 16, .inl g_29)), (q_17, .inl (cI, 6, .inl g_30)), (q_18, .inl (cI, 288, .inl g_31)), (q_19, .inl (cI, 30, .inl g_32)), (q_20, .inl (cI, 6, .inl g_33)), (q_21, .inl (cI, 4, .inl g_34)), (q_22, .inl (cI, 7, .inl g_35))] H := hP
  have hD : va_D A [(h0, .inr (3, [.ref q1, .ref q9, .int 0, .int (-1), .int 0])), (q1, .inr (4, [.ref tp, .int 0, .ref q_2, .ref q_3, .ref q_4, .int 0])), (q_2, .inl (cI, 12, .inl g_5)), (q_3, .inl (cI, 12, .inl g_6)), (q_4, .inl (cI, 12, .inl g_7)), (q9, .inr (0, [.int 0, .int 0, .ref q_10, .ref q_11, .ref q_12, .ref q_13, .ref q_14, .ref q_15, .ref q_16, .ref q_17, .ref q_18, .ref q_19, .ref q_20, .ref q_21, .ref q_22])), (q_10, .inl (cI, 16, .inl g_23)), (q_11, .inl (cI, 16, .inl g_24)), (q_12, .inl (cI, 16, .inl g_25)), (q_13, .inl (cI, 16, .inl g_26)), (q_14, .inl (cI, 16, .inl g_27)), (q_15, .inl (cI, 16, .inl g_28)), (q_16, .inl (cI, 16, .inl g_29)), (q_17, .inl (cI, 6, .inl g_30)), (q_18, .inl (cI, 288, .inl g_31)), (q_19, .inl (cI, 30, .inl g_32)), (q_20, .inl (cI, 6, .inl g_33)), (q_21, .inl (cI, 4, .inl g_34)), (q_22, .inl (cI, 7, .inl g_35))] := hD
  have hP9 := hP.sub (ws' := [(h0, .inr (3, [.ref q1, .ref q9, .int 0, .int (-1), .int 0])), (q1, .inr (4, [.ref tp, .int 0, .ref q_2, .ref q_3, .ref q_4, .int 0])), (q_2, .inl (cI, 12, .inl g_5)), (q_3, .inl (cI, 12, .inl g_6)), (q_4, .inl (cI, 12, .inl g_7)), (q9, .inr (0, [.int 0, .int 0, .ref q_10, .ref q_11, .ref q_12, .ref q_13, .ref q_14, .ref q_15, .ref q_16, .ref q_17, .ref q_18, .ref q_19, .ref q_20, .ref q_21, .ref q_22])), (q_10, .inl (cI, 16, .inl g_23)), (q_11, .inl (cI, 16, .inl g_24)), (q_12, .inl (cI, 16, .inl g_25)), (q_13, .inl (cI, 16, .inl g_26)), (q_14, .inl (cI, 16, .inl g_27)), (q_15, .inl (cI, 16, .inl g_28)), (q_16, .inl (cI, 16, .inl g_29)), (q_17, .inl (cI, 6, .inl g_30)), (q_18, .inl (cI, 288, .inl g_31)), (q_19, .inl (cI, 30, .inl g_32)), (q_20, .inl (cI, 6, .inl g_33)), (q_21, .inl (cI, 4, .inl g_34)), (q_22, .inl (cI, 7, .inl g_35))]) [0, 1, 2, 3, 4, 5, 6, 7, 8, 9, 10, 11, 12, 13, 14, 15, 16, 17, 18] rfl
  have hD9 := hD.sub (ws' := [(h0, .inr (3, [.ref q1, .ref q9, .int 0, .int (-1), .int 0])), (q1, .inr (4, [.ref tp, .int 0, .ref q_2, .ref q_3, .ref q_4, .int 0])), (q_2, .inl (cI, 12, .inl g_5)), (q_3, .inl (cI, 12, .inl g_6)), (q_4, .inl (cI, 12, .inl g_7)), (q9, .inr (0, [.int 0, .int 0, .ref q_10, .ref q_11, .ref q_12, .ref q_13, .ref q_14, .ref q_15, .ref q_16, .ref q_17, .ref q_18, .ref q_19, .ref q_20, .ref q_21, .ref q_22])), (q_10, .inl (cI, 16, .inl g_23)), (q_11, .inl (cI, 16, .inl g_24)), (q_12, .inl (cI, 16, .inl g_25)), (q_13, .inl (cI, 16, .inl g_26)), (q_14, .inl (cI, 16, .inl g_27)), (q_15, .inl (cI, 16, .inl g_28)), (q_16, .inl (cI, 16, .inl g_29)), (q_17, .inl (cI, 6, .inl g_30)), (q_18, .inl (cI, 288, .inl g_31)), (q_19, .inl (cI, 30, .inl g_32)), (q_20, .inl (cI, 6, .inl g_33)), (q_21, .inl (cI, 4, .inl g_34)), (q_22, .inl (cI, 7, .inl g_35))]) [0, 1, 2, 3, 4, 5, 6, 7, 8, 9, 10, 11, 12, 13, 14, 15, 16, 17, 18] (by decide) rfl
  refine W.widen (k := 18) (n := 510) (by decide) (by decide) ?_
  exact W.vret hx hb hr (fun t ht hW => ⟨⟨(), rfl, trivial, q1, q9, q_2, q_3, q_4, g_5, g_6, g_7, q_10, q_11, q_12, q_13, q_14, q_15, q_16, q_17, q_18, q_19, q_20, q_21, q_22, g_23, g_24, g_25, g_26, g_27, g_28, g_29, g_30, g_31, g_32, g_33, g_34, g_35, by rw [ht]; exact hP9, hD9⟩, hS.F ht⟩) hS.2.2 dX3_init_37
end
