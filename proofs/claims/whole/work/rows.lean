section
-- ===== PART A: goes FIRST, ahead of the names: the tables' words, and 'selects' of the private methods out of them =====
/-- a private method of a class that the tables say can be made, by its rows of tables_1 -/
def lw_okq (q : MethodName × Nat) : Prop := (q.1.cls ≠ "java/lang/invoke/MethodHandle" ∧ q.1.cls ≠ "java/lang/invoke/VarHandle") ∧ Cond.instantiable q.1.cls q.2 ∈ tables_1 ∧ Cond.privateMethod q.1 ∈ tables_1 ∧ Cond.instanceMethod q.1 ∈ tables_1
theorem lw_p0 : lw_okq (⟨"TwofrontArcade", "peoplePast", "(II)I"⟩, 10) := ⟨⟨by decide +kernel, by decide +kernel⟩, List.mem_of_getElem? (i := 34) (by decide +kernel), List.mem_of_getElem? (i := 232) (by decide +kernel), List.mem_of_getElem? (i := 233) (by decide +kernel)⟩
theorem lw_p1 : lw_okq (⟨"TwofrontArcade$Shop", "isOpen", "()Z"⟩, 14) := ⟨⟨by decide +kernel, by decide +kernel⟩, List.mem_of_getElem? (i := 119) (by decide +kernel), List.mem_of_getElem? (i := 236) (by decide +kernel), List.mem_of_getElem? (i := 237) (by decide +kernel)⟩
theorem lw_p2 : lw_okq (⟨"TwofrontArcade$Shop", "place", "()I"⟩, 14) := ⟨⟨by decide +kernel, by decide +kernel⟩, List.mem_of_getElem? (i := 119) (by decide +kernel), List.mem_of_getElem? (i := 240) (by decide +kernel), List.mem_of_getElem? (i := 241) (by decide +kernel)⟩
theorem lw_p3 : lw_okq (⟨"TwofrontArcade", "isOnWayFrom", "(II)Z"⟩, 10) := ⟨⟨by decide +kernel, by decide +kernel⟩, List.mem_of_getElem? (i := 34) (by decide +kernel), List.mem_of_getElem? (i := 244) (by decide +kernel), List.mem_of_getElem? (i := 245) (by decide +kernel)⟩
theorem lw_p4 : lw_okq (⟨"TwofrontArcade$Unit", "peopleAllowed", "()I"⟩, 7) := ⟨⟨by decide +kernel, by decide +kernel⟩, List.mem_of_getElem? (i := 81) (by decide +kernel), List.mem_of_getElem? (i := 248) (by decide +kernel), List.mem_of_getElem? (i := 249) (by decide +kernel)⟩
theorem lw_p5 : lw_okq (⟨"TwofrontArcade$Unit", "isOn", "()Z"⟩, 7) := ⟨⟨by decide +kernel, by decide +kernel⟩, List.mem_of_getElem? (i := 81) (by decide +kernel), List.mem_of_getElem? (i := 252) (by decide +kernel), List.mem_of_getElem? (i := 253) (by decide +kernel)⟩
theorem lw_p6 : lw_okq (⟨"TwofrontArcade$Shop", "lossByWorks", "()J"⟩, 14) := ⟨⟨by decide +kernel, by decide +kernel⟩, List.mem_of_getElem? (i := 119) (by decide +kernel), List.mem_of_getElem? (i := 264) (by decide +kernel), List.mem_of_getElem? (i := 265) (by decide +kernel)⟩
theorem lw_p7 : lw_okq (⟨"TwofrontArcade", "areWorksSound", "()Z"⟩, 10) := ⟨⟨by decide +kernel, by decide +kernel⟩, List.mem_of_getElem? (i := 34) (by decide +kernel), List.mem_of_getElem? (i := 279) (by decide +kernel), List.mem_of_getElem? (i := 280) (by decide +kernel)⟩
theorem lw_p8 : lw_okq (⟨"TwofrontArcade", "unitsWithWork", "(C)I"⟩, 10) := ⟨⟨by decide +kernel, by decide +kernel⟩, List.mem_of_getElem? (i := 34) (by decide +kernel), List.mem_of_getElem? (i := 283) (by decide +kernel), List.mem_of_getElem? (i := 284) (by decide +kernel)⟩
theorem lw_p9 : lw_okq (⟨"TwofrontArcade", "areUnitsSound", "()Z"⟩, 10) := ⟨⟨by decide +kernel, by decide +kernel⟩, List.mem_of_getElem? (i := 34) (by decide +kernel), List.mem_of_getElem? (i := 299) (by decide +kernel), List.mem_of_getElem? (i := 300) (by decide +kernel)⟩
theorem lw_p10 : lw_okq (⟨"TwofrontArcade", "shopsIn", "(I)I"⟩, 10) := ⟨⟨by decide +kernel, by decide +kernel⟩, List.mem_of_getElem? (i := 34) (by decide +kernel), List.mem_of_getElem? (i := 303) (by decide +kernel), List.mem_of_getElem? (i := 304) (by decide +kernel)⟩
theorem lw_p11 : lw_okq (⟨"TwofrontArcade", "areShopsSound", "()Z"⟩, 10) := ⟨⟨by decide +kernel, by decide +kernel⟩, List.mem_of_getElem? (i := 34) (by decide +kernel), List.mem_of_getElem? (i := 309) (by decide +kernel), List.mem_of_getElem? (i := 310) (by decide +kernel)⟩
theorem lw_p12 : lw_okq (⟨"java/lang/Throwable", "fillInStackTrace", "(I)Ljava/lang/Throwable;"⟩, 6) := ⟨⟨by decide +kernel, by decide +kernel⟩, List.mem_of_getElem? (i := 366) (by decide +kernel), List.mem_of_getElem? (i := 364) (by decide +kernel), List.mem_of_getElem? (i := 365) (by decide +kernel)⟩
theorem lw_p13 : lw_okq (⟨"TwofrontArcade", "needUnit", "(I)V"⟩, 10) := ⟨⟨by decide +kernel, by decide +kernel⟩, List.mem_of_getElem? (i := 34) (by decide +kernel), List.mem_of_getElem? (i := 436) (by decide +kernel), List.mem_of_getElem? (i := 437) (by decide +kernel)⟩
theorem lw_p14 : lw_okq (⟨"TwofrontArcade", "haveWall", "(II)Z"⟩, 10) := ⟨⟨by decide +kernel, by decide +kernel⟩, List.mem_of_getElem? (i := 34) (by decide +kernel), List.mem_of_getElem? (i := 457) (by decide +kernel), List.mem_of_getElem? (i := 458) (by decide +kernel)⟩
theorem lw_p15 : lw_okq (⟨"TwofrontArcade$Unit", "hasWork", "()Z"⟩, 7) := ⟨⟨by decide +kernel, by decide +kernel⟩, List.mem_of_getElem? (i := 81) (by decide +kernel), List.mem_of_getElem? (i := 469) (by decide +kernel), List.mem_of_getElem? (i := 470) (by decide +kernel)⟩
def lw_privs_1 : List (MethodName × Nat) := [(⟨"TwofrontArcade", "peoplePast", "(II)I"⟩, 10), (⟨"TwofrontArcade$Shop", "isOpen", "()Z"⟩, 14), (⟨"TwofrontArcade$Shop", "place", "()I"⟩, 14), (⟨"TwofrontArcade", "isOnWayFrom", "(II)Z"⟩, 10), (⟨"TwofrontArcade$Unit", "peopleAllowed", "()I"⟩, 7), (⟨"TwofrontArcade$Unit", "isOn", "()Z"⟩, 7), (⟨"TwofrontArcade$Shop", "lossByWorks", "()J"⟩, 14), (⟨"TwofrontArcade", "areWorksSound", "()Z"⟩, 10), (⟨"TwofrontArcade", "unitsWithWork", "(C)I"⟩, 10), (⟨"TwofrontArcade", "areUnitsSound", "()Z"⟩, 10), (⟨"TwofrontArcade", "shopsIn", "(I)I"⟩, 10), (⟨"TwofrontArcade", "areShopsSound", "()Z"⟩, 10), (⟨"java/lang/Throwable", "fillInStackTrace", "(I)Ljava/lang/Throwable;"⟩, 6), (⟨"TwofrontArcade", "needUnit", "(I)V"⟩, 10), (⟨"TwofrontArcade", "haveWall", "(II)Z"⟩, 10), (⟨"TwofrontArcade$Unit", "hasWork", "()Z"⟩, 7)]
theorem lw_r1 : ∀ q ∈ lw_privs_1, lw_okq q := List.forall_mem_cons.mpr ⟨lw_p0, List.forall_mem_cons.mpr ⟨lw_p1, List.forall_mem_cons.mpr ⟨lw_p2, List.forall_mem_cons.mpr ⟨lw_p3, List.forall_mem_cons.mpr ⟨lw_p4, List.forall_mem_cons.mpr ⟨lw_p5, List.forall_mem_cons.mpr ⟨lw_p6, List.forall_mem_cons.mpr ⟨lw_p7, List.forall_mem_cons.mpr ⟨lw_p8, List.forall_mem_cons.mpr ⟨lw_p9, List.forall_mem_cons.mpr ⟨lw_p10, List.forall_mem_cons.mpr ⟨lw_p11, List.forall_mem_cons.mpr ⟨lw_p12, List.forall_mem_cons.mpr ⟨lw_p13, List.forall_mem_cons.mpr ⟨lw_p14, List.forall_mem_cons.mpr ⟨lw_p15, fun _ h => absurd h List.not_mem_nil⟩⟩⟩⟩⟩⟩⟩⟩⟩⟩⟩⟩⟩⟩⟩⟩
theorem lw_p16 : lw_okq (⟨"TwofrontArcade$Unit", "isPlanned", "()Z"⟩, 7) := ⟨⟨by decide +kernel, by decide +kernel⟩, List.mem_of_getElem? (i := 81) (by decide +kernel), List.mem_of_getElem? (i := 481) (by decide +kernel), List.mem_of_getElem? (i := 482) (by decide +kernel)⟩
theorem lw_p17 : lw_okq (⟨"TwofrontArcade", "allRestsOf", "(I)I"⟩, 10) := ⟨⟨by decide +kernel, by decide +kernel⟩, List.mem_of_getElem? (i := 34) (by decide +kernel), List.mem_of_getElem? (i := 486) (by decide +kernel), List.mem_of_getElem? (i := 487) (by decide +kernel)⟩
theorem lw_p18 : lw_okq (⟨"TwofrontArcade", "needWork", "(I)V"⟩, 10) := ⟨⟨by decide +kernel, by decide +kernel⟩, List.mem_of_getElem? (i := 34) (by decide +kernel), List.mem_of_getElem? (i := 507) (by decide +kernel), List.mem_of_getElem? (i := 508) (by decide +kernel)⟩
theorem lw_p19 : lw_okq (⟨"TwofrontArcade", "hindrance", "(I)C"⟩, 10) := ⟨⟨by decide +kernel, by decide +kernel⟩, List.mem_of_getElem? (i := 34) (by decide +kernel), List.mem_of_getElem? (i := 541) (by decide +kernel), List.mem_of_getElem? (i := 542) (by decide +kernel)⟩
theorem lw_p20 : lw_okq (⟨"TwofrontArcade", "isWideWithHoardingAt", "(I)Z"⟩, 10) := ⟨⟨by decide +kernel, by decide +kernel⟩, List.mem_of_getElem? (i := 34) (by decide +kernel), List.mem_of_getElem? (i := 545) (by decide +kernel), List.mem_of_getElem? (i := 546) (by decide +kernel)⟩
theorem lw_p21 : lw_okq (⟨"TwofrontArcade", "isFree", "(I)Z"⟩, 10) := ⟨⟨by decide +kernel, by decide +kernel⟩, List.mem_of_getElem? (i := 34) (by decide +kernel), List.mem_of_getElem? (i := 572) (by decide +kernel), List.mem_of_getElem? (i := 573) (by decide +kernel)⟩
theorem lw_p22 : lw_okq (⟨"TwofrontArcade", "canGoOutFrom", "(III)Z"⟩, 10) := ⟨⟨by decide +kernel, by decide +kernel⟩, List.mem_of_getElem? (i := 34) (by decide +kernel), List.mem_of_getElem? (i := 576) (by decide +kernel), List.mem_of_getElem? (i := 577) (by decide +kernel)⟩
theorem lw_p23 : lw_okq (⟨"TwofrontArcade", "needShop", "(I)V"⟩, 10) := ⟨⟨by decide +kernel, by decide +kernel⟩, List.mem_of_getElem? (i := 34) (by decide +kernel), List.mem_of_getElem? (i := 589) (by decide +kernel), List.mem_of_getElem? (i := 590) (by decide +kernel)⟩
theorem lw_p24 : lw_okq (⟨"TwofrontArcade", "needShutDay", "(I)V"⟩, 10) := ⟨⟨by decide +kernel, by decide +kernel⟩, List.mem_of_getElem? (i := 34) (by decide +kernel), List.mem_of_getElem? (i := 616) (by decide +kernel), List.mem_of_getElem? (i := 617) (by decide +kernel)⟩
theorem lw_p25 : lw_okq (⟨"TwofrontArcade$Shop", "shutDaysLeft", "()I"⟩, 14) := ⟨⟨by decide +kernel, by decide +kernel⟩, List.mem_of_getElem? (i := 119) (by decide +kernel), List.mem_of_getElem? (i := 620) (by decide +kernel), List.mem_of_getElem? (i := 621) (by decide +kernel)⟩
theorem lw_p26 : lw_okq (⟨"TwofrontArcade$Shop", "comeTo", "(CI)V"⟩, 14) := ⟨⟨by decide +kernel, by decide +kernel⟩, List.mem_of_getElem? (i := 119) (by decide +kernel), List.mem_of_getElem? (i := 625) (by decide +kernel), List.mem_of_getElem? (i := 626) (by decide +kernel)⟩
theorem lw_p27 : lw_okq (⟨"TwofrontArcade", "freeStalls", "()I"⟩, 10) := ⟨⟨by decide +kernel, by decide +kernel⟩, List.mem_of_getElem? (i := 34) (by decide +kernel), List.mem_of_getElem? (i := 639) (by decide +kernel), List.mem_of_getElem? (i := 640) (by decide +kernel)⟩
theorem lw_p28 : lw_okq (⟨"TwofrontArcade$Shop", "shut", "()V"⟩, 14) := ⟨⟨by decide +kernel, by decide +kernel⟩, List.mem_of_getElem? (i := 119) (by decide +kernel), List.mem_of_getElem? (i := 652) (by decide +kernel), List.mem_of_getElem? (i := 653) (by decide +kernel)⟩
theorem lw_p29 : lw_okq (⟨"TwofrontArcade", "hundredthsSeenAt", "(I)I"⟩, 10) := ⟨⟨by decide +kernel, by decide +kernel⟩, List.mem_of_getElem? (i := 34) (by decide +kernel), List.mem_of_getElem? (i := 677) (by decide +kernel), List.mem_of_getElem? (i := 678) (by decide +kernel)⟩
theorem lw_p30 : lw_okq (⟨"TwofrontArcade", "hasDust", "(LTwofrontArcade$Shop;)Z"⟩, 10) := ⟨⟨by decide +kernel, by decide +kernel⟩, List.mem_of_getElem? (i := 34) (by decide +kernel), List.mem_of_getElem? (i := 701) (by decide +kernel), List.mem_of_getElem? (i := 702) (by decide +kernel)⟩
theorem lw_p31 : lw_okq (⟨"TwofrontArcade", "isAtWork", "(LTwofrontArcade$Crew;)Z"⟩, 10) := ⟨⟨by decide +kernel, by decide +kernel⟩, List.mem_of_getElem? (i := 34) (by decide +kernel), List.mem_of_getElem? (i := 705) (by decide +kernel), List.mem_of_getElem? (i := 706) (by decide +kernel)⟩
def lw_privs_2 : List (MethodName × Nat) := [(⟨"TwofrontArcade$Unit", "isPlanned", "()Z"⟩, 7), (⟨"TwofrontArcade", "allRestsOf", "(I)I"⟩, 10), (⟨"TwofrontArcade", "needWork", "(I)V"⟩, 10), (⟨"TwofrontArcade", "hindrance", "(I)C"⟩, 10), (⟨"TwofrontArcade", "isWideWithHoardingAt", "(I)Z"⟩, 10), (⟨"TwofrontArcade", "isFree", "(I)Z"⟩, 10), (⟨"TwofrontArcade", "canGoOutFrom", "(III)Z"⟩, 10), (⟨"TwofrontArcade", "needShop", "(I)V"⟩, 10), (⟨"TwofrontArcade", "needShutDay", "(I)V"⟩, 10), (⟨"TwofrontArcade$Shop", "shutDaysLeft", "()I"⟩, 14), (⟨"TwofrontArcade$Shop", "comeTo", "(CI)V"⟩, 14), (⟨"TwofrontArcade", "freeStalls", "()I"⟩, 10), (⟨"TwofrontArcade$Shop", "shut", "()V"⟩, 14), (⟨"TwofrontArcade", "hundredthsSeenAt", "(I)I"⟩, 10), (⟨"TwofrontArcade", "hasDust", "(LTwofrontArcade$Shop;)Z"⟩, 10), (⟨"TwofrontArcade", "isAtWork", "(LTwofrontArcade$Crew;)Z"⟩, 10)]
theorem lw_r2 : ∀ q ∈ lw_privs_2, lw_okq q := List.forall_mem_cons.mpr ⟨lw_p16, List.forall_mem_cons.mpr ⟨lw_p17, List.forall_mem_cons.mpr ⟨lw_p18, List.forall_mem_cons.mpr ⟨lw_p19, List.forall_mem_cons.mpr ⟨lw_p20, List.forall_mem_cons.mpr ⟨lw_p21, List.forall_mem_cons.mpr ⟨lw_p22, List.forall_mem_cons.mpr ⟨lw_p23, List.forall_mem_cons.mpr ⟨lw_p24, List.forall_mem_cons.mpr ⟨lw_p25, List.forall_mem_cons.mpr ⟨lw_p26, List.forall_mem_cons.mpr ⟨lw_p27, List.forall_mem_cons.mpr ⟨lw_p28, List.forall_mem_cons.mpr ⟨lw_p29, List.forall_mem_cons.mpr ⟨lw_p30, List.forall_mem_cons.mpr ⟨lw_p31, fun _ h => absurd h List.not_mem_nil⟩⟩⟩⟩⟩⟩⟩⟩⟩⟩⟩⟩⟩⟩⟩⟩
theorem lw_p32 : lw_okq (⟨"TwofrontArcade$Shop", "shutDaysWithin", "(I)I"⟩, 14) := ⟨⟨by decide +kernel, by decide +kernel⟩, List.mem_of_getElem? (i := 119) (by decide +kernel), List.mem_of_getElem? (i := 737) (by decide +kernel), List.mem_of_getElem? (i := 738) (by decide +kernel)⟩
theorem lw_p33 : lw_okq (⟨"TwofrontArcade", "passOneDay", "()V"⟩, 10) := ⟨⟨by decide +kernel, by decide +kernel⟩, List.mem_of_getElem? (i := 34) (by decide +kernel), List.mem_of_getElem? (i := 743) (by decide +kernel), List.mem_of_getElem? (i := 744) (by decide +kernel)⟩
theorem lw_p34 : lw_okq (⟨"TwofrontArcade", "trade", "(LTwofrontArcade$Shop;)V"⟩, 10) := ⟨⟨by decide +kernel, by decide +kernel⟩, List.mem_of_getElem? (i := 34) (by decide +kernel), List.mem_of_getElem? (i := 747) (by decide +kernel), List.mem_of_getElem? (i := 748) (by decide +kernel)⟩
theorem lw_p35 : lw_okq (⟨"TwofrontArcade", "weekdayNow", "()I"⟩, 10) := ⟨⟨by decide +kernel, by decide +kernel⟩, List.mem_of_getElem? (i := 34) (by decide +kernel), List.mem_of_getElem? (i := 751) (by decide +kernel), List.mem_of_getElem? (i := 752) (by decide +kernel)⟩
theorem lw_p36 : lw_okq (⟨"TwofrontArcade$Shop", "isShutToday", "()Z"⟩, 14) := ⟨⟨by decide +kernel, by decide +kernel⟩, List.mem_of_getElem? (i := 119) (by decide +kernel), List.mem_of_getElem? (i := 755) (by decide +kernel), List.mem_of_getElem? (i := 756) (by decide +kernel)⟩
theorem lw_p37 : lw_okq (⟨"TwofrontArcade", "letCrewsWork", "()V"⟩, 10) := ⟨⟨by decide +kernel, by decide +kernel⟩, List.mem_of_getElem? (i := 34) (by decide +kernel), List.mem_of_getElem? (i := 760) (by decide +kernel), List.mem_of_getElem? (i := 761) (by decide +kernel)⟩
theorem lw_p38 : lw_okq (⟨"TwofrontArcade", "doesADay", "(I)Z"⟩, 10) := ⟨⟨by decide +kernel, by decide +kernel⟩, List.mem_of_getElem? (i := 34) (by decide +kernel), List.mem_of_getElem? (i := 764) (by decide +kernel), List.mem_of_getElem? (i := 765) (by decide +kernel)⟩
theorem lw_p39 : lw_okq (⟨"TwofrontArcade", "isQuietBeside", "(I)Z"⟩, 10) := ⟨⟨by decide +kernel, by decide +kernel⟩, List.mem_of_getElem? (i := 34) (by decide +kernel), List.mem_of_getElem? (i := 768) (by decide +kernel), List.mem_of_getElem? (i := 769) (by decide +kernel)⟩
theorem lw_p40 : lw_okq (⟨"TwofrontArcade$Shop", "isQuietOn", "(I)Z"⟩, 14) := ⟨⟨by decide +kernel, by decide +kernel⟩, List.mem_of_getElem? (i := 119) (by decide +kernel), List.mem_of_getElem? (i := 772) (by decide +kernel), List.mem_of_getElem? (i := 773) (by decide +kernel)⟩
theorem lw_p41 : lw_okq (⟨"TwofrontArcade", "isHotBelow", "(I)Z"⟩, 10) := ⟨⟨by decide +kernel, by decide +kernel⟩, List.mem_of_getElem? (i := 34) (by decide +kernel), List.mem_of_getElem? (i := 776) (by decide +kernel), List.mem_of_getElem? (i := 777) (by decide +kernel)⟩
theorem lw_p42 : lw_okq (⟨"TwofrontArcade", "causeOfIdleDay", "(I)I"⟩, 10) := ⟨⟨by decide +kernel, by decide +kernel⟩, List.mem_of_getElem? (i := 34) (by decide +kernel), List.mem_of_getElem? (i := 780) (by decide +kernel), List.mem_of_getElem? (i := 781) (by decide +kernel)⟩
theorem lw_p43 : lw_okq (⟨"TwofrontArcade", "endWorks", "()V"⟩, 10) := ⟨⟨by decide +kernel, by decide +kernel⟩, List.mem_of_getElem? (i := 34) (by decide +kernel), List.mem_of_getElem? (i := 784) (by decide +kernel), List.mem_of_getElem? (i := 785) (by decide +kernel)⟩
theorem lw_p44 : lw_okq (⟨"TwofrontArcade", "needCrew", "(I)V"⟩, 10) := ⟨⟨by decide +kernel, by decide +kernel⟩, List.mem_of_getElem? (i := 34) (by decide +kernel), List.mem_of_getElem? (i := 804) (by decide +kernel), List.mem_of_getElem? (i := 805) (by decide +kernel)⟩
theorem lw_p45 : lw_okq (⟨"TwofrontArcade", "needFewPlanned", "()V"⟩, 10) := ⟨⟨by decide +kernel, by decide +kernel⟩, List.mem_of_getElem? (i := 34) (by decide +kernel), List.mem_of_getElem? (i := 841) (by decide +kernel), List.mem_of_getElem? (i := 842) (by decide +kernel)⟩
theorem lw_p46 : lw_okq (⟨"TwofrontArcade$Programme", "seek", "([LTwofrontArcade$Unit;I)V"⟩, 8) := ⟨⟨by decide +kernel, by decide +kernel⟩, List.mem_of_getElem? (i := 48) (by decide +kernel), List.mem_of_getElem? (i := 846) (by decide +kernel), List.mem_of_getElem? (i := 847) (by decide +kernel)⟩
theorem lw_p47 : lw_okq (⟨"TwofrontArcade$Programme", "putWorksOn", "([LTwofrontArcade$Unit;I)V"⟩, 8) := ⟨⟨by decide +kernel, by decide +kernel⟩, List.mem_of_getElem? (i := 48) (by decide +kernel), List.mem_of_getElem? (i := 852) (by decide +kernel), List.mem_of_getElem? (i := 853) (by decide +kernel)⟩
def lw_privs_3 : List (MethodName × Nat) := [(⟨"TwofrontArcade$Shop", "shutDaysWithin", "(I)I"⟩, 14), (⟨"TwofrontArcade", "passOneDay", "()V"⟩, 10), (⟨"TwofrontArcade", "trade", "(LTwofrontArcade$Shop;)V"⟩, 10), (⟨"TwofrontArcade", "weekdayNow", "()I"⟩, 10), (⟨"TwofrontArcade$Shop", "isShutToday", "()Z"⟩, 14), (⟨"TwofrontArcade", "letCrewsWork", "()V"⟩, 10), (⟨"TwofrontArcade", "doesADay", "(I)Z"⟩, 10), (⟨"TwofrontArcade", "isQuietBeside", "(I)Z"⟩, 10), (⟨"TwofrontArcade$Shop", "isQuietOn", "(I)Z"⟩, 14), (⟨"TwofrontArcade", "isHotBelow", "(I)Z"⟩, 10), (⟨"TwofrontArcade", "causeOfIdleDay", "(I)I"⟩, 10), (⟨"TwofrontArcade", "endWorks", "()V"⟩, 10), (⟨"TwofrontArcade", "needCrew", "(I)V"⟩, 10), (⟨"TwofrontArcade", "needFewPlanned", "()V"⟩, 10), (⟨"TwofrontArcade$Programme", "seek", "([LTwofrontArcade$Unit;I)V"⟩, 8), (⟨"TwofrontArcade$Programme", "putWorksOn", "([LTwofrontArcade$Unit;I)V"⟩, 8)]
theorem lw_r3 : ∀ q ∈ lw_privs_3, lw_okq q := List.forall_mem_cons.mpr ⟨lw_p32, List.forall_mem_cons.mpr ⟨lw_p33, List.forall_mem_cons.mpr ⟨lw_p34, List.forall_mem_cons.mpr ⟨lw_p35, List.forall_mem_cons.mpr ⟨lw_p36, List.forall_mem_cons.mpr ⟨lw_p37, List.forall_mem_cons.mpr ⟨lw_p38, List.forall_mem_cons.mpr ⟨lw_p39, List.forall_mem_cons.mpr ⟨lw_p40, List.forall_mem_cons.mpr ⟨lw_p41, List.forall_mem_cons.mpr ⟨lw_p42, List.forall_mem_cons.mpr ⟨lw_p43, List.forall_mem_cons.mpr ⟨lw_p44, List.forall_mem_cons.mpr ⟨lw_p45, List.forall_mem_cons.mpr ⟨lw_p46, List.forall_mem_cons.mpr ⟨lw_p47, fun _ h => absurd h List.not_mem_nil⟩⟩⟩⟩⟩⟩⟩⟩⟩⟩⟩⟩⟩⟩⟩⟩
theorem lw_p48 : lw_okq (⟨"TwofrontArcade$Programme", "putAt", "(III)V"⟩, 8) := ⟨⟨by decide +kernel, by decide +kernel⟩, List.mem_of_getElem? (i := 48) (by decide +kernel), List.mem_of_getElem? (i := 857) (by decide +kernel), List.mem_of_getElem? (i := 858) (by decide +kernel)⟩
theorem lw_p49 : lw_okq (⟨"TwofrontArcade$Programme", "putInOrder", "([LTwofrontArcade$Unit;I)Z"⟩, 8) := ⟨⟨by decide +kernel, by decide +kernel⟩, List.mem_of_getElem? (i := 48) (by decide +kernel), List.mem_of_getElem? (i := 863) (by decide +kernel), List.mem_of_getElem? (i := 864) (by decide +kernel)⟩
theorem lw_p50 : lw_okq (⟨"TwofrontArcade$Programme", "endOfRests", "([LTwofrontArcade$Unit;II)I"⟩, 8) := ⟨⟨by decide +kernel, by decide +kernel⟩, List.mem_of_getElem? (i := 48) (by decide +kernel), List.mem_of_getElem? (i := 867) (by decide +kernel), List.mem_of_getElem? (i := 868) (by decide +kernel)⟩
theorem lw_p51 : lw_okq (⟨"TwofrontArcade$Programme", "fitsAt", "([LTwofrontArcade$Unit;III)Z"⟩, 8) := ⟨⟨by decide +kernel, by decide +kernel⟩, List.mem_of_getElem? (i := 48) (by decide +kernel), List.mem_of_getElem? (i := 872) (by decide +kernel), List.mem_of_getElem? (i := 873) (by decide +kernel)⟩
theorem lw_p52 : lw_okq (⟨"TwofrontArcade$Programme", "onAt", "(II)I"⟩, 8) := ⟨⟨by decide +kernel, by decide +kernel⟩, List.mem_of_getElem? (i := 48) (by decide +kernel), List.mem_of_getElem? (i := 876) (by decide +kernel), List.mem_of_getElem? (i := 877) (by decide +kernel)⟩
theorem lw_p53 : lw_okq (⟨"TwofrontArcade$Programme", "nextEnd", "(II)I"⟩, 8) := ⟨⟨by decide +kernel, by decide +kernel⟩, List.mem_of_getElem? (i := 48) (by decide +kernel), List.mem_of_getElem? (i := 880) (by decide +kernel), List.mem_of_getElem? (i := 881) (by decide +kernel)⟩
theorem lw_p54 : lw_okq (⟨"TwofrontArcade$Programme", "isBetter", "([LTwofrontArcade$Unit;I)Z"⟩, 8) := ⟨⟨by decide +kernel, by decide +kernel⟩, List.mem_of_getElem? (i := 48) (by decide +kernel), List.mem_of_getElem? (i := 885) (by decide +kernel), List.mem_of_getElem? (i := 886) (by decide +kernel)⟩
theorem lw_p55 : lw_okq (⟨"TwofrontArcade$Programme", "keep", "()V"⟩, 8) := ⟨⟨by decide +kernel, by decide +kernel⟩, List.mem_of_getElem? (i := 48) (by decide +kernel), List.mem_of_getElem? (i := 889) (by decide +kernel), List.mem_of_getElem? (i := 890) (by decide +kernel)⟩
theorem lw_p56 : lw_okq (⟨"TwofrontArcade$Programme", "nextOrder", "()Z"⟩, 8) := ⟨⟨by decide +kernel, by decide +kernel⟩, List.mem_of_getElem? (i := 48) (by decide +kernel), List.mem_of_getElem? (i := 896) (by decide +kernel), List.mem_of_getElem? (i := 897) (by decide +kernel)⟩
theorem lw_p57 : lw_okq (⟨"TwofrontArcade$Programme", "swap", "(II)V"⟩, 8) := ⟨⟨by decide +kernel, by decide +kernel⟩, List.mem_of_getElem? (i := 48) (by decide +kernel), List.mem_of_getElem? (i := 900) (by decide +kernel), List.mem_of_getElem? (i := 901) (by decide +kernel)⟩
theorem lw_p58 : lw_okq (⟨"TwofrontArcade", "needAShop", "()V"⟩, 10) := ⟨⟨by decide +kernel, by decide +kernel⟩, List.mem_of_getElem? (i := 34) (by decide +kernel), List.mem_of_getElem? (i := 944) (by decide +kernel), List.mem_of_getElem? (i := 945) (by decide +kernel)⟩
theorem lw_p59 : lw_okq (⟨"java/util/ArrayList", "add", "(Ljava/lang/Object;[Ljava/lang/Object;I)V"⟩, 3) := ⟨⟨by decide +kernel, by decide +kernel⟩, List.mem_of_getElem? (i := 962) (by decide +kernel), List.mem_of_getElem? (i := 1079) (by decide +kernel), List.mem_of_getElem? (i := 1080) (by decide +kernel)⟩
theorem lw_p60 : lw_okq (⟨"java/util/ArrayList", "grow", "()[Ljava/lang/Object;"⟩, 3) := ⟨⟨by decide +kernel, by decide +kernel⟩, List.mem_of_getElem? (i := 962) (by decide +kernel), List.mem_of_getElem? (i := 1083) (by decide +kernel), List.mem_of_getElem? (i := 1084) (by decide +kernel)⟩
theorem lw_p61 : lw_okq (⟨"java/util/ArrayList", "grow", "(I)[Ljava/lang/Object;"⟩, 3) := ⟨⟨by decide +kernel, by decide +kernel⟩, List.mem_of_getElem? (i := 962) (by decide +kernel), List.mem_of_getElem? (i := 1087) (by decide +kernel), List.mem_of_getElem? (i := 1088) (by decide +kernel)⟩
theorem lw_p62 : lw_okq (⟨"TwofrontArcadeModel", "isUnit", "(I)Z"⟩, 9) := ⟨⟨by decide +kernel, by decide +kernel⟩, List.mem_of_getElem? (i := 956) (by decide +kernel), List.mem_of_getElem? (i := 1136) (by decide +kernel), List.mem_of_getElem? (i := 1137) (by decide +kernel)⟩
theorem lw_p63 : lw_okq (⟨"TwofrontArcadeModel", "isOn", "(I)Z"⟩, 9) := ⟨⟨by decide +kernel, by decide +kernel⟩, List.mem_of_getElem? (i := 956) (by decide +kernel), List.mem_of_getElem? (i := 1154) (by decide +kernel), List.mem_of_getElem? (i := 1155) (by decide +kernel)⟩
def lw_privs_4 : List (MethodName × Nat) := [(⟨"TwofrontArcade$Programme", "putAt", "(III)V"⟩, 8), (⟨"TwofrontArcade$Programme", "putInOrder", "([LTwofrontArcade$Unit;I)Z"⟩, 8), (⟨"TwofrontArcade$Programme", "endOfRests", "([LTwofrontArcade$Unit;II)I"⟩, 8), (⟨"TwofrontArcade$Programme", "fitsAt", "([LTwofrontArcade$Unit;III)Z"⟩, 8), (⟨"TwofrontArcade$Programme", "onAt", "(II)I"⟩, 8), (⟨"TwofrontArcade$Programme", "nextEnd", "(II)I"⟩, 8), (⟨"TwofrontArcade$Programme", "isBetter", "([LTwofrontArcade$Unit;I)Z"⟩, 8), (⟨"TwofrontArcade$Programme", "keep", "()V"⟩, 8), (⟨"TwofrontArcade$Programme", "nextOrder", "()Z"⟩, 8), (⟨"TwofrontArcade$Programme", "swap", "(II)V"⟩, 8), (⟨"TwofrontArcade", "needAShop", "()V"⟩, 10), (⟨"java/util/ArrayList", "add", "(Ljava/lang/Object;[Ljava/lang/Object;I)V"⟩, 3), (⟨"java/util/ArrayList", "grow", "()[Ljava/lang/Object;"⟩, 3), (⟨"java/util/ArrayList", "grow", "(I)[Ljava/lang/Object;"⟩, 3), (⟨"TwofrontArcadeModel", "isUnit", "(I)Z"⟩, 9), (⟨"TwofrontArcadeModel", "isOn", "(I)Z"⟩, 9)]
theorem lw_r4 : ∀ q ∈ lw_privs_4, lw_okq q := List.forall_mem_cons.mpr ⟨lw_p48, List.forall_mem_cons.mpr ⟨lw_p49, List.forall_mem_cons.mpr ⟨lw_p50, List.forall_mem_cons.mpr ⟨lw_p51, List.forall_mem_cons.mpr ⟨lw_p52, List.forall_mem_cons.mpr ⟨lw_p53, List.forall_mem_cons.mpr ⟨lw_p54, List.forall_mem_cons.mpr ⟨lw_p55, List.forall_mem_cons.mpr ⟨lw_p56, List.forall_mem_cons.mpr ⟨lw_p57, List.forall_mem_cons.mpr ⟨lw_p58, List.forall_mem_cons.mpr ⟨lw_p59, List.forall_mem_cons.mpr ⟨lw_p60, List.forall_mem_cons.mpr ⟨lw_p61, List.forall_mem_cons.mpr ⟨lw_p62, List.forall_mem_cons.mpr ⟨lw_p63, fun _ h => absurd h List.not_mem_nil⟩⟩⟩⟩⟩⟩⟩⟩⟩⟩⟩⟩⟩⟩⟩⟩
theorem lw_p64 : lw_okq (⟨"TwofrontArcadeModel", "noUnit", "(I)Z"⟩, 9) := ⟨⟨by decide +kernel, by decide +kernel⟩, List.mem_of_getElem? (i := 956) (by decide +kernel), List.mem_of_getElem? (i := 1162) (by decide +kernel), List.mem_of_getElem? (i := 1163) (by decide +kernel)⟩
theorem lw_p65 : lw_okq (⟨"TwofrontArcadeModel", "restsOn", "(II)Z"⟩, 9) := ⟨⟨by decide +kernel, by decide +kernel⟩, List.mem_of_getElem? (i := 956) (by decide +kernel), List.mem_of_getElem? (i := 1228) (by decide +kernel), List.mem_of_getElem? (i := 1229) (by decide +kernel)⟩
theorem lw_p66 : lw_okq (⟨"TwofrontArcadeModel", "noWork", "(I)Z"⟩, 9) := ⟨⟨by decide +kernel, by decide +kernel⟩, List.mem_of_getElem? (i := 956) (by decide +kernel), List.mem_of_getElem? (i := 1241) (by decide +kernel), List.mem_of_getElem? (i := 1242) (by decide +kernel)⟩
theorem lw_p67 : lw_okq (⟨"TwofrontArcadeModel", "barOf", "(I)C"⟩, 9) := ⟨⟨by decide +kernel, by decide +kernel⟩, List.mem_of_getElem? (i := 956) (by decide +kernel), List.mem_of_getElem? (i := 1253) (by decide +kernel), List.mem_of_getElem? (i := 1254) (by decide +kernel)⟩
theorem lw_p68 : lw_okq (⟨"TwofrontArcadeModel", "shopIn", "(I)I"⟩, 9) := ⟨⟨by decide +kernel, by decide +kernel⟩, List.mem_of_getElem? (i := 956) (by decide +kernel), List.mem_of_getElem? (i := 1257) (by decide +kernel), List.mem_of_getElem? (i := 1258) (by decide +kernel)⟩
theorem lw_p69 : lw_okq (⟨"TwofrontArcadeModel", "fits", "(III)Z"⟩, 9) := ⟨⟨by decide +kernel, by decide +kernel⟩, List.mem_of_getElem? (i := 956) (by decide +kernel), List.mem_of_getElem? (i := 1262) (by decide +kernel), List.mem_of_getElem? (i := 1263) (by decide +kernel)⟩
theorem lw_p70 : lw_okq (⟨"TwofrontArcadeModel", "flowAt", "(III)I"⟩, 9) := ⟨⟨by decide +kernel, by decide +kernel⟩, List.mem_of_getElem? (i := 956) (by decide +kernel), List.mem_of_getElem? (i := 1266) (by decide +kernel), List.mem_of_getElem? (i := 1267) (by decide +kernel)⟩
theorem lw_p71 : lw_okq (⟨"TwofrontArcadeModel", "passes", "(II)Z"⟩, 9) := ⟨⟨by decide +kernel, by decide +kernel⟩, List.mem_of_getElem? (i := 956) (by decide +kernel), List.mem_of_getElem? (i := 1274) (by decide +kernel), List.mem_of_getElem? (i := 1275) (by decide +kernel)⟩
theorem lw_p72 : lw_okq (⟨"TwofrontArcadeModel", "roomAt", "(II)I"⟩, 9) := ⟨⟨by decide +kernel, by decide +kernel⟩, List.mem_of_getElem? (i := 956) (by decide +kernel), List.mem_of_getElem? (i := 1278) (by decide +kernel), List.mem_of_getElem? (i := 1279) (by decide +kernel)⟩
theorem lw_p73 : lw_okq (⟨"java/util/ArrayList", "fastRemove", "([Ljava/lang/Object;I)V"⟩, 3) := ⟨⟨by decide +kernel, by decide +kernel⟩, List.mem_of_getElem? (i := 962) (by decide +kernel), List.mem_of_getElem? (i := 1366) (by decide +kernel), List.mem_of_getElem? (i := 1367) (by decide +kernel)⟩
theorem lw_p74 : lw_okq (⟨"TwofrontArcadeModel", "noShop", "(I)Z"⟩, 9) := ⟨⟨by decide +kernel, by decide +kernel⟩, List.mem_of_getElem? (i := 956) (by decide +kernel), List.mem_of_getElem? (i := 1375) (by decide +kernel), List.mem_of_getElem? (i := 1376) (by decide +kernel)⟩
theorem lw_p75 : lw_okq (⟨"TwofrontArcadeModel", "comesIn", "(LTwofrontArcadeModel$Shop;CI)V"⟩, 9) := ⟨⟨by decide +kernel, by decide +kernel⟩, List.mem_of_getElem? (i := 956) (by decide +kernel), List.mem_of_getElem? (i := 1391) (by decide +kernel), List.mem_of_getElem? (i := 1392) (by decide +kernel)⟩
theorem lw_p76 : lw_okq (⟨"TwofrontArcadeModel", "free", "()I"⟩, 9) := ⟨⟨by decide +kernel, by decide +kernel⟩, List.mem_of_getElem? (i := 956) (by decide +kernel), List.mem_of_getElem? (i := 1400) (by decide +kernel), List.mem_of_getElem? (i := 1401) (by decide +kernel)⟩
theorem lw_p77 : lw_okq (⟨"TwofrontArcadeModel", "seenOf", "(LTwofrontArcadeModel$Shop;)I"⟩, 9) := ⟨⟨by decide +kernel, by decide +kernel⟩, List.mem_of_getElem? (i := 956) (by decide +kernel), List.mem_of_getElem? (i := 1420) (by decide +kernel), List.mem_of_getElem? (i := 1421) (by decide +kernel)⟩
theorem lw_p78 : lw_okq (⟨"TwofrontArcadeModel", "dustAt", "(LTwofrontArcadeModel$Shop;)Z"⟩, 9) := ⟨⟨by decide +kernel, by decide +kernel⟩, List.mem_of_getElem? (i := 956) (by decide +kernel), List.mem_of_getElem? (i := 1432) (by decide +kernel), List.mem_of_getElem? (i := 1433) (by decide +kernel)⟩
theorem lw_p79 : lw_okq (⟨"TwofrontArcadeModel", "isStrike", "()Z"⟩, 9) := ⟨⟨by decide +kernel, by decide +kernel⟩, List.mem_of_getElem? (i := 956) (by decide +kernel), List.mem_of_getElem? (i := 1437) (by decide +kernel), List.mem_of_getElem? (i := 1438) (by decide +kernel)⟩
def lw_privs_5 : List (MethodName × Nat) := [(⟨"TwofrontArcadeModel", "noUnit", "(I)Z"⟩, 9), (⟨"TwofrontArcadeModel", "restsOn", "(II)Z"⟩, 9), (⟨"TwofrontArcadeModel", "noWork", "(I)Z"⟩, 9), (⟨"TwofrontArcadeModel", "barOf", "(I)C"⟩, 9), (⟨"TwofrontArcadeModel", "shopIn", "(I)I"⟩, 9), (⟨"TwofrontArcadeModel", "fits", "(III)Z"⟩, 9), (⟨"TwofrontArcadeModel", "flowAt", "(III)I"⟩, 9), (⟨"TwofrontArcadeModel", "passes", "(II)Z"⟩, 9), (⟨"TwofrontArcadeModel", "roomAt", "(II)I"⟩, 9), (⟨"java/util/ArrayList", "fastRemove", "([Ljava/lang/Object;I)V"⟩, 3), (⟨"TwofrontArcadeModel", "noShop", "(I)Z"⟩, 9), (⟨"TwofrontArcadeModel", "comesIn", "(LTwofrontArcadeModel$Shop;CI)V"⟩, 9), (⟨"TwofrontArcadeModel", "free", "()I"⟩, 9), (⟨"TwofrontArcadeModel", "seenOf", "(LTwofrontArcadeModel$Shop;)I"⟩, 9), (⟨"TwofrontArcadeModel", "dustAt", "(LTwofrontArcadeModel$Shop;)Z"⟩, 9), (⟨"TwofrontArcadeModel", "isStrike", "()Z"⟩, 9)]
theorem lw_r5 : ∀ q ∈ lw_privs_5, lw_okq q := List.forall_mem_cons.mpr ⟨lw_p64, List.forall_mem_cons.mpr ⟨lw_p65, List.forall_mem_cons.mpr ⟨lw_p66, List.forall_mem_cons.mpr ⟨lw_p67, List.forall_mem_cons.mpr ⟨lw_p68, List.forall_mem_cons.mpr ⟨lw_p69, List.forall_mem_cons.mpr ⟨lw_p70, List.forall_mem_cons.mpr ⟨lw_p71, List.forall_mem_cons.mpr ⟨lw_p72, List.forall_mem_cons.mpr ⟨lw_p73, List.forall_mem_cons.mpr ⟨lw_p74, List.forall_mem_cons.mpr ⟨lw_p75, List.forall_mem_cons.mpr ⟨lw_p76, List.forall_mem_cons.mpr ⟨lw_p77, List.forall_mem_cons.mpr ⟨lw_p78, List.forall_mem_cons.mpr ⟨lw_p79, fun _ h => absurd h List.not_mem_nil⟩⟩⟩⟩⟩⟩⟩⟩⟩⟩⟩⟩⟩⟩⟩⟩
theorem lw_p80 : lw_okq (⟨"TwofrontArcadeModel", "goesOn", "()V"⟩, 9) := ⟨⟨by decide +kernel, by decide +kernel⟩, List.mem_of_getElem? (i := 956) (by decide +kernel), List.mem_of_getElem? (i := 1450) (by decide +kernel), List.mem_of_getElem? (i := 1451) (by decide +kernel)⟩
theorem lw_p81 : lw_okq (⟨"TwofrontArcadeModel", "trades", "(LTwofrontArcadeModel$Shop;)V"⟩, 9) := ⟨⟨by decide +kernel, by decide +kernel⟩, List.mem_of_getElem? (i := 956) (by decide +kernel), List.mem_of_getElem? (i := 1454) (by decide +kernel), List.mem_of_getElem? (i := 1455) (by decide +kernel)⟩
theorem lw_p82 : lw_okq (⟨"TwofrontArcadeModel", "works", "(I)Z"⟩, 9) := ⟨⟨by decide +kernel, by decide +kernel⟩, List.mem_of_getElem? (i := 956) (by decide +kernel), List.mem_of_getElem? (i := 1461) (by decide +kernel), List.mem_of_getElem? (i := 1462) (by decide +kernel)⟩
theorem lw_p83 : lw_okq (⟨"TwofrontArcadeModel", "isHushed", "(LTwofrontArcadeModel$Crew;)Z"⟩, 9) := ⟨⟨by decide +kernel, by decide +kernel⟩, List.mem_of_getElem? (i := 956) (by decide +kernel), List.mem_of_getElem? (i := 1465) (by decide +kernel), List.mem_of_getElem? (i := 1466) (by decide +kernel)⟩
theorem lw_p84 : lw_okq (⟨"TwofrontArcadeModel", "noProgramme", "()Z"⟩, 9) := ⟨⟨by decide +kernel, by decide +kernel⟩, List.mem_of_getElem? (i := 956) (by decide +kernel), List.mem_of_getElem? (i := 1595) (by decide +kernel), List.mem_of_getElem? (i := 1596) (by decide +kernel)⟩
theorem lw_p85 : lw_okq (⟨"TwofrontArcadeModel", "programmes", "()V"⟩, 9) := ⟨⟨by decide +kernel, by decide +kernel⟩, List.mem_of_getElem? (i := 956) (by decide +kernel), List.mem_of_getElem? (i := 1599) (by decide +kernel), List.mem_of_getElem? (i := 1600) (by decide +kernel)⟩
theorem lw_p86 : lw_okq (⟨"TwofrontArcadeModel", "goes", "(I[I[I)V"⟩, 9) := ⟨⟨by decide +kernel, by decide +kernel⟩, List.mem_of_getElem? (i := 956) (by decide +kernel), List.mem_of_getElem? (i := 1604) (by decide +kernel), List.mem_of_getElem? (i := 1605) (by decide +kernel)⟩
theorem lw_p87 : lw_okq (⟨"TwofrontArcadeModel", "takes", "(I[I[I)V"⟩, 9) := ⟨⟨by decide +kernel, by decide +kernel⟩, List.mem_of_getElem? (i := 956) (by decide +kernel), List.mem_of_getElem? (i := 1608) (by decide +kernel), List.mem_of_getElem? (i := 1609) (by decide +kernel)⟩
theorem lw_p88 : lw_okq (⟨"TwofrontArcadeModel", "canStart", "(II[I[I)Z"⟩, 9) := ⟨⟨by decide +kernel, by decide +kernel⟩, List.mem_of_getElem? (i := 956) (by decide +kernel), List.mem_of_getElem? (i := 1612) (by decide +kernel), List.mem_of_getElem? (i := 1613) (by decide +kernel)⟩
theorem lw_p89 : lw_okq (⟨"TwofrontArcadeModel", "startsThen", "(I[I[III)V"⟩, 9) := ⟨⟨by decide +kernel, by decide +kernel⟩, List.mem_of_getElem? (i := 956) (by decide +kernel), List.mem_of_getElem? (i := 1616) (by decide +kernel), List.mem_of_getElem? (i := 1617) (by decide +kernel)⟩
def lw_privs_6 : List (MethodName × Nat) := [(⟨"TwofrontArcadeModel", "goesOn", "()V"⟩, 9), (⟨"TwofrontArcadeModel", "trades", "(LTwofrontArcadeModel$Shop;)V"⟩, 9), (⟨"TwofrontArcadeModel", "works", "(I)Z"⟩, 9), (⟨"TwofrontArcadeModel", "isHushed", "(LTwofrontArcadeModel$Crew;)Z"⟩, 9), (⟨"TwofrontArcadeModel", "noProgramme", "()Z"⟩, 9), (⟨"TwofrontArcadeModel", "programmes", "()V"⟩, 9), (⟨"TwofrontArcadeModel", "goes", "(I[I[I)V"⟩, 9), (⟨"TwofrontArcadeModel", "takes", "(I[I[I)V"⟩, 9), (⟨"TwofrontArcadeModel", "canStart", "(II[I[I)Z"⟩, 9), (⟨"TwofrontArcadeModel", "startsThen", "(I[I[III)V"⟩, 9)]
theorem lw_r6 : ∀ q ∈ lw_privs_6, lw_okq q := List.forall_mem_cons.mpr ⟨lw_p80, List.forall_mem_cons.mpr ⟨lw_p81, List.forall_mem_cons.mpr ⟨lw_p82, List.forall_mem_cons.mpr ⟨lw_p83, List.forall_mem_cons.mpr ⟨lw_p84, List.forall_mem_cons.mpr ⟨lw_p85, List.forall_mem_cons.mpr ⟨lw_p86, List.forall_mem_cons.mpr ⟨lw_p87, List.forall_mem_cons.mpr ⟨lw_p88, List.forall_mem_cons.mpr ⟨lw_p89, fun _ h => absurd h List.not_mem_nil⟩⟩⟩⟩⟩⟩⟩⟩⟩⟩
def lw_privs : List (MethodName × Nat) := lw_privs_1 ++ (lw_privs_2 ++ (lw_privs_3 ++ (lw_privs_4 ++ (lw_privs_5 ++ (lw_privs_6)))))
def lw_tbl : List Cond := k2_sels lw_privs ++ tables_1
theorem lw_privs_ok : ∀ q ∈ lw_privs, lw_okq q := by
  show ∀ q ∈ lw_privs_1 ++ (lw_privs_2 ++ (lw_privs_3 ++ (lw_privs_4 ++ (lw_privs_5 ++ (lw_privs_6))))), lw_okq q
  exact List.forall_mem_append.mpr ⟨lw_r1, List.forall_mem_append.mpr ⟨lw_r2, List.forall_mem_append.mpr ⟨lw_r3, List.forall_mem_append.mpr ⟨lw_r4, List.forall_mem_append.mpr ⟨lw_r5, lw_r6⟩⟩⟩⟩⟩
/-- the streams that the claim lets the run draw from -/
abbrev lw_cs : List Choice := [Jvm.Choice.named "NaN.bits"]
theorem lw_bits : nanBits ∈ lw_cs := by first | decide | exact List.mem_cons_self | simp [lw_cs, nanBits]
-- ===== end of PART A; then your names; then what follows =====
end
section
/-! ===== BEGIN words of one list among another's, by their places ===== -/
theorem goodIn_r {big : List Cond} (ws : List Cond) (ps : List Nat) (hp : ws = ps.filterMap (fun i => big[i]?)) (h : ws.all goodWord = true) : GoodIn big ws := by
  intro w hw
  have h1 := List.all_eq_true.mp h w hw
  rw [hp] at hw
  obtain ⟨i, -, hi⟩ := List.mem_filterMap.mp hw
  have hm : w ∈ big := by first | exact List.mem_of_getElem? hi | exact List.getElem?_mem hi
  exact ⟨hm, good_of_word h1⟩
theorem goodIn_app {big a b : List Cond} (ha : GoodIn big a) (hb : GoodIn big b) : GoodIn big (a ++ b) := fun w h => (List.mem_append.mp h).elim (ha w) (hb w)
theorem goodIn_ca {big a b : List Cond} {c : Cond} (ha : GoodIn big (c :: a)) (hb : GoodIn big b) : GoodIn big (c :: (a ++ b)) := fun w h => (List.mem_cons.mp h).elim (fun e => ha w (List.mem_cons.mpr (Or.inl e))) (fun h => (List.mem_append.mp h).elim (fun h => ha w (List.mem_cons.mpr (Or.inr h))) (hb w))
theorem goodIn_sub {big ws : List Cond} (hm : ∀ w ∈ ws, w ∈ big) (h : ws.all goodWord = true) : GoodIn big ws := fun w hw => ⟨hm w hw, good_of_word (List.all_eq_true.mp h w hw)⟩
/-! ===== END ===== -/

/-! ===== BEGIN exceptions that leave a method, and their catching by the caller (launches without stack traces) ===== -/
section VXA
/-! The laws vx_back, vx_callV, vx_callS, vx_callSW, vx_throw0, vx_throwS follow proofs of the library, with one case more: JvmDerived/Free/Laws.lean (Back.of_free), Shelf42/LK1.lean (callV, callS), Shelf/KitTraced.lean (throwNew0V, throwNewS). -/
/-- where a method has thrown q: the class by its name, the cell, what was written, the world -/
def vx_T (XC : String → State → State → Prop) (st : State) (q : Addr) (t : State) (mc ms : Nat) (free : Addr → Prop) : Prop :=
  ∃ (E : String) (ce : Cell) (L : List Loc), XC E st t ∧ t.heap[q]? = some ce ∧ ce.vm = .none ∧ st.vm.findClass E = some ce.cls ∧ st.WarmedH t.vm ∧ st.sameButNew ({ t with vm := st.vm } : State) L mc ms ∧ ∀ z ∈ L, free z.base
def vx_Q (Qc : Array Value → State → Outcome → State → Prop) (XC : String → State → State → Prop) (mc ms : Nat) (free : Addr → Prop) : Array Value → State → Outcome → State → Prop := fun a st o t =>
  (Qc a st o t ∧ ∃ L, FrameEnd st o t L mc ms ∧ ∀ q ∈ L, free q.base) ∨ ∃ q, o = .threw q ∧ vx_T XC st q t mc ms free
/-- a callee that returns or throws -/
def vx_Met (l : Launch) (y : MethodName) (ws : List Cond) (rm : Room) (Pc : Array Value → State → Prop) (Qc : Array Value → State → Outcome → State → Prop) (XC : String → State → State → Prop) (mc ms : Nat) (free : Addr → Prop) : Prop :=
  MetFree l y (headSpec ws rm) Pc (fun _ _ _ _ _ => True) (vx_Q Qc XC mc ms free)
def vx_Post (XC : String → State → State → Prop) (mc ms : Nat) (free : Addr → Prop) : Pt → Array Value → Addr → Pt → Prop := fun A a q B =>
  ∃ (g : JFrame) (mk : MethodId) (t : State) (L : List Loc) (E : String) (ce : Cell), B.U.heap = t.heap ∧ B.U.vm = t.vm ∧ XC E (A.U.calling g mk a) t ∧ t.heap[q]? = some ce ∧ ce.vm = .none ∧ A.U.vm.findClass E = some ce.cls ∧ B.locs = A.locs ++ L ∧ (∀ z ∈ L, free z.base) ∧ B.cells = A.cells + mc ∧ B.slots = A.slots + ms
def vx_Back (l : Launch) (R : Room) (p : Program) (e : Env) (below : List Frame) (s : State) (sargs : Array Value) (y : MethodName) (len W9 : Nat)
    (Pre : Pt → Array Value → Prop) (Post : Pt → Array Value → Option Value → Pt → Prop) (PostX : Pt → Array Value → Addr → Pt → Prop) : Prop :=
  ∀ (m : MethodId) (meth : Method) (c : Code) (A : Pt) (g : JFrame) (ig : Instr) (mk : MethodId) (a : Array Value),
    Stand p l e R s m sargs below meth c A.U A.locs A.cells A.slots → g.method = m → g.locals.size = c.maxLocals → decode c.code g.pc = .ok (ig, len) →
    2 * g.monitorRoom + (g.stack.map fun v => v.category).sum ≤ W9 → A.U.methodNamed? y = some mk → Pre A a →
    (∃ (v : Option Value) (B : Pt), Stand p l e R s m sargs below meth c B.U B.locs B.cells B.slots ∧ Post A a v B ∧
      Steps p.tables e below (doInvoke e (A.U.setTop g) [] mk a).1 (B.U.setTop { g with pc := g.pc + len, stack := v.toList ++ g.stack })) ∨
    (∃ (q : Addr) (B : Pt), Stand p l e R s m sargs below meth c B.U B.locs B.cells B.slots ∧ PostX A a q B ∧
      Steps p.tables e below (doInvoke e (A.U.setTop g) [] mk a).1 ((B.U.setTop g).pushFrame (.throwing q)))
section Payer
variable {l : Launch} {R : Room} {p : Program} {e : Env} {below : List Frame} {s : State} {sargs : Array Value} {y : MethodName} {len W9 : Nat}
theorem vx_back {ws : List Cond} {rm : Room} {Pc : Array Value → State → Prop} {Qc : Array Value → State → Outcome → State → Prop} {XC : String → State → State → Prop} {mc ms : Nat} {free : Addr → Prop} {bytes : ByteArray} {maxL : Nat} {ret : Option FieldType}
    (hM : vx_Met l y ws rm Pc Qc XC mc ms free) (hblind : FrameBlind Pc) (hrc : rm.cells = mc) (hrs : rm.slots = ms)
    (hframes : rm.frames + 1 ≤ R.frames) (hlocals : W9 + (maxL + 11) + rm.locals ≤ R.locals)
    (hws : ∀ w ∈ ws, ∀ a' U, s.WarmedH U.vm → w.before a' U = true) (hcode : Cond.code y bytes maxL ret ∈ ws) (hinit : ∀ a' U, s.WarmedH U.vm → (Cond.initialized y.cls).before a' U = true) :
    vx_Back l R p e below s sargs y len W9 (PreOf R mc ms Pc) (PostOf Qc mc ms free) (vx_Post XC mc ms free) := by
  intro m meth c A g ig mk a X hg hsize hdg hW hn hp
  have h1 : (headSpec ws rm).pre.before a A.U = true := atoms_intro fun w hw => hws w hw _ _ X.warmed
  have h2 : (Cond.code y bytes maxL ret).before a A.U = true := hws _ hcode _ _ X.warmed
  have h3 : (Cond.initialized y.cls).before a A.U = true := hinit _ _ X.warmed
  have h4 : A.cells + (headSpec ws rm).room.cells ≤ R.cells := by rw [show (headSpec ws rm).room.cells = mc from hrc]; exact hp.1
  have h5 : A.slots + (headSpec ws rm).room.slots ≤ R.slots := by rw [show (headSpec ws rm).room.slots = ms from hrs]; exact hp.2.1
  have hPc : Pc a (A.U.calling g mk a) := hblind _ _ _ _ hp.2.2
  obtain ⟨U, Ls, c0, s0⟩ := A
  dsimp only [Pt.U, Pt.locs, Pt.cells, Pt.slots] at h1 h2 h3 h4 h5 X hn hPc ⊢
  obtain ⟨methY, cY, hmY, hcY, -, hlY, -, -, -, -⟩ := Cond.code_spec hn h2
  obtain ⟨kY, hkY, -⟩ := className_of_methodNamed hn
  have hinitY : kY.init = .initialized := Cond.initialized_spec (findClass_of_methodNamed hn) hkY h3
  have h : At U g.method c below := by rw [hg]; exact X.here
  have hlocals9 : W9 + (maxL + 11) + (headSpec ws rm).room.locals ≤ R.locals := hlocals
  have happ : (headSpec ws rm).appliesLoose y e.platform (U.calling g mk a) = true :=
    Spec.appliesLoose_calling (g := g) h hdg hn hkY hinitY
      (X.room_calling (g := g) (R' := (headSpec ws rm).room) hsize hmY hcY hframes (by rw [hlY]; omega) h4 h5) h1
  obtain ⟨mid, hmid⟩ := h.above
  have hfr : (U.setTop g).frames = (.java g :: mid) ++ below := by rw [State.frames_setTop' g h.top, hmid]; rfl
  obtain ⟨o, s₂, hsteps, -, hend, hq⟩ := Steps.callFree hM p X.admits X.cas X.clock (acts := []) hfr happ hPc trivial
  have hq' : vx_Q Qc XC mc ms free a (U.calling g mk a) o s₂ := hq
  rw [State.frames_setTop' g h.top] at hend
  obtain ⟨g₀, hg0⟩ := Option.isSome_iff_exists.mp h.top
  obtain ⟨r, hr⟩ := State.topJava?_eq_some.mp hg0
  have hr' : (({ U with heap := s₂.heap, slotsUsed := s₂.slotsUsed } : State).setVm s₂.vm).frames = .java g₀ :: r := hr
  rcases hq' with ⟨hqc, L, hfe, hL⟩ | ⟨q, rfl, E, ce, L, hx, hce, hcv, hcl, hW₂, hsm, hL⟩
  · obtain ⟨⟨v, rfl⟩, hW₂, e2, q2, q3, q4, q5, q6⟩ := id hfe
    have e3 : s₂ = ({ (U.calling g mk a).setFrames s₂.frames with heap := s₂.heap, slotsUsed := s₂.slotsUsed } : State).setVm s₂.vm := by
      have : s₂ = ({ s₂ with vm := (U.calling g mk a).vm } : State).setVm s₂.vm := rfl
      rw [e2] at this
      exact this
    obtain ⟨c₂, i₂, len₂, hc₂, hd₂, hf₂⟩ := hend
    have hW' : U.WarmedH s₂.vm := hW₂
    have hcc : c₂ = c := by
      have h1 : s₂.code? g.method = U.code? g.method := by
        rw [State.code?_eq, State.code?_eq, hW'.alike.method?]
      exact Option.some.inj (hc₂.symm.trans (h1.trans h.code))
    subst hcc
    have hlen : len₂ = len := by rw [hdg] at hd₂; cases hd₂; rfl
    subst hlen
    have hs₂ : s₂ = (({ U with heap := s₂.heap, slotsUsed := s₂.slotsUsed } : State).setVm s₂.vm).setTop { g with pc := g.pc + len₂, stack := v.toList ++ g.stack } := by
      refine e3.trans ?_
      rw [hf₂, State.calling_eq h.top, State.setFrames_setFrames, State.setTop_of_frames _ hr', hr]
      rfl
    have hsame : U.sameButNew ({ U with heap := s₂.heap, slotsUsed := s₂.slotsUsed } : State) L mc ms := by
      refine ⟨?_, q2, q3, q4, q5, q6⟩
      obtain ⟨t, ht, -⟩ := State.frames_cons hr
      show ({ U with heap := s₂.heap, slotsUsed := s₂.slotsUsed } : State) = { U.setFrames U.frames with heap := s₂.heap, slotsUsed := s₂.slotsUsed }
      rw [State.setFrames_self ht]
    subst hg
    refine Or.inl ⟨v, ⟨(({ U with heap := s₂.heap, slotsUsed := s₂.slotsUsed } : State).setVm s₂.vm), Ls ++ L, c0 + mc, s0 + ms⟩,
      ⟨X.admits, X.cas, X.clock, X.frames, X.room, X.hears, X.method, X.code, (X.here.setHeapUsed s₂.heap s₂.slotsUsed).setVm hW'.alike, X.tail, State.WarmedH.trans X.warmed hW', X.limits, X.bytes, X.same.trans (hsame.setVm s.vm)⟩,
      ⟨g, mk, s₂, L, rfl, rfl, hqc, rfl, hL, rfl, rfl⟩, ?_⟩
    show Steps p.tables e below _ ((({ U with heap := s₂.heap, slotsUsed := s₂.slotsUsed } : State).setVm s₂.vm).setTop { g with pc := g.pc + len₂, stack := v.toList ++ g.stack })
    rw [← hs₂]
    exact hsteps
  · obtain ⟨e2, q2, q3, q4, q5, q6⟩ := id hsm
    have e3 : s₂ = ({ (U.calling g mk a).setFrames s₂.frames with heap := s₂.heap, slotsUsed := s₂.slotsUsed } : State).setVm s₂.vm := by
      have : s₂ = ({ s₂ with vm := (U.calling g mk a).vm } : State).setVm s₂.vm := rfl
      rw [e2] at this
      exact this
    have hf₂ : s₂.frames = .throwing q :: .java g :: U.frames.tail := hend
    have hW' : U.WarmedH s₂.vm := hW₂
    have hs₂ : s₂ = ((({ U with heap := s₂.heap, slotsUsed := s₂.slotsUsed } : State).setVm s₂.vm).setTop g).pushFrame (.throwing q) := by
      refine e3.trans ?_
      rw [hf₂, State.calling_eq h.top, State.setFrames_setFrames, State.pushFrame, State.frames_setTop _ hr', State.setTop_of_frames _ hr', State.setFrames_setFrames, hr]
      rfl
    have hsame : U.sameButNew ({ U with heap := s₂.heap, slotsUsed := s₂.slotsUsed } : State) L mc ms := by
      refine ⟨?_, q2, q3, q4, q5, q6⟩
      obtain ⟨t, ht, -⟩ := State.frames_cons hr
      show ({ U with heap := s₂.heap, slotsUsed := s₂.slotsUsed } : State) = { U.setFrames U.frames with heap := s₂.heap, slotsUsed := s₂.slotsUsed }
      rw [State.setFrames_self ht]
    subst hg
    refine Or.inr ⟨q, ⟨(({ U with heap := s₂.heap, slotsUsed := s₂.slotsUsed } : State).setVm s₂.vm), Ls ++ L, c0 + mc, s0 + ms⟩,
      ⟨X.admits, X.cas, X.clock, X.frames, X.room, X.hears, X.method, X.code, (X.here.setHeapUsed s₂.heap s₂.slotsUsed).setVm hW'.alike, X.tail, State.WarmedH.trans X.warmed hW', X.limits, X.bytes, X.same.trans (hsame.setVm s.vm)⟩,
      ⟨g, mk, s₂, L, E, ce, rfl, rfl, hx, hce, hcv, hcl, rfl, hL, rfl, rfl⟩, ?_⟩
    show Steps p.tables e below _ (((({ U with heap := s₂.heap, slotsUsed := s₂.slotsUsed } : State).setVm s₂.vm).setTop g).pushFrame (.throwing q))
    rw [← hs₂]
    exact hsteps
end Payer
section Calls
variable {p : Program} {l : Launch} {e : Env} {R : Room} {s : State} {m : MethodId} {args : Array Value} {below : List Frame} {meth : Method} {c : Code} {T : State} {locs : List Loc} {cells slots : Nat}
theorem vx_callV (X : Stand p l e R s m args below meth c T locs cells slots) (hexec : p.tables.exec = Jvm.exec) {own C : String} {index : Nat} {y : MethodName} {bytes : ByteArray} {maxL : Nat} {ret : Option FieldType}
    (hown : s.vm.findClass own = some m.cls) (hlink : (Cond.methodLink own index y).before args s = true) (hinst : (Cond.instanceMethod y).before args s = true) (hsel : (Cond.selects C y y).before args s = true)
    (hcode : (Cond.code y bytes maxL ret).before args s = true) (hy : y.cls ≠ "java/lang/invoke/MethodHandle" ∧ y.cls ≠ "java/lang/invoke/VarHandle")
    {W9 : Nat} {Pre : Pt → Array Value → Prop} {Post : Pt → Array Value → Option Value → Pt → Prop} {PostX : Pt → Array Value → Addr → Pt → Prop} (hK : vx_Back l R p e below s args y 3 W9 Pre Post PostX)
    {b : Addr} {cellB : Cell} (hcell : T.heap[b]? = some cellB) (hobj : cellB.vm.isStatics = false) (hcls : s.vm.findClass C = some cellB.cls)
    {g : JFrame} (hg : g.method = m) (hsize : g.locals.size = c.maxLocals) {argsL rest : List Value} (hlen : ∀ sig, parseMethodDescriptor y.desc = some sig → argsL.length = sig.parameters.length)
    (hstack : g.stack = argsL.reverse ++ .ref b :: rest) (hW : 2 * g.monitorRoom + (rest.map fun v => v.category).sum ≤ W9) (hdg : decode c.code g.pc = .ok (.invokevirtual index, 3))
    (hpre : ∀ vm₁, s.WarmedH vm₁ → Pre ⟨T.setVm vm₁, locs, cells, slots⟩ (Value.ref b :: argsL).toArray) :
    (∃ (v : Option Value) (vm₁ : Vm) (B : Pt), s.WarmedH vm₁ ∧ Stand p l e R s m args below meth c B.U B.locs B.cells B.slots ∧ Post ⟨T.setVm vm₁, locs, cells, slots⟩ (Value.ref b :: argsL).toArray v B ∧
      ∀ target, Steps p.tables e below (B.U.setTop { g with pc := g.pc + 3, stack := v.toList ++ rest }) target → Steps p.tables e below (T.setTop g) target) ∨
    (∃ (q : Addr) (vm₁ : Vm) (B : Pt), s.WarmedH vm₁ ∧ Stand p l e R s m args below meth c B.U B.locs B.cells B.slots ∧ PostX ⟨T.setVm vm₁, locs, cells, slots⟩ (Value.ref b :: argsL).toArray q B ∧
      Steps p.tables e below (T.setTop g) ((B.U.setTop { g with stack := rest }).pushFrame (.throwing q))) := by
  obtain ⟨mk, methM, hnamed, hmethM, hstM, habM⟩ := Cond.instanceMethod_spec hinst
  obtain ⟨methM', cM, hmethM', -, -, -, -, -, -, hsigM⟩ := Cond.code_spec hnamed hcode
  cases hmethM.symm.trans hmethM'
  obtain ⟨c2, r2, m2, q1, q2, q3, q4, kP, hkP, hkPi⟩ := Cond.selects_spec hsel
  cases hcls.symm.trans q1
  cases (State.methodFound?_of_named hnamed hy).symm.trans q2
  cases hnamed.symm.trans q3
  have hselP : selectMethod e.platform s.vm cellB.cls mk = .method mk := by rw [Launch.admits_selectMethod X.admits]; exact q4
  obtain ⟨vm₁, X₁, hstep₁⟩ := X.invokevirtual hexec hown hlink hnamed hmethM hstM hkP hkPi hy (a := b) (cell := cellB) hcell
    (fun z h => by rw [h] at hobj; cases hobj) hselP hmethM habM hkP hkPi (g := g) hg (argsL := argsL) (rest := rest) (hlen _ hsigM) hstack hdg
  rcases hK m meth c ⟨T.setVm vm₁, locs, cells, slots⟩ { g with stack := rest } (.invokevirtual index) mk (Value.ref b :: argsL).toArray X₁ hg hsize hdg hW (X₁.named hnamed) (hpre vm₁ X₁.warmed) with ⟨v, B, X', hpost, hsteps⟩ | ⟨q, B, X', hpost, hsteps⟩
  · exact Or.inl ⟨v, vm₁, B, X₁.warmed, X', hpost, fun target h => hstep₁ _ fun acts => by rw [doInvoke_state]; exact hsteps.trans h⟩
  · exact Or.inr ⟨q, vm₁, B, X₁.warmed, X', hpost, hstep₁ _ fun acts => by rw [doInvoke_state]; exact hsteps⟩
theorem vx_callS (X : Stand p l e R s m args below meth c T locs cells slots) (hexec : p.tables.exec = Jvm.exec) {own : String} {index : Nat} {y : MethodName} {bytes : ByteArray} {maxL : Nat} {ret : Option FieldType}
    (hown : s.vm.findClass own = some m.cls) (hlink : (Cond.methodLink own index y).before args s = true) (hstat : (Cond.static y).before args s = true) (hinit : (Cond.initialized y.cls).before args s = true)
    (hcode : (Cond.code y bytes maxL ret).before args s = true) (hy : y.cls ≠ "java/lang/invoke/MethodHandle" ∧ y.cls ≠ "java/lang/invoke/VarHandle")
    {W9 : Nat} {Pre : Pt → Array Value → Prop} {Post : Pt → Array Value → Option Value → Pt → Prop} {PostX : Pt → Array Value → Addr → Pt → Prop} (hK : vx_Back l R p e below s args y 3 W9 Pre Post PostX)
    {g : JFrame} (hg : g.method = m) (hsize : g.locals.size = c.maxLocals) {argsL rest : List Value} (hlen : ∀ sig, parseMethodDescriptor y.desc = some sig → argsL.length = sig.parameters.length)
    (hstack : g.stack = argsL.reverse ++ rest) (hW : 2 * g.monitorRoom + (rest.map fun v => v.category).sum ≤ W9) (hdg : decode c.code g.pc = .ok (.invokestatic index, 3))
    (hpre : ∀ vm₁, s.WarmedH vm₁ → Pre ⟨T.setVm vm₁, locs, cells, slots⟩ argsL.toArray) :
    (∃ (v : Option Value) (vm₁ : Vm) (B : Pt), s.WarmedH vm₁ ∧ Stand p l e R s m args below meth c B.U B.locs B.cells B.slots ∧ Post ⟨T.setVm vm₁, locs, cells, slots⟩ argsL.toArray v B ∧
      ∀ target, Steps p.tables e below (B.U.setTop { g with pc := g.pc + 3, stack := v.toList ++ rest }) target → Steps p.tables e below (T.setTop g) target) ∨
    (∃ (q : Addr) (vm₁ : Vm) (B : Pt), s.WarmedH vm₁ ∧ Stand p l e R s m args below meth c B.U B.locs B.cells B.slots ∧ PostX ⟨T.setVm vm₁, locs, cells, slots⟩ argsL.toArray q B ∧
      Steps p.tables e below (T.setTop g) ((B.U.setTop { g with stack := rest }).pushFrame (.throwing q))) := by
  obtain ⟨mk, hnamed⟩ := Cond.code_named hcode
  obtain ⟨methM, cM, hmethM, -, -, -, -, -, -, hsigM⟩ := Cond.code_spec hnamed hcode
  have hstatic : methM.isStatic = true := Cond.static_spec hnamed hmethM hstat
  obtain ⟨kP, hkP, -⟩ := className_of_methodNamed hnamed
  have hinitP : kP.init = .initialized := Cond.initialized_spec (findClass_of_methodNamed hnamed) hkP hinit
  obtain ⟨vm₁, X₁, hstep₁⟩ := X.invokestatic hexec hown hlink hnamed hmethM hstatic hkP hinitP hy (g := g) hg (argsL := argsL) (rest := rest) (hlen _ hsigM) hstack hdg
  rcases hK m meth c ⟨T.setVm vm₁, locs, cells, slots⟩ { g with stack := rest } (.invokestatic index) mk argsL.toArray X₁ hg hsize hdg hW (X₁.named hnamed) (hpre vm₁ X₁.warmed) with ⟨v, B, X', hpost, hsteps⟩ | ⟨q, B, X', hpost, hsteps⟩
  · exact Or.inl ⟨v, vm₁, B, X₁.warmed, X', hpost, fun target h => hstep₁ _ fun acts => by rw [doInvoke_state]; exact hsteps.trans h⟩
  · exact Or.inr ⟨q, vm₁, B, X₁.warmed, X', hpost, hstep₁ _ fun acts => by rw [doInvoke_state]; exact hsteps⟩
end Calls
theorem vx_cls {s : State} {T : State} {vm₁ : Vm} {E : String} {k : ClassId} (hW : s.WarmedH vm₁) (h : (T.setVm vm₁).vm.findClass E = some k) : s.vm.findClass E = some k := by
  have h1 : vm₁.findClass E = some k := h
  rw [hW.alike.findClass] at h1
  exact h1
/-- the method's frame g, with q thrown over it -/
def vx_W (p : Program) (l : Launch) (e : Env) (R : Room) (s : State) (m : MethodId) (args : Array Value) (below : List Frame) (meth : Method) (c : Code) (H : Heap) (locs : List Loc) (cells slots : Nat) (Q : State → Prop) (g : JFrame) (q : Addr) : Prop :=
  ∀ T : State, T.heap = H → Stand p l e R s m args below meth c T locs cells slots → ∃ t, Steps p.tables e below ((T.setTop g).pushFrame (.throwing q)) t ∧ Q t
def vx_Run (p : Program) (l : Launch) (e : Env) (R : Room) (s : State) (m : MethodId) (args : Array Value) (below : List Frame) (meth : Method) (c : Code) (H : Heap) (locs : List Loc) (cells slots mc ms : Nat) (g : JFrame) (rest : List Value) (Qa : State → Outcome → State → Prop) (XC : String → State → State → Prop) (free : Addr → Prop) : Prop :=
  ∀ T : State, T.heap = H → Stand p l e R s m args below meth c T locs cells slots →
    (∃ (v : Option Value) (st₀ t T' : State) (L : List Loc), st₀.heap = H ∧ Stand p l e R s m args below meth c T' (locs ++ L) (cells + mc) (slots + ms) ∧ (∀ q ∈ L, free q.base) ∧ T'.heap = t.heap ∧ T'.vm = t.vm ∧ Qa st₀ (.returned v) t ∧
      Goes p e below T g T' { g with pc := g.pc + 3, stack := v.toList ++ rest }) ∨
    (∃ (q : Addr) (st₀ t T' : State) (L : List Loc) (E : String) (ce : Cell), st₀.heap = H ∧ Stand p l e R s m args below meth c T' (locs ++ L) (cells + mc) (slots + ms) ∧ (∀ z ∈ L, free z.base) ∧ T'.heap = t.heap ∧ T'.vm = t.vm ∧ XC E st₀ t ∧ t.heap[q]? = some ce ∧ ce.vm = .none ∧ s.vm.findClass E = some ce.cls ∧
      Steps p.tables e below (T.setTop g) ((T'.setTop { g with stack := rest }).pushFrame (.throwing q)))
def vx_X {S : Type} (px : S → Prop) (B : String → S → State → Prop) (A : Nat → Prop) : String → State → State → Prop := fun E st t => ∃ u : S, px u ∧ B E u t ∧ va_F A st t
section Runs
variable {p : Program} {l : Launch} {e : Env} {R : Room} {s : State} {m : MethodId} {args : Array Value} {below : List Frame} {meth : Method} {c : Code} {H : Heap} {locs : List Loc} {cells slots : Nat}
variable {y : MethodName} {bytes cc : ByteArray} {maxL nL mc ms n index : Nat} {ret : Option FieldType} {ws : List Cond} {rm : Room} {Pc : Array Value → State → Prop} {Qc : Array Value → State → Outcome → State → Prop} {XC : String → State → State → Prop} {free : Addr → Prop} {Ts : List Cond} {own C : String} {b : Addr} {As rest : List Value} {g : JFrame}
theorem vx_callBack (cb : CallB R s args own index y bytes maxL ret ws rm mc ms n) (hM : vx_Met l y ws rm Pc Qc XC mc ms free) (hbl : FrameBlind Pc) : vx_Back l R p e below s args y 3 8 (PreOf R mc ms Pc) (PostOf Qc mc ms free) (vx_Post XC mc ms free) := by
  obtain ⟨hrc, hrs, hfr, hlo, hws, hcw, -, hini, -⟩ := cb
  exact vx_back (bytes := bytes) (maxL := maxL) (ret := ret) hM hbl hrc hrs hfr hlo hws hcw (fun a' U hW => word_at hW (Or.inl (by first | rfl | simp [Cond.onTables, Cond.keeps, Cond.steady])) hini)
theorem vx_runV (S : CallFix p m c cc nL s args Ts own) (hM : vx_Met l y ws rm Pc Qc XC mc ms free) (cw : CallW R s args own C index y bytes maxL ret ws rm mc ms n) (hp : PreV s H C b Pc As)
    (hg : g.method = m) (hn : As.length = n) (hsize : g.locals.size = nL) (hstack : g.stack = As.reverse ++ .ref b :: rest) (hW : 2 * g.monitorRoom + (rest.map fun v => v.category).sum ≤ 8) (hdg : decode cc g.pc = .ok (.invokevirtual index, 3)) (hf : cells + mc ≤ R.cells ∧ slots + ms ≤ R.slots) :
    vx_Run p l e R s m args below meth c H locs cells slots mc ms g rest (Qc (Value.ref b :: As).toArray) XC free := by
  have hK : vx_Back l R p e below s args y 3 8 (PreOf R mc ms Pc) (PostOf Qc mc ms free) (vx_Post XC mc ms free) := vx_callBack cw.1 hM hp.1
  obtain ⟨⟨-, -, -, -, -, -, hcode, -, hy, hlen, hl⟩, hin, hse⟩ := cw
  obtain ⟨hx, hb, hml, ho, -⟩ := S
  obtain ⟨-, ⟨cellB, hcB, hoB, hclB⟩, hPc⟩ := hp
  intro T hT X
  rcases vx_callV X hx (C := C) (bytes := bytes) (maxL := maxL) (ret := ret) ho hl hin hse hcode hy hK (by rw [hT]; exact hcB) hoB hclB hg (hsize.trans hml.symm) (argsL := As) (rest := rest) (fun sig h => hn.trans (hlen sig h)) hstack hW (by rw [hb]; exact hdg)
    (fun vm₁ hW₁ => ⟨hf.1, hf.2, hPc (T.setVm vm₁) hT hW₁⟩) with ⟨v, vm₁, ⟨U', l2, c2, s2⟩, hW₁, X', ⟨g', mk, t, L, e1, e2, hq, h1, hL, h2, h3⟩, st⟩ | ⟨q, vm₁, ⟨U', l2, c2, s2⟩, hW₁, X', ⟨g', mk, t, L, E, ce, e1, e2, hq, hce, hcv, hcl, h1, hL, h2, h3⟩, st⟩
  · dsimp only [Pt.U, Pt.locs, Pt.cells, Pt.slots] at X' e1 e2 h1 h2 h3 st
    subst h1; subst h2; subst h3
    exact Or.inl ⟨v, (T.setVm vm₁).calling g' mk (Value.ref b :: As).toArray, t, U', L, hT, X', hL, e1, e2, hq, st⟩
  · dsimp only [Pt.U, Pt.locs, Pt.cells, Pt.slots] at X' e1 e2 h1 h2 h3 st hcl
    subst h1; subst h2; subst h3
    exact Or.inr ⟨q, (T.setVm vm₁).calling g' mk (Value.ref b :: As).toArray, t, U', L, E, ce, hT, X', hL, e1, e2, hq, hce, hcv, vx_cls hW₁ hcl, st⟩
theorem vx_runS (S : CallFix p m c cc nL s args Ts own) (hM : vx_Met l y ws rm Pc Qc XC mc ms free) (cw : CallB R s args own index y bytes maxL ret ws rm mc ms n ∧ (Cond.static y).before args s = true) (hp : PreS s H Pc As)
    (hg : g.method = m) (hn : As.length = n) (hsize : g.locals.size = nL) (hstack : g.stack = As.reverse ++ rest) (hW : 2 * g.monitorRoom + (rest.map fun v => v.category).sum ≤ 8) (hdg : decode cc g.pc = .ok (.invokestatic index, 3)) (hf : cells + mc ≤ R.cells ∧ slots + ms ≤ R.slots) :
    vx_Run p l e R s m args below meth c H locs cells slots mc ms g rest (Qc As.toArray) XC free := by
  have hK : vx_Back l R p e below s args y 3 8 (PreOf R mc ms Pc) (PostOf Qc mc ms free) (vx_Post XC mc ms free) := vx_callBack cw.1 hM hp.1
  obtain ⟨⟨-, -, -, -, -, -, hcode, hini, hy, hlen, hl⟩, hstt⟩ := cw
  obtain ⟨hx, hb, hml, ho, -⟩ := S
  intro T hT X
  rcases vx_callS X hx (bytes := bytes) (maxL := maxL) (ret := ret) ho hl hstt hini hcode hy hK hg (hsize.trans hml.symm) (argsL := As) (rest := rest) (fun sig h => hn.trans (hlen sig h)) hstack hW (by rw [hb]; exact hdg)
    (fun vm₁ hW₁ => ⟨hf.1, hf.2, hp.2 (T.setVm vm₁) hT hW₁⟩) with ⟨v, vm₁, ⟨U', l2, c2, s2⟩, hW₁, X', ⟨g', mk, t, L, e1, e2, hq, h1, hL, h2, h3⟩, st⟩ | ⟨q, vm₁, ⟨U', l2, c2, s2⟩, hW₁, X', ⟨g', mk, t, L, E, ce, e1, e2, hq, hce, hcv, hcl, h1, hL, h2, h3⟩, st⟩
  · dsimp only [Pt.U, Pt.locs, Pt.cells, Pt.slots] at X' e1 e2 h1 h2 h3 st
    subst h1; subst h2; subst h3
    exact Or.inl ⟨v, (T.setVm vm₁).calling g' mk As.toArray, t, U', L, hT, X', hL, e1, e2, hq, st⟩
  · dsimp only [Pt.U, Pt.locs, Pt.cells, Pt.slots] at X' e1 e2 h1 h2 h3 st hcl
    subst h1; subst h2; subst h3
    exact Or.inr ⟨q, (T.setVm vm₁).calling g' mk As.toArray, t, U', L, E, ce, hT, X', hL, e1, e2, hq, hce, hcv, vx_cls hW₁ hcl, st⟩
end Runs
section Rows
variable {p : Program} {l : Launch} {e : Env} {R : Room} {s : State} {m : MethodId} {args : Array Value} {below : List Frame} {meth : Method} {c : Code} {H : Heap} {locs : List Loc} {cells slots : Nat} {Q : State → Prop}
variable {mc ms : Nat} {free : Addr → Prop} {A0 A1 : Nat → Prop} {H0 : Heap} {a : Array Value} {pc : Nat} {ls : Array Slot} {st0 rest : List Value}
theorem vx_keep {st₀ t T' : State} {L : List Loc} (h0 : st₀.heap = H) (e1 : T'.heap = t.heap) (hS : va_S A0 H0 H locs) (hA : ∀ q, q < H.size → A1 q → A0 q) (hf : ∀ q, free q → A0 q) (hL : ∀ q ∈ L, free q.base) (hF : va_F A1 st₀ t) :
    H.size ≤ T'.heap.size ∧ (∀ q : Nat, q < H.size → ¬ A1 q → T'.heap[q]? = H[q]?) ∧ va_S A0 H0 T'.heap (locs ++ L) := by
  obtain ⟨hz, hk⟩ := hF
  rw [h0] at hz hk
  exact ⟨by rw [e1]; exact hz, fun q h1 h2 => by rw [e1]; exact hk q h1 h2,
    ⟨Nat.le_trans hS.1 (by rw [e1]; exact hz), fun q h1 h2 => by rw [e1, hk q (Nat.lt_of_lt_of_le h1 hS.1) (fun z => h2 (hA q (Nat.lt_of_lt_of_le h1 hS.1) z))]; exact hS.2.1 q h1 h2, fun q hq => by
      rcases List.mem_append.mp hq with h | h
      · exact hS.2.2 q h
      · exact hf _ (hL q h)⟩⟩
theorem vx_calli {S SX : Type} {post : Int32 → S → Prop} {px : SX → Prop} {B : S → State → Prop} {BX : String → SX → State → Prop} {AX : Nat → Prop} (hr : vx_Run p l e R s m args below meth c H locs cells slots mc ms (F0 m pc ls st0) rest (va_Qi post B A1 a) (vx_X px BX AX) free) (hS : va_S A0 H0 H locs) (hA : ∀ q, q < H.size → A1 q → A0 q) (hf : ∀ q, free q → A0 q) (hAX : ∀ q, q < H.size → AX q → A0 q)
    (kx : ∀ (E : String) (ce : Cell) (q9 : Addr) (u : SX) (t : State) (H1 : Heap) (locs1 : List Loc), t.heap = H1 → s.vm.Alike t.vm → px u → BX E u t → H.size ≤ H1.size → (∀ q : Nat, q < H.size → ¬ AX q → H1[q]? = H[q]?) → va_S A0 H0 H1 locs1 → H1[q9]? = some ce → ce.vm = .none → s.vm.findClass E = some ce.cls → vx_W p l e R s m args below meth c H1 locs1 (cells + mc) (slots + ms) Q (F0 m pc ls rest) q9)
    (kk : ∀ (r : Int32) (u : S) (t : State) (H1 : Heap) (locs1 : List Loc), t.heap = H1 → s.vm.Alike t.vm → post r u → B u t → H.size ≤ H1.size → (∀ q : Nat, q < H.size → ¬ A1 q → H1[q]? = H[q]?) → va_S A0 H0 H1 locs1 → W p l e R s m args below meth c H1 locs1 (cells + mc) (slots + ms) Q (F0 m (pc + 3) ls (.int r :: rest))) : W p l e R s m args below meth c H locs cells slots Q (F0 m pc ls st0) := by
  intro T hT X
  rcases hr T hT X with ⟨v, st₀, t, T', L, h0, X', hL, e1, e2, ⟨⟨r, u, hv, hp, hb⟩, hF⟩, st⟩ | ⟨q, st₀, t, T', L, E, ce, h0, X', hL, e1, e2, ⟨u, hp, hb, hF⟩, hce, hcv, hcl, st⟩
  · cases hv
    obtain ⟨k1, k2, k3⟩ := vx_keep h0 e1 hS hA hf hL hF
    obtain ⟨t2, a1, b1⟩ := kk r u t T'.heap (locs ++ L) e1.symm (by rw [← e2]; exact X'.warmed.alike) hp hb k1 k2 k3 T' rfl X'
    exact ⟨t2, st t2 a1, b1⟩
  · obtain ⟨k1, k2, k3⟩ := vx_keep h0 e1 hS hAX hf hL hF
    obtain ⟨t2, a1, b1⟩ := kx E ce q u t T'.heap (locs ++ L) e1.symm (by rw [← e2]; exact X'.warmed.alike) hp hb k1 k2 k3 (by rw [e1]; exact hce) hcv hcl T' rfl X'
    exact ⟨t2, st.trans a1, b1⟩
theorem vx_calll {S SX : Type} {post : Int64 → S → Prop} {px : SX → Prop} {B : S → State → Prop} {BX : String → SX → State → Prop} {AX : Nat → Prop} (hr : vx_Run p l e R s m args below meth c H locs cells slots mc ms (F0 m pc ls st0) rest (va_Ql post B A1 a) (vx_X px BX AX) free) (hS : va_S A0 H0 H locs) (hA : ∀ q, q < H.size → A1 q → A0 q) (hf : ∀ q, free q → A0 q) (hAX : ∀ q, q < H.size → AX q → A0 q)
    (kx : ∀ (E : String) (ce : Cell) (q9 : Addr) (u : SX) (t : State) (H1 : Heap) (locs1 : List Loc), t.heap = H1 → s.vm.Alike t.vm → px u → BX E u t → H.size ≤ H1.size → (∀ q : Nat, q < H.size → ¬ AX q → H1[q]? = H[q]?) → va_S A0 H0 H1 locs1 → H1[q9]? = some ce → ce.vm = .none → s.vm.findClass E = some ce.cls → vx_W p l e R s m args below meth c H1 locs1 (cells + mc) (slots + ms) Q (F0 m pc ls rest) q9)
    (kk : ∀ (r : Int64) (u : S) (t : State) (H1 : Heap) (locs1 : List Loc), t.heap = H1 → s.vm.Alike t.vm → post r u → B u t → H.size ≤ H1.size → (∀ q : Nat, q < H.size → ¬ A1 q → H1[q]? = H[q]?) → va_S A0 H0 H1 locs1 → W p l e R s m args below meth c H1 locs1 (cells + mc) (slots + ms) Q (F0 m (pc + 3) ls (.long r :: rest))) : W p l e R s m args below meth c H locs cells slots Q (F0 m pc ls st0) := by
  intro T hT X
  rcases hr T hT X with ⟨v, st₀, t, T', L, h0, X', hL, e1, e2, ⟨⟨r, u, hv, hp, hb⟩, hF⟩, st⟩ | ⟨q, st₀, t, T', L, E, ce, h0, X', hL, e1, e2, ⟨u, hp, hb, hF⟩, hce, hcv, hcl, st⟩
  · cases hv
    obtain ⟨k1, k2, k3⟩ := vx_keep h0 e1 hS hA hf hL hF
    obtain ⟨t2, a1, b1⟩ := kk r u t T'.heap (locs ++ L) e1.symm (by rw [← e2]; exact X'.warmed.alike) hp hb k1 k2 k3 T' rfl X'
    exact ⟨t2, st t2 a1, b1⟩
  · obtain ⟨k1, k2, k3⟩ := vx_keep h0 e1 hS hAX hf hL hF
    obtain ⟨t2, a1, b1⟩ := kx E ce q u t T'.heap (locs ++ L) e1.symm (by rw [← e2]; exact X'.warmed.alike) hp hb k1 k2 k3 (by rw [e1]; exact hce) hcv hcl T' rfl X'
    exact ⟨t2, st.trans a1, b1⟩
theorem vx_callf {S SX : Type} {post : UInt32 → S → Prop} {px : SX → Prop} {B : S → State → Prop} {BX : String → SX → State → Prop} {AX : Nat → Prop} (hr : vx_Run p l e R s m args below meth c H locs cells slots mc ms (F0 m pc ls st0) rest (va_Qf post B A1 a) (vx_X px BX AX) free) (hS : va_S A0 H0 H locs) (hA : ∀ q, q < H.size → A1 q → A0 q) (hf : ∀ q, free q → A0 q) (hAX : ∀ q, q < H.size → AX q → A0 q)
    (kx : ∀ (E : String) (ce : Cell) (q9 : Addr) (u : SX) (t : State) (H1 : Heap) (locs1 : List Loc), t.heap = H1 → s.vm.Alike t.vm → px u → BX E u t → H.size ≤ H1.size → (∀ q : Nat, q < H.size → ¬ AX q → H1[q]? = H[q]?) → va_S A0 H0 H1 locs1 → H1[q9]? = some ce → ce.vm = .none → s.vm.findClass E = some ce.cls → vx_W p l e R s m args below meth c H1 locs1 (cells + mc) (slots + ms) Q (F0 m pc ls rest) q9)
    (kk : ∀ (r : UInt32) (u : S) (t : State) (H1 : Heap) (locs1 : List Loc), t.heap = H1 → s.vm.Alike t.vm → post r u → B u t → H.size ≤ H1.size → (∀ q : Nat, q < H.size → ¬ A1 q → H1[q]? = H[q]?) → va_S A0 H0 H1 locs1 → W p l e R s m args below meth c H1 locs1 (cells + mc) (slots + ms) Q (F0 m (pc + 3) ls (.float r :: rest))) : W p l e R s m args below meth c H locs cells slots Q (F0 m pc ls st0) := by
  intro T hT X
  rcases hr T hT X with ⟨v, st₀, t, T', L, h0, X', hL, e1, e2, ⟨⟨r, u, hv, hp, hb⟩, hF⟩, st⟩ | ⟨q, st₀, t, T', L, E, ce, h0, X', hL, e1, e2, ⟨u, hp, hb, hF⟩, hce, hcv, hcl, st⟩
  · cases hv
    obtain ⟨k1, k2, k3⟩ := vx_keep h0 e1 hS hA hf hL hF
    obtain ⟨t2, a1, b1⟩ := kk r u t T'.heap (locs ++ L) e1.symm (by rw [← e2]; exact X'.warmed.alike) hp hb k1 k2 k3 T' rfl X'
    exact ⟨t2, st t2 a1, b1⟩
  · obtain ⟨k1, k2, k3⟩ := vx_keep h0 e1 hS hAX hf hL hF
    obtain ⟨t2, a1, b1⟩ := kx E ce q u t T'.heap (locs ++ L) e1.symm (by rw [← e2]; exact X'.warmed.alike) hp hb k1 k2 k3 (by rw [e1]; exact hce) hcv hcl T' rfl X'
    exact ⟨t2, st.trans a1, b1⟩
theorem vx_calld {S SX : Type} {post : UInt64 → S → Prop} {px : SX → Prop} {B : S → State → Prop} {BX : String → SX → State → Prop} {AX : Nat → Prop} (hr : vx_Run p l e R s m args below meth c H locs cells slots mc ms (F0 m pc ls st0) rest (va_Qd post B A1 a) (vx_X px BX AX) free) (hS : va_S A0 H0 H locs) (hA : ∀ q, q < H.size → A1 q → A0 q) (hf : ∀ q, free q → A0 q) (hAX : ∀ q, q < H.size → AX q → A0 q)
    (kx : ∀ (E : String) (ce : Cell) (q9 : Addr) (u : SX) (t : State) (H1 : Heap) (locs1 : List Loc), t.heap = H1 → s.vm.Alike t.vm → px u → BX E u t → H.size ≤ H1.size → (∀ q : Nat, q < H.size → ¬ AX q → H1[q]? = H[q]?) → va_S A0 H0 H1 locs1 → H1[q9]? = some ce → ce.vm = .none → s.vm.findClass E = some ce.cls → vx_W p l e R s m args below meth c H1 locs1 (cells + mc) (slots + ms) Q (F0 m pc ls rest) q9)
    (kk : ∀ (r : UInt64) (u : S) (t : State) (H1 : Heap) (locs1 : List Loc), t.heap = H1 → s.vm.Alike t.vm → post r u → B u t → H.size ≤ H1.size → (∀ q : Nat, q < H.size → ¬ A1 q → H1[q]? = H[q]?) → va_S A0 H0 H1 locs1 → W p l e R s m args below meth c H1 locs1 (cells + mc) (slots + ms) Q (F0 m (pc + 3) ls (.double r :: rest))) : W p l e R s m args below meth c H locs cells slots Q (F0 m pc ls st0) := by
  intro T hT X
  rcases hr T hT X with ⟨v, st₀, t, T', L, h0, X', hL, e1, e2, ⟨⟨r, u, hv, hp, hb⟩, hF⟩, st⟩ | ⟨q, st₀, t, T', L, E, ce, h0, X', hL, e1, e2, ⟨u, hp, hb, hF⟩, hce, hcv, hcl, st⟩
  · cases hv
    obtain ⟨k1, k2, k3⟩ := vx_keep h0 e1 hS hA hf hL hF
    obtain ⟨t2, a1, b1⟩ := kk r u t T'.heap (locs ++ L) e1.symm (by rw [← e2]; exact X'.warmed.alike) hp hb k1 k2 k3 T' rfl X'
    exact ⟨t2, st t2 a1, b1⟩
  · obtain ⟨k1, k2, k3⟩ := vx_keep h0 e1 hS hAX hf hL hF
    obtain ⟨t2, a1, b1⟩ := kx E ce q u t T'.heap (locs ++ L) e1.symm (by rw [← e2]; exact X'.warmed.alike) hp hb k1 k2 k3 (by rw [e1]; exact hce) hcv hcl T' rfl X'
    exact ⟨t2, st.trans a1, b1⟩
theorem vx_callv {S SX : Type} {post : S → Prop} {px : SX → Prop} {B : S → State → Prop} {BX : String → SX → State → Prop} {AX : Nat → Prop} (hr : vx_Run p l e R s m args below meth c H locs cells slots mc ms (F0 m pc ls st0) rest (va_Qv post B A1 a) (vx_X px BX AX) free) (hS : va_S A0 H0 H locs) (hA : ∀ q, q < H.size → A1 q → A0 q) (hf : ∀ q, free q → A0 q) (hAX : ∀ q, q < H.size → AX q → A0 q)
    (kx : ∀ (E : String) (ce : Cell) (q9 : Addr) (u : SX) (t : State) (H1 : Heap) (locs1 : List Loc), t.heap = H1 → s.vm.Alike t.vm → px u → BX E u t → H.size ≤ H1.size → (∀ q : Nat, q < H.size → ¬ AX q → H1[q]? = H[q]?) → va_S A0 H0 H1 locs1 → H1[q9]? = some ce → ce.vm = .none → s.vm.findClass E = some ce.cls → vx_W p l e R s m args below meth c H1 locs1 (cells + mc) (slots + ms) Q (F0 m pc ls rest) q9)
    (kk : ∀ (u : S) (t : State) (H1 : Heap) (locs1 : List Loc), t.heap = H1 → s.vm.Alike t.vm → post u → B u t → H.size ≤ H1.size → (∀ q : Nat, q < H.size → ¬ A1 q → H1[q]? = H[q]?) → va_S A0 H0 H1 locs1 → W p l e R s m args below meth c H1 locs1 (cells + mc) (slots + ms) Q (F0 m (pc + 3) ls (rest))) : W p l e R s m args below meth c H locs cells slots Q (F0 m pc ls st0) := by
  intro T hT X
  rcases hr T hT X with ⟨v, st₀, t, T', L, h0, X', hL, e1, e2, ⟨⟨u, hv, hp, hb⟩, hF⟩, st⟩ | ⟨q, st₀, t, T', L, E, ce, h0, X', hL, e1, e2, ⟨u, hp, hb, hF⟩, hce, hcv, hcl, st⟩
  · cases hv
    obtain ⟨k1, k2, k3⟩ := vx_keep h0 e1 hS hA hf hL hF
    obtain ⟨t2, a1, b1⟩ := kk u t T'.heap (locs ++ L) e1.symm (by rw [← e2]; exact X'.warmed.alike) hp hb k1 k2 k3 T' rfl X'
    exact ⟨t2, st t2 a1, b1⟩
  · obtain ⟨k1, k2, k3⟩ := vx_keep h0 e1 hS hAX hf hL hF
    obtain ⟨t2, a1, b1⟩ := kx E ce q u t T'.heap (locs ++ L) e1.symm (by rw [← e2]; exact X'.warmed.alike) hp hb k1 k2 k3 (by rw [e1]; exact hce) hcv hcl T' rfl X'
    exact ⟨t2, st.trans a1, b1⟩
/-- caught by the row x of this method's table; the rows ahead don't take it -/
theorem vx_catch {own name : String} {E : String} {ce : Cell} {q : Addr} (hown : s.vm.findClass own = some m.cls) (pre : List ExceptionTableEntry) (x : ExceptionTableEntry) (suf : List ExceptionTableEntry) (hsplit : c.exceptionTable.toList = pre ++ x :: suf)
    (hpass : ∀ z ∈ pre, covers z pc = false ∨ (z.catchType ≠ 0 ∧ ∃ nm : String, (Cond.classLink own z.catchType nm).before args s = true ∧ va_Nc E nm s)) (hx : covers x pc = true) (h0 : x.catchType ≠ 0)
    (hlink : (Cond.classLink own x.catchType name).before args s = true) (hcast : (Cond.castable E name).before args s = true) (hcell : H[q]? = some ce) (hv : ce.vm = .none) (hcl : s.vm.findClass E = some ce.cls)
    (kk : W p l e R s m args below meth c H locs cells slots Q (F0 m x.handlerPc ls [.ref q])) : vx_W p l e R s m args below meth c H locs cells slots Q (F0 m pc ls rest) q := by
  intro T hT X
  have hpl : e.platform.magicAccessors = ({} : Platform).magicAccessors := by rw [X.admits.platform]
  obtain ⟨c3, c4, hc3, hc4, hasg⟩ := Cond.castable_spec hcast
  cases Option.some.inj (hc3.symm.trans hcl)
  obtain ⟨c5, hc5, hcl5⟩ := Cond.classLink_spec hown hlink e.platform hpl
  cases Option.some.inj (hc4.symm.trans hc5)
  obtain ⟨vm', X', st⟩ := X.thenCaughtThrough q (g := F0 m pc ls rest) rfl (Steps.refl _) (by rw [hT]; exact hcell) (by rw [hv]; rfl) (by obtain ⟨k9, h9, -⟩ := Vm.findClass_spec hcl; exact ⟨k9, h9⟩) pre x suf hsplit
    (fun z hz => by
      rcases hpass z hz with h | ⟨hz0, nm, hl1, hn1⟩
      · exact Or.inl h
      · obtain ⟨c6, hc6, hcl6⟩ := Cond.classLink_spec hown hl1 e.platform hpl
        obtain ⟨a8, b8, h1, h2, h3⟩ := hn1
        cases Option.some.inj (h1.symm.trans hcl)
        cases Option.some.inj (h2.symm.trans hc6)
        exact Or.inr ⟨hz0, _, hcl6, h3⟩) hx (Or.inr ⟨h0, c4, hcl5, hasg⟩)
  obtain ⟨t, a1, b1⟩ := kk (T.setVm vm') hT X'
  exact ⟨t, st.trans a1, b1⟩
end Rows
section Ends
variable {p : Program} {l : Launch} {e : Env} {R : Room} {s : State} {m : MethodId} {args : Array Value} {below : List Frame} {meth : Method} {c : Code} {H : Heap} {locs : List Loc} {cells slots : Nat} {Q : State → Prop}
variable {mc ms : Nat} {free : Addr → Prop} {A0 A1 : Nat → Prop} {H0 : Heap} {a : Array Value} {ls : Array Slot} {st0 rest : List Value}
variable {Qc : Array Value → State → Outcome → State → Prop} {XC : String → State → State → Prop}
/-- what a body that may throw owes at its end -/
def vx_MQ (below : List Frame) (Qc : Array Value → State → Outcome → State → Prop) (XC : String → State → State → Prop) (a : Array Value) (s : State) (mc ms : Nat) (free : Addr → Prop) : State → Prop := fun t =>
  ∃ o, t.status = .running ∧ Ended t below o ∧ vx_Q Qc XC mc ms free a s o t
theorem vx_ret {g : JFrame} {mc ms : Nat} (k : W p l e R s m args below meth c H locs cells slots (MQ below Qc args s mc ms free) g) : W p l e R s m args below meth c H locs cells slots (vx_MQ below Qc XC args s mc ms free) g := by
  intro T hT X
  obtain ⟨t, a1, o, b1, b2, b3, b4⟩ := k T hT X
  exact ⟨t, a1, o, b1, b2, Or.inl ⟨b3, b4⟩⟩
/-- not caught here: it goes on to the caller -/
theorem vx_widen {g : JFrame} {q : Addr} {k n : Nat} (h1 : cells ≤ k) (h2 : slots ≤ n) (kk : vx_W p l e R s m args below meth c H locs k n Q g q) : vx_W p l e R s m args below meth c H locs cells slots Q g q := fun T hT X => kk T hT (stand_widen X h1 h2)
theorem vx_out {pc : Nat} {E : String} {ce : Cell} {q : Addr} {mc ms : Nat} (hout : ∀ x ∈ c.exceptionTable.toList, covers x pc = false) (hlocks : meth.locks = false) (hcell : H[q]? = some ce) (hv : ce.vm = .none) (hcl : s.vm.findClass E = some ce.cls)
    (hx : ∀ t : State, t.heap = H → s.vm.Alike t.vm → XC E s t) (hf : ∀ z ∈ locs, free z.base) (hc : cells ≤ mc) (hs : slots ≤ ms) :
    vx_W p l e R s m args below meth c H locs cells slots (vx_MQ below Qc XC args s mc ms free) (F0 m pc ls rest) q := by
  intro T hT X
  obtain ⟨st1, hrun, hend, hW, hsm⟩ := X.leaveThrown q (g := F0 m pc ls rest) rfl rfl rfl hout hlocks
  have hcell9 : (T.setFrames (.throwing q :: below)).heap[q]? = some ce := by
    show T.heap[q]? = some ce
    rw [hT]; exact hcell
  exact ⟨_, st1, .threw q, hrun, hend, Or.inr ⟨q, rfl, E, ce, locs, hx _ hT hW.alike, hcell9, hv, hcl, hW, hsm.mono hc hs, hf⟩⟩
theorem vx_frame {U : State} {k n : Nat} (h : s.sameButNew ({ U with vm := s.vm } : State) locs k n) : s.heap.size ≤ U.heap.size ∧ ∀ q : Nat, q < s.heap.size → (∀ z ∈ locs, z.base ≠ q) → U.heap[q]? = s.heap[q]? := by
  obtain ⟨-, h2, -, -, -, h6⟩ := h
  refine ⟨h2, fun q hq hz => ?_⟩
  obtain ⟨c9, e1, e2, e3, e4⟩ := h6 q _ (Array.getElem?_eq_getElem hq)
  have hs : c9.slots = (s.heap[q]).slots := Array.ext_getElem? fun i => e4 i fun hm => hz _ hm rfl
  have h9 : c9 = s.heap[q] := by
    rw [hs] at e2
    exact e2
  have e5 : U.heap[q]? = some c9 := e1
  rw [e5, h9, Array.getElem?_eq_getElem hq]
/-- the words of a throw but the four that speak of the heap -/
def vx_no (w : Cond) : Bool := decide (w ≠ .isRef (.static Bundle.tN "UNASSIGNED_STACK" Bundle.steD)) && decide (w ≠ .isRef (.static Bundle.tN "SUPPRESSED_SENTINEL" Bundle.listD)) && decide (w ≠ .laysStatic Bundle.tN "UNASSIGNED_STACK" Bundle.steD) && decide (w ≠ .laysStatic Bundle.tN "SUPPRESSED_SENTINEL" Bundle.listD)
def vx_at0 (own : String) (ic : Nat) (X : String) (names : List String) : List Cond := (Bundle.ownAtoms0 own ic X names).filter vx_no
def vx_atS (own : String) (ic : Nat) (X : String) (names : List String) : List Cond := (Bundle.ownAtoms own ic X names).filter vx_no
/-- a word that the tables alone decide, or a good one -/
def vx_ot (w : Cond) : Bool := w.onTables || goodWord w
theorem vx_ot_at {args a' : Array Value} {s U : State} {w : Cond} (hW : s.WarmedH U.vm) (hvm : s.vm = U.vm) (hg : vx_ot w = true) (h : w.before args s = true) : w.before a' U = true := by
  simp only [vx_ot, Bool.or_eq_true] at hg
  rcases hg with hg | hg
  · exact va_tabs hg hvm h
  · exact word_at hW (good_of_word hg) h
/-- a list's words: the good ones out of the method's own list, the others by premises of their own -/
theorem vx_hat {args : Array Value} {s : State} {L B : List Cond} (h1 : ∀ w ∈ L.filter goodWord, w.before args s = true) (h2 : ∀ w ∈ L.filter (fun w => !goodWord w), w ∈ B) (h3 : ∀ w ∈ B, w.before args s = true) : ∀ w ∈ L, w.before args s = true := by
  intro w hw
  by_cases g : goodWord w = true
  · exact h1 w (List.mem_filter.mpr ⟨hw, g⟩)
  · refine h3 w (h2 w (List.mem_filter.mpr ⟨hw, ?_⟩))
    show (!goodWord w) = true
    cases hgw : goodWord w
    · rfl
    · exact absurd hgw g
theorem vx_c {args : Array Value} {s : State} {w : Cond} {B : List Cond} (h : w.before args s = true) (t : ∀ w ∈ B, w.before args s = true) : ∀ w' ∈ w :: B, w'.before args s = true := fun w' h' => (List.mem_cons.mp h').elim (fun e => by rw [e]; exact h) (t w')
theorem vx_n {args : Array Value} {s : State} : ∀ w ∈ ([] : List Cond), w.before args s = true := fun _ h => nomatch h
theorem vx_own {args : Array Value} {s : State} {L : List Cond} (h1 : ∀ w ∈ L.filter vx_no, w.before args s = true)
    (hU : (Cond.isRef (.static Bundle.tN "UNASSIGNED_STACK" Bundle.steD)).before args s = true) (hN : (Cond.isRef (.static Bundle.tN "SUPPRESSED_SENTINEL" Bundle.listD)).before args s = true)
    (lU : (Cond.laysStatic Bundle.tN "UNASSIGNED_STACK" Bundle.steD).before args s = true) (lN : (Cond.laysStatic Bundle.tN "SUPPRESSED_SENTINEL" Bundle.listD).before args s = true) : ∀ w ∈ L, w.before args s = true := by
  intro w hw
  by_cases e1 : w = .isRef (.static Bundle.tN "UNASSIGNED_STACK" Bundle.steD)
  · rw [e1]; exact hU
  · by_cases e2 : w = .isRef (.static Bundle.tN "SUPPRESSED_SENTINEL" Bundle.listD)
    · rw [e2]; exact hN
    · by_cases e3 : w = .laysStatic Bundle.tN "UNASSIGNED_STACK" Bundle.steD
      · rw [e3]; exact lU
      · by_cases e4 : w = .laysStatic Bundle.tN "SUPPRESSED_SENTINEL" Bundle.listD
        · rw [e4]; exact lN
        · exact h1 w (List.mem_filter.mpr ⟨hw, by unfold vx_no; rw [decide_eq_true e1, decide_eq_true e2, decide_eq_true e3, decide_eq_true e4]; rfl⟩)
/-- where a static field lies, its class's statics cell in H -/
def vx_L (C n d : String) (A : Nat → Prop) (U : State) (H : Heap) : Prop := ∃ (c : ClassId) (k : Class) (i : Nat) (f : Field) (a : Nat) (cell : Cell), U.vm.findClass C = some c ∧ U.fieldFound? C n d = some (c, k, i, f) ∧ f.isStatic = true ∧ k.statics = some a ∧ H[a]? = some cell ∧ cell.vm.isStatics = true ∧ cell.cls = c ∧ f.slot < cell.slots.size ∧ k.staticTypes[f.slot]? = some f.type ∧ ¬ A a
theorem vx_L.moved {C n d : String} {A : Nat → Prop} {u U : State} {H : Heap} (hvm : u.vm.Alike U.vm) (h : vx_L C n d A u H) : vx_L C n d A U H := by
  obtain ⟨c, k, i, f, a, cell, h1, h2, h3, h4, h5, h6, h7, h8, h9, h10⟩ := h
  obtain ⟨k', hi', he⟩ := State.fieldFound?_setVm hvm h2
  exact ⟨c, k', i, f, a, cell, by rw [hvm.findClass]; exact h1, hi', h3, by rw [he]; exact h4, h5, h6, h7, h8, by rw [he]; exact h9, h10⟩
theorem vx_L.kept {C n d : String} {A : Nat → Prop} {U : State} {H H1 : Heap} (h : vx_L C n d A U H) (hq : ∀ a : Nat, a < H.size → ¬ A a → H1[a]? = H[a]?) : vx_L C n d A U H1 := by
  obtain ⟨c, k, i, f, a, cell, h1, h2, h3, h4, h5, h6, h7, h8, h9, h10⟩ := h
  exact ⟨c, k, i, f, a, cell, h1, h2, h3, h4, by rw [hq a (Array.getElem?_eq_some_iff.mp h5).1 h10]; exact h5, h6, h7, h8, h9, h10⟩
theorem vx_L.narrow {C n d : String} {A B : Nat → Prop} {U : State} {H : Heap} (h : vx_L C n d A U H) (hAB : ∀ q, B q → A q) : vx_L C n d B U H := by
  obtain ⟨c, k, i, f, a, cell, h1, h2, h3, h4, h5, h6, h7, h8, h9, h10⟩ := h
  exact ⟨c, k, i, f, a, cell, h1, h2, h3, h4, h5, h6, h7, h8, h9, fun z => h10 (hAB _ z)⟩
theorem vx_L.word {C n d : String} {A : Nat → Prop} {s : State} {args : Array Value} (h : vx_L C n d A s s.heap) : (Cond.laysStatic C n d).before args s = true := by
  obtain ⟨c, k, i, f, a, cell, h1, h2, h3, h4, h5, h6, h7, h8, h9, -⟩ := h
  show (Cond.laysStatic C n d).holds args s none s [] = true
  exact Cond.laysStatic_of h1 h2 h3 h4 h5 h6 h7 h8 h9
/-- .. and what it holds: null or some reference -/
def vx_Zq (C n d : String) (A : Nat → Prop) (U : State) (H : Heap) : Prop := va_Zq C n d A U H ∧ vx_L C n d A U H
theorem vx_Zq.moved {C n d : String} {A : Nat → Prop} {u U : State} {H : Heap} (hvm : u.vm.Alike U.vm) (h : vx_Zq C n d A u H) : vx_Zq C n d A U H := ⟨va_Zq.moved hvm h.1, vx_L.moved hvm h.2⟩
theorem vx_Zq.kept {C n d : String} {A : Nat → Prop} {U : State} {H H1 : Heap} (h : vx_Zq C n d A U H) (hq : ∀ a : Nat, a < H.size → ¬ A a → H1[a]? = H[a]?) : vx_Zq C n d A U H1 := ⟨va_Zq.kept h.1 hq, vx_L.kept h.2 hq⟩
theorem vx_Zq.narrow {C n d : String} {A B : Nat → Prop} {U : State} {H : Heap} (h : vx_Zq C n d A U H) (hAB : ∀ q, B q → A q) : vx_Zq C n d B U H := ⟨va_Zq.narrow h.1 hAB, vx_L.narrow h.2 hAB⟩
theorem vx_Zqof {args : Array Value} {s : State} {C n d : String} {A : Nat → Prop} (hl : (Cond.laysStatic C n d).before args s = true) (hini : (Cond.initialized C).before args s = true) (h : (Cond.isRef (.static C n d)).before args s = true) (hA : ∀ a : Nat, a < s.heap.size → ¬ A a) : vx_Zq C n d A s s.heap := by
  refine ⟨va_Zqof hl hini h hA, ?_⟩
  obtain ⟨c, k, i, f, a, cell, h1, h2, h3, h4, h5, h6, h7, h8, h9⟩ := Cond.laysStatic_spec hl
  exact ⟨c, k, i, f, a, cell, h1, h2, h3, h4, h5, h6, h7, h8, h9, hA a (Array.getElem?_eq_some_iff.mp h5).1⟩
theorem vx_isRef {C n d : String} {v : Value} {A : Nat → Prop} {s : State} {args : Array Value} (h : va_Z C n d v A s s.heap) (hv : v.isRef = true) : (Cond.isRef (.static C n d)).before args s = true := by
  obtain ⟨cf, kf, fi, f, a, cell, h1, h2, h3, h4, h5, h6, h7, -⟩ := h
  have he : (Term.static C n d).eval args s none [] s = some v := by
    simp [Term.eval, State.fieldNamed?, h1, h2, h4, h5, h6, h7]
  simp only [Cond.before, Cond.holds, Cond.value, he]
  cases v <;> simp_all [Value.isRef]
theorem vx_isRefq {C n d : String} {A : Nat → Prop} {s : State} {args : Array Value} (h : va_Zq C n d A s s.heap) : (Cond.isRef (.static C n d)).before args s = true := by
  rcases h with h | ⟨t, h⟩
  · exact vx_isRef h rfl
  · exact vx_isRef h rfl
/-- the same frame, seen from here: as if the method were called anew in this heap -/
theorem vx_rebase {T : State} (X : Stand p l e R s m args below meth c T locs cells slots) {R' : Room} (hf : R'.frames ≤ R.frames) (hl : R'.locals ≤ R.locals) (hc : cells + R'.cells ≤ R.cells) (hs : slots + R'.slots ≤ R.slots) :
    Stand p l e R' ((T.setVm s.vm).setFrames (.invoking m args :: below)) m args below meth c T [] 0 0 := by
  have htop : (T.setVm s.vm).topJava?.isSome := X.here.top
  have hF : ((T.setVm s.vm).setFrames (.invoking m args :: below)).frames = .invoking m args :: below := State.frames_setFrames _ (State.cur_lt_of_top htop)
  obtain ⟨g₀, hg0⟩ := Option.isSome_iff_exists.mp htop
  obtain ⟨r, hr⟩ := State.topJava?_eq_some.mp hg0
  have hl9 : e.platform.stackLimits (T.setVm s.vm).me = e.platform.stackLimits s.me := X.limits
  have hb9 : (T.setVm s.vm).me.stackBytes = s.me.stackBytes := X.bytes
  refine ⟨X.admits, X.cas, X.clock, hF, ?_, X.hears, X.method, X.code, X.here, X.tail, X.warmed, ?_, ?_, ?_⟩
  · have h := X.room
    have hU : ((T.setVm s.vm).setFrames (.invoking m args :: below)).localsInUse = s.localsInUse := by
      rw [State.localsInUse_invoking hF (meth := meth) (c := c) X.method X.code, State.localsInUse_invoking X.frames X.method X.code]
    simp only [State.hasRoom, Bool.and_eq_true, decide_eq_true_eq] at h ⊢
    obtain ⟨⟨⟨⟨h1, h2, h3, h4, h5, h6⟩, h7⟩, h8⟩, h9⟩ := h
    rw [X.frames, List.length_cons] at h2 h3
    have q1 := X.heapSize
    have q2 := X.used
    simp only [hF, hU, List.length_cons, State.stackLimits_setFrames, State.stackBytes_setFrames, hl9, hb9]
    refine ⟨⟨⟨⟨by omega, by omega, by omega, by omega, by omega, h6⟩, ?_⟩, ?_⟩, X.book⟩
    · show T.heap.size + R'.cells ≤ e.platform.maxCells
      omega
    · show T.slotsUsed + R'.slots ≤ e.platform.maxSlots
      omega
  · rw [State.stackLimits_setFrames]; rfl
  · rw [State.stackBytes_setFrames]; rfl
  · refine ⟨?_, Nat.le_refl _, Nat.le_refl _, ?_, ?_, fun a c9 h9 => ⟨c9, h9, rfl, rfl, fun _ _ => rfl⟩⟩
    · obtain ⟨t, ht, -⟩ := State.frames_cons hr
      show T.setVm s.vm = { ((T.setVm s.vm).setFrames (.invoking m args :: below)).setFrames (T.setVm s.vm).frames with heap := T.heap, slotsUsed := T.slotsUsed }
      rw [State.setFrames_setFrames, State.setFrames_self ht]
      rfl
    · show T.slotsUsed = T.slotsUsed + ((T.heap.toList.drop T.heap.size).map (·.slots.size)).sum
      rw [List.drop_eq_nil_of_le (Nat.le_of_eq Array.length_toList)]
      rfl
    · show ((T.heap.toList.drop T.heap.size).map (·.slots.size)).sum ≤ 0
      rw [List.drop_eq_nil_of_le (Nat.le_of_eq Array.length_toList)]
      exact Nat.le_refl _
/-- 'throw new E()': new; dup; invokespecial; athrow -/
theorem vx_throw0 {cc : ByteArray} {pc : Nat} (hexec : p.tables.exec = Jvm.exec) (hb : c.code = cc) (hl : l.stackTraces = false) {own cls : String} {names : List String} {ik ic mc ms : Nat} {A : Nat → Prop}
    (hown : s.vm.findClass own = some m.cls) (hcls : Bundle.fit cls = true) (hnames : ∀ n ∈ names, Bundle.fit n = true)
    (hk : (Cond.classLink own ik cls).before args s = true) (hini : (Cond.initialized cls).before args s = true) (hat : ∀ w ∈ vx_at0 own ic cls names, w.before args s = true)
    (hgood : ∀ w ∈ Cond.classLink own ik cls :: Cond.initialized cls :: vx_at0 own ic cls names, vx_ot w = true)
    (hU : vx_Zq Bundle.tN "UNASSIGNED_STACK" Bundle.steD A s s.heap) (hN : vx_Zq Bundle.tN "SUPPRESSED_SENTINEL" Bundle.listD A s s.heap) (hS : va_S A s.heap H locs) (hsize : ls.size = c.maxLocals)
    (d0 : decode cc pc = .ok (.new ik, 3)) (d3 : decode cc (pc + 3) = .ok (.dup, 1)) (d4 : decode cc (pc + 4) = .ok (.invokespecial ic, 3)) (d7 : decode cc (pc + 7) = .ok (.athrow, 1))
    (hout : ∀ x ∈ c.exceptionTable.toList, covers x (pc + 7) = false)
    (hRframes : names.length + 3 < R.frames) (hRlocals : (rest.map fun v => v.category).sum + (13 * (names.length + 1) + 42) ≤ R.locals) (hRcells : cells + 1 ≤ R.cells) (hRslots : slots + 6 ≤ R.slots) (hlocks : meth.locks = false)
    (hx : ∀ t : State, s.vm.Alike t.vm → H.size ≤ t.heap.size → (∀ q : Nat, q < H.size → t.heap[q]? = H[q]?) → XC cls s t)
    (hf : ∀ z ∈ locs, free z.base) (hc : cells + 1 ≤ mc) (hs : slots + 6 ≤ ms) :
    W p l e R s m args below meth c H locs cells slots (vx_MQ below Qc XC args s mc ms free) (F0 m pc ls rest) := by
  intro T hT X
  have htr : e.platform.stackTraces = false := (show e.platform.stackTraces = l.stackTraces by rw [X.admits.platform]).trans hl
  have Y := vx_rebase X (R' := { frames := R.frames, locals := R.locals, cells := 1, slots := 6 }) (Nat.le_refl _) (Nat.le_refl _) hRcells hRslots
  obtain ⟨s', hA⟩ : ∃ z, z = (T.setVm s.vm).setFrames (.invoking m args :: below) := ⟨_, rfl⟩
  rw [← hA] at Y
  have hvm : s'.vm = s.vm := by rw [hA]; rfl
  have hhp : s'.heap = H := by rw [hA]; exact hT
  have hW0 : s.WarmedH s'.vm := by rw [hvm]; exact State.WarmedH.refl s
  have hat' : ∀ w ∈ vx_at0 own ic cls names, w.before args s' = true := fun w hw => vx_ot_at hW0 hvm.symm (hgood w (List.mem_cons_of_mem _ (List.mem_cons_of_mem _ hw))) (hat w hw)
  have hk' : (Cond.classLink own ik cls).before args s' = true := vx_ot_at hW0 hvm.symm (hgood _ List.mem_cons_self) hk
  have hini' : (Cond.initialized cls).before args s' = true := vx_ot_at hW0 hvm.symm (hgood _ (List.mem_cons_of_mem _ List.mem_cons_self)) hini
  have hU' : vx_Zq Bundle.tN "UNASSIGNED_STACK" Bundle.steD A s' s'.heap := by rw [hhp]; exact vx_Zq.moved hW0.alike (hU.kept hS.2.1)
  have hN' : vx_Zq Bundle.tN "SUPPRESSED_SENTINEL" Bundle.listD A s' s'.heap := by rw [hhp]; exact vx_Zq.moved hW0.alike (hN.kept hS.2.1)
  have h : ∀ w ∈ Bundle.ownAtoms0 own ic cls names, w.before args s' = true := vx_own hat' (vx_isRefq hU'.1) (vx_isRefq hN'.1) hU'.2.word hN'.2.word
  have hown' : s'.vm.findClass own = some m.cls := by rw [hvm]; exact hown
  have hins : (Cond.instantiable cls 6).before args s' = true := h _ (by simp [Bundle.ownAtoms0])
  obtain ⟨vm₁, cX, kX, hfX, hkX, -, -, X₁, st1⟩ := Y.newCold hexec (own := own) (C := cls) (index := ik) (n := 6) hown' hk' hins hini'
    (g := F0 m pc ls rest) rfl (by rw [hb]; exact d0) (Nat.le_refl _) (Nat.le_refl _)
  generalize hT1 : (T.setVm vm₁).pushCell { cls := cX, slots := kX.instanceTypes.map defaultValue, vm := .none } = T1 at X₁ st1
  have hcat : (Value.ref T.heap.size).category = 1 := rfl
  have hcellA : T1.heap[T.heap.size]? = some (freshCell cX kX) := by rw [← hT1]; exact State.heap_pushCell_size _ _
  have d3' : decode c.code (pc + 3) = .ok (.dup, 1) := by rw [hb]; exact d3
  obtain ⟨U, hsteps, hrun, hend, hW, hsame, ce, hce, hO⟩ := X₁.ctorThrow0 hexec htr (own := own) (cls := cls) (names := names) (ic := ic) hown' hcls hnames h (fun x hx => nomatch hx) hfX hkX hcellA (by rw [hhp, hT]; exact Nat.le_refl _)
    (g := { method := m, pc := pc + 4, locals := ls, stack := .ref T.heap.size :: .ref T.heap.size :: rest, locked := none }) rfl hsize rfl rfl (rest := rest) rfl
    (by rw [hb]; exact d4) (by rw [hb]; exact d7) hout hRframes (by simp only [List.map_cons, List.sum_cons, hcat]; omega) hlocks
  obtain ⟨f1, f2⟩ := vx_frame hsame
  rw [hhp] at f1 f2
  have hWs : s.WarmedH U.vm := State.WarmedH.trans hW0 hW
  have hcl : s.vm.findClass cls = some ce.cls := by
    have h9 := hO.cls
    rw [hvm] at h9
    exact h9
  have hall : s.sameButNew ({ U with vm := s.vm } : State) locs mc ms := by
    subst hA
    obtain ⟨e1, e2⟩ := hsame
    rw [State.setFrames_setFrames] at e1
    have h2 : (T.setVm s.vm).sameButNew ({ U with vm := s.vm } : State) [] (0 + 1) (0 + 6) := ⟨e1, e2⟩
    have h3 := X.same.trans h2
    rw [List.append_nil] at h3
    exact h3.mono hc hs
  refine ⟨U, ?_, .threw T.heap.size, hrun, hend, Or.inr ⟨T.heap.size, rfl, cls, ce, locs, hx U hWs.alike f1 (fun q hq => f2 q hq (fun z hz => nomatch hz)), hce, hO.vm, hcl, hWs, hall, hf⟩⟩
  refine st1 _ ?_
  show Steps p.tables e below (T1.setTop { method := m, pc := pc + 3, locals := ls, stack := .ref T.heap.size :: rest, locked := none }) _
  jvm_step X₁.here [X₁.here.top, hexec, d3', Value.category]
  exact hsteps
/-- 'throw new E("text")': new; dup; ldc; invokespecial; athrow -/
theorem vx_throwS {cc : ByteArray} {pc : Nat} (hexec : p.tables.exec = Jvm.exec) (hb : c.code = cc) (hl : l.stackTraces = false) {own cls text : String} {names : List String} {ik is ic mc ms sa : Nat} {A : Nat → Prop}
    (hown : s.vm.findClass own = some m.cls) (hcls : Bundle.fit cls = true) (hnames : ∀ n ∈ names, Bundle.fit n = true)
    (hk : (Cond.classLink own ik cls).before args s = true) (hini : (Cond.initialized cls).before args s = true) (hstr : vk_R own is text sa s) (hat : ∀ w ∈ vx_atS own ic cls names, w.before args s = true)
    (hgood : ∀ w ∈ Cond.classLink own ik cls :: Cond.initialized cls :: vx_atS own ic cls names, vx_ot w = true)
    (hU : vx_Zq Bundle.tN "UNASSIGNED_STACK" Bundle.steD A s s.heap) (hN : vx_Zq Bundle.tN "SUPPRESSED_SENTINEL" Bundle.listD A s s.heap) (hS : va_S A s.heap H locs) (hsize : ls.size = c.maxLocals)
    (d0 : decode cc pc = .ok (.new ik, 3)) (d3 : decode cc (pc + 3) = .ok (.dup, 1)) (d4 : decode cc (pc + 4) = .ok (.ldc is, 2)) (d6 : decode cc (pc + 6) = .ok (.invokespecial ic, 3)) (d9 : decode cc (pc + 9) = .ok (.athrow, 1))
    (hout : ∀ x ∈ c.exceptionTable.toList, covers x (pc + 9) = false)
    (hRframes : names.length + 3 < R.frames) (hRlocals : (rest.map fun v => v.category).sum + (13 * (names.length + 1) + 43) ≤ R.locals) (hRcells : cells + 1 ≤ R.cells) (hRslots : slots + 6 ≤ R.slots) (hlocks : meth.locks = false)
    (hx : ∀ t : State, s.vm.Alike t.vm → H.size ≤ t.heap.size → (∀ q : Nat, q < H.size → t.heap[q]? = H[q]?) → XC cls s t)
    (hf : ∀ z ∈ locs, free z.base) (hc : cells + 1 ≤ mc) (hs : slots + 6 ≤ ms) :
    W p l e R s m args below meth c H locs cells slots (vx_MQ below Qc XC args s mc ms free) (F0 m pc ls rest) := by
  intro T hT X
  have htr : e.platform.stackTraces = false := (show e.platform.stackTraces = l.stackTraces by rw [X.admits.platform]).trans hl
  have Y := vx_rebase X (R' := { frames := R.frames, locals := R.locals, cells := 1, slots := 6 }) (Nat.le_refl _) (Nat.le_refl _) hRcells hRslots
  obtain ⟨s', hA⟩ : ∃ z, z = (T.setVm s.vm).setFrames (.invoking m args :: below) := ⟨_, rfl⟩
  rw [← hA] at Y
  have hvm : s'.vm = s.vm := by rw [hA]; rfl
  have hhp : s'.heap = H := by rw [hA]; exact hT
  have hW0 : s.WarmedH s'.vm := by rw [hvm]; exact State.WarmedH.refl s
  have hat' : ∀ w ∈ vx_atS own ic cls names, w.before args s' = true := fun w hw => vx_ot_at hW0 hvm.symm (hgood w (List.mem_cons_of_mem _ (List.mem_cons_of_mem _ hw))) (hat w hw)
  have hk' : (Cond.classLink own ik cls).before args s' = true := vx_ot_at hW0 hvm.symm (hgood _ List.mem_cons_self) hk
  have hini' : (Cond.initialized cls).before args s' = true := vx_ot_at hW0 hvm.symm (hgood _ (List.mem_cons_of_mem _ List.mem_cons_self)) hini
  have hU' : vx_Zq Bundle.tN "UNASSIGNED_STACK" Bundle.steD A s' s'.heap := by rw [hhp]; exact vx_Zq.moved hW0.alike (hU.kept hS.2.1)
  have hN' : vx_Zq Bundle.tN "SUPPRESSED_SENTINEL" Bundle.listD A s' s'.heap := by rw [hhp]; exact vx_Zq.moved hW0.alike (hN.kept hS.2.1)
  have h : ∀ w ∈ Bundle.ownAtoms own ic cls names, w.before args s' = true := vx_own hat' (vx_isRefq hU'.1) (vx_isRefq hN'.1) hU'.2.word hN'.2.word
  have hown' : s'.vm.findClass own = some m.cls := by rw [hvm]; exact hown
  have hins : (Cond.instantiable cls 6).before args s' = true := h _ (by simp [Bundle.ownAtoms])
  obtain ⟨vm₁, cX, kX, hfX, hkX, -, -, X₁, st1⟩ := Y.newCold hexec (own := own) (C := cls) (index := ik) (n := 6) hown' hk' hins hini'
    (g := F0 m pc ls rest) rfl (by rw [hb]; exact d0) (Nat.le_refl _) (Nat.le_refl _)
  generalize hT1 : (T.setVm vm₁).pushCell { cls := cX, slots := kX.instanceTypes.map defaultValue, vm := .none } = T1 at X₁ st1
  have hcat : (Value.ref T.heap.size).category = 1 := rfl
  have hcellA : T1.heap[T.heap.size]? = some (freshCell cX kX) := by rw [← hT1]; exact State.heap_pushCell_size _ _
  have d3' : decode c.code (pc + 3) = .ok (.dup, 1) := by rw [hb]; exact d3
  have d4' : decode c.code (pc + 4) = .ok (.ldc is, 2) := by rw [hb]; exact d4
  have hstr' : vk_R own is text sa s' := vk_R.warm hW0 hstr
  obtain ⟨U, hsteps, hrun, hend, hW, hsame, ce, hce, hO⟩ := X₁.ctorThrowS hexec htr (own := own) (cls := cls) (names := names) (ic := ic) hown' hcls hnames h (fun x hx => nomatch hx) hfX hkX hcellA (by rw [hhp, hT]; exact Nat.le_refl _) (msg := .ref sa) rfl
    (g := { method := m, pc := pc + 6, locals := ls, stack := .ref sa :: .ref T.heap.size :: .ref T.heap.size :: rest, locked := none }) rfl hsize rfl rfl (rest := rest) rfl
    (by rw [hb]; exact d6) (by rw [hb]; exact d9) hout hRframes (by simp only [List.map_cons, List.sum_cons, hcat]; omega) hlocks
  obtain ⟨f1, f2⟩ := vx_frame hsame
  rw [hhp] at f1 f2
  have hWs : s.WarmedH U.vm := State.WarmedH.trans hW0 hW
  have hcl : s.vm.findClass cls = some ce.cls := by
    have h9 := hO.cls
    rw [hvm] at h9
    exact h9
  have hall : s.sameButNew ({ U with vm := s.vm } : State) locs mc ms := by
    subst hA
    obtain ⟨e1, e2⟩ := hsame
    rw [State.setFrames_setFrames] at e1
    have h2 : (T.setVm s.vm).sameButNew ({ U with vm := s.vm } : State) [] (0 + 1) (0 + 6) := ⟨e1, e2⟩
    have h3 := X.same.trans h2
    rw [List.append_nil] at h3
    exact h3.mono hc hs
  refine ⟨U, ?_, .threw T.heap.size, hrun, hend, Or.inr ⟨T.heap.size, rfl, cls, ce, locs, hx U hWs.alike f1 (fun q hq => f2 q hq (fun z hz => nomatch hz)), hce, hO.vm, hcl, hWs, hall, hf⟩⟩
  refine st1 _ ?_
  show Steps p.tables e below (T1.setTop { method := m, pc := pc + 3, locals := ls, stack := .ref T.heap.size :: rest, locked := none }) _
  jvm_step X₁.here [X₁.here.top, hexec, d3', Value.category]
  exact X₁.ldcString hexec (own := own) (text := text) (index := is) (a := sa) hown' hstr'.1 hstr'.2
    (g := { method := m, pc := pc + 4, locals := ls, stack := .ref T.heap.size :: .ref T.heap.size :: rest, locked := none }) rfl d4' _ hsteps
/-- 'throw new E("text")', the text by a wide index -/
theorem vx_throwSW {cc : ByteArray} {pc : Nat} (hexec : p.tables.exec = Jvm.exec) (hb : c.code = cc) (hl : l.stackTraces = false) {own cls text : String} {names : List String} {ik is ic mc ms sa : Nat} {A : Nat → Prop}
    (hown : s.vm.findClass own = some m.cls) (hcls : Bundle.fit cls = true) (hnames : ∀ n ∈ names, Bundle.fit n = true)
    (hk : (Cond.classLink own ik cls).before args s = true) (hini : (Cond.initialized cls).before args s = true) (hstr : vk_R own is text sa s) (hat : ∀ w ∈ vx_atS own ic cls names, w.before args s = true)
    (hgood : ∀ w ∈ Cond.classLink own ik cls :: Cond.initialized cls :: vx_atS own ic cls names, vx_ot w = true)
    (hU : vx_Zq Bundle.tN "UNASSIGNED_STACK" Bundle.steD A s s.heap) (hN : vx_Zq Bundle.tN "SUPPRESSED_SENTINEL" Bundle.listD A s s.heap) (hS : va_S A s.heap H locs) (hsize : ls.size = c.maxLocals)
    (d0 : decode cc pc = .ok (.new ik, 3)) (d3 : decode cc (pc + 3) = .ok (.dup, 1)) (d4 : decode cc (pc + 4) = .ok (.ldc_w is, 3)) (d7 : decode cc (pc + 7) = .ok (.invokespecial ic, 3)) (d10 : decode cc (pc + 10) = .ok (.athrow, 1))
    (hout : ∀ x ∈ c.exceptionTable.toList, covers x (pc + 10) = false)
    (hRframes : names.length + 3 < R.frames) (hRlocals : (rest.map fun v => v.category).sum + (13 * (names.length + 1) + 43) ≤ R.locals) (hRcells : cells + 1 ≤ R.cells) (hRslots : slots + 6 ≤ R.slots) (hlocks : meth.locks = false)
    (hx : ∀ t : State, s.vm.Alike t.vm → H.size ≤ t.heap.size → (∀ q : Nat, q < H.size → t.heap[q]? = H[q]?) → XC cls s t)
    (hf : ∀ z ∈ locs, free z.base) (hc : cells + 1 ≤ mc) (hs : slots + 6 ≤ ms) :
    W p l e R s m args below meth c H locs cells slots (vx_MQ below Qc XC args s mc ms free) (F0 m pc ls rest) := by
  intro T hT X
  have htr : e.platform.stackTraces = false := (show e.platform.stackTraces = l.stackTraces by rw [X.admits.platform]).trans hl
  have Y := vx_rebase X (R' := { frames := R.frames, locals := R.locals, cells := 1, slots := 6 }) (Nat.le_refl _) (Nat.le_refl _) hRcells hRslots
  obtain ⟨s', hA⟩ : ∃ z, z = (T.setVm s.vm).setFrames (.invoking m args :: below) := ⟨_, rfl⟩
  rw [← hA] at Y
  have hvm : s'.vm = s.vm := by rw [hA]; rfl
  have hhp : s'.heap = H := by rw [hA]; exact hT
  have hW0 : s.WarmedH s'.vm := by rw [hvm]; exact State.WarmedH.refl s
  have hat' : ∀ w ∈ vx_atS own ic cls names, w.before args s' = true := fun w hw => vx_ot_at hW0 hvm.symm (hgood w (List.mem_cons_of_mem _ (List.mem_cons_of_mem _ hw))) (hat w hw)
  have hk' : (Cond.classLink own ik cls).before args s' = true := vx_ot_at hW0 hvm.symm (hgood _ List.mem_cons_self) hk
  have hini' : (Cond.initialized cls).before args s' = true := vx_ot_at hW0 hvm.symm (hgood _ (List.mem_cons_of_mem _ List.mem_cons_self)) hini
  have hU' : vx_Zq Bundle.tN "UNASSIGNED_STACK" Bundle.steD A s' s'.heap := by rw [hhp]; exact vx_Zq.moved hW0.alike (hU.kept hS.2.1)
  have hN' : vx_Zq Bundle.tN "SUPPRESSED_SENTINEL" Bundle.listD A s' s'.heap := by rw [hhp]; exact vx_Zq.moved hW0.alike (hN.kept hS.2.1)
  have h : ∀ w ∈ Bundle.ownAtoms own ic cls names, w.before args s' = true := vx_own hat' (vx_isRefq hU'.1) (vx_isRefq hN'.1) hU'.2.word hN'.2.word
  have hown' : s'.vm.findClass own = some m.cls := by rw [hvm]; exact hown
  have hins : (Cond.instantiable cls 6).before args s' = true := h _ (by simp [Bundle.ownAtoms])
  obtain ⟨vm₁, cX, kX, hfX, hkX, -, -, X₁, st1⟩ := Y.newCold hexec (own := own) (C := cls) (index := ik) (n := 6) hown' hk' hins hini'
    (g := F0 m pc ls rest) rfl (by rw [hb]; exact d0) (Nat.le_refl _) (Nat.le_refl _)
  generalize hT1 : (T.setVm vm₁).pushCell { cls := cX, slots := kX.instanceTypes.map defaultValue, vm := .none } = T1 at X₁ st1
  have hcat : (Value.ref T.heap.size).category = 1 := rfl
  have hcellA : T1.heap[T.heap.size]? = some (freshCell cX kX) := by rw [← hT1]; exact State.heap_pushCell_size _ _
  have d3' : decode c.code (pc + 3) = .ok (.dup, 1) := by rw [hb]; exact d3
  have d4' : decode c.code (pc + 4) = .ok (.ldc_w is, 3) := by rw [hb]; exact d4
  have hstr' : vk_R own is text sa s' := vk_R.warm hW0 hstr
  obtain ⟨U, hsteps, hrun, hend, hW, hsame, ce, hce, hO⟩ := X₁.ctorThrowS hexec htr (own := own) (cls := cls) (names := names) (ic := ic) hown' hcls hnames h (fun x hx => nomatch hx) hfX hkX hcellA (by rw [hhp, hT]; exact Nat.le_refl _) (msg := .ref sa) rfl
    (g := { method := m, pc := pc + 7, locals := ls, stack := .ref sa :: .ref T.heap.size :: .ref T.heap.size :: rest, locked := none }) rfl hsize rfl rfl (rest := rest) rfl
    (by rw [hb]; exact d7) (by rw [hb]; exact d10) hout hRframes (by simp only [List.map_cons, List.sum_cons, hcat]; omega) hlocks
  obtain ⟨f1, f2⟩ := vx_frame hsame
  rw [hhp] at f1 f2
  have hWs : s.WarmedH U.vm := State.WarmedH.trans hW0 hW
  have hcl : s.vm.findClass cls = some ce.cls := by
    have h9 := hO.cls
    rw [hvm] at h9
    exact h9
  have hall : s.sameButNew ({ U with vm := s.vm } : State) locs mc ms := by
    subst hA
    obtain ⟨e1, e2⟩ := hsame
    rw [State.setFrames_setFrames] at e1
    have h2 : (T.setVm s.vm).sameButNew ({ U with vm := s.vm } : State) [] (0 + 1) (0 + 6) := ⟨e1, e2⟩
    have h3 := X.same.trans h2
    rw [List.append_nil] at h3
    exact h3.mono hc hs
  refine ⟨U, ?_, .threw T.heap.size, hrun, hend, Or.inr ⟨T.heap.size, rfl, cls, ce, locs, hx U hWs.alike f1 (fun q hq => f2 q hq (fun z hz => nomatch hz)), hce, hO.vm, hcl, hWs, hall, hf⟩⟩
  refine st1 _ ?_
  show Steps p.tables e below (T1.setTop { method := m, pc := pc + 3, locals := ls, stack := .ref T.heap.size :: rest, locked := none }) _
  jvm_step X₁.here [X₁.here.top, hexec, d3', Value.category]
  exact X₁.ldcStringW hexec (own := own) (text := text) (index := is) (a := sa) hown' hstr'.1 hstr'.2
    (g := { method := m, pc := pc + 4, locals := ls, stack := .ref T.heap.size :: .ref T.heap.size :: rest, locked := none }) rfl d4' _ hsteps
end Ends
section Bodies
variable {l : Launch}
theorem vx_ofW {y : MethodName} {ws ws' : List Cond} {rm : Room} {Pc : Array Value → State → Prop} {Qc : Array Value → State → Outcome → State → Prop} {XC : String → State → State → Prop} {mc ms : Nat} {free : Addr → Prop} {cc : ByteArray} {maxL : Nat} {ret : Option FieldType}
    (hy : plainName y.cls = true) (hw : ws = Cond.code y cc maxL ret :: ws')
    (body : ∀ p e s m args below meth c s₁, BodyLoose p l y (headSpec ws rm) cc maxL ret e s m args below meth c s₁ → c.maxLocals = maxL → (∀ x ∈ c.exceptionTable.toList, False) → Pc args s →
      W p l e (headSpec ws rm).room s m args below meth c s.heap [] 0 0 (vx_MQ below Qc XC args s mc ms free) (entryFrame m args maxL)) : vx_Met l y ws rm Pc Qc XC mc ms free := by
  refine MetFree.of_bodyS (code := cc) (maxLocals := maxL) (ret := ret) hy ?_ ?_
  · intro args s m h hn
    obtain ⟨meth, c, h1, h2, h3, h4, h5, h6, -, -⟩ := Cond.code_spec hn (atoms_spec (ws := ws) h _ (by rw [hw]; exact List.mem_cons_self))
    exact ⟨meth, c, h1, h2, h3, h4, h5, h6⟩
  · intro p e s m args below meth c s₁ B hml hP _
    have hh0 : s₁.heap = s.heap := by rw [B.state]; rfl
    have ht : ∀ x ∈ c.exceptionTable.toList, False := by
      obtain ⟨meth9, c9, h1, h2, -, -, -, -, h7, -⟩ := Cond.code_spec B.named (atoms_spec (ws := ws) B.pre _ (by rw [hw]; exact List.mem_cons_self))
      cases Option.some.inj (h1.symm.trans B.method)
      cases Option.some.inj (h2.symm.trans (Stand.of_body B).code)
      intro x hx
      rw [Array.isEmpty_iff.mp h7] at hx
      cases hx
    obtain ⟨t, a1, o, b1, b2, b3⟩ := body p e s m args below meth c s₁ B hml ht hP s₁ hh0 (Stand.of_body B)
    exact ⟨t, o, a1, b1, b2, b3⟩
/-- the table of a body with handlers -/
theorem vx_table {p : Program} {x y : MethodName} {S : Spec} {cc bytes : ByteArray} {maxL maxL' : Nat} {ret ret' : Option FieldType} {e : Env} {s s₁ : State} {m : MethodId} {args : Array Value} {below : List Frame} {meth : Method} {c : Code} {hh : List (Nat × Nat × Nat × Nat)}
    (B : BodyLoose p l y S cc maxL ret e s m args below meth c s₁) (h : (Cond.codeWith y bytes maxL' ret' hh).before args s = true) : c.exceptionTable.toList = tableOf hh := by
  obtain ⟨m9, meth9, c9, hn9, h1, h2, -, -, h6, -⟩ := Cond.codeWith_spec h
  cases Option.some.inj (hn9.symm.trans B.named)
  cases Option.some.inj (h1.symm.trans B.method)
  cases Option.some.inj (h2.symm.trans (Stand.of_body B).code)
  rw [← h6, table_eq]
end Bodies
end VXA
/-! ===== END ===== -/
/-! ===== BEGIN a static call of a method with an exception table ===== -/
section VXS
variable {p : Program} {l : Launch} {e : Env} {R : Room} {s : State} {m : MethodId} {args : Array Value} {below : List Frame} {meth : Method} {c : Code} {T : State} {H : Heap} {locs : List Loc} {cells slots : Nat}
abbrev vx_CSW (R : Room) (s : State) (args : Array Value) (own : String) (index : Nat) (y : MethodName) (bytes : ByteArray) (maxL : Nat) (ret : Option FieldType) (hh : List (Nat × Nat × Nat × Nat)) (ws : List Cond) (rm : Room) (mc ms n : Nat) : Prop :=
  (rm.cells = mc ∧ rm.slots = ms ∧ rm.frames + 1 ≤ R.frames ∧ 8 + (maxL + 11) + rm.locals ≤ R.locals ∧ (∀ w ∈ ws, ∀ (a' : Array Value) (U : State), s.WarmedH U.vm → w.before a' U = true) ∧ Cond.codeWith y bytes maxL ret hh ∈ ws) ∧
  (Cond.codeWith y bytes maxL ret hh).before args s = true ∧ (Cond.initialized y.cls).before args s = true ∧ (y.cls ≠ "java/lang/invoke/MethodHandle" ∧ y.cls ≠ "java/lang/invoke/VarHandle") ∧
  (∀ sig, parseMethodDescriptor y.desc = some sig → n = sig.parameters.length) ∧ (Cond.methodLink own index y).before args s = true ∧ (Cond.static y).before args s = true
theorem vx_cwSW {own : String} {index maxL mc ms : Nat} {y : MethodName} {bytes : ByteArray} {ret : Option FieldType} {hh : List (Nat × Nat × Nat × Nat)} {Ts ws ws' : List Cond} {rm : Room} (n : Nat) (ht : ∀ w ∈ Ts, w.before args s = true) (hT : GoodIn Ts (va_wsS own index y ws)) (hw : ws = Cond.codeWith y bytes maxL ret hh :: ws') (hrc : rm.cells = mc) (hrs : rm.slots = ms)
    (hd : y.cls ≠ "java/lang/invoke/MethodHandle" ∧ y.cls ≠ "java/lang/invoke/VarHandle" ∧ (parseMethodDescriptor y.desc).map (fun d => d.parameters.length) = some n) (hR : rm.frames + 1 ≤ R.frames ∧ 8 + (maxL + 11) + rm.locals ≤ R.locals) :
    vx_CSW R s args own index y bytes maxL ret hh ws rm mc ms n := by
  have ok : ∀ w ∈ va_wsS own index y ws, w.before args s = true := fun w h => ht w (hT w h).1
  have hG : GoodIn Ts ws := fun w h => hT w (by unfold va_wsS; exact List.mem_append_right _ h)
  have hc : Cond.codeWith y bytes maxL ret hh ∈ ws := by rw [hw]; exact List.mem_cons_self
  refine ⟨⟨hrc, hrs, hR.1, hR.2, pay_in ht hG, hc⟩, ht _ (hG _ hc).1, ok _ (by simp [va_wsS]), ⟨hd.1, hd.2.1⟩, fun sig h => ?_, ok _ (by simp [va_wsS]), ok _ (by simp [va_wsS])⟩
  have h2 := hd.2.2
  rw [h] at h2
  exact (Option.some.inj h2).symm
theorem vx_callSW (X : Stand p l e R s m args below meth c T locs cells slots) (hexec : p.tables.exec = Jvm.exec) {own : String} {index : Nat} {y : MethodName} {bytes : ByteArray} {maxL : Nat} {ret : Option FieldType} {hh : List (Nat × Nat × Nat × Nat)}
    (hown : s.vm.findClass own = some m.cls) (hlink : (Cond.methodLink own index y).before args s = true) (hstat : (Cond.static y).before args s = true) (hinit : (Cond.initialized y.cls).before args s = true)
    (hcode : (Cond.codeWith y bytes maxL ret hh).before args s = true) (hy : y.cls ≠ "java/lang/invoke/MethodHandle" ∧ y.cls ≠ "java/lang/invoke/VarHandle")
    {W9 : Nat} {Pre : Pt → Array Value → Prop} {Post : Pt → Array Value → Option Value → Pt → Prop} (hK : Back l R p e below s args y 3 W9 Pre Post)
    {g : JFrame} (hg : g.method = m) (hsize : g.locals.size = c.maxLocals) {argsL rest : List Value} (hlen : ∀ sig, parseMethodDescriptor y.desc = some sig → argsL.length = sig.parameters.length)
    (hstack : g.stack = argsL.reverse ++ rest) (hW : 2 * g.monitorRoom + (rest.map fun v => v.category).sum ≤ W9) (hdg : decode c.code g.pc = .ok (.invokestatic index, 3))
    (hpre : ∀ vm₁, s.WarmedH vm₁ → Pre ⟨T.setVm vm₁, locs, cells, slots⟩ argsL.toArray) :
    ∃ (v : Option Value) (vm₁ : Vm) (B : Pt), s.WarmedH vm₁ ∧ Stand p l e R s m args below meth c B.U B.locs B.cells B.slots ∧ Post ⟨T.setVm vm₁, locs, cells, slots⟩ argsL.toArray v B ∧
      ∀ target, Steps p.tables e below (B.U.setTop { g with pc := g.pc + 3, stack := v.toList ++ rest }) target → Steps p.tables e below (T.setTop g) target := by
  obtain ⟨mk, methM, cM, hnamed, hmethM, -, -, -, -, -, -, hsigM⟩ := Cond.codeWith_spec hcode
  have hstatic : methM.isStatic = true := Cond.static_spec hnamed hmethM hstat
  obtain ⟨kP, hkP, -⟩ := className_of_methodNamed hnamed
  have hinitP : kP.init = .initialized := Cond.initialized_spec (findClass_of_methodNamed hnamed) hkP hinit
  obtain ⟨vm₁, X₁, hstep₁⟩ := X.invokestatic hexec hown hlink hnamed hmethM hstatic hkP hinitP hy (g := g) hg (argsL := argsL) (rest := rest) (hlen _ hsigM) hstack hdg
  obtain ⟨v, B, X', hpost, hsteps⟩ := hK m meth c ⟨T.setVm vm₁, locs, cells, slots⟩ { g with stack := rest } (.invokestatic index) mk argsL.toArray X₁ hg hsize hdg hW (X₁.named hnamed) (hpre vm₁ X₁.warmed)
  exact ⟨v, vm₁, B, X₁.warmed, X', hpost, fun target h => hstep₁ _ fun acts => by rw [doInvoke_state]; exact hsteps.trans h⟩
theorem vx_runSW {y : MethodName} {bytes cc : ByteArray} {maxL nL mc ms n index : Nat} {ret : Option FieldType} {hh : List (Nat × Nat × Nat × Nat)} {ws : List Cond} {rm : Room} {Pc : Array Value → State → Prop} {Qc : Array Value → State → Outcome → State → Prop} {free : Addr → Prop} {Ts : List Cond} {own : String} {As rest : List Value} {g : JFrame}
    (S : CallFix p m c cc nL s args Ts own) (hM : Met l y ws rm Pc Qc mc ms free) (cw : vx_CSW R s args own index y bytes maxL ret hh ws rm mc ms n) (hp : PreS s H Pc As)
    (hg : g.method = m) (hn : As.length = n) (hsize : g.locals.size = nL) (hstack : g.stack = As.reverse ++ rest) (hW : 2 * g.monitorRoom + (rest.map fun v => v.category).sum ≤ 8) (hdg : decode cc g.pc = .ok (.invokestatic index, 3)) (hf : cells + mc ≤ R.cells ∧ slots + ms ≤ R.slots) :
    va_Run p l e R s m args below meth c H locs cells slots mc ms g rest (Qc As.toArray) (free) := by
  obtain ⟨⟨hrc, hrs, hfr, hlo, hws, hcw⟩, hcode, hini, hy, hlen, hl, hstt⟩ := cw
  have hK : Back l R p e below s args y 3 8 (PreOf R mc ms Pc) (PostOf Qc mc ms free) := va_backW (hh := hh) (bytes := bytes) (maxL := maxL) (ret := ret) hM hp.1 hrc hrs hfr hlo hws hcw (fun a' U hW => word_at hW (Or.inl (by first | rfl | simp [Cond.onTables, Cond.keeps, Cond.steady])) hini)
  obtain ⟨hx, hb, hml, ho, -⟩ := S
  intro T hT X
  obtain ⟨v, vm₁, ⟨U', l2, c2, s2⟩, hW₁, X', ⟨g', mk, t, L, e1, e2, hq, h1, hL, h2, h3⟩, st⟩ := vx_callSW X hx (hh := hh) (bytes := bytes) (maxL := maxL) (ret := ret) ho hl hstt hini hcode hy hK hg (hsize.trans hml.symm) (argsL := As) (rest := rest) (fun sig h => hn.trans (hlen sig h)) hstack hW (by rw [hb]; exact hdg)
    (fun vm₁ hW₁ => ⟨hf.1, hf.2, hp.2 (T.setVm vm₁) hT hW₁⟩)
  dsimp only [Pt.U, Pt.locs, Pt.cells, Pt.slots] at X' e1 e2 h1 h2 h3 st
  subst h1; subst h2; subst h3
  exact ⟨v, (T.setVm vm₁).calling g' mk As.toArray, t, U', L, hT, X', hL, e1, e2, hq, st⟩
/-- not caught here, past rows that name other classes: it goes on to the caller -/
theorem vx_outP {p : Program} {l : Launch} {e : Env} {R : Room} {s : State} {m : MethodId} {args : Array Value} {below : List Frame} {meth : Method} {c : Code} {H : Heap} {locs : List Loc} {cells slots : Nat} {free : Addr → Prop} {ls : Array Slot} {rest : List Value} {Qc : Array Value → State → Outcome → State → Prop} {XC : String → State → State → Prop}
    {pc : Nat} {own E : String} {ce : Cell} {q : Addr} {mc ms : Nat} (hown : s.vm.findClass own = some m.cls) (hlocks : meth.locks = false)
    (hpass : ∀ z ∈ c.exceptionTable.toList, covers z pc = false ∨ (z.catchType ≠ 0 ∧ ∃ nm : String, (Cond.classLink own z.catchType nm).before args s = true ∧ va_Nc E nm s)) (hcell : H[q]? = some ce) (hv : ce.vm = .none) (hcl : s.vm.findClass E = some ce.cls)
    (hx : ∀ t : State, t.heap = H → s.vm.Alike t.vm → XC E s t) (hf : ∀ z ∈ locs, free z.base) (hc : cells ≤ mc) (hs : slots ≤ ms) :
    vx_W p l e R s m args below meth c H locs cells slots (vx_MQ below Qc XC args s mc ms free) (F0 m pc ls rest) q := by
  intro T hT X
  have hpl : e.platform.magicAccessors = ({} : Platform).magicAccessors := by rw [X.admits.platform]
  obtain ⟨vm', hW', X', st⟩ := X.outThrough hlocks q (g := F0 m pc ls rest) rfl rfl rfl (cell := ce) (by rw [hT]; exact hcell) (by rw [hv]; rfl)
    (by obtain ⟨k9, h9, -⟩ := Vm.findClass_spec hcl; exact ⟨k9, h9⟩) (fun z hz => by
      rcases hpass z hz with h | ⟨hz0, nm, hl1, hn1⟩
      · exact Or.inl h
      · obtain ⟨c6, hc6, hcl6⟩ := Cond.classLink_spec hown hl1 e.platform hpl
        obtain ⟨a8, b8, h1, h2, h3⟩ := hn1
        cases Option.some.inj (h1.symm.trans hcl)
        cases Option.some.inj (h2.symm.trans hc6)
        exact Or.inr ⟨hz0, _, hcl6, h3⟩)
  obtain ⟨g₀, hfr⟩ := X'.frames_eq
  have hcell9 : ((T.setVm vm').setFrames (.throwing q :: below)).heap[q]? = some ce := by
    show T.heap[q]? = some ce
    rw [hT]; exact hcell
  have hend : Ended ((T.setVm vm').setFrames (.throwing q :: below)) below (.threw q) := State.frames_setFrames _ (State.cur_lt_of_frames hfr)
  refine ⟨(T.setVm vm').setFrames (.throwing q :: below), ?_, .threw q, X'.here.running, hend, Or.inr ⟨q, rfl, E, ce, locs, hx _ hT (X'.ends _).1.alike, hcell9, hv, hcl, (X'.ends _).1, (X'.ends _).2.mono hc hs, hf⟩⟩
  rw [X.pushThrowing_eq]
  exact st
/-- a thing of a world lies in the heap -/
theorem vx_lt {D : va_G} {cl : List vw_C} {ws : va_W} {H1 : Heap} (h : va_P D cl ws H1) {k : Nat} {q : Nat × va_E} (hk : ws[k]? = some q) : q.1 < H1.size := (h k q hk).lt
end VXS
/-! ===== END ===== -/
/-! ===== BEGIN methods with a table of their own: called by a name, returning or throwing ===== -/
section VXH
/-! vx_backW, vx_callVX, vx_callSX, vx_callVW, vx_runVW, vx_runVX, vx_runSX, vx_ofWH follow the same proofs as their sisters above (Free/Laws.lean, Shelf42/LK1.lean); vx_outP calls Shelf42/NT130.lean (outThrough). -/
section
variable {l : Launch} {R : Room} {p : Program} {e : Env} {below : List Frame} {s : State} {sargs : Array Value} {y : MethodName} {len W9 : Nat}
theorem vx_backW {ws : List Cond} {rm : Room} {Pc : Array Value → State → Prop} {Qc : Array Value → State → Outcome → State → Prop} {XC : String → State → State → Prop} {mc ms : Nat} {free : Addr → Prop} {bytes : ByteArray} {maxL : Nat} {ret : Option FieldType} {hh : List (Nat × Nat × Nat × Nat)}
    (hM : vx_Met l y ws rm Pc Qc XC mc ms free) (hblind : FrameBlind Pc) (hrc : rm.cells = mc) (hrs : rm.slots = ms)
    (hframes : rm.frames + 1 ≤ R.frames) (hlocals : W9 + (maxL + 11) + rm.locals ≤ R.locals)
    (hws : ∀ w ∈ ws, ∀ a' U, s.WarmedH U.vm → w.before a' U = true) (hcode : Cond.codeWith y bytes maxL ret hh ∈ ws) (hinit : ∀ a' U, s.WarmedH U.vm → (Cond.initialized y.cls).before a' U = true) :
    vx_Back l R p e below s sargs y len W9 (PreOf R mc ms Pc) (PostOf Qc mc ms free) (vx_Post XC mc ms free) := by
  intro m meth c A g ig mk a X hg hsize hdg hW hn hp
  have h1 : (headSpec ws rm).pre.before a A.U = true := atoms_intro fun w hw => hws w hw _ _ X.warmed
  have h2 : (Cond.codeWith y bytes maxL ret hh).before a A.U = true := hws _ hcode _ _ X.warmed
  have h3 : (Cond.initialized y.cls).before a A.U = true := hinit _ _ X.warmed
  have h4 : A.cells + (headSpec ws rm).room.cells ≤ R.cells := by rw [show (headSpec ws rm).room.cells = mc from hrc]; exact hp.1
  have h5 : A.slots + (headSpec ws rm).room.slots ≤ R.slots := by rw [show (headSpec ws rm).room.slots = ms from hrs]; exact hp.2.1
  have hPc : Pc a (A.U.calling g mk a) := hblind _ _ _ _ hp.2.2
  obtain ⟨U, Ls, c0, s0⟩ := A
  dsimp only [Pt.U, Pt.locs, Pt.cells, Pt.slots] at h1 h2 h3 h4 h5 X hn hPc ⊢
  obtain ⟨m9, methY, cY, hn9, hmY, hcY, -, hlY, -⟩ := Cond.codeWith_spec h2
  cases Option.some.inj (hn9.symm.trans hn)
  obtain ⟨kY, hkY, -⟩ := className_of_methodNamed hn
  have hinitY : kY.init = .initialized := Cond.initialized_spec (findClass_of_methodNamed hn) hkY h3
  have h : At U g.method c below := by rw [hg]; exact X.here
  have hlocals9 : W9 + (maxL + 11) + (headSpec ws rm).room.locals ≤ R.locals := hlocals
  have happ : (headSpec ws rm).appliesLoose y e.platform (U.calling g mk a) = true :=
    Spec.appliesLoose_calling (g := g) h hdg hn hkY hinitY
      (X.room_calling (g := g) (R' := (headSpec ws rm).room) hsize hmY hcY hframes (by rw [hlY]; omega) h4 h5) h1
  obtain ⟨mid, hmid⟩ := h.above
  have hfr : (U.setTop g).frames = (.java g :: mid) ++ below := by rw [State.frames_setTop' g h.top, hmid]; rfl
  obtain ⟨o, s₂, hsteps, -, hend, hq⟩ := Steps.callFree hM p X.admits X.cas X.clock (acts := []) hfr happ hPc trivial
  have hq' : vx_Q Qc XC mc ms free a (U.calling g mk a) o s₂ := hq
  rw [State.frames_setTop' g h.top] at hend
  obtain ⟨g₀, hg0⟩ := Option.isSome_iff_exists.mp h.top
  obtain ⟨r, hr⟩ := State.topJava?_eq_some.mp hg0
  have hr' : (({ U with heap := s₂.heap, slotsUsed := s₂.slotsUsed } : State).setVm s₂.vm).frames = .java g₀ :: r := hr
  rcases hq' with ⟨hqc, L, hfe, hL⟩ | ⟨q, rfl, E, ce, L, hx, hce, hcv, hcl, hW₂, hsm, hL⟩
  · obtain ⟨⟨v, rfl⟩, hW₂, e2, q2, q3, q4, q5, q6⟩ := id hfe
    have e3 : s₂ = ({ (U.calling g mk a).setFrames s₂.frames with heap := s₂.heap, slotsUsed := s₂.slotsUsed } : State).setVm s₂.vm := by
      have : s₂ = ({ s₂ with vm := (U.calling g mk a).vm } : State).setVm s₂.vm := rfl
      rw [e2] at this
      exact this
    obtain ⟨c₂, i₂, len₂, hc₂, hd₂, hf₂⟩ := hend
    have hW' : U.WarmedH s₂.vm := hW₂
    have hcc : c₂ = c := by
      have h1 : s₂.code? g.method = U.code? g.method := by
        rw [State.code?_eq, State.code?_eq, hW'.alike.method?]
      exact Option.some.inj (hc₂.symm.trans (h1.trans h.code))
    subst hcc
    have hlen : len₂ = len := by rw [hdg] at hd₂; cases hd₂; rfl
    subst hlen
    have hs₂ : s₂ = (({ U with heap := s₂.heap, slotsUsed := s₂.slotsUsed } : State).setVm s₂.vm).setTop { g with pc := g.pc + len₂, stack := v.toList ++ g.stack } := by
      refine e3.trans ?_
      rw [hf₂, State.calling_eq h.top, State.setFrames_setFrames, State.setTop_of_frames _ hr', hr]
      rfl
    have hsame : U.sameButNew ({ U with heap := s₂.heap, slotsUsed := s₂.slotsUsed } : State) L mc ms := by
      refine ⟨?_, q2, q3, q4, q5, q6⟩
      obtain ⟨t, ht, -⟩ := State.frames_cons hr
      show ({ U with heap := s₂.heap, slotsUsed := s₂.slotsUsed } : State) = { U.setFrames U.frames with heap := s₂.heap, slotsUsed := s₂.slotsUsed }
      rw [State.setFrames_self ht]
    subst hg
    refine Or.inl ⟨v, ⟨(({ U with heap := s₂.heap, slotsUsed := s₂.slotsUsed } : State).setVm s₂.vm), Ls ++ L, c0 + mc, s0 + ms⟩,
      ⟨X.admits, X.cas, X.clock, X.frames, X.room, X.hears, X.method, X.code, (X.here.setHeapUsed s₂.heap s₂.slotsUsed).setVm hW'.alike, X.tail, State.WarmedH.trans X.warmed hW', X.limits, X.bytes, X.same.trans (hsame.setVm s.vm)⟩,
      ⟨g, mk, s₂, L, rfl, rfl, hqc, rfl, hL, rfl, rfl⟩, ?_⟩
    show Steps p.tables e below _ ((({ U with heap := s₂.heap, slotsUsed := s₂.slotsUsed } : State).setVm s₂.vm).setTop { g with pc := g.pc + len₂, stack := v.toList ++ g.stack })
    rw [← hs₂]
    exact hsteps
  · obtain ⟨e2, q2, q3, q4, q5, q6⟩ := id hsm
    have e3 : s₂ = ({ (U.calling g mk a).setFrames s₂.frames with heap := s₂.heap, slotsUsed := s₂.slotsUsed } : State).setVm s₂.vm := by
      have : s₂ = ({ s₂ with vm := (U.calling g mk a).vm } : State).setVm s₂.vm := rfl
      rw [e2] at this
      exact this
    have hf₂ : s₂.frames = .throwing q :: .java g :: U.frames.tail := hend
    have hW' : U.WarmedH s₂.vm := hW₂
    have hs₂ : s₂ = ((({ U with heap := s₂.heap, slotsUsed := s₂.slotsUsed } : State).setVm s₂.vm).setTop g).pushFrame (.throwing q) := by
      refine e3.trans ?_
      rw [hf₂, State.calling_eq h.top, State.setFrames_setFrames, State.pushFrame, State.frames_setTop _ hr', State.setTop_of_frames _ hr', State.setFrames_setFrames, hr]
      rfl
    have hsame : U.sameButNew ({ U with heap := s₂.heap, slotsUsed := s₂.slotsUsed } : State) L mc ms := by
      refine ⟨?_, q2, q3, q4, q5, q6⟩
      obtain ⟨t, ht, -⟩ := State.frames_cons hr
      show ({ U with heap := s₂.heap, slotsUsed := s₂.slotsUsed } : State) = { U.setFrames U.frames with heap := s₂.heap, slotsUsed := s₂.slotsUsed }
      rw [State.setFrames_self ht]
    subst hg
    refine Or.inr ⟨q, ⟨(({ U with heap := s₂.heap, slotsUsed := s₂.slotsUsed } : State).setVm s₂.vm), Ls ++ L, c0 + mc, s0 + ms⟩,
      ⟨X.admits, X.cas, X.clock, X.frames, X.room, X.hears, X.method, X.code, (X.here.setHeapUsed s₂.heap s₂.slotsUsed).setVm hW'.alike, X.tail, State.WarmedH.trans X.warmed hW', X.limits, X.bytes, X.same.trans (hsame.setVm s.vm)⟩,
      ⟨g, mk, s₂, L, E, ce, rfl, rfl, hx, hce, hcv, hcl, rfl, hL, rfl, rfl⟩, ?_⟩
    show Steps p.tables e below _ (((({ U with heap := s₂.heap, slotsUsed := s₂.slotsUsed } : State).setVm s₂.vm).setTop g).pushFrame (.throwing q))
    rw [← hs₂]
    exact hsteps
end
variable {p : Program} {l : Launch} {e : Env} {R : Room} {s : State} {m : MethodId} {args : Array Value} {below : List Frame} {meth : Method} {c : Code} {T : State} {H : Heap} {locs : List Loc} {cells slots : Nat}
theorem vx_callVX (X : Stand p l e R s m args below meth c T locs cells slots) (hexec : p.tables.exec = Jvm.exec) {own C : String} {index : Nat} {y : MethodName} {bytes : ByteArray} {maxL : Nat} {ret : Option FieldType} {hh : List (Nat × Nat × Nat × Nat)}
    (hown : s.vm.findClass own = some m.cls) (hlink : (Cond.methodLink own index y).before args s = true) (hinst : (Cond.instanceMethod y).before args s = true) (hsel : (Cond.selects C y y).before args s = true)
    (hcode : (Cond.codeWith y bytes maxL ret hh).before args s = true) (hy : y.cls ≠ "java/lang/invoke/MethodHandle" ∧ y.cls ≠ "java/lang/invoke/VarHandle")
    {W9 : Nat} {Pre : Pt → Array Value → Prop} {Post : Pt → Array Value → Option Value → Pt → Prop} {PostX : Pt → Array Value → Addr → Pt → Prop} (hK : vx_Back l R p e below s args y 3 W9 Pre Post PostX)
    {b : Addr} {cellB : Cell} (hcell : T.heap[b]? = some cellB) (hobj : cellB.vm.isStatics = false) (hcls : s.vm.findClass C = some cellB.cls)
    {g : JFrame} (hg : g.method = m) (hsize : g.locals.size = c.maxLocals) {argsL rest : List Value} (hlen : ∀ sig, parseMethodDescriptor y.desc = some sig → argsL.length = sig.parameters.length)
    (hstack : g.stack = argsL.reverse ++ .ref b :: rest) (hW : 2 * g.monitorRoom + (rest.map fun v => v.category).sum ≤ W9) (hdg : decode c.code g.pc = .ok (.invokevirtual index, 3))
    (hpre : ∀ vm₁, s.WarmedH vm₁ → Pre ⟨T.setVm vm₁, locs, cells, slots⟩ (Value.ref b :: argsL).toArray) :
    (∃ (v : Option Value) (vm₁ : Vm) (B : Pt), s.WarmedH vm₁ ∧ Stand p l e R s m args below meth c B.U B.locs B.cells B.slots ∧ Post ⟨T.setVm vm₁, locs, cells, slots⟩ (Value.ref b :: argsL).toArray v B ∧
      ∀ target, Steps p.tables e below (B.U.setTop { g with pc := g.pc + 3, stack := v.toList ++ rest }) target → Steps p.tables e below (T.setTop g) target) ∨
    (∃ (q : Addr) (vm₁ : Vm) (B : Pt), s.WarmedH vm₁ ∧ Stand p l e R s m args below meth c B.U B.locs B.cells B.slots ∧ PostX ⟨T.setVm vm₁, locs, cells, slots⟩ (Value.ref b :: argsL).toArray q B ∧
      Steps p.tables e below (T.setTop g) ((B.U.setTop { g with stack := rest }).pushFrame (.throwing q))) := by
  obtain ⟨mk, methM, hnamed, hmethM, hstM, habM⟩ := Cond.instanceMethod_spec hinst
  obtain ⟨m8, methM', cM, hn8, hmethM', -, -, -, -, -, -, hsigM⟩ := Cond.codeWith_spec hcode
  cases Option.some.inj (hn8.symm.trans hnamed)
  cases hmethM.symm.trans hmethM'
  obtain ⟨c2, r2, m2, q1, q2, q3, q4, kP, hkP, hkPi⟩ := Cond.selects_spec hsel
  cases hcls.symm.trans q1
  cases (State.methodFound?_of_named hnamed hy).symm.trans q2
  cases hnamed.symm.trans q3
  have hselP : selectMethod e.platform s.vm cellB.cls mk = .method mk := by rw [Launch.admits_selectMethod X.admits]; exact q4
  obtain ⟨vm₁, X₁, hstep₁⟩ := X.invokevirtual hexec hown hlink hnamed hmethM hstM hkP hkPi hy (a := b) (cell := cellB) hcell
    (fun z h => by rw [h] at hobj; cases hobj) hselP hmethM habM hkP hkPi (g := g) hg (argsL := argsL) (rest := rest) (hlen _ hsigM) hstack hdg
  rcases hK m meth c ⟨T.setVm vm₁, locs, cells, slots⟩ { g with stack := rest } (.invokevirtual index) mk (Value.ref b :: argsL).toArray X₁ hg hsize hdg hW (X₁.named hnamed) (hpre vm₁ X₁.warmed) with ⟨v, B, X', hpost, hsteps⟩ | ⟨q, B, X', hpost, hsteps⟩
  · exact Or.inl ⟨v, vm₁, B, X₁.warmed, X', hpost, fun target h => hstep₁ _ fun acts => by rw [doInvoke_state]; exact hsteps.trans h⟩
  · exact Or.inr ⟨q, vm₁, B, X₁.warmed, X', hpost, hstep₁ _ fun acts => by rw [doInvoke_state]; exact hsteps⟩
theorem vx_callSX (X : Stand p l e R s m args below meth c T locs cells slots) (hexec : p.tables.exec = Jvm.exec) {own : String} {index : Nat} {y : MethodName} {bytes : ByteArray} {maxL : Nat} {ret : Option FieldType} {hh : List (Nat × Nat × Nat × Nat)}
    (hown : s.vm.findClass own = some m.cls) (hlink : (Cond.methodLink own index y).before args s = true) (hstat : (Cond.static y).before args s = true) (hinit : (Cond.initialized y.cls).before args s = true)
    (hcode : (Cond.codeWith y bytes maxL ret hh).before args s = true) (hy : y.cls ≠ "java/lang/invoke/MethodHandle" ∧ y.cls ≠ "java/lang/invoke/VarHandle")
    {W9 : Nat} {Pre : Pt → Array Value → Prop} {Post : Pt → Array Value → Option Value → Pt → Prop} {PostX : Pt → Array Value → Addr → Pt → Prop} (hK : vx_Back l R p e below s args y 3 W9 Pre Post PostX)
    {g : JFrame} (hg : g.method = m) (hsize : g.locals.size = c.maxLocals) {argsL rest : List Value} (hlen : ∀ sig, parseMethodDescriptor y.desc = some sig → argsL.length = sig.parameters.length)
    (hstack : g.stack = argsL.reverse ++ rest) (hW : 2 * g.monitorRoom + (rest.map fun v => v.category).sum ≤ W9) (hdg : decode c.code g.pc = .ok (.invokestatic index, 3))
    (hpre : ∀ vm₁, s.WarmedH vm₁ → Pre ⟨T.setVm vm₁, locs, cells, slots⟩ argsL.toArray) :
    (∃ (v : Option Value) (vm₁ : Vm) (B : Pt), s.WarmedH vm₁ ∧ Stand p l e R s m args below meth c B.U B.locs B.cells B.slots ∧ Post ⟨T.setVm vm₁, locs, cells, slots⟩ argsL.toArray v B ∧
      ∀ target, Steps p.tables e below (B.U.setTop { g with pc := g.pc + 3, stack := v.toList ++ rest }) target → Steps p.tables e below (T.setTop g) target) ∨
    (∃ (q : Addr) (vm₁ : Vm) (B : Pt), s.WarmedH vm₁ ∧ Stand p l e R s m args below meth c B.U B.locs B.cells B.slots ∧ PostX ⟨T.setVm vm₁, locs, cells, slots⟩ argsL.toArray q B ∧
      Steps p.tables e below (T.setTop g) ((B.U.setTop { g with stack := rest }).pushFrame (.throwing q))) := by
  obtain ⟨mk, methM, cM, hnamed, hmethM, -, -, -, -, -, -, hsigM⟩ := Cond.codeWith_spec hcode
  have hstatic : methM.isStatic = true := Cond.static_spec hnamed hmethM hstat
  obtain ⟨kP, hkP, -⟩ := className_of_methodNamed hnamed
  have hinitP : kP.init = .initialized := Cond.initialized_spec (findClass_of_methodNamed hnamed) hkP hinit
  obtain ⟨vm₁, X₁, hstep₁⟩ := X.invokestatic hexec hown hlink hnamed hmethM hstatic hkP hinitP hy (g := g) hg (argsL := argsL) (rest := rest) (hlen _ hsigM) hstack hdg
  rcases hK m meth c ⟨T.setVm vm₁, locs, cells, slots⟩ { g with stack := rest } (.invokestatic index) mk argsL.toArray X₁ hg hsize hdg hW (X₁.named hnamed) (hpre vm₁ X₁.warmed) with ⟨v, B, X', hpost, hsteps⟩ | ⟨q, B, X', hpost, hsteps⟩
  · exact Or.inl ⟨v, vm₁, B, X₁.warmed, X', hpost, fun target h => hstep₁ _ fun acts => by rw [doInvoke_state]; exact hsteps.trans h⟩
  · exact Or.inr ⟨q, vm₁, B, X₁.warmed, X', hpost, hstep₁ _ fun acts => by rw [doInvoke_state]; exact hsteps⟩
theorem vx_callVW (X : Stand p l e R s m args below meth c T locs cells slots) (hexec : p.tables.exec = Jvm.exec) {own C : String} {index : Nat} {y : MethodName} {bytes : ByteArray} {maxL : Nat} {ret : Option FieldType} {hh : List (Nat × Nat × Nat × Nat)}
    (hown : s.vm.findClass own = some m.cls) (hlink : (Cond.methodLink own index y).before args s = true) (hinst : (Cond.instanceMethod y).before args s = true) (hsel : (Cond.selects C y y).before args s = true)
    (hcode : (Cond.codeWith y bytes maxL ret hh).before args s = true) (hy : y.cls ≠ "java/lang/invoke/MethodHandle" ∧ y.cls ≠ "java/lang/invoke/VarHandle")
    {W9 : Nat} {Pre : Pt → Array Value → Prop} {Post : Pt → Array Value → Option Value → Pt → Prop} (hK : Back l R p e below s args y 3 W9 Pre Post)
    {b : Addr} {cellB : Cell} (hcell : T.heap[b]? = some cellB) (hobj : cellB.vm.isStatics = false) (hcls : s.vm.findClass C = some cellB.cls)
    {g : JFrame} (hg : g.method = m) (hsize : g.locals.size = c.maxLocals) {argsL rest : List Value} (hlen : ∀ sig, parseMethodDescriptor y.desc = some sig → argsL.length = sig.parameters.length)
    (hstack : g.stack = argsL.reverse ++ .ref b :: rest) (hW : 2 * g.monitorRoom + (rest.map fun v => v.category).sum ≤ W9) (hdg : decode c.code g.pc = .ok (.invokevirtual index, 3))
    (hpre : ∀ vm₁, s.WarmedH vm₁ → Pre ⟨T.setVm vm₁, locs, cells, slots⟩ (Value.ref b :: argsL).toArray) :
    ∃ (v : Option Value) (vm₁ : Vm) (B : Pt), s.WarmedH vm₁ ∧ Stand p l e R s m args below meth c B.U B.locs B.cells B.slots ∧ Post ⟨T.setVm vm₁, locs, cells, slots⟩ (Value.ref b :: argsL).toArray v B ∧
      ∀ target, Steps p.tables e below (B.U.setTop { g with pc := g.pc + 3, stack := v.toList ++ rest }) target → Steps p.tables e below (T.setTop g) target := by
  obtain ⟨mk, methM, hnamed, hmethM, hstM, habM⟩ := Cond.instanceMethod_spec hinst
  obtain ⟨m8, methM', cM, hn8, hmethM', -, -, -, -, -, -, hsigM⟩ := Cond.codeWith_spec hcode
  cases Option.some.inj (hn8.symm.trans hnamed)
  cases hmethM.symm.trans hmethM'
  obtain ⟨c2, r2, m2, q1, q2, q3, q4, kP, hkP, hkPi⟩ := Cond.selects_spec hsel
  cases hcls.symm.trans q1
  cases (State.methodFound?_of_named hnamed hy).symm.trans q2
  cases hnamed.symm.trans q3
  have hselP : selectMethod e.platform s.vm cellB.cls mk = .method mk := by rw [Launch.admits_selectMethod X.admits]; exact q4
  obtain ⟨vm₁, X₁, hstep₁⟩ := X.invokevirtual hexec hown hlink hnamed hmethM hstM hkP hkPi hy (a := b) (cell := cellB) hcell
    (fun z h => by rw [h] at hobj; cases hobj) hselP hmethM habM hkP hkPi (g := g) hg (argsL := argsL) (rest := rest) (hlen _ hsigM) hstack hdg
  obtain ⟨v, B, X', hpost, hsteps⟩ := hK m meth c ⟨T.setVm vm₁, locs, cells, slots⟩ { g with stack := rest } (.invokevirtual index) mk (Value.ref b :: argsL).toArray X₁ hg hsize hdg hW (X₁.named hnamed) (hpre vm₁ X₁.warmed)
  exact ⟨v, vm₁, B, X₁.warmed, X', hpost, fun target h => hstep₁ _ fun acts => by rw [doInvoke_state]; exact hsteps.trans h⟩
abbrev vx_CVW (R : Room) (s : State) (args : Array Value) (own C : String) (index : Nat) (y : MethodName) (bytes : ByteArray) (maxL : Nat) (ret : Option FieldType) (hh : List (Nat × Nat × Nat × Nat)) (ws : List Cond) (rm : Room) (mc ms n : Nat) : Prop :=
  (rm.cells = mc ∧ rm.slots = ms ∧ rm.frames + 1 ≤ R.frames ∧ 8 + (maxL + 11) + rm.locals ≤ R.locals ∧ (∀ w ∈ ws, ∀ (a' : Array Value) (U : State), s.WarmedH U.vm → w.before a' U = true) ∧ Cond.codeWith y bytes maxL ret hh ∈ ws) ∧
  (Cond.codeWith y bytes maxL ret hh).before args s = true ∧ (Cond.initialized y.cls).before args s = true ∧ (y.cls ≠ "java/lang/invoke/MethodHandle" ∧ y.cls ≠ "java/lang/invoke/VarHandle") ∧
  (∀ sig, parseMethodDescriptor y.desc = some sig → n = sig.parameters.length) ∧ (Cond.methodLink own index y).before args s = true ∧ (Cond.instanceMethod y).before args s = true ∧ (Cond.selects C y y).before args s = true
theorem vx_cwVW {own C : String} {index maxL mc ms : Nat} {y : MethodName} {bytes : ByteArray} {ret : Option FieldType} {hh : List (Nat × Nat × Nat × Nat)} {Ts ws ws' : List Cond} {rm : Room} (n : Nat) (ht : ∀ w ∈ Ts, w.before args s = true) (hT : GoodIn Ts (wsV own index C y ws)) (hw : ws = Cond.codeWith y bytes maxL ret hh :: ws') (hrc : rm.cells = mc) (hrs : rm.slots = ms)
    (hd : y.cls = C ∧ y.cls ≠ "java/lang/invoke/MethodHandle" ∧ y.cls ≠ "java/lang/invoke/VarHandle" ∧ (parseMethodDescriptor y.desc).map (fun d => d.parameters.length) = some n) (hR : rm.frames + 1 ≤ R.frames ∧ 8 + (maxL + 11) + rm.locals ≤ R.locals) :
    vx_CVW R s args own C index y bytes maxL ret hh ws rm mc ms n := by
  obtain ⟨hC, hd⟩ := hd
  subst hC
  have ok : ∀ w ∈ wsV own index y.cls y ws, w.before args s = true := fun w h => ht w (hT w h).1
  have hG : GoodIn Ts ws := fun w h => hT w (by unfold wsV; exact List.mem_append_right _ h)
  have hc : Cond.codeWith y bytes maxL ret hh ∈ ws := by rw [hw]; exact List.mem_cons_self
  refine ⟨⟨hrc, hrs, hR.1, hR.2, pay_in ht hG, hc⟩, ht _ (hG _ hc).1, ok _ (by simp [wsV]), ⟨hd.1, hd.2.1⟩, fun sig h => ?_, ok _ (by simp [wsV]), ok _ (by simp [wsV]), ok _ (by simp [wsV])⟩
  have h2 := hd.2.2
  rw [h] at h2
  exact (Option.some.inj h2).symm
theorem vx_runVW {y : MethodName} {bytes cc : ByteArray} {maxL nL mc ms n index : Nat} {ret : Option FieldType} {hh : List (Nat × Nat × Nat × Nat)} {ws : List Cond} {rm : Room} {Pc : Array Value → State → Prop} {Qc : Array Value → State → Outcome → State → Prop} {free : Addr → Prop} {Ts : List Cond} {own C : String} {b : Addr} {As rest : List Value} {g : JFrame}
    (S : CallFix p m c cc nL s args Ts own) (hM : Met l y ws rm Pc Qc mc ms free) (cw : vx_CVW R s args own C index y bytes maxL ret hh ws rm mc ms n) (hp : PreV s H C b Pc As)
    (hg : g.method = m) (hn : As.length = n) (hsize : g.locals.size = nL) (hstack : g.stack = As.reverse ++ .ref b :: rest) (hW : 2 * g.monitorRoom + (rest.map fun v => v.category).sum ≤ 8) (hdg : decode cc g.pc = .ok (.invokevirtual index, 3)) (hf : cells + mc ≤ R.cells ∧ slots + ms ≤ R.slots) :
    va_Run p l e R s m args below meth c H locs cells slots mc ms g rest (Qc (Value.ref b :: As).toArray) free := by
  obtain ⟨⟨hrc, hrs, hfr, hlo, hws, hcw⟩, hcode, hini, hy, hlen, hl, hin, hse⟩ := cw
  have hK : Back l R p e below s args y 3 8 (PreOf R mc ms Pc) (PostOf Qc mc ms free) := va_backW (hh := hh) (bytes := bytes) (maxL := maxL) (ret := ret) hM hp.1 hrc hrs hfr hlo hws hcw (fun a' U hW => word_at hW (Or.inl (by first | rfl | simp [Cond.onTables, Cond.keeps, Cond.steady])) hini)
  obtain ⟨hx, hb, hml, ho, -⟩ := S
  obtain ⟨-, ⟨cellB, hcB, hoB, hclB⟩, hPc⟩ := hp
  intro T hT X
  obtain ⟨v, vm₁, ⟨U', l2, c2, s2⟩, hW₁, X', ⟨g', mk, t, L, e1, e2, hq, h1, hL, h2, h3⟩, st⟩ := vx_callVW X hx (C := C) (hh := hh) (bytes := bytes) (maxL := maxL) (ret := ret) ho hl hin hse hcode hy hK (by rw [hT]; exact hcB) hoB hclB hg (hsize.trans hml.symm) (argsL := As) (rest := rest) (fun sig h => hn.trans (hlen sig h)) hstack hW (by rw [hb]; exact hdg)
    (fun vm₁ hW₁ => ⟨hf.1, hf.2, hPc (T.setVm vm₁) hT hW₁⟩)
  dsimp only [Pt.U, Pt.locs, Pt.cells, Pt.slots] at X' e1 e2 h1 h2 h3 st
  subst h1; subst h2; subst h3
  exact ⟨v, (T.setVm vm₁).calling g' mk (Value.ref b :: As).toArray, t, U', L, hT, X', hL, e1, e2, hq, st⟩
section
variable {y : MethodName} {bytes cc : ByteArray} {maxL nL mc ms n index : Nat} {ret : Option FieldType} {ws : List Cond} {rm : Room} {Pc : Array Value → State → Prop} {Qc : Array Value → State → Outcome → State → Prop} {XC : String → State → State → Prop} {free : Addr → Prop} {Ts : List Cond} {own C : String} {b : Addr} {As rest : List Value} {g : JFrame}
theorem vx_runVX {hh : List (Nat × Nat × Nat × Nat)} (S : CallFix p m c cc nL s args Ts own) (hM : vx_Met l y ws rm Pc Qc XC mc ms free) (cw : vx_CVW R s args own C index y bytes maxL ret hh ws rm mc ms n) (hp : PreV s H C b Pc As)
    (hg : g.method = m) (hn : As.length = n) (hsize : g.locals.size = nL) (hstack : g.stack = As.reverse ++ .ref b :: rest) (hW : 2 * g.monitorRoom + (rest.map fun v => v.category).sum ≤ 8) (hdg : decode cc g.pc = .ok (.invokevirtual index, 3)) (hf : cells + mc ≤ R.cells ∧ slots + ms ≤ R.slots) :
    vx_Run p l e R s m args below meth c H locs cells slots mc ms g rest (Qc (Value.ref b :: As).toArray) XC free := by
  obtain ⟨⟨hrc, hrs, hfr, hlo, hws, hcw⟩, hcode, hini, hy, hlen, hl, hin, hse⟩ := cw
  have hK : vx_Back l R p e below s args y 3 8 (PreOf R mc ms Pc) (PostOf Qc mc ms free) (vx_Post XC mc ms free) := vx_backW (hh := hh) (bytes := bytes) (maxL := maxL) (ret := ret) hM hp.1 hrc hrs hfr hlo hws hcw (fun a' U hW => word_at hW (Or.inl (by first | rfl | simp [Cond.onTables, Cond.keeps, Cond.steady])) hini)
  obtain ⟨hx, hb, hml, ho, -⟩ := S
  obtain ⟨-, ⟨cellB, hcB, hoB, hclB⟩, hPc⟩ := hp
  intro T hT X
  rcases vx_callVX X hx (C := C) (hh := hh) (bytes := bytes) (maxL := maxL) (ret := ret) ho hl hin hse hcode hy hK (by rw [hT]; exact hcB) hoB hclB hg (hsize.trans hml.symm) (argsL := As) (rest := rest) (fun sig h => hn.trans (hlen sig h)) hstack hW (by rw [hb]; exact hdg)
    (fun vm₁ hW₁ => ⟨hf.1, hf.2, hPc (T.setVm vm₁) hT hW₁⟩) with ⟨v, vm₁, ⟨U', l2, c2, s2⟩, hW₁, X', ⟨g', mk, t, L, e1, e2, hq, h1, hL, h2, h3⟩, st⟩ | ⟨q, vm₁, ⟨U', l2, c2, s2⟩, hW₁, X', ⟨g', mk, t, L, E, ce, e1, e2, hq, hce, hcv, hcl, h1, hL, h2, h3⟩, st⟩
  · dsimp only [Pt.U, Pt.locs, Pt.cells, Pt.slots] at X' e1 e2 h1 h2 h3 st
    subst h1; subst h2; subst h3
    exact Or.inl ⟨v, (T.setVm vm₁).calling g' mk (Value.ref b :: As).toArray, t, U', L, hT, X', hL, e1, e2, hq, st⟩
  · dsimp only [Pt.U, Pt.locs, Pt.cells, Pt.slots] at X' e1 e2 h1 h2 h3 st hcl
    subst h1; subst h2; subst h3
    exact Or.inr ⟨q, (T.setVm vm₁).calling g' mk (Value.ref b :: As).toArray, t, U', L, E, ce, hT, X', hL, e1, e2, hq, hce, hcv, vx_cls hW₁ hcl, st⟩
theorem vx_runSX {hh : List (Nat × Nat × Nat × Nat)} (S : CallFix p m c cc nL s args Ts own) (hM : vx_Met l y ws rm Pc Qc XC mc ms free) (cw : vx_CSW R s args own index y bytes maxL ret hh ws rm mc ms n) (hp : PreS s H Pc As)
    (hg : g.method = m) (hn : As.length = n) (hsize : g.locals.size = nL) (hstack : g.stack = As.reverse ++ rest) (hW : 2 * g.monitorRoom + (rest.map fun v => v.category).sum ≤ 8) (hdg : decode cc g.pc = .ok (.invokestatic index, 3)) (hf : cells + mc ≤ R.cells ∧ slots + ms ≤ R.slots) :
    vx_Run p l e R s m args below meth c H locs cells slots mc ms g rest (Qc As.toArray) XC free := by
  obtain ⟨⟨hrc, hrs, hfr, hlo, hws, hcw⟩, hcode, hini, hy, hlen, hl, hstt⟩ := cw
  have hK : vx_Back l R p e below s args y 3 8 (PreOf R mc ms Pc) (PostOf Qc mc ms free) (vx_Post XC mc ms free) := vx_backW (hh := hh) (bytes := bytes) (maxL := maxL) (ret := ret) hM hp.1 hrc hrs hfr hlo hws hcw (fun a' U hW => word_at hW (Or.inl (by first | rfl | simp [Cond.onTables, Cond.keeps, Cond.steady])) hini)
  obtain ⟨hx, hb, hml, ho, -⟩ := S
  intro T hT X
  rcases vx_callSX X hx (hh := hh) (bytes := bytes) (maxL := maxL) (ret := ret) ho hl hstt hini hcode hy hK hg (hsize.trans hml.symm) (argsL := As) (rest := rest) (fun sig h => hn.trans (hlen sig h)) hstack hW (by rw [hb]; exact hdg)
    (fun vm₁ hW₁ => ⟨hf.1, hf.2, hp.2 (T.setVm vm₁) hT hW₁⟩) with ⟨v, vm₁, ⟨U', l2, c2, s2⟩, hW₁, X', ⟨g', mk, t, L, e1, e2, hq, h1, hL, h2, h3⟩, st⟩ | ⟨q, vm₁, ⟨U', l2, c2, s2⟩, hW₁, X', ⟨g', mk, t, L, E, ce, e1, e2, hq, hce, hcv, hcl, h1, hL, h2, h3⟩, st⟩
  · dsimp only [Pt.U, Pt.locs, Pt.cells, Pt.slots] at X' e1 e2 h1 h2 h3 st
    subst h1; subst h2; subst h3
    exact Or.inl ⟨v, (T.setVm vm₁).calling g' mk As.toArray, t, U', L, hT, X', hL, e1, e2, hq, st⟩
  · dsimp only [Pt.U, Pt.locs, Pt.cells, Pt.slots] at X' e1 e2 h1 h2 h3 st hcl
    subst h1; subst h2; subst h3
    exact Or.inr ⟨q, (T.setVm vm₁).calling g' mk As.toArray, t, U', L, E, ce, hT, X', hL, e1, e2, hq, hce, hcv, vx_cls hW₁ hcl, st⟩
end
end VXH
theorem vx_ofWH {l : Launch} {y : MethodName} {ws ws' : List Cond} {rm : Room} {Pc : Array Value → State → Prop} {Qc : Array Value → State → Outcome → State → Prop} {XC : String → State → State → Prop} {mc ms : Nat} {free : Addr → Prop} {cc : ByteArray} {maxL : Nat} {ret : Option FieldType} {hh : List (Nat × Nat × Nat × Nat)}
    (hy : plainName y.cls = true) (hw : ws = Cond.codeWith y cc maxL ret hh :: ws')
    (body : ∀ p e s m args below meth c s₁, BodyLoose p l y (headSpec ws rm) cc maxL ret e s m args below meth c s₁ → c.maxLocals = maxL → Pc args s →
      W p l e (headSpec ws rm).room s m args below meth c s.heap [] 0 0 (vx_MQ below Qc XC args s mc ms free) (entryFrame m args maxL)) : vx_Met l y ws rm Pc Qc XC mc ms free := by
  refine MetFree.of_bodyS (code := cc) (maxLocals := maxL) (ret := ret) hy ?_ ?_
  · intro args s m h hn
    obtain ⟨m9, meth, c, hn9, h1, h2, h3, h4, -, h5, h6, -⟩ := Cond.codeWith_spec (atoms_spec (ws := ws) h _ (by rw [hw]; exact List.mem_cons_self))
    cases hn.symm.trans hn9
    exact ⟨meth, c, h1, h2, h3, h4, h5, h6⟩
  · intro p e s m args below meth c s₁ B hml hP _
    have hh0 : s₁.heap = s.heap := by rw [B.state]; rfl
    obtain ⟨t, a1, o, b1, b2, b3⟩ := body p e s m args below meth c s₁ B hml hP s₁ hh0 (Stand.of_body B)
    exact ⟨t, o, a1, b1, b2, b3⟩
/-! ===== END ===== -/
end
section

/-! ===== BEGIN printed: names, fields, word lists, decode rows ===== -/
def RX0 : String := "TwofrontArcade$Crew"
def TX0 : u_T := fun k => match k with
  | 0 => ("TwofrontArcade$Crew", "trade", "C", false)
  | _ => ("TwofrontArcade$Crew", "unit", "I", false)
def tyX0 : Nat → FieldType := fun k => match k with
  | 0 => .char
  | _ => .int
abbrev wsX00 : List Cond := u_ws RX0 TX0 2
theorem nmX0 : ∀ a, a < 2 → ∀ b, b < 2 → a ≠ b → (TX0 a).2.1 ≠ (TX0 b).2.1 := by decide +kernel
theorem tyX0_ok : ∀ k, k < 2 → parseFieldDescriptor (TX0 k).2.2.1 = some (tyX0 k) := by decide +kernel
abbrev cX0_init : ByteArray := prog_2_method_1_code
def yX0_init : MethodName := ⟨RX0, "<init>", "()V"⟩
def RX1 : String := "TwofrontArcade$Programme"
def TX1 : u_T := fun k => match k with
  | 0 => ("TwofrontArcade$Programme", "order", "[I", true)
  | 1 => ("TwofrontArcade$Programme", "starts", "[I", true)
  | 2 => ("TwofrontArcade$Programme", "ends", "[I", true)
  | 3 => ("TwofrontArcade$Programme", "bestStarts", "[I", true)
  | 4 => ("TwofrontArcade$Programme", "planned", "I", false)
  | 5 => ("TwofrontArcade$Programme", "put", "I", false)
  | 6 => ("TwofrontArcade$Programme", "days", "I", false)
  | _ => ("TwofrontArcade$Programme", "bestDays", "I", false)
def tyX1 : Nat → FieldType := fun k => match k with
  | 0 => .array .int
  | 1 => .array .int
  | 2 => .array .int
  | 3 => .array .int
  | 4 => .int
  | 5 => .int
  | 6 => .int
  | _ => .int
abbrev wsX10 : List Cond := u_ws RX1 TX1 8
theorem nmX1 : ∀ a, a < 8 → ∀ b, b < 8 → a ≠ b → (TX1 a).2.1 ≠ (TX1 b).2.1 := by decide +kernel
theorem tyX1_ok : ∀ k, k < 8 → parseFieldDescriptor (TX1 k).2.2.1 = some (tyX1 k) := by decide +kernel
abbrev cX1_init : ByteArray := prog_3_method_1_code
def yX1_init : MethodName := ⟨RX1, "<init>", "()V"⟩
abbrev cX1_seek : ByteArray := prog_3_method_2_code
def yX1_seek : MethodName := ⟨RX1, "seek", "([LTwofrontArcade$Unit;I)V"⟩
abbrev cX1_putWorksOn : ByteArray := prog_3_method_3_code
def yX1_putWorksOn : MethodName := ⟨RX1, "putWorksOn", "([LTwofrontArcade$Unit;I)V"⟩
abbrev cX1_putAt : ByteArray := prog_3_method_4_code
def yX1_putAt : MethodName := ⟨RX1, "putAt", "(III)V"⟩
abbrev cX1_putInOrder : ByteArray := prog_3_method_5_code
def yX1_putInOrder : MethodName := ⟨RX1, "putInOrder", "([LTwofrontArcade$Unit;I)Z"⟩
abbrev cX1_endOfRests : ByteArray := prog_3_method_6_code
def yX1_endOfRests : MethodName := ⟨RX1, "endOfRests", "([LTwofrontArcade$Unit;II)I"⟩
abbrev cX1_fitsAt : ByteArray := prog_3_method_7_code
def yX1_fitsAt : MethodName := ⟨RX1, "fitsAt", "([LTwofrontArcade$Unit;III)Z"⟩
abbrev cX1_onAt : ByteArray := prog_3_method_8_code
def yX1_onAt : MethodName := ⟨RX1, "onAt", "(II)I"⟩
abbrev cX1_nextEnd : ByteArray := prog_3_method_9_code
def yX1_nextEnd : MethodName := ⟨RX1, "nextEnd", "(II)I"⟩
abbrev cX1_isBetter : ByteArray := prog_3_method_10_code
def yX1_isBetter : MethodName := ⟨RX1, "isBetter", "([LTwofrontArcade$Unit;I)Z"⟩
abbrev cX1_keep : ByteArray := prog_3_method_11_code
def yX1_keep : MethodName := ⟨RX1, "keep", "()V"⟩
abbrev cX1_nextOrder : ByteArray := prog_3_method_12_code
def yX1_nextOrder : MethodName := ⟨RX1, "nextOrder", "()Z"⟩
abbrev cX1_swap : ByteArray := prog_3_method_13_code
def yX1_swap : MethodName := ⟨RX1, "swap", "(II)V"⟩
def RX2 : String := "TwofrontArcade$Shop"
def TX2 : u_T := fun k => match k with
  | 0 => ("TwofrontArcade$Shop", "losses", "[J", true)
  | 1 => ("TwofrontArcade$Shop", "home", "I", false)
  | 2 => ("TwofrontArcade$Shop", "unit", "I", false)
  | 3 => ("TwofrontArcade$Shop", "state", "C", false)
  | 4 => ("TwofrontArcade$Shop", "pull", "I", false)
  | 5 => ("TwofrontArcade$Shop", "people", "I", false)
  | 6 => ("TwofrontArcade$Shop", "isClean", "Z", false)
  | 7 => ("TwofrontArcade$Shop", "quietDays", "I", false)
  | 8 => ("TwofrontArcade$Shop", "lease", "I", false)
  | 9 => ("TwofrontArcade$Shop", "shutDays", "I", false)
  | 10 => ("TwofrontArcade$Shop", "isComing", "Z", false)
  | 11 => ("TwofrontArcade$Shop", "known", "I", false)
  | 12 => ("TwofrontArcade$Shop", "taken", "J", false)
  | _ => ("TwofrontArcade$Shop", "could", "J", false)
def tyX2 : Nat → FieldType := fun k => match k with
  | 0 => .array .long
  | 1 => .int
  | 2 => .int
  | 3 => .char
  | 4 => .int
  | 5 => .int
  | 6 => .boolean
  | 7 => .int
  | 8 => .int
  | 9 => .int
  | 10 => .boolean
  | 11 => .int
  | 12 => .long
  | _ => .long
abbrev wsX20 : List Cond := u_ws RX2 TX2 14
theorem nmX2 : ∀ a, a < 14 → ∀ b, b < 14 → a ≠ b → (TX2 a).2.1 ≠ (TX2 b).2.1 := by decide +kernel
theorem tyX2_ok : ∀ k, k < 14 → parseFieldDescriptor (TX2 k).2.2.1 = some (tyX2 k) := by decide +kernel
abbrev cX2_init : ByteArray := prog_4_method_1_code
def yX2_init : MethodName := ⟨RX2, "<init>", "()V"⟩
abbrev cX2_isOpen : ByteArray := prog_4_method_2_code
def yX2_isOpen : MethodName := ⟨RX2, "isOpen", "()Z"⟩
abbrev cX2_isShutToday : ByteArray := prog_4_method_3_code
def yX2_isShutToday : MethodName := ⟨RX2, "isShutToday", "()Z"⟩
abbrev cX2_place : ByteArray := prog_4_method_4_code
def yX2_place : MethodName := ⟨RX2, "place", "()I"⟩
abbrev cX2_isQuietOn : ByteArray := prog_4_method_5_code
def yX2_isQuietOn : MethodName := ⟨RX2, "isQuietOn", "(I)Z"⟩
abbrev cX2_shutDaysLeft : ByteArray := prog_4_method_6_code
def yX2_shutDaysLeft : MethodName := ⟨RX2, "shutDaysLeft", "()I"⟩
abbrev cX2_shutDaysWithin : ByteArray := prog_4_method_7_code
def yX2_shutDaysWithin : MethodName := ⟨RX2, "shutDaysWithin", "(I)I"⟩
abbrev cX2_comeTo : ByteArray := prog_4_method_8_code
def yX2_comeTo : MethodName := ⟨RX2, "comeTo", "(CI)V"⟩
abbrev cX2_shut : ByteArray := prog_4_method_9_code
def yX2_shut : MethodName := ⟨RX2, "shut", "()V"⟩
abbrev cX2_lossByWorks : ByteArray := prog_4_method_10_code
def yX2_lossByWorks : MethodName := ⟨RX2, "lossByWorks", "()J"⟩
def RX3 : String := "TwofrontArcade$Unit"
def TX3 : u_T := fun k => match k with
  | 0 => ("TwofrontArcade$Unit", "daysLost", "[I", true)
  | 1 => ("TwofrontArcade$Unit", "width", "I", false)
  | 2 => ("TwofrontArcade$Unit", "walls", "I", false)
  | 3 => ("TwofrontArcade$Unit", "work", "C", false)
  | 4 => ("TwofrontArcade$Unit", "daysLeft", "I", false)
  | 5 => ("TwofrontArcade$Unit", "restsOn", "I", false)
  | _ => ("TwofrontArcade$Unit", "noticeDay", "I", false)
def tyX3 : Nat → FieldType := fun k => match k with
  | 0 => .array .int
  | 1 => .int
  | 2 => .int
  | 3 => .char
  | 4 => .int
  | 5 => .int
  | _ => .int
abbrev wsX30 : List Cond := u_ws RX3 TX3 7
theorem nmX3 : ∀ a, a < 7 → ∀ b, b < 7 → a ≠ b → (TX3 a).2.1 ≠ (TX3 b).2.1 := by decide +kernel
theorem tyX3_ok : ∀ k, k < 7 → parseFieldDescriptor (TX3 k).2.2.1 = some (tyX3 k) := by decide +kernel
abbrev cX3_init : ByteArray := prog_5_method_1_code
def yX3_init : MethodName := ⟨RX3, "<init>", "()V"⟩
abbrev cX3_hasWork : ByteArray := prog_5_method_2_code
def yX3_hasWork : MethodName := ⟨RX3, "hasWork", "()Z"⟩
abbrev cX3_isPlanned : ByteArray := prog_5_method_3_code
def yX3_isPlanned : MethodName := ⟨RX3, "isPlanned", "()Z"⟩
abbrev cX3_isOn : ByteArray := prog_5_method_4_code
def yX3_isOn : MethodName := ⟨RX3, "isOn", "()Z"⟩
abbrev cX3_peopleAllowed : ByteArray := prog_5_method_5_code
def yX3_peopleAllowed : MethodName := ⟨RX3, "peopleAllowed", "()I"⟩
def RX4 : String := "TwofrontArcade"
def TX4 : u_T := fun k => match k with
  | 0 => ("TwofrontArcade", "units", "[LTwofrontArcade$Unit;", true)
  | 1 => ("TwofrontArcade", "shops", "[LTwofrontArcade$Shop;", true)
  | 2 => ("TwofrontArcade", "crews", "[LTwofrontArcade$Crew;", true)
  | 3 => ("TwofrontArcade", "peopleOn", "[I", true)
  | 4 => ("TwofrontArcade", "programme", "LTwofrontArcade$Programme;", true)
  | 5 => ("TwofrontArcade", "unitCount", "I", false)
  | 6 => ("TwofrontArcade", "shopCount", "I", false)
  | 7 => ("TwofrontArcade", "crewCount", "I", false)
  | 8 => ("TwofrontArcade", "today", "I", false)
  | _ => ("TwofrontArcade", "strikeDays", "I", false)
def tyX4 : Nat → FieldType := fun k => match k with
  | 0 => .array (.object "TwofrontArcade$Unit")
  | 1 => .array (.object "TwofrontArcade$Shop")
  | 2 => .array (.object "TwofrontArcade$Crew")
  | 3 => .array .int
  | 4 => .object "TwofrontArcade$Programme"
  | 5 => .int
  | 6 => .int
  | 7 => .int
  | 8 => .int
  | _ => .int
abbrev wsX40 : List Cond := u_ws RX4 TX4 10
theorem nmX4 : ∀ a, a < 10 → ∀ b, b < 10 → a ≠ b → (TX4 a).2.1 ≠ (TX4 b).2.1 := by decide +kernel
theorem tyX4_ok : ∀ k, k < 10 → parseFieldDescriptor (TX4 k).2.2.1 = some (tyX4 k) := by decide +kernel
abbrev cX4_init : ByteArray := prog_1_method_1_code
def yX4_init : MethodName := ⟨RX4, "<init>", "()V"⟩
abbrev cX4_addUnit : ByteArray := prog_1_method_2_code
def yX4_addUnit : MethodName := ⟨RX4, "addUnit", "(I)I"⟩
abbrev cX4_addWall : ByteArray := prog_1_method_3_code
def yX4_addWall : MethodName := ⟨RX4, "addWall", "(II)I"⟩
abbrev cX4_plan : ByteArray := prog_1_method_4_code
def yX4_plan : MethodName := ⟨RX4, "plan", "(II)I"⟩
abbrev cX4_rest : ByteArray := prog_1_method_5_code
def yX4_rest : MethodName := ⟨RX4, "rest", "(II)Z"⟩
abbrev cX4_notice : ByteArray := prog_1_method_6_code
def yX4_notice : MethodName := ⟨RX4, "notice", "(II)I"⟩
abbrev cX4_work : ByteArray := prog_1_method_7_code
def yX4_work : MethodName := ⟨RX4, "work", "(I)C"⟩
abbrev cX4_left : ByteArray := prog_1_method_8_code
def yX4_left : MethodName := ⟨RX4, "left", "(I)I"⟩
abbrev cX4_whyNot : ByteArray := prog_1_method_9_code
def yX4_whyNot : MethodName := ⟨RX4, "whyNot", "(I)C"⟩
abbrev cX4_begin : ByteArray := prog_1_method_10_code
def yX4_begin : MethodName := ⟨RX4, "begin", "(I)I"⟩
abbrev cX4_find : ByteArray := prog_1_method_11_code
def yX4_find : MethodName := ⟨RX4, "find", "(II)I"⟩
abbrev cX4_addShop : ByteArray := prog_1_method_12_code
def yX4_addShop : MethodName := ⟨RX4, "addShop", "(IIIZII)I"⟩
abbrev cX4_state : ByteArray := prog_1_method_13_code
def yX4_state : MethodName := ⟨RX4, "state", "(I)C"⟩
abbrev cX4_unitOf : ByteArray := prog_1_method_14_code
def yX4_unitOf : MethodName := ⟨RX4, "unitOf", "(I)I"⟩
abbrev cX4_homeOf : ByteArray := prog_1_method_15_code
def yX4_homeOf : MethodName := ⟨RX4, "homeOf", "(I)I"⟩
abbrev cX4_move : ByteArray := prog_1_method_16_code
def yX4_move : MethodName := ⟨RX4, "move", "(II)I"⟩
abbrev cX4_toStall : ByteArray := prog_1_method_17_code
def yX4_toStall : MethodName := ⟨RX4, "toStall", "(I)I"⟩
abbrev cX4_store : ByteArray := prog_1_method_18_code
def yX4_store : MethodName := ⟨RX4, "store", "(I)I"⟩
abbrev cX4_comes : ByteArray := prog_1_method_19_code
def yX4_comes : MethodName := ⟨RX4, "comes", "(I)Z"⟩
abbrev cX4_mayBeShut : ByteArray := prog_1_method_20_code
def yX4_mayBeShut : MethodName := ⟨RX4, "mayBeShut", "(I)I"⟩
abbrev cX4_seen : ByteArray := prog_1_method_21_code
def yX4_seen : MethodName := ⟨RX4, "seen", "(I)I"⟩
abbrev cX4_known : ByteArray := prog_1_method_22_code
def yX4_known : MethodName := ⟨RX4, "known", "(I)I"⟩
abbrev cX4_isDusty : ByteArray := prog_1_method_23_code
def yX4_isDusty : MethodName := ⟨RX4, "isDusty", "(I)Z"⟩
abbrev cX4_flow : ByteArray := prog_1_method_24_code
def yX4_flow : MethodName := ⟨RX4, "flow", "(I)I"⟩
abbrev cX4_room : ByteArray := prog_1_method_25_code
def yX4_room : MethodName := ⟨RX4, "room", "(I)I"⟩
abbrev cX4_areWide : ByteArray := prog_1_method_26_code
def yX4_areWide : MethodName := ⟨RX4, "areWide", "()Z"⟩
abbrev cX4_setPeople : ByteArray := prog_1_method_27_code
def yX4_setPeople : MethodName := ⟨RX4, "setPeople", "(II)I"⟩
abbrev cX4_pass : ByteArray := prog_1_method_28_code
def yX4_pass : MethodName := ⟨RX4, "pass", "(I)I"⟩
abbrev cX4_day : ByteArray := prog_1_method_29_code
def yX4_day : MethodName := ⟨RX4, "day", "()I"⟩
abbrev cX4_addCrew : ByteArray := prog_1_method_30_code
def yX4_addCrew : MethodName := ⟨RX4, "addCrew", "(C)I"⟩
abbrev cX4_send : ByteArray := prog_1_method_31_code
def yX4_send : MethodName := ⟨RX4, "send", "(II)I"⟩
abbrev cX4_canWork : ByteArray := prog_1_method_32_code
def yX4_canWork : MethodName := ⟨RX4, "canWork", "(I)Z"⟩
abbrev cX4_strike : ByteArray := prog_1_method_33_code
def yX4_strike : MethodName := ⟨RX4, "strike", "(I)I"⟩
abbrev cX4_lostDays : ByteArray := prog_1_method_34_code
def yX4_lostDays : MethodName := ⟨RX4, "lostDays", "(IC)I"⟩
abbrev cX4_shortest : ByteArray := prog_1_method_35_code
def yX4_shortest : MethodName := ⟨RX4, "shortest", "()I"⟩
abbrev cX4_startIn : ByteArray := prog_1_method_36_code
def yX4_startIn : MethodName := ⟨RX4, "startIn", "(I)I"⟩
abbrev cX4_took : ByteArray := prog_1_method_37_code
def yX4_took : MethodName := ⟨RX4, "took", "(I)J"⟩
abbrev cX4_lost : ByteArray := prog_1_method_38_code
def yX4_lost : MethodName := ⟨RX4, "lost", "(IC)J"⟩
abbrev cX4_rent : ByteArray := prog_1_method_39_code
def yX4_rent : MethodName := ⟨RX4, "rent", "(I)J"⟩
abbrev cX4_fund : ByteArray := prog_1_method_40_code
def yX4_fund : MethodName := ⟨RX4, "fund", "()J"⟩
abbrev cX4_checksum : ByteArray := prog_1_method_41_code
def yX4_checksum : MethodName := ⟨RX4, "checksum", "()J"⟩
abbrev cX4_openShare : ByteArray := prog_1_method_42_code
def yX4_openShare : MethodName := ⟨RX4, "openShare", "()F"⟩
abbrev cX4_meanTaken : ByteArray := prog_1_method_43_code
def yX4_meanTaken : MethodName := ⟨RX4, "meanTaken", "()D"⟩
abbrev cX4_isSound : ByteArray := prog_1_method_44_code
def yX4_isSound : MethodName := ⟨RX4, "isSound", "()Z"⟩
abbrev cX4_needRange : ByteArray := prog_1_method_45_code
def yX4_needRange : MethodName := ⟨RX4, "needRange", "(III)V"⟩
abbrev cX4_needUnit : ByteArray := prog_1_method_46_code
def yX4_needUnit : MethodName := ⟨RX4, "needUnit", "(I)V"⟩
abbrev cX4_needShop : ByteArray := prog_1_method_47_code
def yX4_needShop : MethodName := ⟨RX4, "needShop", "(I)V"⟩
abbrev cX4_needCrew : ByteArray := prog_1_method_48_code
def yX4_needCrew : MethodName := ⟨RX4, "needCrew", "(I)V"⟩
abbrev cX4_needWork : ByteArray := prog_1_method_49_code
def yX4_needWork : MethodName := ⟨RX4, "needWork", "(I)V"⟩
abbrev cX4_needShutDay : ByteArray := prog_1_method_50_code
def yX4_needShutDay : MethodName := ⟨RX4, "needShutDay", "(I)V"⟩
abbrev cX4_needFewPlanned : ByteArray := prog_1_method_51_code
def yX4_needFewPlanned : MethodName := ⟨RX4, "needFewPlanned", "()V"⟩
abbrev cX4_needAShop : ByteArray := prog_1_method_52_code
def yX4_needAShop : MethodName := ⟨RX4, "needAShop", "()V"⟩
abbrev cX4_bit : ByteArray := prog_1_method_53_code
def yX4_bit : MethodName := ⟨RX4, "bit", "(I)I"⟩
abbrev cX4_hasBit : ByteArray := prog_1_method_54_code
def yX4_hasBit : MethodName := ⟨RX4, "hasBit", "(II)Z"⟩
abbrev cX4_unitsWithWork : ByteArray := prog_1_method_55_code
def yX4_unitsWithWork : MethodName := ⟨RX4, "unitsWithWork", "(C)I"⟩
abbrev cX4_haveWall : ByteArray := prog_1_method_56_code
def yX4_haveWall : MethodName := ⟨RX4, "haveWall", "(II)Z"⟩
abbrev cX4_allRestsOf : ByteArray := prog_1_method_57_code
def yX4_allRestsOf : MethodName := ⟨RX4, "allRestsOf", "(I)I"⟩
abbrev cX4_hindrance : ByteArray := prog_1_method_58_code
def yX4_hindrance : MethodName := ⟨RX4, "hindrance", "(I)C"⟩
abbrev cX4_dayCause : ByteArray := prog_1_method_59_code
def yX4_dayCause : MethodName := ⟨RX4, "dayCause", "(C)I"⟩
abbrev cX4_shopsIn : ByteArray := prog_1_method_60_code
def yX4_shopsIn : MethodName := ⟨RX4, "shopsIn", "(I)I"⟩
abbrev cX4_isFree : ByteArray := prog_1_method_61_code
def yX4_isFree : MethodName := ⟨RX4, "isFree", "(I)Z"⟩
abbrev cX4_freeStalls : ByteArray := prog_1_method_62_code
def yX4_freeStalls : MethodName := ⟨RX4, "freeStalls", "()I"⟩
abbrev cX4_hundredthsSeenAt : ByteArray := prog_1_method_63_code
def yX4_hundredthsSeenAt : MethodName := ⟨RX4, "hundredthsSeenAt", "(I)I"⟩
abbrev cX4_hasDust : ByteArray := prog_1_method_64_code
def yX4_hasDust : MethodName := ⟨RX4, "hasDust", "(LTwofrontArcade$Shop;)Z"⟩
abbrev cX4_lossCause : ByteArray := prog_1_method_65_code
def yX4_lossCause : MethodName := ⟨RX4, "lossCause", "(C)I"⟩
abbrev cX4_isOnWayFrom : ByteArray := prog_1_method_66_code
def yX4_isOnWayFrom : MethodName := ⟨RX4, "isOnWayFrom", "(II)Z"⟩
abbrev cX4_peoplePast : ByteArray := prog_1_method_67_code
def yX4_peoplePast : MethodName := ⟨RX4, "peoplePast", "(II)I"⟩
abbrev cX4_canGoOutFrom : ByteArray := prog_1_method_68_code
def yX4_canGoOutFrom : MethodName := ⟨RX4, "canGoOutFrom", "(III)Z"⟩
abbrev cX4_isWideWithHoardingAt : ByteArray := prog_1_method_69_code
def yX4_isWideWithHoardingAt : MethodName := ⟨RX4, "isWideWithHoardingAt", "(I)Z"⟩
abbrev cX4_passOneDay : ByteArray := prog_1_method_70_code
def yX4_passOneDay : MethodName := ⟨RX4, "passOneDay", "()V"⟩
abbrev cX4_weekdayNow : ByteArray := prog_1_method_71_code
def yX4_weekdayNow : MethodName := ⟨RX4, "weekdayNow", "()I"⟩
abbrev cX4_trade : ByteArray := prog_1_method_72_code
def yX4_trade : MethodName := ⟨RX4, "trade", "(LTwofrontArcade$Shop;)V"⟩
abbrev cX4_letCrewsWork : ByteArray := prog_1_method_73_code
def yX4_letCrewsWork : MethodName := ⟨RX4, "letCrewsWork", "()V"⟩
abbrev cX4_endWorks : ByteArray := prog_1_method_74_code
def yX4_endWorks : MethodName := ⟨RX4, "endWorks", "()V"⟩
abbrev cX4_isAtWork : ByteArray := prog_1_method_75_code
def yX4_isAtWork : MethodName := ⟨RX4, "isAtWork", "(LTwofrontArcade$Crew;)Z"⟩
abbrev cX4_doesADay : ByteArray := prog_1_method_76_code
def yX4_doesADay : MethodName := ⟨RX4, "doesADay", "(I)Z"⟩
abbrev cX4_isQuietBeside : ByteArray := prog_1_method_77_code
def yX4_isQuietBeside : MethodName := ⟨RX4, "isQuietBeside", "(I)Z"⟩
abbrev cX4_isHotBelow : ByteArray := prog_1_method_78_code
def yX4_isHotBelow : MethodName := ⟨RX4, "isHotBelow", "(I)Z"⟩
abbrev cX4_causeOfIdleDay : ByteArray := prog_1_method_79_code
def yX4_causeOfIdleDay : MethodName := ⟨RX4, "causeOfIdleDay", "(I)I"⟩
abbrev cX4_areWorksSound : ByteArray := prog_1_method_80_code
def yX4_areWorksSound : MethodName := ⟨RX4, "areWorksSound", "()Z"⟩
abbrev cX4_areUnitsSound : ByteArray := prog_1_method_81_code
def yX4_areUnitsSound : MethodName := ⟨RX4, "areUnitsSound", "()Z"⟩
abbrev cX4_areShopsSound : ByteArray := prog_1_method_82_code
def yX4_areShopsSound : MethodName := ⟨RX4, "areShopsSound", "()Z"⟩
def RX5 : String := "TwofrontArcadeModel$Crew"
def TX5 : u_T := fun k => match k with
  | 0 => ("TwofrontArcadeModel$Crew", "trade", "C", true)
  | _ => ("TwofrontArcadeModel$Crew", "unit", "I", false)
def tyX5 : Nat → FieldType := fun k => match k with
  | 0 => .char
  | _ => .int
abbrev wsX50 : List Cond := u_ws RX5 TX5 2
theorem nmX5 : ∀ a, a < 2 → ∀ b, b < 2 → a ≠ b → (TX5 a).2.1 ≠ (TX5 b).2.1 := by decide +kernel
theorem tyX5_ok : ∀ k, k < 2 → parseFieldDescriptor (TX5 k).2.2.1 = some (tyX5 k) := by decide +kernel
abbrev cX5_init : ByteArray := prog_8_method_1_code
def yX5_init : MethodName := ⟨RX5, "<init>", "(C)V"⟩
def RX6 : String := "TwofrontArcadeModel$Shop"
def TX6 : u_T := fun k => match k with
  | 0 => ("TwofrontArcadeModel$Shop", "home", "I", true)
  | 1 => ("TwofrontArcadeModel$Shop", "pull", "I", true)
  | 2 => ("TwofrontArcadeModel$Shop", "people", "I", true)
  | 3 => ("TwofrontArcadeModel$Shop", "isClean", "Z", true)
  | 4 => ("TwofrontArcadeModel$Shop", "quiet", "I", true)
  | 5 => ("TwofrontArcadeModel$Shop", "unit", "I", false)
  | 6 => ("TwofrontArcadeModel$Shop", "state", "C", false)
  | 7 => ("TwofrontArcadeModel$Shop", "days", "I", false)
  | 8 => ("TwofrontArcadeModel$Shop", "comes", "Z", false)
  | 9 => ("TwofrontArcadeModel$Shop", "known", "I", false)
  | 10 => ("TwofrontArcadeModel$Shop", "took", "J", false)
  | _ => ("TwofrontArcadeModel$Shop", "lost", "[J", true)
def tyX6 : Nat → FieldType := fun k => match k with
  | 0 => .int
  | 1 => .int
  | 2 => .int
  | 3 => .boolean
  | 4 => .int
  | 5 => .int
  | 6 => .char
  | 7 => .int
  | 8 => .boolean
  | 9 => .int
  | 10 => .long
  | _ => .array .long
abbrev wsX60 : List Cond := u_ws RX6 TX6 12
theorem nmX6 : ∀ a, a < 12 → ∀ b, b < 12 → a ≠ b → (TX6 a).2.1 ≠ (TX6 b).2.1 := by decide +kernel
theorem tyX6_ok : ∀ k, k < 12 → parseFieldDescriptor (TX6 k).2.2.1 = some (tyX6 k) := by decide +kernel
abbrev cX6_init : ByteArray := prog_9_method_1_code
def yX6_init : MethodName := ⟨RX6, "<init>", "(IIIZII)V"⟩
abbrev cX6_place : ByteArray := prog_9_method_2_code
def yX6_place : MethodName := ⟨RX6, "place", "()I"⟩
def RX7 : String := "TwofrontArcadeModel$Unit"
def TX7 : u_T := fun k => match k with
  | 0 => ("TwofrontArcadeModel$Unit", "width", "I", true)
  | 1 => ("TwofrontArcadeModel$Unit", "walls", "[Z", true)
  | 2 => ("TwofrontArcadeModel$Unit", "rests", "[Z", true)
  | 3 => ("TwofrontArcadeModel$Unit", "work", "C", false)
  | 4 => ("TwofrontArcadeModel$Unit", "left", "I", false)
  | 5 => ("TwofrontArcadeModel$Unit", "notice", "I", false)
  | _ => ("TwofrontArcadeModel$Unit", "lost", "[I", true)
def tyX7 : Nat → FieldType := fun k => match k with
  | 0 => .int
  | 1 => .array .boolean
  | 2 => .array .boolean
  | 3 => .char
  | 4 => .int
  | 5 => .int
  | _ => .array .int
abbrev wsX70 : List Cond := u_ws RX7 TX7 7
theorem nmX7 : ∀ a, a < 7 → ∀ b, b < 7 → a ≠ b → (TX7 a).2.1 ≠ (TX7 b).2.1 := by decide +kernel
theorem tyX7_ok : ∀ k, k < 7 → parseFieldDescriptor (TX7 k).2.2.1 = some (tyX7 k) := by decide +kernel
abbrev cX7_init : ByteArray := prog_10_method_1_code
def yX7_init : MethodName := ⟨RX7, "<init>", "(I)V"⟩
def RX8 : String := "TwofrontArcadeModel"
def TX8 : u_T := fun k => match k with
  | 0 => ("TwofrontArcadeModel", "thrown", "I", false)
  | 1 => ("TwofrontArcadeModel", "units", "Ljava/util/ArrayList;", true)
  | 2 => ("TwofrontArcadeModel", "shops", "Ljava/util/ArrayList;", true)
  | 3 => ("TwofrontArcadeModel", "crews", "Ljava/util/ArrayList;", true)
  | 4 => ("TwofrontArcadeModel", "people", "[I", true)
  | 5 => ("TwofrontArcadeModel", "day", "I", false)
  | 6 => ("TwofrontArcadeModel", "strikeTo", "I", false)
  | 7 => ("TwofrontArcadeModel", "best", "I", false)
  | _ => ("TwofrontArcadeModel", "bestStarts", "[I", false)
def tyX8 : Nat → FieldType := fun k => match k with
  | 0 => .int
  | 1 => .object "java/util/ArrayList"
  | 2 => .object "java/util/ArrayList"
  | 3 => .object "java/util/ArrayList"
  | 4 => .array .int
  | 5 => .int
  | 6 => .int
  | 7 => .int
  | _ => .array .int
abbrev wsX80 : List Cond := u_ws RX8 TX8 9
theorem nmX8 : ∀ a, a < 9 → ∀ b, b < 9 → a ≠ b → (TX8 a).2.1 ≠ (TX8 b).2.1 := by decide +kernel
theorem tyX8_ok : ∀ k, k < 9 → parseFieldDescriptor (TX8 k).2.2.1 = some (tyX8 k) := by decide +kernel
abbrev cX8_in : ByteArray := prog_7_method_1_code
def yX8_in : MethodName := ⟨RX8, "in", "(JJJ)Z"⟩
abbrev cX8_init : ByteArray := prog_7_method_2_code
def yX8_init : MethodName := ⟨RX8, "<init>", "()V"⟩
abbrev cX8_thrown : ByteArray := prog_7_method_3_code
def yX8_thrown : MethodName := ⟨RX8, "thrown", "()I"⟩
abbrev cX8_isUnit : ByteArray := prog_7_method_4_code
def yX8_isUnit : MethodName := ⟨RX8, "isUnit", "(I)Z"⟩
abbrev cX8_noUnit : ByteArray := prog_7_method_5_code
def yX8_noUnit : MethodName := ⟨RX8, "noUnit", "(I)Z"⟩
abbrev cX8_noShop : ByteArray := prog_7_method_6_code
def yX8_noShop : MethodName := ⟨RX8, "noShop", "(I)Z"⟩
abbrev cX8_addUnit : ByteArray := prog_7_method_7_code
def yX8_addUnit : MethodName := ⟨RX8, "addUnit", "(I)I"⟩
abbrev cX8_isOn : ByteArray := prog_7_method_8_code
def yX8_isOn : MethodName := ⟨RX8, "isOn", "(I)Z"⟩
abbrev cX8_addWall : ByteArray := prog_7_method_9_code
def yX8_addWall : MethodName := ⟨RX8, "addWall", "(II)I"⟩
abbrev cX8_plan : ByteArray := prog_7_method_10_code
def yX8_plan : MethodName := ⟨RX8, "plan", "(II)I"⟩
abbrev cX8_restsOn : ByteArray := prog_7_method_11_code
def yX8_restsOn : MethodName := ⟨RX8, "restsOn", "(II)Z"⟩
abbrev cX8_rest : ByteArray := prog_7_method_12_code
def yX8_rest : MethodName := ⟨RX8, "rest", "(II)Z"⟩
abbrev cX8_notice : ByteArray := prog_7_method_13_code
def yX8_notice : MethodName := ⟨RX8, "notice", "(II)I"⟩
abbrev cX8_noWork : ByteArray := prog_7_method_14_code
def yX8_noWork : MethodName := ⟨RX8, "noWork", "(I)Z"⟩
abbrev cX8_work : ByteArray := prog_7_method_15_code
def yX8_work : MethodName := ⟨RX8, "work", "(I)C"⟩
abbrev cX8_left : ByteArray := prog_7_method_16_code
def yX8_left : MethodName := ⟨RX8, "left", "(I)I"⟩
abbrev cX8_shopIn : ByteArray := prog_7_method_17_code
def yX8_shopIn : MethodName := ⟨RX8, "shopIn", "(I)I"⟩
abbrev cX8_barOf : ByteArray := prog_7_method_18_code
def yX8_barOf : MethodName := ⟨RX8, "barOf", "(I)C"⟩
abbrev cX8_whyNot : ByteArray := prog_7_method_19_code
def yX8_whyNot : MethodName := ⟨RX8, "whyNot", "(I)C"⟩
abbrev cX8_begin : ByteArray := prog_7_method_20_code
def yX8_begin : MethodName := ⟨RX8, "begin", "(I)I"⟩
abbrev cX8_find : ByteArray := prog_7_method_21_code
def yX8_find : MethodName := ⟨RX8, "find", "(II)I"⟩
abbrev cX8_passes : ByteArray := prog_7_method_22_code
def yX8_passes : MethodName := ⟨RX8, "passes", "(II)Z"⟩
abbrev cX8_flowAt : ByteArray := prog_7_method_23_code
def yX8_flowAt : MethodName := ⟨RX8, "flowAt", "(III)I"⟩
abbrev cX8_roomAt : ByteArray := prog_7_method_24_code
def yX8_roomAt : MethodName := ⟨RX8, "roomAt", "(II)I"⟩
abbrev cX8_fits : ByteArray := prog_7_method_25_code
def yX8_fits : MethodName := ⟨RX8, "fits", "(III)Z"⟩
abbrev cX8_flow : ByteArray := prog_7_method_26_code
def yX8_flow : MethodName := ⟨RX8, "flow", "(I)I"⟩
abbrev cX8_room : ByteArray := prog_7_method_27_code
def yX8_room : MethodName := ⟨RX8, "room", "(I)I"⟩
abbrev cX8_areWide : ByteArray := prog_7_method_28_code
def yX8_areWide : MethodName := ⟨RX8, "areWide", "()Z"⟩
abbrev cX8_addShop : ByteArray := prog_7_method_29_code
def yX8_addShop : MethodName := ⟨RX8, "addShop", "(IIIZII)I"⟩
abbrev cX8_state : ByteArray := prog_7_method_30_code
def yX8_state : MethodName := ⟨RX8, "state", "(I)C"⟩
abbrev cX8_unitOf : ByteArray := prog_7_method_31_code
def yX8_unitOf : MethodName := ⟨RX8, "unitOf", "(I)I"⟩
abbrev cX8_homeOf : ByteArray := prog_7_method_32_code
def yX8_homeOf : MethodName := ⟨RX8, "homeOf", "(I)I"⟩
abbrev cX8_comesIn : ByteArray := prog_7_method_33_code
def yX8_comesIn : MethodName := ⟨RX8, "comesIn", "(LTwofrontArcadeModel$Shop;CI)V"⟩
abbrev cX8_move : ByteArray := prog_7_method_34_code
def yX8_move : MethodName := ⟨RX8, "move", "(II)I"⟩
abbrev cX8_free : ByteArray := prog_7_method_35_code
def yX8_free : MethodName := ⟨RX8, "free", "()I"⟩
abbrev cX8_toStall : ByteArray := prog_7_method_36_code
def yX8_toStall : MethodName := ⟨RX8, "toStall", "(I)I"⟩
abbrev cX8_store : ByteArray := prog_7_method_37_code
def yX8_store : MethodName := ⟨RX8, "store", "(I)I"⟩
abbrev cX8_comes : ByteArray := prog_7_method_38_code
def yX8_comes : MethodName := ⟨RX8, "comes", "(I)Z"⟩
abbrev cX8_mayBeShut : ByteArray := prog_7_method_39_code
def yX8_mayBeShut : MethodName := ⟨RX8, "mayBeShut", "(I)I"⟩
abbrev cX8_seenOf : ByteArray := prog_7_method_40_code
def yX8_seenOf : MethodName := ⟨RX8, "seenOf", "(LTwofrontArcadeModel$Shop;)I"⟩
abbrev cX8_seen : ByteArray := prog_7_method_41_code
def yX8_seen : MethodName := ⟨RX8, "seen", "(I)I"⟩
abbrev cX8_known : ByteArray := prog_7_method_42_code
def yX8_known : MethodName := ⟨RX8, "known", "(I)I"⟩
abbrev cX8_isStrike : ByteArray := prog_7_method_43_code
def yX8_isStrike : MethodName := ⟨RX8, "isStrike", "()Z"⟩
abbrev cX8_dustAt : ByteArray := prog_7_method_44_code
def yX8_dustAt : MethodName := ⟨RX8, "dustAt", "(LTwofrontArcadeModel$Shop;)Z"⟩
abbrev cX8_isDusty : ByteArray := prog_7_method_45_code
def yX8_isDusty : MethodName := ⟨RX8, "isDusty", "(I)Z"⟩
abbrev cX8_setPeople : ByteArray := prog_7_method_46_code
def yX8_setPeople : MethodName := ⟨RX8, "setPeople", "(II)I"⟩
abbrev cX8_trades : ByteArray := prog_7_method_47_code
def yX8_trades : MethodName := ⟨RX8, "trades", "(LTwofrontArcadeModel$Shop;)V"⟩
abbrev cX8_isHushed : ByteArray := prog_7_method_48_code
def yX8_isHushed : MethodName := ⟨RX8, "isHushed", "(LTwofrontArcadeModel$Crew;)Z"⟩
abbrev cX8_works : ByteArray := prog_7_method_49_code
def yX8_works : MethodName := ⟨RX8, "works", "(I)Z"⟩
abbrev cX8_goesOn : ByteArray := prog_7_method_50_code
def yX8_goesOn : MethodName := ⟨RX8, "goesOn", "()V"⟩
abbrev cX8_pass : ByteArray := prog_7_method_51_code
def yX8_pass : MethodName := ⟨RX8, "pass", "(I)I"⟩
abbrev cX8_day : ByteArray := prog_7_method_52_code
def yX8_day : MethodName := ⟨RX8, "day", "()I"⟩
abbrev cX8_addCrew : ByteArray := prog_7_method_53_code
def yX8_addCrew : MethodName := ⟨RX8, "addCrew", "(C)I"⟩
abbrev cX8_send : ByteArray := prog_7_method_54_code
def yX8_send : MethodName := ⟨RX8, "send", "(II)I"⟩
abbrev cX8_canWork : ByteArray := prog_7_method_55_code
def yX8_canWork : MethodName := ⟨RX8, "canWork", "(I)Z"⟩
abbrev cX8_strike : ByteArray := prog_7_method_56_code
def yX8_strike : MethodName := ⟨RX8, "strike", "(I)I"⟩
abbrev cX8_lostDays : ByteArray := prog_7_method_57_code
def yX8_lostDays : MethodName := ⟨RX8, "lostDays", "(IC)I"⟩
abbrev cX8_goes : ByteArray := prog_7_method_58_code
def yX8_goes : MethodName := ⟨RX8, "goes", "(I[I[I)V"⟩
abbrev cX8_startsThen : ByteArray := prog_7_method_59_code
def yX8_startsThen : MethodName := ⟨RX8, "startsThen", "(I[I[III)V"⟩
abbrev cX8_canStart : ByteArray := prog_7_method_60_code
def yX8_canStart : MethodName := ⟨RX8, "canStart", "(II[I[I)Z"⟩
abbrev cX8_takes : ByteArray := prog_7_method_61_code
def yX8_takes : MethodName := ⟨RX8, "takes", "(I[I[I)V"⟩
abbrev cX8_noProgramme : ByteArray := prog_7_method_62_code
def yX8_noProgramme : MethodName := ⟨RX8, "noProgramme", "()Z"⟩
abbrev cX8_programmes : ByteArray := prog_7_method_63_code
def yX8_programmes : MethodName := ⟨RX8, "programmes", "()V"⟩
abbrev cX8_shortest : ByteArray := prog_7_method_64_code
def yX8_shortest : MethodName := ⟨RX8, "shortest", "()I"⟩
abbrev cX8_startIn : ByteArray := prog_7_method_65_code
def yX8_startIn : MethodName := ⟨RX8, "startIn", "(I)I"⟩
abbrev cX8_took : ByteArray := prog_7_method_66_code
def yX8_took : MethodName := ⟨RX8, "took", "(I)J"⟩
abbrev cX8_lost : ByteArray := prog_7_method_67_code
def yX8_lost : MethodName := ⟨RX8, "lost", "(IC)J"⟩
abbrev cX8_rent : ByteArray := prog_7_method_68_code
def yX8_rent : MethodName := ⟨RX8, "rent", "(I)J"⟩
abbrev cX8_fund : ByteArray := prog_7_method_69_code
def yX8_fund : MethodName := ⟨RX8, "fund", "()J"⟩
abbrev cX8_checksum : ByteArray := prog_7_method_70_code
def yX8_checksum : MethodName := ⟨RX8, "checksum", "()J"⟩
abbrev cX8_openShare : ByteArray := prog_7_method_71_code
def yX8_openShare : MethodName := ⟨RX8, "openShare", "()F"⟩
abbrev cX8_meanTaken : ByteArray := prog_7_method_72_code
def yX8_meanTaken : MethodName := ⟨RX8, "meanTaken", "()D"⟩
abbrev cX8_isSound : ByteArray := prog_7_method_73_code
def yX8_isSound : MethodName := ⟨RX8, "isSound", "()Z"⟩
def RJx145de : String := "java/io/Serializable"
def TJx145de : u_T := fun k => match k with
  | _ => ("", "", "", false)
def tyJx145de : Nat → FieldType := fun k => match k with
  | _ => .int
abbrev wsJx145de0 : List Cond := u_ws RJx145de TJx145de 0
theorem nmJx145de : ∀ a, a < 0 → ∀ b, b < 0 → a ≠ b → (TJx145de a).2.1 ≠ (TJx145de b).2.1 := by decide +kernel
theorem tyJx145de_ok : ∀ k, k < 0 → parseFieldDescriptor (TJx145de k).2.2.1 = some (tyJx145de k) := by decide +kernel
def RJx9f9b0 : String := "java/lang/CharSequence"
def TJx9f9b0 : u_T := fun k => match k with
  | _ => ("", "", "", false)
def tyJx9f9b0 : Nat → FieldType := fun k => match k with
  | _ => .int
abbrev wsJx9f9b00 : List Cond := u_ws RJx9f9b0 TJx9f9b0 0
theorem nmJx9f9b0 : ∀ a, a < 0 → ∀ b, b < 0 → a ≠ b → (TJx9f9b0 a).2.1 ≠ (TJx9f9b0 b).2.1 := by decide +kernel
theorem tyJx9f9b0_ok : ∀ k, k < 0 → parseFieldDescriptor (TJx9f9b0 k).2.2.1 = some (tyJx9f9b0 k) := by decide +kernel
def RJ11 : String := "java/lang/Character"
def TJ11 : u_T := fun k => match k with
  | _ => ("", "", "", false)
def tyJ11 : Nat → FieldType := fun k => match k with
  | _ => .int
abbrev wsJ110 : List Cond := u_ws RJ11 TJ11 0
theorem nmJ11 : ∀ a, a < 0 → ∀ b, b < 0 → a ≠ b → (TJ11 a).2.1 ≠ (TJ11 b).2.1 := by decide +kernel
theorem tyJ11_ok : ∀ k, k < 0 → parseFieldDescriptor (TJ11 k).2.2.1 = some (tyJ11 k) := by decide +kernel
abbrev cJ11_isValidCodePoint_9a6ad : ByteArray := prog_13_method_11_code
def yJ11_isValidCodePoint_9a6ad : MethodName := ⟨RJ11, "isValidCodePoint", "(I)Z"⟩
abbrev cJ11_highSurrogate_5068e : ByteArray := prog_13_method_28_code
def yJ11_highSurrogate_5068e : MethodName := ⟨RJ11, "highSurrogate", "(I)C"⟩
abbrev cJ11_lowSurrogate_5068e : ByteArray := prog_13_method_29_code
def yJ11_lowSurrogate_5068e : MethodName := ⟨RJ11, "lowSurrogate", "(I)C"⟩
def RJx8e188 : String := "java/lang/Cloneable"
def TJx8e188 : u_T := fun k => match k with
  | _ => ("", "", "", false)
def tyJx8e188 : Nat → FieldType := fun k => match k with
  | _ => .int
abbrev wsJx8e1880 : List Cond := u_ws RJx8e188 TJx8e188 0
theorem nmJx8e188 : ∀ a, a < 0 → ∀ b, b < 0 → a ≠ b → (TJx8e188 a).2.1 ≠ (TJx8e188 b).2.1 := by decide +kernel
theorem tyJx8e188_ok : ∀ k, k < 0 → parseFieldDescriptor (TJx8e188 k).2.2.1 = some (tyJx8e188 k) := by decide +kernel
def RJxb160c : String := "java/lang/Comparable"
def TJxb160c : u_T := fun k => match k with
  | _ => ("", "", "", false)
def tyJxb160c : Nat → FieldType := fun k => match k with
  | _ => .int
abbrev wsJxb160c0 : List Cond := u_ws RJxb160c TJxb160c 0
theorem nmJxb160c : ∀ a, a < 0 → ∀ b, b < 0 → a ≠ b → (TJxb160c a).2.1 ≠ (TJxb160c b).2.1 := by decide +kernel
theorem tyJxb160c_ok : ∀ k, k < 0 → parseFieldDescriptor (TJxb160c k).2.2.1 = some (tyJxb160c k) := by decide +kernel
def RJ6 : String := "java/lang/Integer"
def TJ6 : u_T := fun k => match k with
  | _ => ("", "", "", false)
def tyJ6 : Nat → FieldType := fun k => match k with
  | _ => .int
abbrev wsJ60 : List Cond := u_ws RJ6 TJ6 0
theorem nmJ6 : ∀ a, a < 0 → ∀ b, b < 0 → a ≠ b → (TJ6 a).2.1 ≠ (TJ6 b).2.1 := by decide +kernel
theorem tyJ6_ok : ∀ k, k < 0 → parseFieldDescriptor (TJ6 k).2.2.1 = some (tyJ6 k) := by decide +kernel
abbrev cJ6_bitCount_0f7a4 : ByteArray := prog_20_method_49_code
def yJ6_bitCount_0f7a4 : MethodName := ⟨RJ6, "bitCount", "(I)I"⟩
def RJxab1ab : String := "java/lang/Iterable"
def TJxab1ab : u_T := fun k => match k with
  | _ => ("", "", "", false)
def tyJxab1ab : Nat → FieldType := fun k => match k with
  | _ => .int
abbrev wsJxab1ab0 : List Cond := u_ws RJxab1ab TJxab1ab 0
theorem nmJxab1ab : ∀ a, a < 0 → ∀ b, b < 0 → a ≠ b → (TJxab1ab a).2.1 ≠ (TJxab1ab b).2.1 := by decide +kernel
theorem tyJxab1ab_ok : ∀ k, k < 0 → parseFieldDescriptor (TJxab1ab k).2.2.1 = some (tyJxab1ab k) := by decide +kernel
def RJ9 : String := "java/lang/Math"
def TJ9 : u_T := fun k => match k with
  | _ => ("", "", "", false)
def tyJ9 : Nat → FieldType := fun k => match k with
  | _ => .int
abbrev wsJ90 : List Cond := u_ws RJ9 TJ9 0
theorem nmJ9 : ∀ a, a < 0 → ∀ b, b < 0 → a ≠ b → (TJ9 a).2.1 ≠ (TJ9 b).2.1 := by decide +kernel
theorem tyJ9_ok : ∀ k, k < 0 → parseFieldDescriptor (TJ9 k).2.2.1 = some (tyJ9 k) := by decide +kernel
abbrev cJ9_abs_0f7a4 : ByteArray := prog_22_method_59_code
def yJ9_abs_0f7a4 : MethodName := ⟨RJ9, "abs", "(I)I"⟩
abbrev cJ9_max_7cf53 : ByteArray := prog_22_method_65_code
def yJ9_max_7cf53 : MethodName := ⟨RJ9, "max", "(II)I"⟩
abbrev cJ9_min_7cf53 : ByteArray := prog_22_method_69_code
def yJ9_min_7cf53 : MethodName := ⟨RJ9, "min", "(II)I"⟩
def RJ0 : String := "java/lang/String"
def TJ0 : u_T := fun k => match k with
  | _ => ("", "", "", false)
def tyJ0 : Nat → FieldType := fun k => match k with
  | _ => .int
abbrev wsJ00 : List Cond := u_ws RJ0 TJ0 0
theorem nmJ0 : ∀ a, a < 0 → ∀ b, b < 0 → a ≠ b → (TJ0 a).2.1 ≠ (TJ0 b).2.1 := by decide +kernel
theorem tyJ0_ok : ∀ k, k < 0 → parseFieldDescriptor (TJ0 k).2.2.1 = some (tyJ0 k) := by decide +kernel
abbrev cJ0_length_8abf5 : ByteArray := prog_24_method_54_code
def yJ0_length_8abf5 : MethodName := ⟨RJ0, "length", "()I"⟩
abbrev cJ0_indexOf_0f7a4 : ByteArray := prog_24_method_79_code
def yJ0_indexOf_0f7a4 : MethodName := ⟨RJ0, "indexOf", "(I)I"⟩
abbrev cJ0_indexOf_7cf53 : ByteArray := prog_24_method_80_code
def yJ0_indexOf_7cf53 : MethodName := ⟨RJ0, "indexOf", "(II)I"⟩
abbrev cJ0_coder_7d493 : ByteArray := prog_24_method_152_code
def yJ0_coder_7d493 : MethodName := ⟨RJ0, "coder", "()B"⟩
abbrev cJ0_isLatin1_aae02 : ByteArray := prog_24_method_154_code
def yJ0_isLatin1_aae02 : MethodName := ⟨RJ0, "isLatin1", "()Z"⟩
abbrev cJ0_checkBoundsBeginEnd_23922 : ByteArray := prog_24_method_158_code
def yJ0_checkBoundsBeginEnd_23922 : MethodName := ⟨RJ0, "checkBoundsBeginEnd", "(III)V"⟩
def RJ1 : String := "java/lang/StringLatin1"
def TJ1 : u_T := fun k => match k with
  | _ => ("", "", "", false)
def tyJ1 : Nat → FieldType := fun k => match k with
  | _ => .int
abbrev wsJ10 : List Cond := u_ws RJ1 TJ1 0
theorem nmJ1 : ∀ a, a < 0 → ∀ b, b < 0 → a ≠ b → (TJ1 a).2.1 ≠ (TJ1 b).2.1 := by decide +kernel
theorem tyJ1_ok : ∀ k, k < 0 → parseFieldDescriptor (TJ1 k).2.2.1 = some (tyJ1 k) := by decide +kernel
abbrev cJ1_canEncode_9a6ad : ByteArray := prog_25_method_4_code
def yJ1_canEncode_9a6ad : MethodName := ⟨RJ1, "canEncode", "(I)Z"⟩
abbrev cJ1_indexOf_4cfef : ByteArray := prog_25_method_22_code
def yJ1_indexOf_4cfef : MethodName := ⟨RJ1, "indexOf", "([BIII)I"⟩
abbrev cJ1_indexOfChar_4cfef : ByteArray := prog_25_method_23_code
def yJ1_indexOfChar_4cfef : MethodName := ⟨RJ1, "indexOfChar", "([BIII)I"⟩
def RJ2 : String := "java/lang/StringUTF16"
def TJ2 : u_T := fun k => match k with
  | _ => ("", "", "", false)
def tyJ2 : Nat → FieldType := fun k => match k with
  | _ => .int
abbrev wsJ20 : List Cond := u_ws RJ2 TJ2 0
theorem nmJ2 : ∀ a, a < 0 → ∀ b, b < 0 → a ≠ b → (TJ2 a).2.1 ≠ (TJ2 b).2.1 := by decide +kernel
theorem tyJ2_ok : ∀ k, k < 0 → parseFieldDescriptor (TJ2 k).2.2.1 = some (tyJ2 k) := by decide +kernel
abbrev cJ2_getChar_3b067 : ByteArray := prog_26_method_5_code
def yJ2_getChar_3b067 : MethodName := ⟨RJ2, "getChar", "([BI)C"⟩
abbrev cJ2_length_9d52b : ByteArray := prog_26_method_6_code
def yJ2_length_9d52b : MethodName := ⟨RJ2, "length", "([B)I"⟩
abbrev cJ2_indexOf_4cfef : ByteArray := prog_26_method_40_code
def yJ2_indexOf_4cfef : MethodName := ⟨RJ2, "indexOf", "([BIII)I"⟩
abbrev cJ2_indexOfChar_4cfef : ByteArray := prog_26_method_47_code
def yJ2_indexOfChar_4cfef : MethodName := ⟨RJ2, "indexOfChar", "([BIII)I"⟩
abbrev cJ2_indexOfCharUnsafe_4cfef : ByteArray := prog_26_method_48_code
def yJ2_indexOfCharUnsafe_4cfef : MethodName := ⟨RJ2, "indexOfCharUnsafe", "([BIII)I"⟩
abbrev cJ2_indexOfSupplementary_4cfef : ByteArray := prog_26_method_49_code
def yJ2_indexOfSupplementary_4cfef : MethodName := ⟨RJ2, "indexOfSupplementary", "([BIII)I"⟩
abbrev cJ2_checkBoundsBeginEnd_d044e : ByteArray := prog_26_method_93_code
def yJ2_checkBoundsBeginEnd_d044e : MethodName := ⟨RJ2, "checkBoundsBeginEnd", "(II[B)V"⟩
def RJ10 : String := "java/lang/System"
def TJ10 : u_T := fun k => match k with
  | _ => ("", "", "", false)
def tyJ10 : Nat → FieldType := fun k => match k with
  | _ => .int
abbrev wsJ100 : List Cond := u_ws RJ10 TJ10 0
theorem nmJ10 : ∀ a, a < 0 → ∀ b, b < 0 → a ≠ b → (TJ10 a).2.1 ≠ (TJ10 b).2.1 := by decide +kernel
theorem tyJ10_ok : ∀ k, k < 0 → parseFieldDescriptor (TJ10 k).2.2.1 = some (tyJ10 k) := by decide +kernel
def RJxfd54e : String := "java/lang/constant/Constable"
def TJxfd54e : u_T := fun k => match k with
  | _ => ("", "", "", false)
def tyJxfd54e : Nat → FieldType := fun k => match k with
  | _ => .int
abbrev wsJxfd54e0 : List Cond := u_ws RJxfd54e TJxfd54e 0
theorem nmJxfd54e : ∀ a, a < 0 → ∀ b, b < 0 → a ≠ b → (TJxfd54e a).2.1 ≠ (TJxfd54e b).2.1 := by decide +kernel
theorem tyJxfd54e_ok : ∀ k, k < 0 → parseFieldDescriptor (TJxfd54e k).2.2.1 = some (tyJxfd54e k) := by decide +kernel
def RJx3cf43 : String := "java/lang/constant/ConstantDesc"
def TJx3cf43 : u_T := fun k => match k with
  | _ => ("", "", "", false)
def tyJx3cf43 : Nat → FieldType := fun k => match k with
  | _ => .int
abbrev wsJx3cf430 : List Cond := u_ws RJx3cf43 TJx3cf43 0
theorem nmJx3cf43 : ∀ a, a < 0 → ∀ b, b < 0 → a ≠ b → (TJx3cf43 a).2.1 ≠ (TJx3cf43 b).2.1 := by decide +kernel
theorem tyJx3cf43_ok : ∀ k, k < 0 → parseFieldDescriptor (TJx3cf43 k).2.2.1 = some (tyJx3cf43 k) := by decide +kernel
def RJxa1e45 : String := "java/util/AbstractCollection"
def TJxa1e45 : u_T := fun k => match k with
  | _ => ("", "", "", false)
def tyJxa1e45 : Nat → FieldType := fun k => match k with
  | _ => .int
abbrev wsJxa1e450 : List Cond := u_ws RJxa1e45 TJxa1e45 0
theorem nmJxa1e45 : ∀ a, a < 0 → ∀ b, b < 0 → a ≠ b → (TJxa1e45 a).2.1 ≠ (TJxa1e45 b).2.1 := by decide +kernel
theorem tyJxa1e45_ok : ∀ k, k < 0 → parseFieldDescriptor (TJxa1e45 k).2.2.1 = some (tyJxa1e45 k) := by decide +kernel
abbrev cJxa1e45_init_da8c8 : ByteArray := prog_32_method_1_code
def yJxa1e45_init_da8c8 : MethodName := ⟨RJxa1e45, "<init>", "()V"⟩
def RJxc12de : String := "java/util/AbstractList"
def TJxc12de : u_T := fun k => match k with
  | _ => ("", "", "", false)
def tyJxc12de : Nat → FieldType := fun k => match k with
  | _ => .int
abbrev wsJxc12de0 : List Cond := u_ws RJxc12de TJxc12de 0
theorem nmJxc12de : ∀ a, a < 0 → ∀ b, b < 0 → a ≠ b → (TJxc12de a).2.1 ≠ (TJxc12de b).2.1 := by decide +kernel
theorem tyJxc12de_ok : ∀ k, k < 0 → parseFieldDescriptor (TJxc12de k).2.2.1 = some (tyJxc12de k) := by decide +kernel
abbrev cJxc12de_init_da8c8 : ByteArray := prog_33_method_1_code
def yJxc12de_init_da8c8 : MethodName := ⟨RJxc12de, "<init>", "()V"⟩
def RJx35411 : String := "java/util/ArrayList$Itr"
def TJx35411 : u_T := fun k => match k with
  | 0 => ("java/util/ArrayList$Itr", "cursor", "I", false)
  | 1 => ("java/util/ArrayList$Itr", "lastRet", "I", false)
  | 2 => ("java/util/ArrayList$Itr", "expectedModCount", "I", false)
  | _ => ("java/util/ArrayList$Itr", "this$0", "Ljava/util/ArrayList;", true)
def tyJx35411 : Nat → FieldType := fun k => match k with
  | 0 => .int
  | 1 => .int
  | 2 => .int
  | _ => .object "java/util/ArrayList"
abbrev wsJx354110 : List Cond := u_ws RJx35411 TJx35411 4
theorem nmJx35411 : ∀ a, a < 4 → ∀ b, b < 4 → a ≠ b → (TJx35411 a).2.1 ≠ (TJx35411 b).2.1 := by decide +kernel
theorem tyJx35411_ok : ∀ k, k < 4 → parseFieldDescriptor (TJx35411 k).2.2.1 = some (tyJx35411 k) := by decide +kernel
abbrev cJx35411_init_45d68 : ByteArray := prog_35_method_1_code
def yJx35411_init_45d68 : MethodName := ⟨RJx35411, "<init>", "(Ljava/util/ArrayList;)V"⟩
abbrev cJx35411_hasNext_aae02 : ByteArray := prog_35_method_2_code
def yJx35411_hasNext_aae02 : MethodName := ⟨RJx35411, "hasNext", "()Z"⟩
abbrev cJx35411_next_0502b : ByteArray := prog_35_method_3_code
def yJx35411_next_0502b : MethodName := ⟨RJx35411, "next", "()Ljava/lang/Object;"⟩
abbrev cJx35411_checkForComodification_da8c8 : ByteArray := prog_35_method_6_code
def yJx35411_checkForComodification_da8c8 : MethodName := ⟨RJx35411, "checkForComodification", "()V"⟩
def RJx4a65c : String := "java/util/ArrayList"
def TJx4a65c : u_T := fun k => match k with
  | 0 => ("java/util/AbstractList", "modCount", "I", false)
  | 1 => ("java/util/ArrayList", "elementData", "[Ljava/lang/Object;", false)
  | _ => ("java/util/ArrayList", "size", "I", false)
def tyJx4a65c : Nat → FieldType := fun k => match k with
  | 0 => .int
  | 1 => .array (.object "java/lang/Object")
  | _ => .int
abbrev wsJx4a65c0 : List Cond := u_ws RJx4a65c TJx4a65c 3
theorem nmJx4a65c : ∀ a, a < 3 → ∀ b, b < 3 → a ≠ b → (TJx4a65c a).2.1 ≠ (TJx4a65c b).2.1 := by decide +kernel
theorem tyJx4a65c_ok : ∀ k, k < 3 → parseFieldDescriptor (TJx4a65c k).2.2.1 = some (tyJx4a65c k) := by decide +kernel
abbrev cJx4a65c_init_da8c8 : ByteArray := prog_34_method_2_code
def yJx4a65c_init_da8c8 : MethodName := ⟨RJx4a65c, "<init>", "()V"⟩
abbrev cJx4a65c_grow_92f84 : ByteArray := prog_34_method_6_code
def yJx4a65c_grow_92f84 : MethodName := ⟨RJx4a65c, "grow", "(I)[Ljava/lang/Object;"⟩
abbrev cJx4a65c_grow_d5877 : ByteArray := prog_34_method_7_code
def yJx4a65c_grow_d5877 : MethodName := ⟨RJx4a65c, "grow", "()[Ljava/lang/Object;"⟩
abbrev cJx4a65c_size_8abf5 : ByteArray := prog_34_method_8_code
def yJx4a65c_size_8abf5 : MethodName := ⟨RJx4a65c, "size", "()I"⟩
abbrev cJx4a65c_isEmpty_aae02 : ByteArray := prog_34_method_9_code
def yJx4a65c_isEmpty_aae02 : MethodName := ⟨RJx4a65c, "isEmpty", "()Z"⟩
abbrev cJx4a65c_elementData_915e3 : ByteArray := prog_34_method_18_code
def yJx4a65c_elementData_915e3 : MethodName := ⟨RJx4a65c, "elementData", "(I)Ljava/lang/Object;"⟩
abbrev cJx4a65c_get_915e3 : ByteArray := prog_34_method_20_code
def yJx4a65c_get_915e3 : MethodName := ⟨RJx4a65c, "get", "(I)Ljava/lang/Object;"⟩
abbrev cJx4a65c_add_72be8 : ByteArray := prog_34_method_24_code
def yJx4a65c_add_72be8 : MethodName := ⟨RJx4a65c, "add", "(Ljava/lang/Object;[Ljava/lang/Object;I)V"⟩
abbrev cJx4a65c_add_9ea2d : ByteArray := prog_34_method_25_code
def yJx4a65c_add_9ea2d : MethodName := ⟨RJx4a65c, "add", "(Ljava/lang/Object;)Z"⟩
abbrev cJx4a65c_remove_915e3 : ByteArray := prog_34_method_29_code
def yJx4a65c_remove_915e3 : MethodName := ⟨RJx4a65c, "remove", "(I)Ljava/lang/Object;"⟩
abbrev cJx4a65c_fastRemove_b59b0 : ByteArray := prog_34_method_39_code
def yJx4a65c_fastRemove_b59b0 : MethodName := ⟨RJx4a65c, "fastRemove", "([Ljava/lang/Object;I)V"⟩
abbrev cJx4a65c_iterator_32c93 : ByteArray := prog_34_method_55_code
def yJx4a65c_iterator_32c93 : MethodName := ⟨RJx4a65c, "iterator", "()Ljava/util/Iterator;"⟩
def RJ7 : String := "java/util/Arrays"
def TJ7 : u_T := fun k => match k with
  | _ => ("", "", "", false)
def tyJ7 : Nat → FieldType := fun k => match k with
  | _ => .int
abbrev wsJ70 : List Cond := u_ws RJ7 TJ7 0
theorem nmJ7 : ∀ a, a < 0 → ∀ b, b < 0 → a ≠ b → (TJ7 a).2.1 ≠ (TJ7 b).2.1 := by decide +kernel
theorem tyJ7_ok : ∀ k, k < 0 → parseFieldDescriptor (TJ7 k).2.2.1 = some (tyJ7 k) := by decide +kernel
abbrev cJ7_copyOf_1904c : ByteArray := prog_36_method_119_code
def yJ7_copyOf_1904c : MethodName := ⟨RJ7, "copyOf", "([Ljava/lang/Object;I)[Ljava/lang/Object;"⟩
abbrev cJ7_copyOf_6403c : ByteArray := prog_36_method_120_code
def yJ7_copyOf_6403c : MethodName := ⟨RJ7, "copyOf", "([Ljava/lang/Object;ILjava/lang/Class;)[Ljava/lang/Object;"⟩
def RJx5ef63 : String := "java/util/Collection"
def TJx5ef63 : u_T := fun k => match k with
  | _ => ("", "", "", false)
def tyJx5ef63 : Nat → FieldType := fun k => match k with
  | _ => .int
abbrev wsJx5ef630 : List Cond := u_ws RJx5ef63 TJx5ef63 0
theorem nmJx5ef63 : ∀ a, a < 0 → ∀ b, b < 0 → a ≠ b → (TJx5ef63 a).2.1 ≠ (TJx5ef63 b).2.1 := by decide +kernel
theorem tyJx5ef63_ok : ∀ k, k < 0 → parseFieldDescriptor (TJx5ef63 k).2.2.1 = some (tyJx5ef63 k) := by decide +kernel
def RJx4d0d8 : String := "java/util/Iterator"
def TJx4d0d8 : u_T := fun k => match k with
  | _ => ("", "", "", false)
def tyJx4d0d8 : Nat → FieldType := fun k => match k with
  | _ => .int
abbrev wsJx4d0d80 : List Cond := u_ws RJx4d0d8 TJx4d0d8 0
theorem nmJx4d0d8 : ∀ a, a < 0 → ∀ b, b < 0 → a ≠ b → (TJx4d0d8 a).2.1 ≠ (TJx4d0d8 b).2.1 := by decide +kernel
theorem tyJx4d0d8_ok : ∀ k, k < 0 → parseFieldDescriptor (TJx4d0d8 k).2.2.1 = some (tyJx4d0d8 k) := by decide +kernel
def RJxbd725 : String := "java/util/List"
def TJxbd725 : u_T := fun k => match k with
  | _ => ("", "", "", false)
def tyJxbd725 : Nat → FieldType := fun k => match k with
  | _ => .int
abbrev wsJxbd7250 : List Cond := u_ws RJxbd725 TJxbd725 0
theorem nmJxbd725 : ∀ a, a < 0 → ∀ b, b < 0 → a ≠ b → (TJxbd725 a).2.1 ≠ (TJxbd725 b).2.1 := by decide +kernel
theorem tyJxbd725_ok : ∀ k, k < 0 → parseFieldDescriptor (TJxbd725 k).2.2.1 = some (tyJxbd725 k) := by decide +kernel
def RJ15 : String := "java/util/Objects"
def TJ15 : u_T := fun k => match k with
  | _ => ("", "", "", false)
def tyJ15 : Nat → FieldType := fun k => match k with
  | _ => .int
abbrev wsJ150 : List Cond := u_ws RJ15 TJ15 0
theorem nmJ15 : ∀ a, a < 0 → ∀ b, b < 0 → a ≠ b → (TJ15 a).2.1 ≠ (TJ15 b).2.1 := by decide +kernel
theorem tyJ15_ok : ∀ k, k < 0 → parseFieldDescriptor (TJ15 k).2.2.1 = some (tyJ15 k) := by decide +kernel
abbrev cJ15_checkIndex_7cf53 : ByteArray := prog_41_method_17_code
def yJ15_checkIndex_7cf53 : MethodName := ⟨RJ15, "checkIndex", "(II)I"⟩
def RJxf0a74 : String := "java/util/RandomAccess"
def TJxf0a74 : u_T := fun k => match k with
  | _ => ("", "", "", false)
def tyJxf0a74 : Nat → FieldType := fun k => match k with
  | _ => .int
abbrev wsJxf0a740 : List Cond := u_ws RJxf0a74 TJxf0a74 0
theorem nmJxf0a74 : ∀ a, a < 0 → ∀ b, b < 0 → a ≠ b → (TJxf0a74 a).2.1 ≠ (TJxf0a74 b).2.1 := by decide +kernel
theorem tyJxf0a74_ok : ∀ k, k < 0 → parseFieldDescriptor (TJxf0a74 k).2.2.1 = some (tyJxf0a74 k) := by decide +kernel
def RJxa66e6 : String := "java/util/SequencedCollection"
def TJxa66e6 : u_T := fun k => match k with
  | _ => ("", "", "", false)
def tyJxa66e6 : Nat → FieldType := fun k => match k with
  | _ => .int
abbrev wsJxa66e60 : List Cond := u_ws RJxa66e6 TJxa66e6 0
theorem nmJxa66e6 : ∀ a, a < 0 → ∀ b, b < 0 → a ≠ b → (TJxa66e6 a).2.1 ≠ (TJxa66e6 b).2.1 := by decide +kernel
theorem tyJxa66e6_ok : ∀ k, k < 0 → parseFieldDescriptor (TJxa66e6 k).2.2.1 = some (tyJxa66e6 k) := by decide +kernel
def RJ8 : String := "jdk/internal/util/ArraysSupport"
def TJ8 : u_T := fun k => match k with
  | _ => ("", "", "", false)
def tyJ8 : Nat → FieldType := fun k => match k with
  | _ => .int
abbrev wsJ80 : List Cond := u_ws RJ8 TJ8 0
theorem nmJ8 : ∀ a, a < 0 → ∀ b, b < 0 → a ≠ b → (TJ8 a).2.1 ≠ (TJ8 b).2.1 := by decide +kernel
theorem tyJ8_ok : ∀ k, k < 0 → parseFieldDescriptor (TJ8 k).2.2.1 = some (tyJ8 k) := by decide +kernel
abbrev cJ8_newLength_cabcc : ByteArray := prog_44_method_27_code
def yJ8_newLength_cabcc : MethodName := ⟨RJ8, "newLength", "(III)I"⟩
abbrev cJ8_hugeLength_7cf53 : ByteArray := prog_44_method_28_code
def yJ8_hugeLength_7cf53 : MethodName := ⟨RJ8, "hugeLength", "(II)I"⟩
def RJ3 : String := "jdk/internal/util/Preconditions"
def TJ3 : u_T := fun k => match k with
  | _ => ("", "", "", false)
def tyJ3 : Nat → FieldType := fun k => match k with
  | _ => .int
abbrev wsJ30 : List Cond := u_ws RJ3 TJ3 0
theorem nmJ3 : ∀ a, a < 0 → ∀ b, b < 0 → a ≠ b → (TJ3 a).2.1 ≠ (TJ3 b).2.1 := by decide +kernel
theorem tyJ3_ok : ∀ k, k < 0 → parseFieldDescriptor (TJ3 k).2.2.1 = some (tyJ3 k) := by decide +kernel
abbrev cJ3_checkIndex_8e157 : ByteArray := prog_45_method_11_code
def yJ3_checkIndex_8e157 : MethodName := ⟨RJ3, "checkIndex", "(IILjava/util/function/BiFunction;)I"⟩
abbrev cJ3_checkFromToIndex_8c36e : ByteArray := prog_45_method_12_code
def yJ3_checkFromToIndex_8c36e : MethodName := ⟨RJ3, "checkFromToIndex", "(IIILjava/util/function/BiFunction;)I"⟩
def RL : String := "TwofrontArcadeLaw"
abbrev cL_addUnit : ByteArray := method_3_code
def yL_addUnit : MethodName := ⟨RL, "addUnit", "(LTwofrontArcade;I[J)I"⟩
abbrev cL_addWall : ByteArray := method_4_code
def yL_addWall : MethodName := ⟨RL, "addWall", "(LTwofrontArcade;II[J)I"⟩
abbrev cL_plan : ByteArray := method_5_code
def yL_plan : MethodName := ⟨RL, "plan", "(LTwofrontArcade;II[J)I"⟩
abbrev cL_rest : ByteArray := method_6_code
def yL_rest : MethodName := ⟨RL, "rest", "(LTwofrontArcade;II[J)I"⟩
abbrev cL_notice : ByteArray := method_7_code
def yL_notice : MethodName := ⟨RL, "notice", "(LTwofrontArcade;II[J)I"⟩
abbrev cL_work : ByteArray := method_8_code
def yL_work : MethodName := ⟨RL, "work", "(LTwofrontArcade;I[J)I"⟩
abbrev cL_left : ByteArray := method_9_code
def yL_left : MethodName := ⟨RL, "left", "(LTwofrontArcade;I[J)I"⟩
abbrev cL_whyNot : ByteArray := method_10_code
def yL_whyNot : MethodName := ⟨RL, "whyNot", "(LTwofrontArcade;I[J)I"⟩
abbrev cL_begin : ByteArray := method_11_code
def yL_begin : MethodName := ⟨RL, "begin", "(LTwofrontArcade;I[J)I"⟩
abbrev cL_find : ByteArray := method_12_code
def yL_find : MethodName := ⟨RL, "find", "(LTwofrontArcade;II[J)I"⟩
abbrev cL_addShop : ByteArray := method_13_code
def yL_addShop : MethodName := ⟨RL, "addShop", "(LTwofrontArcade;IIIZII[J)I"⟩
abbrev cL_state : ByteArray := method_14_code
def yL_state : MethodName := ⟨RL, "state", "(LTwofrontArcade;I[J)I"⟩
abbrev cL_unitOf : ByteArray := method_15_code
def yL_unitOf : MethodName := ⟨RL, "unitOf", "(LTwofrontArcade;I[J)I"⟩
abbrev cL_homeOf : ByteArray := method_16_code
def yL_homeOf : MethodName := ⟨RL, "homeOf", "(LTwofrontArcade;I[J)I"⟩
abbrev cL_move : ByteArray := method_17_code
def yL_move : MethodName := ⟨RL, "move", "(LTwofrontArcade;II[J)I"⟩
abbrev cL_toStall : ByteArray := method_18_code
def yL_toStall : MethodName := ⟨RL, "toStall", "(LTwofrontArcade;I[J)I"⟩
abbrev cL_store : ByteArray := method_19_code
def yL_store : MethodName := ⟨RL, "store", "(LTwofrontArcade;I[J)I"⟩
abbrev cL_comes : ByteArray := method_20_code
def yL_comes : MethodName := ⟨RL, "comes", "(LTwofrontArcade;I[J)I"⟩
abbrev cL_mayBeShut : ByteArray := method_21_code
def yL_mayBeShut : MethodName := ⟨RL, "mayBeShut", "(LTwofrontArcade;I[J)I"⟩
abbrev cL_seen : ByteArray := method_22_code
def yL_seen : MethodName := ⟨RL, "seen", "(LTwofrontArcade;I[J)I"⟩
abbrev cL_known : ByteArray := method_23_code
def yL_known : MethodName := ⟨RL, "known", "(LTwofrontArcade;I[J)I"⟩
abbrev cL_isDusty : ByteArray := method_24_code
def yL_isDusty : MethodName := ⟨RL, "isDusty", "(LTwofrontArcade;I[J)I"⟩
abbrev cL_flow : ByteArray := method_25_code
def yL_flow : MethodName := ⟨RL, "flow", "(LTwofrontArcade;I[J)I"⟩
abbrev cL_room : ByteArray := method_26_code
def yL_room : MethodName := ⟨RL, "room", "(LTwofrontArcade;I[J)I"⟩
abbrev cL_setPeople : ByteArray := method_27_code
def yL_setPeople : MethodName := ⟨RL, "setPeople", "(LTwofrontArcade;II[J)I"⟩
abbrev cL_pass : ByteArray := method_28_code
def yL_pass : MethodName := ⟨RL, "pass", "(LTwofrontArcade;I[J)I"⟩
abbrev cL_addCrew : ByteArray := method_29_code
def yL_addCrew : MethodName := ⟨RL, "addCrew", "(LTwofrontArcade;C[J)I"⟩
abbrev cL_send : ByteArray := method_30_code
def yL_send : MethodName := ⟨RL, "send", "(LTwofrontArcade;II[J)I"⟩
abbrev cL_canWork : ByteArray := method_31_code
def yL_canWork : MethodName := ⟨RL, "canWork", "(LTwofrontArcade;I[J)I"⟩
abbrev cL_strike : ByteArray := method_32_code
def yL_strike : MethodName := ⟨RL, "strike", "(LTwofrontArcade;I[J)I"⟩
abbrev cL_lostDays : ByteArray := method_33_code
def yL_lostDays : MethodName := ⟨RL, "lostDays", "(LTwofrontArcade;IC[J)I"⟩
abbrev cL_shortest : ByteArray := method_34_code
def yL_shortest : MethodName := ⟨RL, "shortest", "(LTwofrontArcade;[J)I"⟩
abbrev cL_startIn : ByteArray := method_35_code
def yL_startIn : MethodName := ⟨RL, "startIn", "(LTwofrontArcade;I[J)I"⟩
abbrev cL_took : ByteArray := method_36_code
def yL_took : MethodName := ⟨RL, "took", "(LTwofrontArcade;I[J)I"⟩
abbrev cL_lost : ByteArray := method_37_code
def yL_lost : MethodName := ⟨RL, "lost", "(LTwofrontArcade;IC[J)I"⟩
abbrev cL_rent : ByteArray := method_38_code
def yL_rent : MethodName := ⟨RL, "rent", "(LTwofrontArcade;I[J)I"⟩
abbrev cL_openShare : ByteArray := method_39_code
def yL_openShare : MethodName := ⟨RL, "openShare", "(LTwofrontArcade;[D)I"⟩
abbrev cL_meanTaken : ByteArray := method_40_code
def yL_meanTaken : MethodName := ⟨RL, "meanTaken", "(LTwofrontArcade;[D)I"⟩
abbrev cL_law : ByteArray := code
def yL_law : MethodName := ⟨RL, "law", "([I)Z"⟩
abbrev vwCl : List vw_C := [(RJx35411, TJx35411, 4), (RJx4a65c, TJx4a65c, 3), (RX0, TX0, 2), (RX1, TX1, 8), (RX2, TX2, 14), (RX3, TX3, 7), (RX4, TX4, 10), (RX5, TX5, 2), (RX6, TX6, 12), (RX7, TX7, 7), (RX8, TX8, 9)]
end
section
/-! What every contract here is said in: the words that aren't 'good' ones travel in the start (z_E), the JDK's statics likewise (z_X). -/
/-- the kinds of words that a start hands on: links of nest mates, strings, castable, declares -/
def z_ok : Cond → Bool
  | .fieldLinkNest _ _ _ _ _ _ => true
  | .methodLinkNest _ _ _ _ => true
  | .stringRef _ _ _ => true
  | .castable _ _ => true
  | .declares _ => true
  | _ => false
theorem z_arg {w : Cond} {A A' : Array Value} {U : State} (hk : z_ok w = true) (h : w.before A U = true) : w.before A' U = true := by
  cases w with
  | fieldLinkNest a i b n d g => exact va_tabs rfl rfl h
  | methodLinkNest a i x g => exact va_tabs rfl rfl h
  | stringRef a i t => exact h
  | castable a b => exact va_tabs rfl rfl h
  | declares x => exact va_tabs rfl rfl h
  | _ => exact absurd hk (by simp [z_ok])
theorem z_strA {own tx : String} {k : Nat} {U : State} (h : va_Nw (.stringRef own k tx) U) : ∃ a, vk_R own k tx a U := by
  have hcur : ∃ cur, U.vm.findClass own = some cur := by
    have h1 : (Cond.stringRef own k tx).before #[] U = true := h
    simp only [Cond.before, Cond.holds, Cond.value] at h1
    cases hc : U.vm.findClass own with
    | none => simp [hc] at h1
    | some cur => exact ⟨cur, rfl⟩
  obtain ⟨cur, hcur⟩ := hcur
  obtain ⟨k9, cf, i, a, h1, h2, h3, h4, h5, hev⟩ := Cond.stringRef_spec (args := #[]) hcur h
  exact ⟨a, h, hev⟩
theorem z_warm {w : Cond} {s U : State} (hk : z_ok w = true) (hW : s.WarmedH U.vm) (h : va_Nw w s) : va_Nw w U := by
  cases w with
  | fieldLinkNest a i b n d g => exact va_Nw.warmF hW h
  | methodLinkNest a i x g => exact va_Nw.warmM hW h
  | stringRef a i t => obtain ⟨q, hq⟩ := z_strA h; exact (vk_R.warm hW hq).1
  | castable a b => exact va_Nw.warmC hW h
  | declares x => exact va_Nw.warmD hW h
  | _ => exact absurd hk (by simp [z_ok])
def z_k (w : Cond) : Bool := goodWord w || z_ok w
/-- the words that every method here may use: those of the law's list that stay true on the way -/
def z_Ts : List Cond := lw_tbl.filter z_k
theorem z_m {w : Cond} (i : Nat) (h : lw_tbl[i]? = some w) (hk : z_k w = true) : w ∈ z_Ts := List.mem_filter.mpr ⟨List.mem_of_getElem? h, hk⟩
def z_E (U : State) : Prop := ∀ w ∈ z_Ts, va_Nw w U
theorem z_go {w : Cond} {A A' : Array Value} {s U : State} (hk : z_k w = true) (hW : s.WarmedH U.vm) (h : w.before A s = true) : w.before A' U = true := by
  by_cases g : goodWord w = true
  · exact word_at hW (good_of_word g) h
  · have h2 : z_ok w = true := by
      unfold z_k at hk
      cases hg : goodWord w
      · rw [hg] at hk; exact hk
      · exact absurd hg g
    exact z_arg h2 (z_warm h2 hW (z_arg h2 h))
theorem z_E.warm {s U : State} (hW : s.WarmedH U.vm) (hE : z_E s) : z_E U := fun w hw => z_go (List.mem_filter.mp hw).2 hW (hE w hw)
theorem z_E.same {u U : State} (h : u.vm = U.vm) (hE : z_E u) : z_E U := z_E.warm (by rw [← h]; exact State.WarmedH.refl u) hE
theorem z_E.ts {s : State} {args : Array Value} (hE : z_E s) : ∀ w ∈ z_Ts, w.before args s = true := fun w hw => z_go (List.mem_filter.mp hw).2 (State.WarmedH.refl s) (hE w hw)
theorem z_E.of {s : State} {args : Array Value} (h : ∀ w ∈ lw_tbl, w.before args s = true) : z_E s := fun w hw => z_go (List.mem_filter.mp hw).2 (State.WarmedH.refl s) (h w (List.mem_filter.mp hw).1)
theorem z_str {own tx : String} {k : Nat} {U : State} (hE : z_E U) (h : Cond.stringRef own k tx ∈ z_Ts) : ∃ a, vk_R own k tx a U := z_strA (hE _ h)
/-- the words of a throw -/
theorem z_hat {args : Array Value} {s : State} {L : List Cond} (hE : z_E s) (h : ∀ w ∈ L, w ∈ z_Ts) : ∀ w ∈ L, w.before args s = true := fun w hw => hE.ts w (h w hw)
/-- the statics of the JDK that the throws and the lists read, outside of A -/
def z_X (A : Nat → Prop) (U : State) (H : Heap) : Prop := vx_Zq Bundle.tN "UNASSIGNED_STACK" Bundle.steD A U H ∧ vx_Zq Bundle.tN "SUPPRESSED_SENTINEL" Bundle.listD A U H
theorem z_X.moved {A : Nat → Prop} {u U : State} {H : Heap} (hvm : u.vm.Alike U.vm) (h : z_X A u H) : z_X A U H := ⟨vx_Zq.moved hvm h.1, vx_Zq.moved hvm h.2⟩
theorem z_X.kept {A : Nat → Prop} {U : State} {H H1 : Heap} (h : z_X A U H) (hq : ∀ a : Nat, a < H.size → ¬ A a → H1[a]? = H[a]?) : z_X A U H1 := ⟨h.1.kept hq, h.2.kept hq⟩
theorem z_X.narrow {A B : Nat → Prop} {U : State} {H : Heap} (h : z_X A U H) (hAB : ∀ q, B q → A q) : z_X B U H := ⟨h.1.narrow hAB, h.2.narrow hAB⟩
/-- a start: the cells ws, apart, the heap of sz cells, the words, the statics -/
def z_B (D : va_G) (ws : va_W) (tys : List (ClassId × FieldType)) (sz : Nat) (U : State) : Prop :=
  U.heap.size = sz ∧ va_P D vwCl ws U.heap ∧ va_K D vwCl tys U ∧ va_D (fun _ => True) ws ∧ z_E U ∧ z_X (va_A ws sz) U U.heap
def z_Pc (D : va_G) (av : List Value) (ws : va_W) (tys : List (ClassId × FieldType)) (sz : Nat) : Array Value → State → Prop := va_Pc av (z_B D ws tys sz)
/-- an end: the cells ws -/
def z_W (D : va_G) (ws : va_W) (tys : List (ClassId × FieldType)) (A : Nat → Prop) (t : State) : Prop := va_P D vwCl ws t.heap ∧ va_K D vwCl tys t ∧ va_D A ws
theorem z_blind (D : va_G) (av : List Value) (ws : va_W) (tys : List (ClassId × FieldType)) (sz : Nat) : FrameBlind (z_Pc D av ws tys sz) := by
  intro a U g mk h
  obtain ⟨h0, h1, h2, h3, h4, h5, h6⟩ := h
  exact ⟨h0, h1, h2, va_K.moved (u := U) (U := U.calling g mk a) (Vm.Alike.refl U.vm) h3, h4, z_E.same (u := U) (U := U.calling g mk a) rfl h5, z_X.moved (u := U) (U := U.calling g mk a) (Vm.Alike.refl U.vm) h6⟩
theorem z_fm {α : Type} {f : Nat → Option α} : ∀ {is : List Nat} {wc : List α}, is.map f = wc.map some → is.filterMap f = wc
  | [], [], _ => rfl
  | [], _ :: _, h => nomatch h
  | _ :: _, [], h => nomatch h
  | i :: is, w :: wc, h => by
    have h1 : f i = some w := by injection h
    have h2 : is.map f = wc.map some := by injection h
    rw [List.filterMap_cons, h1]
    exact congrArg (w :: ·) (z_fm h2)
/-- what a call asks, out of where the caller stands -/
theorem z_call {D : va_G} {s : State} {A : Nat → Prop} {H : Heap} {locs : List Loc} {ws wc : va_W} {tys tc : List (ClassId × FieldType)} (av : List Value) (hP : va_P D vwCl ws H) (hK : va_K D vwCl tys s) (hD : va_D A ws) (hS : va_S A s.heap H locs) (hA : ∀ q, s.heap.size ≤ q → A q) (hE : z_E s) (hX : z_X A s s.heap)
    (isC : List Nat) (hn : va_nd isC = true) (hC : isC.map (fun i => ws[i]?) = wc.map some) (isT : List Nat) (hT : isT.filterMap (fun i => tys[i]?) = tc) : FrameBlind (z_Pc D av wc tc H.size) ∧ ∀ U : State, U.heap = H → s.WarmedH U.vm → z_Pc D av wc tc H.size av.toArray U := by
  refine ⟨z_blind _ _ _ _ _, fun U hU hW => ?_⟩
  have hP' := hP.sub (ws' := wc) isC (z_fm hC)
  have hD' := hD.sub (ws' := wc) isC hn hC
  have hK' := hK.sub (tys' := tc) isT hT
  have hF := va_free (wc := wc) hD hS hA isC hC
  refine ⟨rfl, by rw [hU], by rw [hU]; exact hP', va_K.moved hW.alike hK', hD'.weaken (fun _ _ _ _ => trivial), z_E.warm hW hE, ?_⟩
  rw [hU]
  exact z_X.moved hW.alike ((hX.kept hS.2.1).narrow hF)
/-- what stands behind a call: the callee's cells beside the rest -/
theorem z_back {D : va_G} {s t : State} {A : Nat → Prop} {H H1 : Heap} {ws wc wr w1 : va_W} {tys t1 tr : List (ClassId × FieldType)} (hP : va_P D vwCl ws H) (hK : va_K D vwCl tys s) (hD : va_D A ws) (isC isR : List Nat) (hC : isC.map (fun i => ws[i]?) = wc.map some) (hR : isR.map (fun i => ws[i]?) = wr.map some) (hn : va_nd isR = true) (hdis : ∀ i ∈ isR, i ∉ isC)
    (ht : t.heap = H1) (hvm : s.vm.Alike t.vm) (hk : ∀ q : Nat, q < H.size → ¬ va_A wc H.size q → H1[q]? = H[q]?) (hF : ∀ q, va_A wc H.size q → A q) (isT : List Nat) (hT : isT.filterMap (fun i => tys[i]?) = tr) (hB : z_W D w1 t1 (va_A wc H.size) t) : va_P D vwCl (wr ++ w1) H1 ∧ va_K D vwCl (tr ++ t1) s ∧ va_D A (wr ++ w1) := by
  obtain ⟨hP1, hK1, hD1⟩ := hB
  rw [ht] at hP1
  obtain ⟨a, b⟩ := va_join (wr := wr) (w1 := w1) hP hD isC isR hC hR hn hdis hk hF hP1 hD1
  exact ⟨a, (hK.sub (tys' := tr) isT hT).app (va_K.moved hvm.symm hK1), b⟩
/-- a method's own end -/
theorem z_end {D : va_G} {s t : State} {A : Nat → Prop} {H : Heap} {ws w1 : va_W} {tys t1 : List (ClassId × FieldType)} (hP : va_P D vwCl ws H) (hK : va_K D vwCl tys s) (hD : va_D A ws) (isC : List Nat) (hn : va_nd isC = true) (hC : isC.map (fun i => ws[i]?) = w1.map some) (isT : List Nat) (hT : isT.filterMap (fun i => tys[i]?) = t1) (ht : t.heap = H) (hvm : s.vm.Alike t.vm) : z_W D w1 t1 A t :=
  ⟨by rw [ht]; exact hP.sub isC (z_fm hC), va_K.moved hvm (hK.sub isT hT), hD.sub isC hn hC⟩
/-- where it throws (if px): the class E0, the cells as they were -/
def z_T (px : Prop) (E0 : String) (D : va_G) (ws : va_W) (tys : List (ClassId × FieldType)) (sz : Nat) : String → State → State → Prop := vx_X (fun _ : Unit => px) (fun E _ t => E = E0 ∧ z_W D ws tys (va_A ws sz) t) (va_A ws sz)
theorem z_thrown {px : Prop} (hpx : px) {D : va_G} {s : State} {E0 : String} {A : Nat → Prop} {H : Heap} {locs : List Loc} {ws w1 : va_W} {tys t1 : List (ClassId × FieldType)} {sz : Nat} (hz : s.heap.size = sz) (hAe : va_A w1 sz = A) (hP : va_P D vwCl ws H) (hK : va_K D vwCl tys s) (hD : va_D A ws) (hS : va_S A s.heap H locs) (isC : List Nat) (hn : va_nd isC = true) (hC : isC.map (fun i => ws[i]?) = w1.map some) (isT : List Nat) (hT : isT.filterMap (fun i => tys[i]?) = t1) :
    ∀ t : State, s.vm.Alike t.vm → H.size ≤ t.heap.size → (∀ q : Nat, q < H.size → t.heap[q]? = H[q]?) → z_T px E0 D w1 t1 sz E0 s t := by
  intro t hvm hz2 hq
  subst hz
  rw [← hAe] at hD hS
  refine ⟨(), hpx, ⟨rfl, ?_, va_K.moved hvm (hK.sub isT hT), hD.sub isC hn hC⟩, Nat.le_trans hS.1 hz2, fun q h1 h2 => ?_⟩
  · exact (hP.sub isC (z_fm hC)).kept (fun k q hk => hq q.1 (vx_lt (hP.sub isC (z_fm hC)) hk))
  · rw [hq q (Nat.lt_of_lt_of_le h1 hS.1)]
    exact hS.2.1 q h1 h2
/-- the words of a call: by its five words -/
theorem z_cB {R : Room} {s : State} {args : Array Value} {own : String} {index : Nat} {y : MethodName} {bytes : ByteArray} {maxL : Nat} {ret : Option FieldType} {rm : Room} {mc ms : Nat} (n : Nat) (hE : z_E s) (h1 : Cond.methodLink own index y ∈ z_Ts) (h4 : Cond.initialized y.cls ∈ z_Ts) (h5 : Cond.code y bytes maxL ret ∈ z_Ts) (hg : goodWord (Cond.code y bytes maxL ret) = true) (hrc : rm.cells = mc) (hrs : rm.slots = ms)
    (hd : y.cls ≠ "java/lang/invoke/MethodHandle" ∧ y.cls ≠ "java/lang/invoke/VarHandle" ∧ (parseMethodDescriptor y.desc).map (fun d => d.parameters.length) = some n) (hR : rm.frames + 1 ≤ R.frames ∧ 8 + (maxL + 11) + rm.locals ≤ R.locals) : CallB R s args own index y bytes maxL ret [Cond.code y bytes maxL ret] rm mc ms n := by
  refine ⟨hrc, hrs, hR.1, hR.2, fun w hw a' U hW => ?_, List.mem_cons_self, hE.ts _ h5, hE.ts _ h4, ⟨hd.1, hd.2.1⟩, fun sig h => ?_, hE.ts _ h1⟩
  · cases List.mem_singleton.mp hw
    exact word_at hW (good_of_word hg) (hE.ts (args := args) _ h5)
  · have h2 := hd.2.2
    rw [h] at h2
    exact (Option.some.inj h2).symm
theorem z_cV {R : Room} {s : State} {args : Array Value} {own : String} {index : Nat} {y : MethodName} {bytes : ByteArray} {maxL : Nat} {ret : Option FieldType} {rm : Room} {mc ms : Nat} (n : Nat) (hE : z_E s) (h1 : Cond.methodLink own index y ∈ z_Ts) (h2 : Cond.instanceMethod y ∈ z_Ts) (h3 : Cond.selects y.cls y y ∈ z_Ts) (h4 : Cond.initialized y.cls ∈ z_Ts) (h5 : Cond.code y bytes maxL ret ∈ z_Ts) (hg : goodWord (Cond.code y bytes maxL ret) = true) (hrc : rm.cells = mc) (hrs : rm.slots = ms)
    (hd : y.cls ≠ "java/lang/invoke/MethodHandle" ∧ y.cls ≠ "java/lang/invoke/VarHandle" ∧ (parseMethodDescriptor y.desc).map (fun d => d.parameters.length) = some n) (hR : rm.frames + 1 ≤ R.frames ∧ 8 + (maxL + 11) + rm.locals ≤ R.locals) : CallW R s args own y.cls index y bytes maxL ret [Cond.code y bytes maxL ret] rm mc ms n :=
  ⟨z_cB n hE h1 h4 h5 hg hrc hrs hd hR, hE.ts _ h2, hE.ts _ h3⟩
theorem z_ins {L : List Cond} (h : ∀ w ∈ L, w ∈ lw_tbl) (hk : L.all z_k = true) : ∀ w ∈ L, w ∈ z_Ts := fun w hw => List.mem_filter.mpr ⟨h w hw, List.all_eq_true.mp hk w hw⟩
/-- an exception that comes out of a call and goes on -/
theorem z_through {px : Prop} (hpx : px) {D : va_G} {s t : State} {E0 : String} {A : Nat → Prop} {H : Heap} {locs : List Loc} {ws w1 : va_W} {tys t1 : List (ClassId × FieldType)} {sz : Nat} (hz : s.heap.size = sz) (hAe : va_A w1 sz = A) (hP : va_P D vwCl ws H) (hK : va_K D vwCl tys s) (hD : va_D A ws) (hS : va_S A s.heap H locs) (isC : List Nat) (hn : va_nd isC = true) (hC : isC.map (fun i => ws[i]?) = w1.map some) (isT : List Nat) (hT : isT.filterMap (fun i => tys[i]?) = t1)
    (ht : t.heap = H) (hvm : s.vm.Alike t.vm) : z_T px E0 D w1 t1 sz E0 s t := z_thrown hpx hz hAe hP hK hD hS isC hn hC isT hT t hvm (by rw [ht]; exact Nat.le_refl _) (fun q _ => by rw [ht])
theorem z_cG {y : MethodName} {bytes : ByteArray} {maxL : Nat} {ret : Option FieldType} (h5 : Cond.code y bytes maxL ret ∈ z_Ts) (hg : goodWord (Cond.code y bytes maxL ret) = true) : GoodIn z_Ts [Cond.code y bytes maxL ret] := fun w hw => by
  cases List.mem_singleton.mp hw
  exact ⟨h5, good_of_word hg⟩
theorem z_cN {R : Room} {s : State} {args : Array Value} {own host : String} {index : Nat} {y : MethodName} {bytes : ByteArray} {maxL : Nat} {ret : Option FieldType} {rm : Room} {mc ms : Nat} (n : Nat) (hE : z_E s) (h1 : Cond.methodLinkNest own index y host ∈ z_Ts) (h4 : Cond.initialized y.cls ∈ z_Ts) (h5 : Cond.code y bytes maxL ret ∈ z_Ts) (hg : goodWord (Cond.code y bytes maxL ret) = true) (hrc : rm.cells = mc) (hrs : rm.slots = ms)
    (hd : y.cls ≠ "java/lang/invoke/MethodHandle" ∧ y.cls ≠ "java/lang/invoke/VarHandle" ∧ (parseMethodDescriptor y.desc).map (fun d => d.parameters.length) = some n) (hR : rm.frames + 1 ≤ R.frames ∧ 8 + (maxL + 11) + rm.locals ≤ R.locals) : va_CN R s args own index y host bytes maxL ret [Cond.code y bytes maxL ret] rm mc ms n :=
  va_cnB n (hE.ts (args := args)) (z_cG h5 hg) rfl hrc hrs (hE _ h1) (hE.ts _ h4) hd hR
end
section
theorem dX4_needUnit_0 : decode cX4_needUnit 0 = .ok (.iload_n 1, 1) := by decide +kernel
theorem dX4_needUnit_1 : decode cX4_needUnit 1 = .ok (.ifCond .lt 11, 3) := by decide +kernel
set_option maxRecDepth 20000 in
theorem zat_X4_343 : ∀ w ∈ vx_atS RX4 343 "java/lang/IndexOutOfBoundsException" ["java/lang/RuntimeException", "java/lang/Exception"], w ∈ z_Ts := z_ins (by decide +kernel) (by decide +kernel)
set_option maxRecDepth 20000 in
theorem zgd_X4_343 : ∀ w ∈ Cond.classLink RX4 339 "java/lang/IndexOutOfBoundsException" :: Cond.initialized "java/lang/IndexOutOfBoundsException" :: vx_atS RX4 343 "java/lang/IndexOutOfBoundsException" ["java/lang/RuntimeException", "java/lang/Exception"], vx_ot w = true := List.all_eq_true.mp (by decide +kernel)
theorem zw_538 : Cond.stringRef RX4 341 "there is no such unit" ∈ z_Ts := z_m 538 (by decide +kernel) (by decide +kernel)
theorem dX4_needUnit_12 : decode cX4_needUnit 12 = .ok (.new 339, 3) := by decide +kernel
theorem dX4_needUnit_15 : decode cX4_needUnit 15 = .ok (.dup, 1) := by decide +kernel
theorem dX4_needUnit_16 : decode cX4_needUnit 16 = .ok (.ldc_w 341, 3) := by decide +kernel
theorem dX4_needUnit_19 : decode cX4_needUnit 19 = .ok (.invokespecial 343, 3) := by decide +kernel
theorem dX4_needUnit_22 : decode cX4_needUnit 22 = .ok (.athrow, 1) := by decide +kernel
theorem zw_529 : Cond.classLink RX4 339 "java/lang/IndexOutOfBoundsException" ∈ z_Ts := z_m 529 (by decide +kernel) (by decide +kernel)
theorem zw_111 : Cond.initialized "java/lang/IndexOutOfBoundsException" ∈ z_Ts := z_m 111 (by decide +kernel) (by decide +kernel)
theorem dX4_needUnit_4 : decode cX4_needUnit 4 = .ok (.iload_n 1, 1) := by decide +kernel
theorem dX4_needUnit_5 : decode cX4_needUnit 5 = .ok (.aload_n 0, 1) := by decide +kernel
theorem dX4_needUnit_6 : decode cX4_needUnit 6 = .ok (.getfield 38, 3) := by decide +kernel
theorem zw_291 : Cond.fieldLink RX4 38 "TwofrontArcade" "unitCount" "I" ∈ z_Ts := z_m 291 (by decide +kernel) (by decide +kernel)
set_option maxRecDepth 20000 in
theorem zin_X4 : ∀ w ∈ u_ws RX4 TX4 10, w ∈ z_Ts := z_ins (by decide +kernel) (by decide +kernel)
theorem dX4_needUnit_9 : decode cX4_needUnit 9 = .ok (.if_icmp .lt 14, 3) := by decide +kernel
theorem dX4_needUnit_23 : decode cX4_needUnit 23 = .ok (.return_, 1) := by decide +kernel
set_option maxHeartbeats 4000000 in
set_option maxRecDepth 100000 in
theorem c_X4_needUnit (l : Launch) (hst : l.stackTraces = false) (D : va_G) (h0 : Nat) (hu : Nat) (hs : Nat) (hc : Nat) (hp : Nat) (hg : Nat) (uc : Int32) (sc : Int32) (cc : Int32) (td : Int32) (sd : Int32) (n0 : Int32) (sz : Nat)  : vx_Met l yX4_needUnit [Cond.code yX4_needUnit cX4_needUnit 2 none] ({ frames := 6, cells := 1, slots := 6, locals := 100 }) (z_Pc D [.ref h0, .int n0] [(h0, .inr (6, [.ref hu, .ref hs, .ref hc, .ref hp, .ref hg, .int uc, .int sc, .int cc, .int td, .int sd]))] [] sz) (va_Qv (fun _ : Unit => ¬ (n0 < 0) ∧ n0 < uc) (fun _ t => z_W D [(h0, .inr (6, [.ref hu, .ref hs, .ref hc, .ref hp, .ref hg, .int uc, .int sc, .int cc, .int td, .int sd]))] [] (va_A [(h0, .inr (6, [.ref hu, .ref hs, .ref hc, .ref hp, .ref hg, .int uc, .int sc, .int cc, .int td, .int sd]))] sz) t) (va_A [(h0, .inr (6, [.ref hu, .ref hs, .ref hc, .ref hp, .ref hg, .int uc, .int sc, .int cc, .int td, .int sd]))] sz)) (z_T (n0 < 0 ∨ ¬ n0 < uc) "java/lang/IndexOutOfBoundsException" D [(h0, .inr (6, [.ref hu, .ref hs, .ref hc, .ref hp, .ref hg, .int uc, .int sc, .int cc, .int td, .int sd]))] [] sz) 1 6 (va_A [(h0, .inr (6, [.ref hu, .ref hs, .ref hc, .ref hp, .ref hg, .int uc, .int sc, .int cc, .int td, .int sd]))] sz) := by
  refine vx_ofW (cc := cX4_needUnit) (maxL := 2) (ret := none) (by decide +kernel) rfl ?_
  intro p e s m args below meth c s₁ B hml hnt hv
  obtain ⟨rfl, hsz, hP, hK, hD0, hE, hX0⟩ := hv
  have hx := B.exec
  have hb := B.bytes
  have hr := B.returns
  have hts := z_E.ts (args := [.ref h0, .int n0].toArray) hE
  have hown : s.vm.findClass RX4 = some m.cls := findClass_of_methodNamed B.named
  have hlocks := B.notSynchronized
  subst hsz
  have hD := hD0.self (sz := s.heap.size)
  generalize hAe : va_A [(h0, .inr (6, [.ref hu, .ref hs, .ref hc, .ref hp, .ref hg, .int uc, .int sc, .int cc, .int td, .int sd]))] s.heap.size = A at hD hX0 ⊢
  have hX : z_X A s s.heap := hX0
  have hA : ∀ q : Nat, s.heap.size ≤ q → A q := fun q h => by rw [← hAe]; exact Or.inr h
  have hS : va_S A s.heap s.heap [] := va_S.rf
  have hP : va_P D vwCl [(h0, .inr (6, [.ref hu, .ref hs, .ref hc, .ref hp, .ref hg, .int uc, .int sc, .int cc, .int td, .int sd]))] s.heap := hP
  have hl := lv_entry ([.ref h0, .int n0]) (n := 2) (Nat.le_of_ble_eq_true rfl)
  rw [lg_entry_eq]
  generalize (lg_sl ([.ref h0, .int n0]) ++ List.replicate (2 - (lg_sl ([.ref h0, .int n0])).length) Slot.unset).toArray = ls at hl ⊢
  have hl : lv_has ls 2 [(0, .ref h0), (1, .int n0)] := hl
  skip
  refine lv_iload_n hx hb dX4_needUnit_0 rfl (lv_at hl 1 rfl) ?_
  refine lv_if_lt (tgt := 12) hx hb dX4_needUnit_1 (by decide) (fun c_1 => ?_) (fun c_1 => ?_)
  · obtain ⟨sa_2, hsa_2⟩ := z_str hE zw_538
    exact vx_throwSW (A := A) (names := ["java/lang/RuntimeException", "java/lang/Exception"]) hx hb hst hown (by decide +kernel) (by decide +kernel) (hts _ zw_529) (hts _ zw_111) hsa_2 (z_hat hE zat_X4_343) zgd_X4_343 hX.1 hX.2 hS (hl.1.trans hml.symm) dX4_needUnit_12 dX4_needUnit_15 dX4_needUnit_16 dX4_needUnit_19 dX4_needUnit_22 (fun x hx => (hnt x hx).elim) (Nat.le_of_ble_eq_true rfl) (Nat.le_of_ble_eq_true rfl) (Nat.le_of_ble_eq_true rfl) (Nat.le_of_ble_eq_true rfl) hlocks (z_thrown (Or.inl c_1) rfl hAe hP hK hD hS [0] rfl rfl [] rfl) hS.2.2 (Nat.le_of_ble_eq_true rfl) (Nat.le_of_ble_eq_true rfl)
  · refine lv_iload_n hx hb dX4_needUnit_4 rfl (lv_at hl 1 rfl) ?_
    refine lv_aload_n hx hb dX4_needUnit_5 rfl (lv_at hl 0 rfl) ?_
    refine va_get (D := D) (ci := 6) (v := .int uc) (C := RX4) (T := TX4) (N := 10) hx hb hts zin_X4 hown hK hP 0 rfl rfl 5 (by decide) (hts _ zw_291) (fun _ h9 => h9) rfl dX4_needUnit_6 ?_
    refine lv_icmp_lt (tgt := 23) hx hb dX4_needUnit_9 (by decide) (fun c_2 => ?_) (fun c_2 => ?_)
    · refine W.widen (k := 1) (n := 6) (Nat.le_of_ble_eq_true rfl) (Nat.le_of_ble_eq_true rfl) ?_
      exact vx_ret (W.vret hx hb hr (fun t ht hW => ⟨⟨(), rfl, ⟨c_1, c_2⟩, z_end hP hK hD [0] rfl rfl [] rfl ht hW.alike⟩, hS.F ht⟩) hS.2.2 dX4_needUnit_23)
    · obtain ⟨sa_3, hsa_3⟩ := z_str hE zw_538
      exact vx_throwSW (A := A) (names := ["java/lang/RuntimeException", "java/lang/Exception"]) hx hb hst hown (by decide +kernel) (by decide +kernel) (hts _ zw_529) (hts _ zw_111) hsa_3 (z_hat hE zat_X4_343) zgd_X4_343 hX.1 hX.2 hS (hl.1.trans hml.symm) dX4_needUnit_12 dX4_needUnit_15 dX4_needUnit_16 dX4_needUnit_19 dX4_needUnit_22 (fun x hx => (hnt x hx).elim) (Nat.le_of_ble_eq_true rfl) (Nat.le_of_ble_eq_true rfl) (Nat.le_of_ble_eq_true rfl) (Nat.le_of_ble_eq_true rfl) hlocks (z_thrown (Or.inr c_2) rfl hAe hP hK hD hS [0] rfl rfl [] rfl) hS.2.2 (Nat.le_of_ble_eq_true rfl) (Nat.le_of_ble_eq_true rfl)
theorem dX4_needShop_0 : decode cX4_needShop 0 = .ok (.iload_n 1, 1) := by decide +kernel
theorem dX4_needShop_1 : decode cX4_needShop 1 = .ok (.ifCond .lt 11, 3) := by decide +kernel
theorem zw_682 : Cond.stringRef RX4 344 "there is no such shop" ∈ z_Ts := z_m 682 (by decide +kernel) (by decide +kernel)
theorem dX4_needShop_12 : decode cX4_needShop 12 = .ok (.new 339, 3) := by decide +kernel
theorem dX4_needShop_15 : decode cX4_needShop 15 = .ok (.dup, 1) := by decide +kernel
theorem dX4_needShop_16 : decode cX4_needShop 16 = .ok (.ldc_w 344, 3) := by decide +kernel
theorem dX4_needShop_19 : decode cX4_needShop 19 = .ok (.invokespecial 343, 3) := by decide +kernel
theorem dX4_needShop_22 : decode cX4_needShop 22 = .ok (.athrow, 1) := by decide +kernel
theorem dX4_needShop_4 : decode cX4_needShop 4 = .ok (.iload_n 1, 1) := by decide +kernel
theorem dX4_needShop_5 : decode cX4_needShop 5 = .ok (.aload_n 0, 1) := by decide +kernel
theorem dX4_needShop_6 : decode cX4_needShop 6 = .ok (.getfield 42, 3) := by decide +kernel
theorem zw_292 : Cond.fieldLink RX4 42 "TwofrontArcade" "shopCount" "I" ∈ z_Ts := z_m 292 (by decide +kernel) (by decide +kernel)
theorem dX4_needShop_9 : decode cX4_needShop 9 = .ok (.if_icmp .lt 14, 3) := by decide +kernel
theorem dX4_needShop_23 : decode cX4_needShop 23 = .ok (.return_, 1) := by decide +kernel
set_option maxHeartbeats 4000000 in
set_option maxRecDepth 100000 in
theorem c_X4_needShop (l : Launch) (hst : l.stackTraces = false) (D : va_G) (h0 : Nat) (hu : Nat) (hs : Nat) (hc : Nat) (hp : Nat) (hg : Nat) (uc : Int32) (sc : Int32) (cc : Int32) (td : Int32) (sd : Int32) (n0 : Int32) (sz : Nat)  : vx_Met l yX4_needShop [Cond.code yX4_needShop cX4_needShop 2 none] ({ frames := 6, cells := 1, slots := 6, locals := 100 }) (z_Pc D [.ref h0, .int n0] [(h0, .inr (6, [.ref hu, .ref hs, .ref hc, .ref hp, .ref hg, .int uc, .int sc, .int cc, .int td, .int sd]))] [] sz) (va_Qv (fun _ : Unit => ¬ (n0 < 0) ∧ n0 < sc) (fun _ t => z_W D [(h0, .inr (6, [.ref hu, .ref hs, .ref hc, .ref hp, .ref hg, .int uc, .int sc, .int cc, .int td, .int sd]))] [] (va_A [(h0, .inr (6, [.ref hu, .ref hs, .ref hc, .ref hp, .ref hg, .int uc, .int sc, .int cc, .int td, .int sd]))] sz) t) (va_A [(h0, .inr (6, [.ref hu, .ref hs, .ref hc, .ref hp, .ref hg, .int uc, .int sc, .int cc, .int td, .int sd]))] sz)) (z_T (n0 < 0 ∨ ¬ n0 < sc) "java/lang/IndexOutOfBoundsException" D [(h0, .inr (6, [.ref hu, .ref hs, .ref hc, .ref hp, .ref hg, .int uc, .int sc, .int cc, .int td, .int sd]))] [] sz) 1 6 (va_A [(h0, .inr (6, [.ref hu, .ref hs, .ref hc, .ref hp, .ref hg, .int uc, .int sc, .int cc, .int td, .int sd]))] sz) := by
  refine vx_ofW (cc := cX4_needShop) (maxL := 2) (ret := none) (by decide +kernel) rfl ?_
  intro p e s m args below meth c s₁ B hml hnt hv
  obtain ⟨rfl, hsz, hP, hK, hD0, hE, hX0⟩ := hv
  have hx := B.exec
  have hb := B.bytes
  have hr := B.returns
  have hts := z_E.ts (args := [.ref h0, .int n0].toArray) hE
  have hown : s.vm.findClass RX4 = some m.cls := findClass_of_methodNamed B.named
  have hlocks := B.notSynchronized
  subst hsz
  have hD := hD0.self (sz := s.heap.size)
  generalize hAe : va_A [(h0, .inr (6, [.ref hu, .ref hs, .ref hc, .ref hp, .ref hg, .int uc, .int sc, .int cc, .int td, .int sd]))] s.heap.size = A at hD hX0 ⊢
  have hX : z_X A s s.heap := hX0
  have hA : ∀ q : Nat, s.heap.size ≤ q → A q := fun q h => by rw [← hAe]; exact Or.inr h
  have hS : va_S A s.heap s.heap [] := va_S.rf
  have hP : va_P D vwCl [(h0, .inr (6, [.ref hu, .ref hs, .ref hc, .ref hp, .ref hg, .int uc, .int sc, .int cc, .int td, .int sd]))] s.heap := hP
  have hl := lv_entry ([.ref h0, .int n0]) (n := 2) (Nat.le_of_ble_eq_true rfl)
  rw [lg_entry_eq]
  generalize (lg_sl ([.ref h0, .int n0]) ++ List.replicate (2 - (lg_sl ([.ref h0, .int n0])).length) Slot.unset).toArray = ls at hl ⊢
  have hl : lv_has ls 2 [(0, .ref h0), (1, .int n0)] := hl
  skip
  refine lv_iload_n hx hb dX4_needShop_0 rfl (lv_at hl 1 rfl) ?_
  refine lv_if_lt (tgt := 12) hx hb dX4_needShop_1 (by decide) (fun c_1 => ?_) (fun c_1 => ?_)
  · obtain ⟨sa_2, hsa_2⟩ := z_str hE zw_682
    exact vx_throwSW (A := A) (names := ["java/lang/RuntimeException", "java/lang/Exception"]) hx hb hst hown (by decide +kernel) (by decide +kernel) (hts _ zw_529) (hts _ zw_111) hsa_2 (z_hat hE zat_X4_343) zgd_X4_343 hX.1 hX.2 hS (hl.1.trans hml.symm) dX4_needShop_12 dX4_needShop_15 dX4_needShop_16 dX4_needShop_19 dX4_needShop_22 (fun x hx => (hnt x hx).elim) (Nat.le_of_ble_eq_true rfl) (Nat.le_of_ble_eq_true rfl) (Nat.le_of_ble_eq_true rfl) (Nat.le_of_ble_eq_true rfl) hlocks (z_thrown (Or.inl c_1) rfl hAe hP hK hD hS [0] rfl rfl [] rfl) hS.2.2 (Nat.le_of_ble_eq_true rfl) (Nat.le_of_ble_eq_true rfl)
  · refine lv_iload_n hx hb dX4_needShop_4 rfl (lv_at hl 1 rfl) ?_
    refine lv_aload_n hx hb dX4_needShop_5 rfl (lv_at hl 0 rfl) ?_
    refine va_get (D := D) (ci := 6) (v := .int sc) (C := RX4) (T := TX4) (N := 10) hx hb hts zin_X4 hown hK hP 0 rfl rfl 6 (by decide) (hts _ zw_292) (fun _ h9 => h9) rfl dX4_needShop_6 ?_
    refine lv_icmp_lt (tgt := 23) hx hb dX4_needShop_9 (by decide) (fun c_2 => ?_) (fun c_2 => ?_)
    · refine W.widen (k := 1) (n := 6) (Nat.le_of_ble_eq_true rfl) (Nat.le_of_ble_eq_true rfl) ?_
      exact vx_ret (W.vret hx hb hr (fun t ht hW => ⟨⟨(), rfl, ⟨c_1, c_2⟩, z_end hP hK hD [0] rfl rfl [] rfl ht hW.alike⟩, hS.F ht⟩) hS.2.2 dX4_needShop_23)
    · obtain ⟨sa_3, hsa_3⟩ := z_str hE zw_682
      exact vx_throwSW (A := A) (names := ["java/lang/RuntimeException", "java/lang/Exception"]) hx hb hst hown (by decide +kernel) (by decide +kernel) (hts _ zw_529) (hts _ zw_111) hsa_3 (z_hat hE zat_X4_343) zgd_X4_343 hX.1 hX.2 hS (hl.1.trans hml.symm) dX4_needShop_12 dX4_needShop_15 dX4_needShop_16 dX4_needShop_19 dX4_needShop_22 (fun x hx => (hnt x hx).elim) (Nat.le_of_ble_eq_true rfl) (Nat.le_of_ble_eq_true rfl) (Nat.le_of_ble_eq_true rfl) (Nat.le_of_ble_eq_true rfl) hlocks (z_thrown (Or.inr c_2) rfl hAe hP hK hD hS [0] rfl rfl [] rfl) hS.2.2 (Nat.le_of_ble_eq_true rfl) (Nat.le_of_ble_eq_true rfl)
theorem dX4_needCrew_0 : decode cX4_needCrew 0 = .ok (.iload_n 1, 1) := by decide +kernel
theorem dX4_needCrew_1 : decode cX4_needCrew 1 = .ok (.ifCond .lt 11, 3) := by decide +kernel
theorem zw_897 : Cond.stringRef RX4 346 "there is no such crew" ∈ z_Ts := z_m 897 (by decide +kernel) (by decide +kernel)
theorem dX4_needCrew_12 : decode cX4_needCrew 12 = .ok (.new 339, 3) := by decide +kernel
theorem dX4_needCrew_15 : decode cX4_needCrew 15 = .ok (.dup, 1) := by decide +kernel
theorem dX4_needCrew_16 : decode cX4_needCrew 16 = .ok (.ldc_w 346, 3) := by decide +kernel
theorem dX4_needCrew_19 : decode cX4_needCrew 19 = .ok (.invokespecial 343, 3) := by decide +kernel
theorem dX4_needCrew_22 : decode cX4_needCrew 22 = .ok (.athrow, 1) := by decide +kernel
theorem dX4_needCrew_4 : decode cX4_needCrew 4 = .ok (.iload_n 1, 1) := by decide +kernel
theorem dX4_needCrew_5 : decode cX4_needCrew 5 = .ok (.aload_n 0, 1) := by decide +kernel
theorem dX4_needCrew_6 : decode cX4_needCrew 6 = .ok (.getfield 45, 3) := by decide +kernel
theorem zw_293 : Cond.fieldLink RX4 45 "TwofrontArcade" "crewCount" "I" ∈ z_Ts := z_m 293 (by decide +kernel) (by decide +kernel)
theorem dX4_needCrew_9 : decode cX4_needCrew 9 = .ok (.if_icmp .lt 14, 3) := by decide +kernel
theorem dX4_needCrew_23 : decode cX4_needCrew 23 = .ok (.return_, 1) := by decide +kernel
set_option maxHeartbeats 4000000 in
set_option maxRecDepth 100000 in
theorem c_X4_needCrew (l : Launch) (hst : l.stackTraces = false) (D : va_G) (h0 : Nat) (hu : Nat) (hs : Nat) (hc : Nat) (hp : Nat) (hg : Nat) (uc : Int32) (sc : Int32) (cc : Int32) (td : Int32) (sd : Int32) (n0 : Int32) (sz : Nat)  : vx_Met l yX4_needCrew [Cond.code yX4_needCrew cX4_needCrew 2 none] ({ frames := 6, cells := 1, slots := 6, locals := 100 }) (z_Pc D [.ref h0, .int n0] [(h0, .inr (6, [.ref hu, .ref hs, .ref hc, .ref hp, .ref hg, .int uc, .int sc, .int cc, .int td, .int sd]))] [] sz) (va_Qv (fun _ : Unit => ¬ (n0 < 0) ∧ n0 < cc) (fun _ t => z_W D [(h0, .inr (6, [.ref hu, .ref hs, .ref hc, .ref hp, .ref hg, .int uc, .int sc, .int cc, .int td, .int sd]))] [] (va_A [(h0, .inr (6, [.ref hu, .ref hs, .ref hc, .ref hp, .ref hg, .int uc, .int sc, .int cc, .int td, .int sd]))] sz) t) (va_A [(h0, .inr (6, [.ref hu, .ref hs, .ref hc, .ref hp, .ref hg, .int uc, .int sc, .int cc, .int td, .int sd]))] sz)) (z_T (n0 < 0 ∨ ¬ n0 < cc) "java/lang/IndexOutOfBoundsException" D [(h0, .inr (6, [.ref hu, .ref hs, .ref hc, .ref hp, .ref hg, .int uc, .int sc, .int cc, .int td, .int sd]))] [] sz) 1 6 (va_A [(h0, .inr (6, [.ref hu, .ref hs, .ref hc, .ref hp, .ref hg, .int uc, .int sc, .int cc, .int td, .int sd]))] sz) := by
  refine vx_ofW (cc := cX4_needCrew) (maxL := 2) (ret := none) (by decide +kernel) rfl ?_
  intro p e s m args below meth c s₁ B hml hnt hv
  obtain ⟨rfl, hsz, hP, hK, hD0, hE, hX0⟩ := hv
  have hx := B.exec
  have hb := B.bytes
  have hr := B.returns
  have hts := z_E.ts (args := [.ref h0, .int n0].toArray) hE
  have hown : s.vm.findClass RX4 = some m.cls := findClass_of_methodNamed B.named
  have hlocks := B.notSynchronized
  subst hsz
  have hD := hD0.self (sz := s.heap.size)
  generalize hAe : va_A [(h0, .inr (6, [.ref hu, .ref hs, .ref hc, .ref hp, .ref hg, .int uc, .int sc, .int cc, .int td, .int sd]))] s.heap.size = A at hD hX0 ⊢
  have hX : z_X A s s.heap := hX0
  have hA : ∀ q : Nat, s.heap.size ≤ q → A q := fun q h => by rw [← hAe]; exact Or.inr h
  have hS : va_S A s.heap s.heap [] := va_S.rf
  have hP : va_P D vwCl [(h0, .inr (6, [.ref hu, .ref hs, .ref hc, .ref hp, .ref hg, .int uc, .int sc, .int cc, .int td, .int sd]))] s.heap := hP
  have hl := lv_entry ([.ref h0, .int n0]) (n := 2) (Nat.le_of_ble_eq_true rfl)
  rw [lg_entry_eq]
  generalize (lg_sl ([.ref h0, .int n0]) ++ List.replicate (2 - (lg_sl ([.ref h0, .int n0])).length) Slot.unset).toArray = ls at hl ⊢
  have hl : lv_has ls 2 [(0, .ref h0), (1, .int n0)] := hl
  skip
  refine lv_iload_n hx hb dX4_needCrew_0 rfl (lv_at hl 1 rfl) ?_
  refine lv_if_lt (tgt := 12) hx hb dX4_needCrew_1 (by decide) (fun c_1 => ?_) (fun c_1 => ?_)
  · obtain ⟨sa_2, hsa_2⟩ := z_str hE zw_897
    exact vx_throwSW (A := A) (names := ["java/lang/RuntimeException", "java/lang/Exception"]) hx hb hst hown (by decide +kernel) (by decide +kernel) (hts _ zw_529) (hts _ zw_111) hsa_2 (z_hat hE zat_X4_343) zgd_X4_343 hX.1 hX.2 hS (hl.1.trans hml.symm) dX4_needCrew_12 dX4_needCrew_15 dX4_needCrew_16 dX4_needCrew_19 dX4_needCrew_22 (fun x hx => (hnt x hx).elim) (Nat.le_of_ble_eq_true rfl) (Nat.le_of_ble_eq_true rfl) (Nat.le_of_ble_eq_true rfl) (Nat.le_of_ble_eq_true rfl) hlocks (z_thrown (Or.inl c_1) rfl hAe hP hK hD hS [0] rfl rfl [] rfl) hS.2.2 (Nat.le_of_ble_eq_true rfl) (Nat.le_of_ble_eq_true rfl)
  · refine lv_iload_n hx hb dX4_needCrew_4 rfl (lv_at hl 1 rfl) ?_
    refine lv_aload_n hx hb dX4_needCrew_5 rfl (lv_at hl 0 rfl) ?_
    refine va_get (D := D) (ci := 6) (v := .int cc) (C := RX4) (T := TX4) (N := 10) hx hb hts zin_X4 hown hK hP 0 rfl rfl 7 (by decide) (hts _ zw_293) (fun _ h9 => h9) rfl dX4_needCrew_6 ?_
    refine lv_icmp_lt (tgt := 23) hx hb dX4_needCrew_9 (by decide) (fun c_2 => ?_) (fun c_2 => ?_)
    · refine W.widen (k := 1) (n := 6) (Nat.le_of_ble_eq_true rfl) (Nat.le_of_ble_eq_true rfl) ?_
      exact vx_ret (W.vret hx hb hr (fun t ht hW => ⟨⟨(), rfl, ⟨c_1, c_2⟩, z_end hP hK hD [0] rfl rfl [] rfl ht hW.alike⟩, hS.F ht⟩) hS.2.2 dX4_needCrew_23)
    · obtain ⟨sa_3, hsa_3⟩ := z_str hE zw_897
      exact vx_throwSW (A := A) (names := ["java/lang/RuntimeException", "java/lang/Exception"]) hx hb hst hown (by decide +kernel) (by decide +kernel) (hts _ zw_529) (hts _ zw_111) hsa_3 (z_hat hE zat_X4_343) zgd_X4_343 hX.1 hX.2 hS (hl.1.trans hml.symm) dX4_needCrew_12 dX4_needCrew_15 dX4_needCrew_16 dX4_needCrew_19 dX4_needCrew_22 (fun x hx => (hnt x hx).elim) (Nat.le_of_ble_eq_true rfl) (Nat.le_of_ble_eq_true rfl) (Nat.le_of_ble_eq_true rfl) (Nat.le_of_ble_eq_true rfl) hlocks (z_thrown (Or.inr c_2) rfl hAe hP hK hD hS [0] rfl rfl [] rfl) hS.2.2 (Nat.le_of_ble_eq_true rfl) (Nat.le_of_ble_eq_true rfl)
theorem dX4_needRange_0 : decode cX4_needRange 0 = .ok (.iload_n 0, 1) := by decide +kernel
theorem dX4_needRange_1 : decode cX4_needRange 1 = .ok (.iload_n 1, 1) := by decide +kernel
theorem dX4_needRange_2 : decode cX4_needRange 2 = .ok (.if_icmp .lt 8, 3) := by decide +kernel
set_option maxRecDepth 20000 in
theorem zat_X4_84 : ∀ w ∈ vx_atS RX4 84 "java/lang/IllegalArgumentException" ["java/lang/RuntimeException", "java/lang/Exception"], w ∈ z_Ts := z_ins (by decide +kernel) (by decide +kernel)
set_option maxRecDepth 20000 in
theorem zgd_X4_84 : ∀ w ∈ Cond.classLink RX4 80 "java/lang/IllegalArgumentException" :: Cond.initialized "java/lang/IllegalArgumentException" :: vx_atS RX4 84 "java/lang/IllegalArgumentException" ["java/lang/RuntimeException", "java/lang/Exception"], vx_ot w = true := List.all_eq_true.mp (by decide +kernel)
theorem zw_458 : Cond.stringRef RX4 337 "a number is out of range" ∈ z_Ts := z_m 458 (by decide +kernel) (by decide +kernel)
theorem dX4_needRange_10 : decode cX4_needRange 10 = .ok (.new 80, 3) := by decide +kernel
theorem dX4_needRange_13 : decode cX4_needRange 13 = .ok (.dup, 1) := by decide +kernel
theorem dX4_needRange_14 : decode cX4_needRange 14 = .ok (.ldc_w 337, 3) := by decide +kernel
theorem dX4_needRange_17 : decode cX4_needRange 17 = .ok (.invokespecial 84, 3) := by decide +kernel
theorem dX4_needRange_20 : decode cX4_needRange 20 = .ok (.athrow, 1) := by decide +kernel
theorem zw_415 : Cond.classLink RX4 80 "java/lang/IllegalArgumentException" ∈ z_Ts := z_m 415 (by decide +kernel) (by decide +kernel)
theorem zw_103 : Cond.initialized "java/lang/IllegalArgumentException" ∈ z_Ts := z_m 103 (by decide +kernel) (by decide +kernel)
theorem dX4_needRange_5 : decode cX4_needRange 5 = .ok (.iload_n 0, 1) := by decide +kernel
theorem dX4_needRange_6 : decode cX4_needRange 6 = .ok (.iload_n 2, 1) := by decide +kernel
theorem dX4_needRange_7 : decode cX4_needRange 7 = .ok (.if_icmp .le 14, 3) := by decide +kernel
theorem dX4_needRange_21 : decode cX4_needRange 21 = .ok (.return_, 1) := by decide +kernel
set_option maxHeartbeats 4000000 in
set_option maxRecDepth 100000 in
theorem c_X4_needRange (l : Launch) (hst : l.stackTraces = false) (D : va_G) (n0 : Int32) (lo : Int32) (hi : Int32) (sz : Nat)  : vx_Met l yX4_needRange [Cond.code yX4_needRange cX4_needRange 3 none] ({ frames := 6, cells := 1, slots := 6, locals := 100 }) (z_Pc D [.int n0, .int lo, .int hi] [] [] sz) (va_Qv (fun _ : Unit => ¬ (n0 < lo) ∧ n0 ≤ hi) (fun _ t => z_W D [] [] (va_A [] sz) t) (va_A [] sz)) (z_T (n0 < lo ∨ ¬ n0 ≤ hi) "java/lang/IllegalArgumentException" D [] [] sz) 1 6 (va_A [] sz) := by
  refine vx_ofW (cc := cX4_needRange) (maxL := 3) (ret := none) (by decide +kernel) rfl ?_
  intro p e s m args below meth c s₁ B hml hnt hv
  obtain ⟨rfl, hsz, hP, hK, hD0, hE, hX0⟩ := hv
  have hx := B.exec
  have hb := B.bytes
  have hr := B.returns
  have hts := z_E.ts (args := [.int n0, .int lo, .int hi].toArray) hE
  have hown : s.vm.findClass RX4 = some m.cls := findClass_of_methodNamed B.named
  have hlocks := B.notSynchronized
  subst hsz
  have hD := hD0.self (sz := s.heap.size)
  generalize hAe : va_A [] s.heap.size = A at hD hX0 ⊢
  have hX : z_X A s s.heap := hX0
  have hA : ∀ q : Nat, s.heap.size ≤ q → A q := fun q h => by rw [← hAe]; exact Or.inr h
  have hS : va_S A s.heap s.heap [] := va_S.rf
  have hP : va_P D vwCl [] s.heap := hP
  have hl := lv_entry ([.int n0, .int lo, .int hi]) (n := 3) (Nat.le_of_ble_eq_true rfl)
  rw [lg_entry_eq]
  generalize (lg_sl ([.int n0, .int lo, .int hi]) ++ List.replicate (3 - (lg_sl ([.int n0, .int lo, .int hi])).length) Slot.unset).toArray = ls at hl ⊢
  have hl : lv_has ls 3 [(0, .int n0), (1, .int lo), (2, .int hi)] := hl
  skip
  refine lv_iload_n hx hb dX4_needRange_0 rfl (lv_at hl 0 rfl) ?_
  refine lv_iload_n hx hb dX4_needRange_1 rfl (lv_at hl 1 rfl) ?_
  refine lv_icmp_lt (tgt := 10) hx hb dX4_needRange_2 (by decide) (fun c_1 => ?_) (fun c_1 => ?_)
  · obtain ⟨sa_2, hsa_2⟩ := z_str hE zw_458
    exact vx_throwSW (A := A) (names := ["java/lang/RuntimeException", "java/lang/Exception"]) hx hb hst hown (by decide +kernel) (by decide +kernel) (hts _ zw_415) (hts _ zw_103) hsa_2 (z_hat hE zat_X4_84) zgd_X4_84 hX.1 hX.2 hS (hl.1.trans hml.symm) dX4_needRange_10 dX4_needRange_13 dX4_needRange_14 dX4_needRange_17 dX4_needRange_20 (fun x hx => (hnt x hx).elim) (Nat.le_of_ble_eq_true rfl) (Nat.le_of_ble_eq_true rfl) (Nat.le_of_ble_eq_true rfl) (Nat.le_of_ble_eq_true rfl) hlocks (z_thrown (Or.inl c_1) rfl hAe hP hK hD hS [] rfl rfl [] rfl) hS.2.2 (Nat.le_of_ble_eq_true rfl) (Nat.le_of_ble_eq_true rfl)
  · refine lv_iload_n hx hb dX4_needRange_5 rfl (lv_at hl 0 rfl) ?_
    refine lv_iload_n hx hb dX4_needRange_6 rfl (lv_at hl 2 rfl) ?_
    refine lv_icmp_le (tgt := 21) hx hb dX4_needRange_7 (by decide) (fun c_2 => ?_) (fun c_2 => ?_)
    · refine W.widen (k := 1) (n := 6) (Nat.le_of_ble_eq_true rfl) (Nat.le_of_ble_eq_true rfl) ?_
      exact vx_ret (W.vret hx hb hr (fun t ht hW => ⟨⟨(), rfl, ⟨c_1, c_2⟩, z_end hP hK hD [] rfl rfl [] rfl ht hW.alike⟩, hS.F ht⟩) hS.2.2 dX4_needRange_21)
    · obtain ⟨sa_3, hsa_3⟩ := z_str hE zw_458
      exact vx_throwSW (A := A) (names := ["java/lang/RuntimeException", "java/lang/Exception"]) hx hb hst hown (by decide +kernel) (by decide +kernel) (hts _ zw_415) (hts _ zw_103) hsa_3 (z_hat hE zat_X4_84) zgd_X4_84 hX.1 hX.2 hS (hl.1.trans hml.symm) dX4_needRange_10 dX4_needRange_13 dX4_needRange_14 dX4_needRange_17 dX4_needRange_20 (fun x hx => (hnt x hx).elim) (Nat.le_of_ble_eq_true rfl) (Nat.le_of_ble_eq_true rfl) (Nat.le_of_ble_eq_true rfl) (Nat.le_of_ble_eq_true rfl) hlocks (z_thrown (Or.inr c_2) rfl hAe hP hK hD hS [] rfl rfl [] rfl) hS.2.2 (Nat.le_of_ble_eq_true rfl) (Nat.le_of_ble_eq_true rfl)
end
section
theorem dX4_addWall_0 : decode cX4_addWall 0 = .ok (.aload_n 0, 1) := by decide +kernel
theorem dX4_addWall_1 : decode cX4_addWall 1 = .ok (.iload_n 1, 1) := by decide +kernel
theorem dX4_addWall_2 : decode cX4_addWall 2 = .ok (.invokevirtual 76, 3) := by decide +kernel
theorem zw_525 : Cond.methodLink RX4 76 yX4_needUnit ∈ z_Ts := z_m 525 (by decide +kernel) (by decide +kernel)
theorem zw_527 : Cond.instanceMethod yX4_needUnit ∈ z_Ts := z_m 527 (by decide +kernel) (by decide +kernel)
theorem zw_13 : Cond.selects RX4 yX4_needUnit yX4_needUnit ∈ z_Ts := z_m 13 (by decide +kernel) (by decide +kernel)
theorem zw_91 : Cond.initialized RX4 ∈ z_Ts := z_m 91 (by decide +kernel) (by decide +kernel)
theorem zw_528 : Cond.code yX4_needUnit cX4_needUnit 2 none ∈ z_Ts := z_m 528 (by decide +kernel) (by decide +kernel)
set_option maxHeartbeats 4000000 in
set_option maxRecDepth 100000 in
theorem f_X4_addWall (l : Launch) (hst : l.stackTraces = false) (D : va_G) (h0 : Nat) (hu : Nat) (hs : Nat) (hc : Nat) (hp : Nat) (hg : Nat) (td : Int32) (sd : Int32) (a0 : Int32) (a1 : Int32) (sz : Nat)  : vx_Met l yX4_addWall [Cond.code yX4_addWall cX4_addWall 3 (some .int)] ({ frames := 7, cells := 1, slots := 6, locals := 130 }) (z_Pc D [.ref h0, .int a0, .int a1] [(h0, .inr (6, [.ref hu, .ref hs, .ref hc, .ref hp, .ref hg, .int 0, .int 0, .int 0, .int td, .int sd]))] [] sz) (va_Qi (fun (r : Int32) (_ : Unit) => False) (fun _ t => True) (va_A [(h0, .inr (6, [.ref hu, .ref hs, .ref hc, .ref hp, .ref hg, .int 0, .int 0, .int 0, .int td, .int sd]))] sz)) (z_T (True) "java/lang/IndexOutOfBoundsException" D [(h0, .inr (6, [.ref hu, .ref hs, .ref hc, .ref hp, .ref hg, .int 0, .int 0, .int 0, .int td, .int sd]))] [] sz) 1 6 (va_A [(h0, .inr (6, [.ref hu, .ref hs, .ref hc, .ref hp, .ref hg, .int 0, .int 0, .int 0, .int td, .int sd]))] sz) := by
  refine vx_ofW (cc := cX4_addWall) (maxL := 3) (ret := (some .int)) (by decide +kernel) rfl ?_
  intro p e s m args below meth c s₁ B hml hnt hv
  obtain ⟨rfl, hsz, hP, hK, hD0, hE, hX0⟩ := hv
  have hx := B.exec
  have hb := B.bytes
  have hr := B.returns
  have hts := z_E.ts (args := [.ref h0, .int a0, .int a1].toArray) hE
  have hown : s.vm.findClass RX4 = some m.cls := findClass_of_methodNamed B.named
  have hlocks := B.notSynchronized
  subst hsz
  have hD := hD0.self (sz := s.heap.size)
  generalize hAe : va_A [(h0, .inr (6, [.ref hu, .ref hs, .ref hc, .ref hp, .ref hg, .int 0, .int 0, .int 0, .int td, .int sd]))] s.heap.size = A at hD hX0 ⊢
  have hX : z_X A s s.heap := hX0
  have hA : ∀ q : Nat, s.heap.size ≤ q → A q := fun q h => by rw [← hAe]; exact Or.inr h
  have hS : va_S A s.heap s.heap [] := va_S.rf
  have hP : va_P D vwCl [(h0, .inr (6, [.ref hu, .ref hs, .ref hc, .ref hp, .ref hg, .int 0, .int 0, .int 0, .int td, .int sd]))] s.heap := hP
  have hl := lv_entry ([.ref h0, .int a0, .int a1]) (n := 3) (Nat.le_of_ble_eq_true rfl)
  rw [lg_entry_eq]
  generalize (lg_sl ([.ref h0, .int a0, .int a1]) ++ List.replicate (3 - (lg_sl ([.ref h0, .int a0, .int a1])).length) Slot.unset).toArray = ls at hl ⊢
  have hl : lv_has ls 3 [(0, .ref h0), (1, .int a0), (2, .int a1)] := hl
  skip
  refine lv_aload_n hx hb dX4_addWall_0 rfl (lv_at hl 0 rfl) ?_
  refine lv_iload_n hx hb dX4_addWall_1 rfl (lv_at hl 1 rfl) ?_
  obtain ⟨hb_1, hc_1⟩ := z_call (wc := [(h0, .inr (6, [.ref hu, .ref hs, .ref hc, .ref hp, .ref hg, .int 0, .int 0, .int 0, .int td, .int sd]))]) (tc := []) ([.ref h0, .int a0]) hP hK hD hS hA hE hX [0] rfl rfl [] rfl
  have hF_1 := va_free (wc := [(h0, .inr (6, [.ref hu, .ref hs, .ref hc, .ref hp, .ref hg, .int 0, .int 0, .int 0, .int td, .int sd]))]) hD hS hA [0] rfl
  refine vx_callv (vx_runV (As := [.int a0]) (rest := []) ⟨hx, hb, hml, hown, hts⟩ (c_X4_needUnit l hst D h0 hu hs hc hp hg 0 0 0 td sd a0 _ ) (z_cV 1 hE zw_525 zw_527 zw_13 zw_91 zw_528 rfl rfl rfl (by decide +kernel) ⟨(Nat.le_of_ble_eq_true rfl), (Nat.le_of_ble_eq_true rfl)⟩) ⟨hb_1, va_recv hK hP (ci := 6) (q0 := 0) rfl rfl, hc_1⟩ rfl rfl hl.1 rfl (lv_room (Nat.le_of_ble_eq_true rfl)) dX4_addWall_2 ⟨(Nat.le_of_ble_eq_true rfl), (Nat.le_of_ble_eq_true rfl)⟩) hS (fun q _ h => hF_1 q h) hF_1 (fun q _ h => hF_1 q h) (fun E_1 ce_1 q9_1 u_1 t_1 H1 locs ht_1 hvm_1 hw_1 hB_1 hz_1 hk_1 hS1 hce_1 hcv_1 hcl_1 => ?_) (fun u_1 t_1 H1 locs ht_1 hvm_1 hw_1 hB_1 hz_1 hk_1 hS1 => ?_)
  · obtain ⟨rfl, hB_1⟩ := hB_1
    obtain ⟨hP, hK, hD⟩ := z_back (wc := [(h0, .inr (6, [.ref hu, .ref hs, .ref hc, .ref hp, .ref hg, .int 0, .int 0, .int 0, .int td, .int sd]))]) (wr := []) (w1 := [(h0, .inr (6, [.ref hu, .ref hs, .ref hc, .ref hp, .ref hg, .int 0, .int 0, .int 0, .int td, .int sd]))]) (tr := []) hP hK hD [0] [] rfl rfl rfl (by decide) ht_1 hvm_1 hk_1 hF_1 [] rfl hB_1
    have hS := hS1
    have hP : va_P D vwCl [(h0, .inr (6, [.ref hu, .ref hs, .ref hc, .ref hp, .ref hg, .int 0, .int 0, .int 0, .int td, .int sd]))] H1 := hP
    have hD : va_D A [(h0, .inr (6, [.ref hu, .ref hs, .ref hc, .ref hp, .ref hg, .int 0, .int 0, .int 0, .int td, .int sd]))] := hD
    have hK : va_K D vwCl [] s := hK
    clear hS1
    exact vx_out (fun x hx => (hnt x hx).elim) hlocks hce_1 hcv_1 hcl_1 (fun t ht hvm => z_through trivial rfl hAe hP hK hD hS [0] rfl rfl [] rfl ht hvm) hS.2.2 (Nat.le_of_ble_eq_true rfl) (Nat.le_of_ble_eq_true rfl)
  · obtain ⟨hP, hK, hD⟩ := z_back (wc := [(h0, .inr (6, [.ref hu, .ref hs, .ref hc, .ref hp, .ref hg, .int 0, .int 0, .int 0, .int td, .int sd]))]) (wr := []) (w1 := [(h0, .inr (6, [.ref hu, .ref hs, .ref hc, .ref hp, .ref hg, .int 0, .int 0, .int 0, .int td, .int sd]))]) (tr := []) hP hK hD [0] [] rfl rfl rfl (by decide) ht_1 hvm_1 hk_1 hF_1 [] rfl hB_1
    have hS := hS1
    have hP : va_P D vwCl [(h0, .inr (6, [.ref hu, .ref hs, .ref hc, .ref hp, .ref hg, .int 0, .int 0, .int 0, .int td, .int sd]))] H1 := hP
    have hD : va_D A [(h0, .inr (6, [.ref hu, .ref hs, .ref hc, .ref hp, .ref hg, .int 0, .int 0, .int 0, .int td, .int sd]))] := hD
    have hK : va_K D vwCl [] s := hK
    clear hS1
    exact absurd (Int32.not_lt.mp hw_1.1) (Int32.not_le.mpr hw_1.2)
theorem dX4_plan_0 : decode cX4_plan 0 = .ok (.aload_n 0, 1) := by decide +kernel
theorem dX4_plan_1 : decode cX4_plan 1 = .ok (.iload_n 1, 1) := by decide +kernel
theorem dX4_plan_2 : decode cX4_plan 2 = .ok (.invokevirtual 76, 3) := by decide +kernel
set_option maxHeartbeats 4000000 in
set_option maxRecDepth 100000 in
theorem f_X4_plan (l : Launch) (hst : l.stackTraces = false) (D : va_G) (h0 : Nat) (hu : Nat) (hs : Nat) (hc : Nat) (hp : Nat) (hg : Nat) (td : Int32) (sd : Int32) (a0 : Int32) (a1 : Int32) (sz : Nat)  : vx_Met l yX4_plan [Cond.code yX4_plan cX4_plan 3 (some .int)] ({ frames := 7, cells := 1, slots := 6, locals := 130 }) (z_Pc D [.ref h0, .int a0, .int a1] [(h0, .inr (6, [.ref hu, .ref hs, .ref hc, .ref hp, .ref hg, .int 0, .int 0, .int 0, .int td, .int sd]))] [] sz) (va_Qi (fun (r : Int32) (_ : Unit) => False) (fun _ t => True) (va_A [(h0, .inr (6, [.ref hu, .ref hs, .ref hc, .ref hp, .ref hg, .int 0, .int 0, .int 0, .int td, .int sd]))] sz)) (z_T (True) "java/lang/IndexOutOfBoundsException" D [(h0, .inr (6, [.ref hu, .ref hs, .ref hc, .ref hp, .ref hg, .int 0, .int 0, .int 0, .int td, .int sd]))] [] sz) 1 6 (va_A [(h0, .inr (6, [.ref hu, .ref hs, .ref hc, .ref hp, .ref hg, .int 0, .int 0, .int 0, .int td, .int sd]))] sz) := by
  refine vx_ofW (cc := cX4_plan) (maxL := 3) (ret := (some .int)) (by decide +kernel) rfl ?_
  intro p e s m args below meth c s₁ B hml hnt hv
  obtain ⟨rfl, hsz, hP, hK, hD0, hE, hX0⟩ := hv
  have hx := B.exec
  have hb := B.bytes
  have hr := B.returns
  have hts := z_E.ts (args := [.ref h0, .int a0, .int a1].toArray) hE
  have hown : s.vm.findClass RX4 = some m.cls := findClass_of_methodNamed B.named
  have hlocks := B.notSynchronized
  subst hsz
  have hD := hD0.self (sz := s.heap.size)
  generalize hAe : va_A [(h0, .inr (6, [.ref hu, .ref hs, .ref hc, .ref hp, .ref hg, .int 0, .int 0, .int 0, .int td, .int sd]))] s.heap.size = A at hD hX0 ⊢
  have hX : z_X A s s.heap := hX0
  have hA : ∀ q : Nat, s.heap.size ≤ q → A q := fun q h => by rw [← hAe]; exact Or.inr h
  have hS : va_S A s.heap s.heap [] := va_S.rf
  have hP : va_P D vwCl [(h0, .inr (6, [.ref hu, .ref hs, .ref hc, .ref hp, .ref hg, .int 0, .int 0, .int 0, .int td, .int sd]))] s.heap := hP
  have hl := lv_entry ([.ref h0, .int a0, .int a1]) (n := 3) (Nat.le_of_ble_eq_true rfl)
  rw [lg_entry_eq]
  generalize (lg_sl ([.ref h0, .int a0, .int a1]) ++ List.replicate (3 - (lg_sl ([.ref h0, .int a0, .int a1])).length) Slot.unset).toArray = ls at hl ⊢
  have hl : lv_has ls 3 [(0, .ref h0), (1, .int a0), (2, .int a1)] := hl
  skip
  refine lv_aload_n hx hb dX4_plan_0 rfl (lv_at hl 0 rfl) ?_
  refine lv_iload_n hx hb dX4_plan_1 rfl (lv_at hl 1 rfl) ?_
  obtain ⟨hb_1, hc_1⟩ := z_call (wc := [(h0, .inr (6, [.ref hu, .ref hs, .ref hc, .ref hp, .ref hg, .int 0, .int 0, .int 0, .int td, .int sd]))]) (tc := []) ([.ref h0, .int a0]) hP hK hD hS hA hE hX [0] rfl rfl [] rfl
  have hF_1 := va_free (wc := [(h0, .inr (6, [.ref hu, .ref hs, .ref hc, .ref hp, .ref hg, .int 0, .int 0, .int 0, .int td, .int sd]))]) hD hS hA [0] rfl
  refine vx_callv (vx_runV (As := [.int a0]) (rest := []) ⟨hx, hb, hml, hown, hts⟩ (c_X4_needUnit l hst D h0 hu hs hc hp hg 0 0 0 td sd a0 _ ) (z_cV 1 hE zw_525 zw_527 zw_13 zw_91 zw_528 rfl rfl rfl (by decide +kernel) ⟨(Nat.le_of_ble_eq_true rfl), (Nat.le_of_ble_eq_true rfl)⟩) ⟨hb_1, va_recv hK hP (ci := 6) (q0 := 0) rfl rfl, hc_1⟩ rfl rfl hl.1 rfl (lv_room (Nat.le_of_ble_eq_true rfl)) dX4_plan_2 ⟨(Nat.le_of_ble_eq_true rfl), (Nat.le_of_ble_eq_true rfl)⟩) hS (fun q _ h => hF_1 q h) hF_1 (fun q _ h => hF_1 q h) (fun E_1 ce_1 q9_1 u_1 t_1 H1 locs ht_1 hvm_1 hw_1 hB_1 hz_1 hk_1 hS1 hce_1 hcv_1 hcl_1 => ?_) (fun u_1 t_1 H1 locs ht_1 hvm_1 hw_1 hB_1 hz_1 hk_1 hS1 => ?_)
  · obtain ⟨rfl, hB_1⟩ := hB_1
    obtain ⟨hP, hK, hD⟩ := z_back (wc := [(h0, .inr (6, [.ref hu, .ref hs, .ref hc, .ref hp, .ref hg, .int 0, .int 0, .int 0, .int td, .int sd]))]) (wr := []) (w1 := [(h0, .inr (6, [.ref hu, .ref hs, .ref hc, .ref hp, .ref hg, .int 0, .int 0, .int 0, .int td, .int sd]))]) (tr := []) hP hK hD [0] [] rfl rfl rfl (by decide) ht_1 hvm_1 hk_1 hF_1 [] rfl hB_1
    have hS := hS1
    have hP : va_P D vwCl [(h0, .inr (6, [.ref hu, .ref hs, .ref hc, .ref hp, .ref hg, .int 0, .int 0, .int 0, .int td, .int sd]))] H1 := hP
    have hD : va_D A [(h0, .inr (6, [.ref hu, .ref hs, .ref hc, .ref hp, .ref hg, .int 0, .int 0, .int 0, .int td, .int sd]))] := hD
    have hK : va_K D vwCl [] s := hK
    clear hS1
    exact vx_out (fun x hx => (hnt x hx).elim) hlocks hce_1 hcv_1 hcl_1 (fun t ht hvm => z_through trivial rfl hAe hP hK hD hS [0] rfl rfl [] rfl ht hvm) hS.2.2 (Nat.le_of_ble_eq_true rfl) (Nat.le_of_ble_eq_true rfl)
  · obtain ⟨hP, hK, hD⟩ := z_back (wc := [(h0, .inr (6, [.ref hu, .ref hs, .ref hc, .ref hp, .ref hg, .int 0, .int 0, .int 0, .int td, .int sd]))]) (wr := []) (w1 := [(h0, .inr (6, [.ref hu, .ref hs, .ref hc, .ref hp, .ref hg, .int 0, .int 0, .int 0, .int td, .int sd]))]) (tr := []) hP hK hD [0] [] rfl rfl rfl (by decide) ht_1 hvm_1 hk_1 hF_1 [] rfl hB_1
    have hS := hS1
    have hP : va_P D vwCl [(h0, .inr (6, [.ref hu, .ref hs, .ref hc, .ref hp, .ref hg, .int 0, .int 0, .int 0, .int td, .int sd]))] H1 := hP
    have hD : va_D A [(h0, .inr (6, [.ref hu, .ref hs, .ref hc, .ref hp, .ref hg, .int 0, .int 0, .int 0, .int td, .int sd]))] := hD
    have hK : va_K D vwCl [] s := hK
    clear hS1
    exact absurd (Int32.not_lt.mp hw_1.1) (Int32.not_le.mpr hw_1.2)
theorem dX4_rest_0 : decode cX4_rest 0 = .ok (.aload_n 0, 1) := by decide +kernel
theorem dX4_rest_1 : decode cX4_rest 1 = .ok (.iload_n 1, 1) := by decide +kernel
theorem dX4_rest_2 : decode cX4_rest 2 = .ok (.invokevirtual 76, 3) := by decide +kernel
set_option maxHeartbeats 4000000 in
set_option maxRecDepth 100000 in
theorem f_X4_rest (l : Launch) (hst : l.stackTraces = false) (D : va_G) (h0 : Nat) (hu : Nat) (hs : Nat) (hc : Nat) (hp : Nat) (hg : Nat) (td : Int32) (sd : Int32) (a0 : Int32) (a1 : Int32) (sz : Nat)  : vx_Met l yX4_rest [Cond.code yX4_rest cX4_rest 4 (some .boolean)] ({ frames := 7, cells := 1, slots := 6, locals := 130 }) (z_Pc D [.ref h0, .int a0, .int a1] [(h0, .inr (6, [.ref hu, .ref hs, .ref hc, .ref hp, .ref hg, .int 0, .int 0, .int 0, .int td, .int sd]))] [] sz) (va_Qi (fun (r : Int32) (_ : Unit) => False) (fun _ t => True) (va_A [(h0, .inr (6, [.ref hu, .ref hs, .ref hc, .ref hp, .ref hg, .int 0, .int 0, .int 0, .int td, .int sd]))] sz)) (z_T (True) "java/lang/IndexOutOfBoundsException" D [(h0, .inr (6, [.ref hu, .ref hs, .ref hc, .ref hp, .ref hg, .int 0, .int 0, .int 0, .int td, .int sd]))] [] sz) 1 6 (va_A [(h0, .inr (6, [.ref hu, .ref hs, .ref hc, .ref hp, .ref hg, .int 0, .int 0, .int 0, .int td, .int sd]))] sz) := by
  refine vx_ofW (cc := cX4_rest) (maxL := 4) (ret := (some .boolean)) (by decide +kernel) rfl ?_
  intro p e s m args below meth c s₁ B hml hnt hv
  obtain ⟨rfl, hsz, hP, hK, hD0, hE, hX0⟩ := hv
  have hx := B.exec
  have hb := B.bytes
  have hr := B.returns
  have hts := z_E.ts (args := [.ref h0, .int a0, .int a1].toArray) hE
  have hown : s.vm.findClass RX4 = some m.cls := findClass_of_methodNamed B.named
  have hlocks := B.notSynchronized
  subst hsz
  have hD := hD0.self (sz := s.heap.size)
  generalize hAe : va_A [(h0, .inr (6, [.ref hu, .ref hs, .ref hc, .ref hp, .ref hg, .int 0, .int 0, .int 0, .int td, .int sd]))] s.heap.size = A at hD hX0 ⊢
  have hX : z_X A s s.heap := hX0
  have hA : ∀ q : Nat, s.heap.size ≤ q → A q := fun q h => by rw [← hAe]; exact Or.inr h
  have hS : va_S A s.heap s.heap [] := va_S.rf
  have hP : va_P D vwCl [(h0, .inr (6, [.ref hu, .ref hs, .ref hc, .ref hp, .ref hg, .int 0, .int 0, .int 0, .int td, .int sd]))] s.heap := hP
  have hl := lv_entry ([.ref h0, .int a0, .int a1]) (n := 4) (Nat.le_of_ble_eq_true rfl)
  rw [lg_entry_eq]
  generalize (lg_sl ([.ref h0, .int a0, .int a1]) ++ List.replicate (4 - (lg_sl ([.ref h0, .int a0, .int a1])).length) Slot.unset).toArray = ls at hl ⊢
  have hl : lv_has ls 4 [(0, .ref h0), (1, .int a0), (2, .int a1)] := hl
  skip
  refine lv_aload_n hx hb dX4_rest_0 rfl (lv_at hl 0 rfl) ?_
  refine lv_iload_n hx hb dX4_rest_1 rfl (lv_at hl 1 rfl) ?_
  obtain ⟨hb_1, hc_1⟩ := z_call (wc := [(h0, .inr (6, [.ref hu, .ref hs, .ref hc, .ref hp, .ref hg, .int 0, .int 0, .int 0, .int td, .int sd]))]) (tc := []) ([.ref h0, .int a0]) hP hK hD hS hA hE hX [0] rfl rfl [] rfl
  have hF_1 := va_free (wc := [(h0, .inr (6, [.ref hu, .ref hs, .ref hc, .ref hp, .ref hg, .int 0, .int 0, .int 0, .int td, .int sd]))]) hD hS hA [0] rfl
  refine vx_callv (vx_runV (As := [.int a0]) (rest := []) ⟨hx, hb, hml, hown, hts⟩ (c_X4_needUnit l hst D h0 hu hs hc hp hg 0 0 0 td sd a0 _ ) (z_cV 1 hE zw_525 zw_527 zw_13 zw_91 zw_528 rfl rfl rfl (by decide +kernel) ⟨(Nat.le_of_ble_eq_true rfl), (Nat.le_of_ble_eq_true rfl)⟩) ⟨hb_1, va_recv hK hP (ci := 6) (q0 := 0) rfl rfl, hc_1⟩ rfl rfl hl.1 rfl (lv_room (Nat.le_of_ble_eq_true rfl)) dX4_rest_2 ⟨(Nat.le_of_ble_eq_true rfl), (Nat.le_of_ble_eq_true rfl)⟩) hS (fun q _ h => hF_1 q h) hF_1 (fun q _ h => hF_1 q h) (fun E_1 ce_1 q9_1 u_1 t_1 H1 locs ht_1 hvm_1 hw_1 hB_1 hz_1 hk_1 hS1 hce_1 hcv_1 hcl_1 => ?_) (fun u_1 t_1 H1 locs ht_1 hvm_1 hw_1 hB_1 hz_1 hk_1 hS1 => ?_)
  · obtain ⟨rfl, hB_1⟩ := hB_1
    obtain ⟨hP, hK, hD⟩ := z_back (wc := [(h0, .inr (6, [.ref hu, .ref hs, .ref hc, .ref hp, .ref hg, .int 0, .int 0, .int 0, .int td, .int sd]))]) (wr := []) (w1 := [(h0, .inr (6, [.ref hu, .ref hs, .ref hc, .ref hp, .ref hg, .int 0, .int 0, .int 0, .int td, .int sd]))]) (tr := []) hP hK hD [0] [] rfl rfl rfl (by decide) ht_1 hvm_1 hk_1 hF_1 [] rfl hB_1
    have hS := hS1
    have hP : va_P D vwCl [(h0, .inr (6, [.ref hu, .ref hs, .ref hc, .ref hp, .ref hg, .int 0, .int 0, .int 0, .int td, .int sd]))] H1 := hP
    have hD : va_D A [(h0, .inr (6, [.ref hu, .ref hs, .ref hc, .ref hp, .ref hg, .int 0, .int 0, .int 0, .int td, .int sd]))] := hD
    have hK : va_K D vwCl [] s := hK
    clear hS1
    exact vx_out (fun x hx => (hnt x hx).elim) hlocks hce_1 hcv_1 hcl_1 (fun t ht hvm => z_through trivial rfl hAe hP hK hD hS [0] rfl rfl [] rfl ht hvm) hS.2.2 (Nat.le_of_ble_eq_true rfl) (Nat.le_of_ble_eq_true rfl)
  · obtain ⟨hP, hK, hD⟩ := z_back (wc := [(h0, .inr (6, [.ref hu, .ref hs, .ref hc, .ref hp, .ref hg, .int 0, .int 0, .int 0, .int td, .int sd]))]) (wr := []) (w1 := [(h0, .inr (6, [.ref hu, .ref hs, .ref hc, .ref hp, .ref hg, .int 0, .int 0, .int 0, .int td, .int sd]))]) (tr := []) hP hK hD [0] [] rfl rfl rfl (by decide) ht_1 hvm_1 hk_1 hF_1 [] rfl hB_1
    have hS := hS1
    have hP : va_P D vwCl [(h0, .inr (6, [.ref hu, .ref hs, .ref hc, .ref hp, .ref hg, .int 0, .int 0, .int 0, .int td, .int sd]))] H1 := hP
    have hD : va_D A [(h0, .inr (6, [.ref hu, .ref hs, .ref hc, .ref hp, .ref hg, .int 0, .int 0, .int 0, .int td, .int sd]))] := hD
    have hK : va_K D vwCl [] s := hK
    clear hS1
    exact absurd (Int32.not_lt.mp hw_1.1) (Int32.not_le.mpr hw_1.2)
theorem dX4_notice_0 : decode cX4_notice 0 = .ok (.aload_n 0, 1) := by decide +kernel
theorem dX4_notice_1 : decode cX4_notice 1 = .ok (.iload_n 1, 1) := by decide +kernel
theorem dX4_notice_2 : decode cX4_notice 2 = .ok (.invokevirtual 76, 3) := by decide +kernel
set_option maxHeartbeats 4000000 in
set_option maxRecDepth 100000 in
theorem f_X4_notice (l : Launch) (hst : l.stackTraces = false) (D : va_G) (h0 : Nat) (hu : Nat) (hs : Nat) (hc : Nat) (hp : Nat) (hg : Nat) (td : Int32) (sd : Int32) (a0 : Int32) (a1 : Int32) (sz : Nat)  : vx_Met l yX4_notice [Cond.code yX4_notice cX4_notice 3 (some .int)] ({ frames := 7, cells := 1, slots := 6, locals := 130 }) (z_Pc D [.ref h0, .int a0, .int a1] [(h0, .inr (6, [.ref hu, .ref hs, .ref hc, .ref hp, .ref hg, .int 0, .int 0, .int 0, .int td, .int sd]))] [] sz) (va_Qi (fun (r : Int32) (_ : Unit) => False) (fun _ t => True) (va_A [(h0, .inr (6, [.ref hu, .ref hs, .ref hc, .ref hp, .ref hg, .int 0, .int 0, .int 0, .int td, .int sd]))] sz)) (z_T (True) "java/lang/IndexOutOfBoundsException" D [(h0, .inr (6, [.ref hu, .ref hs, .ref hc, .ref hp, .ref hg, .int 0, .int 0, .int 0, .int td, .int sd]))] [] sz) 1 6 (va_A [(h0, .inr (6, [.ref hu, .ref hs, .ref hc, .ref hp, .ref hg, .int 0, .int 0, .int 0, .int td, .int sd]))] sz) := by
  refine vx_ofW (cc := cX4_notice) (maxL := 3) (ret := (some .int)) (by decide +kernel) rfl ?_
  intro p e s m args below meth c s₁ B hml hnt hv
  obtain ⟨rfl, hsz, hP, hK, hD0, hE, hX0⟩ := hv
  have hx := B.exec
  have hb := B.bytes
  have hr := B.returns
  have hts := z_E.ts (args := [.ref h0, .int a0, .int a1].toArray) hE
  have hown : s.vm.findClass RX4 = some m.cls := findClass_of_methodNamed B.named
  have hlocks := B.notSynchronized
  subst hsz
  have hD := hD0.self (sz := s.heap.size)
  generalize hAe : va_A [(h0, .inr (6, [.ref hu, .ref hs, .ref hc, .ref hp, .ref hg, .int 0, .int 0, .int 0, .int td, .int sd]))] s.heap.size = A at hD hX0 ⊢
  have hX : z_X A s s.heap := hX0
  have hA : ∀ q : Nat, s.heap.size ≤ q → A q := fun q h => by rw [← hAe]; exact Or.inr h
  have hS : va_S A s.heap s.heap [] := va_S.rf
  have hP : va_P D vwCl [(h0, .inr (6, [.ref hu, .ref hs, .ref hc, .ref hp, .ref hg, .int 0, .int 0, .int 0, .int td, .int sd]))] s.heap := hP
  have hl := lv_entry ([.ref h0, .int a0, .int a1]) (n := 3) (Nat.le_of_ble_eq_true rfl)
  rw [lg_entry_eq]
  generalize (lg_sl ([.ref h0, .int a0, .int a1]) ++ List.replicate (3 - (lg_sl ([.ref h0, .int a0, .int a1])).length) Slot.unset).toArray = ls at hl ⊢
  have hl : lv_has ls 3 [(0, .ref h0), (1, .int a0), (2, .int a1)] := hl
  skip
  refine lv_aload_n hx hb dX4_notice_0 rfl (lv_at hl 0 rfl) ?_
  refine lv_iload_n hx hb dX4_notice_1 rfl (lv_at hl 1 rfl) ?_
  obtain ⟨hb_1, hc_1⟩ := z_call (wc := [(h0, .inr (6, [.ref hu, .ref hs, .ref hc, .ref hp, .ref hg, .int 0, .int 0, .int 0, .int td, .int sd]))]) (tc := []) ([.ref h0, .int a0]) hP hK hD hS hA hE hX [0] rfl rfl [] rfl
  have hF_1 := va_free (wc := [(h0, .inr (6, [.ref hu, .ref hs, .ref hc, .ref hp, .ref hg, .int 0, .int 0, .int 0, .int td, .int sd]))]) hD hS hA [0] rfl
  refine vx_callv (vx_runV (As := [.int a0]) (rest := []) ⟨hx, hb, hml, hown, hts⟩ (c_X4_needUnit l hst D h0 hu hs hc hp hg 0 0 0 td sd a0 _ ) (z_cV 1 hE zw_525 zw_527 zw_13 zw_91 zw_528 rfl rfl rfl (by decide +kernel) ⟨(Nat.le_of_ble_eq_true rfl), (Nat.le_of_ble_eq_true rfl)⟩) ⟨hb_1, va_recv hK hP (ci := 6) (q0 := 0) rfl rfl, hc_1⟩ rfl rfl hl.1 rfl (lv_room (Nat.le_of_ble_eq_true rfl)) dX4_notice_2 ⟨(Nat.le_of_ble_eq_true rfl), (Nat.le_of_ble_eq_true rfl)⟩) hS (fun q _ h => hF_1 q h) hF_1 (fun q _ h => hF_1 q h) (fun E_1 ce_1 q9_1 u_1 t_1 H1 locs ht_1 hvm_1 hw_1 hB_1 hz_1 hk_1 hS1 hce_1 hcv_1 hcl_1 => ?_) (fun u_1 t_1 H1 locs ht_1 hvm_1 hw_1 hB_1 hz_1 hk_1 hS1 => ?_)
  · obtain ⟨rfl, hB_1⟩ := hB_1
    obtain ⟨hP, hK, hD⟩ := z_back (wc := [(h0, .inr (6, [.ref hu, .ref hs, .ref hc, .ref hp, .ref hg, .int 0, .int 0, .int 0, .int td, .int sd]))]) (wr := []) (w1 := [(h0, .inr (6, [.ref hu, .ref hs, .ref hc, .ref hp, .ref hg, .int 0, .int 0, .int 0, .int td, .int sd]))]) (tr := []) hP hK hD [0] [] rfl rfl rfl (by decide) ht_1 hvm_1 hk_1 hF_1 [] rfl hB_1
    have hS := hS1
    have hP : va_P D vwCl [(h0, .inr (6, [.ref hu, .ref hs, .ref hc, .ref hp, .ref hg, .int 0, .int 0, .int 0, .int td, .int sd]))] H1 := hP
    have hD : va_D A [(h0, .inr (6, [.ref hu, .ref hs, .ref hc, .ref hp, .ref hg, .int 0, .int 0, .int 0, .int td, .int sd]))] := hD
    have hK : va_K D vwCl [] s := hK
    clear hS1
    exact vx_out (fun x hx => (hnt x hx).elim) hlocks hce_1 hcv_1 hcl_1 (fun t ht hvm => z_through trivial rfl hAe hP hK hD hS [0] rfl rfl [] rfl ht hvm) hS.2.2 (Nat.le_of_ble_eq_true rfl) (Nat.le_of_ble_eq_true rfl)
  · obtain ⟨hP, hK, hD⟩ := z_back (wc := [(h0, .inr (6, [.ref hu, .ref hs, .ref hc, .ref hp, .ref hg, .int 0, .int 0, .int 0, .int td, .int sd]))]) (wr := []) (w1 := [(h0, .inr (6, [.ref hu, .ref hs, .ref hc, .ref hp, .ref hg, .int 0, .int 0, .int 0, .int td, .int sd]))]) (tr := []) hP hK hD [0] [] rfl rfl rfl (by decide) ht_1 hvm_1 hk_1 hF_1 [] rfl hB_1
    have hS := hS1
    have hP : va_P D vwCl [(h0, .inr (6, [.ref hu, .ref hs, .ref hc, .ref hp, .ref hg, .int 0, .int 0, .int 0, .int td, .int sd]))] H1 := hP
    have hD : va_D A [(h0, .inr (6, [.ref hu, .ref hs, .ref hc, .ref hp, .ref hg, .int 0, .int 0, .int 0, .int td, .int sd]))] := hD
    have hK : va_K D vwCl [] s := hK
    clear hS1
    exact absurd (Int32.not_lt.mp hw_1.1) (Int32.not_le.mpr hw_1.2)
theorem dX4_work_0 : decode cX4_work 0 = .ok (.aload_n 0, 1) := by decide +kernel
theorem dX4_work_1 : decode cX4_work 1 = .ok (.iload_n 1, 1) := by decide +kernel
theorem dX4_work_2 : decode cX4_work 2 = .ok (.invokevirtual 76, 3) := by decide +kernel
set_option maxHeartbeats 4000000 in
set_option maxRecDepth 100000 in
theorem f_X4_work (l : Launch) (hst : l.stackTraces = false) (D : va_G) (h0 : Nat) (hu : Nat) (hs : Nat) (hc : Nat) (hp : Nat) (hg : Nat) (td : Int32) (sd : Int32) (a0 : Int32) (sz : Nat)  : vx_Met l yX4_work [Cond.code yX4_work cX4_work 2 (some .char)] ({ frames := 7, cells := 1, slots := 6, locals := 130 }) (z_Pc D [.ref h0, .int a0] [(h0, .inr (6, [.ref hu, .ref hs, .ref hc, .ref hp, .ref hg, .int 0, .int 0, .int 0, .int td, .int sd]))] [] sz) (va_Qi (fun (r : Int32) (_ : Unit) => False) (fun _ t => True) (va_A [(h0, .inr (6, [.ref hu, .ref hs, .ref hc, .ref hp, .ref hg, .int 0, .int 0, .int 0, .int td, .int sd]))] sz)) (z_T (True) "java/lang/IndexOutOfBoundsException" D [(h0, .inr (6, [.ref hu, .ref hs, .ref hc, .ref hp, .ref hg, .int 0, .int 0, .int 0, .int td, .int sd]))] [] sz) 1 6 (va_A [(h0, .inr (6, [.ref hu, .ref hs, .ref hc, .ref hp, .ref hg, .int 0, .int 0, .int 0, .int td, .int sd]))] sz) := by
  refine vx_ofW (cc := cX4_work) (maxL := 2) (ret := (some .char)) (by decide +kernel) rfl ?_
  intro p e s m args below meth c s₁ B hml hnt hv
  obtain ⟨rfl, hsz, hP, hK, hD0, hE, hX0⟩ := hv
  have hx := B.exec
  have hb := B.bytes
  have hr := B.returns
  have hts := z_E.ts (args := [.ref h0, .int a0].toArray) hE
  have hown : s.vm.findClass RX4 = some m.cls := findClass_of_methodNamed B.named
  have hlocks := B.notSynchronized
  subst hsz
  have hD := hD0.self (sz := s.heap.size)
  generalize hAe : va_A [(h0, .inr (6, [.ref hu, .ref hs, .ref hc, .ref hp, .ref hg, .int 0, .int 0, .int 0, .int td, .int sd]))] s.heap.size = A at hD hX0 ⊢
  have hX : z_X A s s.heap := hX0
  have hA : ∀ q : Nat, s.heap.size ≤ q → A q := fun q h => by rw [← hAe]; exact Or.inr h
  have hS : va_S A s.heap s.heap [] := va_S.rf
  have hP : va_P D vwCl [(h0, .inr (6, [.ref hu, .ref hs, .ref hc, .ref hp, .ref hg, .int 0, .int 0, .int 0, .int td, .int sd]))] s.heap := hP
  have hl := lv_entry ([.ref h0, .int a0]) (n := 2) (Nat.le_of_ble_eq_true rfl)
  rw [lg_entry_eq]
  generalize (lg_sl ([.ref h0, .int a0]) ++ List.replicate (2 - (lg_sl ([.ref h0, .int a0])).length) Slot.unset).toArray = ls at hl ⊢
  have hl : lv_has ls 2 [(0, .ref h0), (1, .int a0)] := hl
  skip
  refine lv_aload_n hx hb dX4_work_0 rfl (lv_at hl 0 rfl) ?_
  refine lv_iload_n hx hb dX4_work_1 rfl (lv_at hl 1 rfl) ?_
  obtain ⟨hb_1, hc_1⟩ := z_call (wc := [(h0, .inr (6, [.ref hu, .ref hs, .ref hc, .ref hp, .ref hg, .int 0, .int 0, .int 0, .int td, .int sd]))]) (tc := []) ([.ref h0, .int a0]) hP hK hD hS hA hE hX [0] rfl rfl [] rfl
  have hF_1 := va_free (wc := [(h0, .inr (6, [.ref hu, .ref hs, .ref hc, .ref hp, .ref hg, .int 0, .int 0, .int 0, .int td, .int sd]))]) hD hS hA [0] rfl
  refine vx_callv (vx_runV (As := [.int a0]) (rest := []) ⟨hx, hb, hml, hown, hts⟩ (c_X4_needUnit l hst D h0 hu hs hc hp hg 0 0 0 td sd a0 _ ) (z_cV 1 hE zw_525 zw_527 zw_13 zw_91 zw_528 rfl rfl rfl (by decide +kernel) ⟨(Nat.le_of_ble_eq_true rfl), (Nat.le_of_ble_eq_true rfl)⟩) ⟨hb_1, va_recv hK hP (ci := 6) (q0 := 0) rfl rfl, hc_1⟩ rfl rfl hl.1 rfl (lv_room (Nat.le_of_ble_eq_true rfl)) dX4_work_2 ⟨(Nat.le_of_ble_eq_true rfl), (Nat.le_of_ble_eq_true rfl)⟩) hS (fun q _ h => hF_1 q h) hF_1 (fun q _ h => hF_1 q h) (fun E_1 ce_1 q9_1 u_1 t_1 H1 locs ht_1 hvm_1 hw_1 hB_1 hz_1 hk_1 hS1 hce_1 hcv_1 hcl_1 => ?_) (fun u_1 t_1 H1 locs ht_1 hvm_1 hw_1 hB_1 hz_1 hk_1 hS1 => ?_)
  · obtain ⟨rfl, hB_1⟩ := hB_1
    obtain ⟨hP, hK, hD⟩ := z_back (wc := [(h0, .inr (6, [.ref hu, .ref hs, .ref hc, .ref hp, .ref hg, .int 0, .int 0, .int 0, .int td, .int sd]))]) (wr := []) (w1 := [(h0, .inr (6, [.ref hu, .ref hs, .ref hc, .ref hp, .ref hg, .int 0, .int 0, .int 0, .int td, .int sd]))]) (tr := []) hP hK hD [0] [] rfl rfl rfl (by decide) ht_1 hvm_1 hk_1 hF_1 [] rfl hB_1
    have hS := hS1
    have hP : va_P D vwCl [(h0, .inr (6, [.ref hu, .ref hs, .ref hc, .ref hp, .ref hg, .int 0, .int 0, .int 0, .int td, .int sd]))] H1 := hP
    have hD : va_D A [(h0, .inr (6, [.ref hu, .ref hs, .ref hc, .ref hp, .ref hg, .int 0, .int 0, .int 0, .int td, .int sd]))] := hD
    have hK : va_K D vwCl [] s := hK
    clear hS1
    exact vx_out (fun x hx => (hnt x hx).elim) hlocks hce_1 hcv_1 hcl_1 (fun t ht hvm => z_through trivial rfl hAe hP hK hD hS [0] rfl rfl [] rfl ht hvm) hS.2.2 (Nat.le_of_ble_eq_true rfl) (Nat.le_of_ble_eq_true rfl)
  · obtain ⟨hP, hK, hD⟩ := z_back (wc := [(h0, .inr (6, [.ref hu, .ref hs, .ref hc, .ref hp, .ref hg, .int 0, .int 0, .int 0, .int td, .int sd]))]) (wr := []) (w1 := [(h0, .inr (6, [.ref hu, .ref hs, .ref hc, .ref hp, .ref hg, .int 0, .int 0, .int 0, .int td, .int sd]))]) (tr := []) hP hK hD [0] [] rfl rfl rfl (by decide) ht_1 hvm_1 hk_1 hF_1 [] rfl hB_1
    have hS := hS1
    have hP : va_P D vwCl [(h0, .inr (6, [.ref hu, .ref hs, .ref hc, .ref hp, .ref hg, .int 0, .int 0, .int 0, .int td, .int sd]))] H1 := hP
    have hD : va_D A [(h0, .inr (6, [.ref hu, .ref hs, .ref hc, .ref hp, .ref hg, .int 0, .int 0, .int 0, .int td, .int sd]))] := hD
    have hK : va_K D vwCl [] s := hK
    clear hS1
    exact absurd (Int32.not_lt.mp hw_1.1) (Int32.not_le.mpr hw_1.2)
theorem dX4_left_0 : decode cX4_left 0 = .ok (.aload_n 0, 1) := by decide +kernel
theorem dX4_left_1 : decode cX4_left 1 = .ok (.iload_n 1, 1) := by decide +kernel
theorem dX4_left_2 : decode cX4_left 2 = .ok (.invokevirtual 76, 3) := by decide +kernel
set_option maxHeartbeats 4000000 in
set_option maxRecDepth 100000 in
theorem f_X4_left (l : Launch) (hst : l.stackTraces = false) (D : va_G) (h0 : Nat) (hu : Nat) (hs : Nat) (hc : Nat) (hp : Nat) (hg : Nat) (td : Int32) (sd : Int32) (a0 : Int32) (sz : Nat)  : vx_Met l yX4_left [Cond.code yX4_left cX4_left 2 (some .int)] ({ frames := 7, cells := 1, slots := 6, locals := 130 }) (z_Pc D [.ref h0, .int a0] [(h0, .inr (6, [.ref hu, .ref hs, .ref hc, .ref hp, .ref hg, .int 0, .int 0, .int 0, .int td, .int sd]))] [] sz) (va_Qi (fun (r : Int32) (_ : Unit) => False) (fun _ t => True) (va_A [(h0, .inr (6, [.ref hu, .ref hs, .ref hc, .ref hp, .ref hg, .int 0, .int 0, .int 0, .int td, .int sd]))] sz)) (z_T (True) "java/lang/IndexOutOfBoundsException" D [(h0, .inr (6, [.ref hu, .ref hs, .ref hc, .ref hp, .ref hg, .int 0, .int 0, .int 0, .int td, .int sd]))] [] sz) 1 6 (va_A [(h0, .inr (6, [.ref hu, .ref hs, .ref hc, .ref hp, .ref hg, .int 0, .int 0, .int 0, .int td, .int sd]))] sz) := by
  refine vx_ofW (cc := cX4_left) (maxL := 2) (ret := (some .int)) (by decide +kernel) rfl ?_
  intro p e s m args below meth c s₁ B hml hnt hv
  obtain ⟨rfl, hsz, hP, hK, hD0, hE, hX0⟩ := hv
  have hx := B.exec
  have hb := B.bytes
  have hr := B.returns
  have hts := z_E.ts (args := [.ref h0, .int a0].toArray) hE
  have hown : s.vm.findClass RX4 = some m.cls := findClass_of_methodNamed B.named
  have hlocks := B.notSynchronized
  subst hsz
  have hD := hD0.self (sz := s.heap.size)
  generalize hAe : va_A [(h0, .inr (6, [.ref hu, .ref hs, .ref hc, .ref hp, .ref hg, .int 0, .int 0, .int 0, .int td, .int sd]))] s.heap.size = A at hD hX0 ⊢
  have hX : z_X A s s.heap := hX0
  have hA : ∀ q : Nat, s.heap.size ≤ q → A q := fun q h => by rw [← hAe]; exact Or.inr h
  have hS : va_S A s.heap s.heap [] := va_S.rf
  have hP : va_P D vwCl [(h0, .inr (6, [.ref hu, .ref hs, .ref hc, .ref hp, .ref hg, .int 0, .int 0, .int 0, .int td, .int sd]))] s.heap := hP
  have hl := lv_entry ([.ref h0, .int a0]) (n := 2) (Nat.le_of_ble_eq_true rfl)
  rw [lg_entry_eq]
  generalize (lg_sl ([.ref h0, .int a0]) ++ List.replicate (2 - (lg_sl ([.ref h0, .int a0])).length) Slot.unset).toArray = ls at hl ⊢
  have hl : lv_has ls 2 [(0, .ref h0), (1, .int a0)] := hl
  skip
  refine lv_aload_n hx hb dX4_left_0 rfl (lv_at hl 0 rfl) ?_
  refine lv_iload_n hx hb dX4_left_1 rfl (lv_at hl 1 rfl) ?_
  obtain ⟨hb_1, hc_1⟩ := z_call (wc := [(h0, .inr (6, [.ref hu, .ref hs, .ref hc, .ref hp, .ref hg, .int 0, .int 0, .int 0, .int td, .int sd]))]) (tc := []) ([.ref h0, .int a0]) hP hK hD hS hA hE hX [0] rfl rfl [] rfl
  have hF_1 := va_free (wc := [(h0, .inr (6, [.ref hu, .ref hs, .ref hc, .ref hp, .ref hg, .int 0, .int 0, .int 0, .int td, .int sd]))]) hD hS hA [0] rfl
  refine vx_callv (vx_runV (As := [.int a0]) (rest := []) ⟨hx, hb, hml, hown, hts⟩ (c_X4_needUnit l hst D h0 hu hs hc hp hg 0 0 0 td sd a0 _ ) (z_cV 1 hE zw_525 zw_527 zw_13 zw_91 zw_528 rfl rfl rfl (by decide +kernel) ⟨(Nat.le_of_ble_eq_true rfl), (Nat.le_of_ble_eq_true rfl)⟩) ⟨hb_1, va_recv hK hP (ci := 6) (q0 := 0) rfl rfl, hc_1⟩ rfl rfl hl.1 rfl (lv_room (Nat.le_of_ble_eq_true rfl)) dX4_left_2 ⟨(Nat.le_of_ble_eq_true rfl), (Nat.le_of_ble_eq_true rfl)⟩) hS (fun q _ h => hF_1 q h) hF_1 (fun q _ h => hF_1 q h) (fun E_1 ce_1 q9_1 u_1 t_1 H1 locs ht_1 hvm_1 hw_1 hB_1 hz_1 hk_1 hS1 hce_1 hcv_1 hcl_1 => ?_) (fun u_1 t_1 H1 locs ht_1 hvm_1 hw_1 hB_1 hz_1 hk_1 hS1 => ?_)
  · obtain ⟨rfl, hB_1⟩ := hB_1
    obtain ⟨hP, hK, hD⟩ := z_back (wc := [(h0, .inr (6, [.ref hu, .ref hs, .ref hc, .ref hp, .ref hg, .int 0, .int 0, .int 0, .int td, .int sd]))]) (wr := []) (w1 := [(h0, .inr (6, [.ref hu, .ref hs, .ref hc, .ref hp, .ref hg, .int 0, .int 0, .int 0, .int td, .int sd]))]) (tr := []) hP hK hD [0] [] rfl rfl rfl (by decide) ht_1 hvm_1 hk_1 hF_1 [] rfl hB_1
    have hS := hS1
    have hP : va_P D vwCl [(h0, .inr (6, [.ref hu, .ref hs, .ref hc, .ref hp, .ref hg, .int 0, .int 0, .int 0, .int td, .int sd]))] H1 := hP
    have hD : va_D A [(h0, .inr (6, [.ref hu, .ref hs, .ref hc, .ref hp, .ref hg, .int 0, .int 0, .int 0, .int td, .int sd]))] := hD
    have hK : va_K D vwCl [] s := hK
    clear hS1
    exact vx_out (fun x hx => (hnt x hx).elim) hlocks hce_1 hcv_1 hcl_1 (fun t ht hvm => z_through trivial rfl hAe hP hK hD hS [0] rfl rfl [] rfl ht hvm) hS.2.2 (Nat.le_of_ble_eq_true rfl) (Nat.le_of_ble_eq_true rfl)
  · obtain ⟨hP, hK, hD⟩ := z_back (wc := [(h0, .inr (6, [.ref hu, .ref hs, .ref hc, .ref hp, .ref hg, .int 0, .int 0, .int 0, .int td, .int sd]))]) (wr := []) (w1 := [(h0, .inr (6, [.ref hu, .ref hs, .ref hc, .ref hp, .ref hg, .int 0, .int 0, .int 0, .int td, .int sd]))]) (tr := []) hP hK hD [0] [] rfl rfl rfl (by decide) ht_1 hvm_1 hk_1 hF_1 [] rfl hB_1
    have hS := hS1
    have hP : va_P D vwCl [(h0, .inr (6, [.ref hu, .ref hs, .ref hc, .ref hp, .ref hg, .int 0, .int 0, .int 0, .int td, .int sd]))] H1 := hP
    have hD : va_D A [(h0, .inr (6, [.ref hu, .ref hs, .ref hc, .ref hp, .ref hg, .int 0, .int 0, .int 0, .int td, .int sd]))] := hD
    have hK : va_K D vwCl [] s := hK
    clear hS1
    exact absurd (Int32.not_lt.mp hw_1.1) (Int32.not_le.mpr hw_1.2)
theorem dX4_whyNot_0 : decode cX4_whyNot 0 = .ok (.aload_n 0, 1) := by decide +kernel
theorem dX4_whyNot_1 : decode cX4_whyNot 1 = .ok (.iload_n 1, 1) := by decide +kernel
theorem dX4_whyNot_2 : decode cX4_whyNot 2 = .ok (.invokevirtual 76, 3) := by decide +kernel
set_option maxHeartbeats 4000000 in
set_option maxRecDepth 100000 in
theorem f_X4_whyNot (l : Launch) (hst : l.stackTraces = false) (D : va_G) (h0 : Nat) (hu : Nat) (hs : Nat) (hc : Nat) (hp : Nat) (hg : Nat) (td : Int32) (sd : Int32) (a0 : Int32) (sz : Nat)  : vx_Met l yX4_whyNot [Cond.code yX4_whyNot cX4_whyNot 2 (some .char)] ({ frames := 7, cells := 1, slots := 6, locals := 130 }) (z_Pc D [.ref h0, .int a0] [(h0, .inr (6, [.ref hu, .ref hs, .ref hc, .ref hp, .ref hg, .int 0, .int 0, .int 0, .int td, .int sd]))] [] sz) (va_Qi (fun (r : Int32) (_ : Unit) => False) (fun _ t => True) (va_A [(h0, .inr (6, [.ref hu, .ref hs, .ref hc, .ref hp, .ref hg, .int 0, .int 0, .int 0, .int td, .int sd]))] sz)) (z_T (True) "java/lang/IndexOutOfBoundsException" D [(h0, .inr (6, [.ref hu, .ref hs, .ref hc, .ref hp, .ref hg, .int 0, .int 0, .int 0, .int td, .int sd]))] [] sz) 1 6 (va_A [(h0, .inr (6, [.ref hu, .ref hs, .ref hc, .ref hp, .ref hg, .int 0, .int 0, .int 0, .int td, .int sd]))] sz) := by
  refine vx_ofW (cc := cX4_whyNot) (maxL := 2) (ret := (some .char)) (by decide +kernel) rfl ?_
  intro p e s m args below meth c s₁ B hml hnt hv
  obtain ⟨rfl, hsz, hP, hK, hD0, hE, hX0⟩ := hv
  have hx := B.exec
  have hb := B.bytes
  have hr := B.returns
  have hts := z_E.ts (args := [.ref h0, .int a0].toArray) hE
  have hown : s.vm.findClass RX4 = some m.cls := findClass_of_methodNamed B.named
  have hlocks := B.notSynchronized
  subst hsz
  have hD := hD0.self (sz := s.heap.size)
  generalize hAe : va_A [(h0, .inr (6, [.ref hu, .ref hs, .ref hc, .ref hp, .ref hg, .int 0, .int 0, .int 0, .int td, .int sd]))] s.heap.size = A at hD hX0 ⊢
  have hX : z_X A s s.heap := hX0
  have hA : ∀ q : Nat, s.heap.size ≤ q → A q := fun q h => by rw [← hAe]; exact Or.inr h
  have hS : va_S A s.heap s.heap [] := va_S.rf
  have hP : va_P D vwCl [(h0, .inr (6, [.ref hu, .ref hs, .ref hc, .ref hp, .ref hg, .int 0, .int 0, .int 0, .int td, .int sd]))] s.heap := hP
  have hl := lv_entry ([.ref h0, .int a0]) (n := 2) (Nat.le_of_ble_eq_true rfl)
  rw [lg_entry_eq]
  generalize (lg_sl ([.ref h0, .int a0]) ++ List.replicate (2 - (lg_sl ([.ref h0, .int a0])).length) Slot.unset).toArray = ls at hl ⊢
  have hl : lv_has ls 2 [(0, .ref h0), (1, .int a0)] := hl
  skip
  refine lv_aload_n hx hb dX4_whyNot_0 rfl (lv_at hl 0 rfl) ?_
  refine lv_iload_n hx hb dX4_whyNot_1 rfl (lv_at hl 1 rfl) ?_
  obtain ⟨hb_1, hc_1⟩ := z_call (wc := [(h0, .inr (6, [.ref hu, .ref hs, .ref hc, .ref hp, .ref hg, .int 0, .int 0, .int 0, .int td, .int sd]))]) (tc := []) ([.ref h0, .int a0]) hP hK hD hS hA hE hX [0] rfl rfl [] rfl
  have hF_1 := va_free (wc := [(h0, .inr (6, [.ref hu, .ref hs, .ref hc, .ref hp, .ref hg, .int 0, .int 0, .int 0, .int td, .int sd]))]) hD hS hA [0] rfl
  refine vx_callv (vx_runV (As := [.int a0]) (rest := []) ⟨hx, hb, hml, hown, hts⟩ (c_X4_needUnit l hst D h0 hu hs hc hp hg 0 0 0 td sd a0 _ ) (z_cV 1 hE zw_525 zw_527 zw_13 zw_91 zw_528 rfl rfl rfl (by decide +kernel) ⟨(Nat.le_of_ble_eq_true rfl), (Nat.le_of_ble_eq_true rfl)⟩) ⟨hb_1, va_recv hK hP (ci := 6) (q0 := 0) rfl rfl, hc_1⟩ rfl rfl hl.1 rfl (lv_room (Nat.le_of_ble_eq_true rfl)) dX4_whyNot_2 ⟨(Nat.le_of_ble_eq_true rfl), (Nat.le_of_ble_eq_true rfl)⟩) hS (fun q _ h => hF_1 q h) hF_1 (fun q _ h => hF_1 q h) (fun E_1 ce_1 q9_1 u_1 t_1 H1 locs ht_1 hvm_1 hw_1 hB_1 hz_1 hk_1 hS1 hce_1 hcv_1 hcl_1 => ?_) (fun u_1 t_1 H1 locs ht_1 hvm_1 hw_1 hB_1 hz_1 hk_1 hS1 => ?_)
  · obtain ⟨rfl, hB_1⟩ := hB_1
    obtain ⟨hP, hK, hD⟩ := z_back (wc := [(h0, .inr (6, [.ref hu, .ref hs, .ref hc, .ref hp, .ref hg, .int 0, .int 0, .int 0, .int td, .int sd]))]) (wr := []) (w1 := [(h0, .inr (6, [.ref hu, .ref hs, .ref hc, .ref hp, .ref hg, .int 0, .int 0, .int 0, .int td, .int sd]))]) (tr := []) hP hK hD [0] [] rfl rfl rfl (by decide) ht_1 hvm_1 hk_1 hF_1 [] rfl hB_1
    have hS := hS1
    have hP : va_P D vwCl [(h0, .inr (6, [.ref hu, .ref hs, .ref hc, .ref hp, .ref hg, .int 0, .int 0, .int 0, .int td, .int sd]))] H1 := hP
    have hD : va_D A [(h0, .inr (6, [.ref hu, .ref hs, .ref hc, .ref hp, .ref hg, .int 0, .int 0, .int 0, .int td, .int sd]))] := hD
    have hK : va_K D vwCl [] s := hK
    clear hS1
    exact vx_out (fun x hx => (hnt x hx).elim) hlocks hce_1 hcv_1 hcl_1 (fun t ht hvm => z_through trivial rfl hAe hP hK hD hS [0] rfl rfl [] rfl ht hvm) hS.2.2 (Nat.le_of_ble_eq_true rfl) (Nat.le_of_ble_eq_true rfl)
  · obtain ⟨hP, hK, hD⟩ := z_back (wc := [(h0, .inr (6, [.ref hu, .ref hs, .ref hc, .ref hp, .ref hg, .int 0, .int 0, .int 0, .int td, .int sd]))]) (wr := []) (w1 := [(h0, .inr (6, [.ref hu, .ref hs, .ref hc, .ref hp, .ref hg, .int 0, .int 0, .int 0, .int td, .int sd]))]) (tr := []) hP hK hD [0] [] rfl rfl rfl (by decide) ht_1 hvm_1 hk_1 hF_1 [] rfl hB_1
    have hS := hS1
    have hP : va_P D vwCl [(h0, .inr (6, [.ref hu, .ref hs, .ref hc, .ref hp, .ref hg, .int 0, .int 0, .int 0, .int td, .int sd]))] H1 := hP
    have hD : va_D A [(h0, .inr (6, [.ref hu, .ref hs, .ref hc, .ref hp, .ref hg, .int 0, .int 0, .int 0, .int td, .int sd]))] := hD
    have hK : va_K D vwCl [] s := hK
    clear hS1
    exact absurd (Int32.not_lt.mp hw_1.1) (Int32.not_le.mpr hw_1.2)
theorem dX4_begin_0 : decode cX4_begin 0 = .ok (.aload_n 0, 1) := by decide +kernel
theorem dX4_begin_1 : decode cX4_begin 1 = .ok (.iload_n 1, 1) := by decide +kernel
theorem dX4_begin_2 : decode cX4_begin 2 = .ok (.invokevirtual 76, 3) := by decide +kernel
set_option maxHeartbeats 4000000 in
set_option maxRecDepth 100000 in
theorem f_X4_begin (l : Launch) (hst : l.stackTraces = false) (D : va_G) (h0 : Nat) (hu : Nat) (hs : Nat) (hc : Nat) (hp : Nat) (hg : Nat) (td : Int32) (sd : Int32) (a0 : Int32) (sz : Nat)  : vx_Met l yX4_begin [Cond.code yX4_begin cX4_begin 2 (some .int)] ({ frames := 7, cells := 1, slots := 6, locals := 130 }) (z_Pc D [.ref h0, .int a0] [(h0, .inr (6, [.ref hu, .ref hs, .ref hc, .ref hp, .ref hg, .int 0, .int 0, .int 0, .int td, .int sd]))] [] sz) (va_Qi (fun (r : Int32) (_ : Unit) => False) (fun _ t => True) (va_A [(h0, .inr (6, [.ref hu, .ref hs, .ref hc, .ref hp, .ref hg, .int 0, .int 0, .int 0, .int td, .int sd]))] sz)) (z_T (True) "java/lang/IndexOutOfBoundsException" D [(h0, .inr (6, [.ref hu, .ref hs, .ref hc, .ref hp, .ref hg, .int 0, .int 0, .int 0, .int td, .int sd]))] [] sz) 1 6 (va_A [(h0, .inr (6, [.ref hu, .ref hs, .ref hc, .ref hp, .ref hg, .int 0, .int 0, .int 0, .int td, .int sd]))] sz) := by
  refine vx_ofW (cc := cX4_begin) (maxL := 2) (ret := (some .int)) (by decide +kernel) rfl ?_
  intro p e s m args below meth c s₁ B hml hnt hv
  obtain ⟨rfl, hsz, hP, hK, hD0, hE, hX0⟩ := hv
  have hx := B.exec
  have hb := B.bytes
  have hr := B.returns
  have hts := z_E.ts (args := [.ref h0, .int a0].toArray) hE
  have hown : s.vm.findClass RX4 = some m.cls := findClass_of_methodNamed B.named
  have hlocks := B.notSynchronized
  subst hsz
  have hD := hD0.self (sz := s.heap.size)
  generalize hAe : va_A [(h0, .inr (6, [.ref hu, .ref hs, .ref hc, .ref hp, .ref hg, .int 0, .int 0, .int 0, .int td, .int sd]))] s.heap.size = A at hD hX0 ⊢
  have hX : z_X A s s.heap := hX0
  have hA : ∀ q : Nat, s.heap.size ≤ q → A q := fun q h => by rw [← hAe]; exact Or.inr h
  have hS : va_S A s.heap s.heap [] := va_S.rf
  have hP : va_P D vwCl [(h0, .inr (6, [.ref hu, .ref hs, .ref hc, .ref hp, .ref hg, .int 0, .int 0, .int 0, .int td, .int sd]))] s.heap := hP
  have hl := lv_entry ([.ref h0, .int a0]) (n := 2) (Nat.le_of_ble_eq_true rfl)
  rw [lg_entry_eq]
  generalize (lg_sl ([.ref h0, .int a0]) ++ List.replicate (2 - (lg_sl ([.ref h0, .int a0])).length) Slot.unset).toArray = ls at hl ⊢
  have hl : lv_has ls 2 [(0, .ref h0), (1, .int a0)] := hl
  skip
  refine lv_aload_n hx hb dX4_begin_0 rfl (lv_at hl 0 rfl) ?_
  refine lv_iload_n hx hb dX4_begin_1 rfl (lv_at hl 1 rfl) ?_
  obtain ⟨hb_1, hc_1⟩ := z_call (wc := [(h0, .inr (6, [.ref hu, .ref hs, .ref hc, .ref hp, .ref hg, .int 0, .int 0, .int 0, .int td, .int sd]))]) (tc := []) ([.ref h0, .int a0]) hP hK hD hS hA hE hX [0] rfl rfl [] rfl
  have hF_1 := va_free (wc := [(h0, .inr (6, [.ref hu, .ref hs, .ref hc, .ref hp, .ref hg, .int 0, .int 0, .int 0, .int td, .int sd]))]) hD hS hA [0] rfl
  refine vx_callv (vx_runV (As := [.int a0]) (rest := []) ⟨hx, hb, hml, hown, hts⟩ (c_X4_needUnit l hst D h0 hu hs hc hp hg 0 0 0 td sd a0 _ ) (z_cV 1 hE zw_525 zw_527 zw_13 zw_91 zw_528 rfl rfl rfl (by decide +kernel) ⟨(Nat.le_of_ble_eq_true rfl), (Nat.le_of_ble_eq_true rfl)⟩) ⟨hb_1, va_recv hK hP (ci := 6) (q0 := 0) rfl rfl, hc_1⟩ rfl rfl hl.1 rfl (lv_room (Nat.le_of_ble_eq_true rfl)) dX4_begin_2 ⟨(Nat.le_of_ble_eq_true rfl), (Nat.le_of_ble_eq_true rfl)⟩) hS (fun q _ h => hF_1 q h) hF_1 (fun q _ h => hF_1 q h) (fun E_1 ce_1 q9_1 u_1 t_1 H1 locs ht_1 hvm_1 hw_1 hB_1 hz_1 hk_1 hS1 hce_1 hcv_1 hcl_1 => ?_) (fun u_1 t_1 H1 locs ht_1 hvm_1 hw_1 hB_1 hz_1 hk_1 hS1 => ?_)
  · obtain ⟨rfl, hB_1⟩ := hB_1
    obtain ⟨hP, hK, hD⟩ := z_back (wc := [(h0, .inr (6, [.ref hu, .ref hs, .ref hc, .ref hp, .ref hg, .int 0, .int 0, .int 0, .int td, .int sd]))]) (wr := []) (w1 := [(h0, .inr (6, [.ref hu, .ref hs, .ref hc, .ref hp, .ref hg, .int 0, .int 0, .int 0, .int td, .int sd]))]) (tr := []) hP hK hD [0] [] rfl rfl rfl (by decide) ht_1 hvm_1 hk_1 hF_1 [] rfl hB_1
    have hS := hS1
    have hP : va_P D vwCl [(h0, .inr (6, [.ref hu, .ref hs, .ref hc, .ref hp, .ref hg, .int 0, .int 0, .int 0, .int td, .int sd]))] H1 := hP
    have hD : va_D A [(h0, .inr (6, [.ref hu, .ref hs, .ref hc, .ref hp, .ref hg, .int 0, .int 0, .int 0, .int td, .int sd]))] := hD
    have hK : va_K D vwCl [] s := hK
    clear hS1
    exact vx_out (fun x hx => (hnt x hx).elim) hlocks hce_1 hcv_1 hcl_1 (fun t ht hvm => z_through trivial rfl hAe hP hK hD hS [0] rfl rfl [] rfl ht hvm) hS.2.2 (Nat.le_of_ble_eq_true rfl) (Nat.le_of_ble_eq_true rfl)
  · obtain ⟨hP, hK, hD⟩ := z_back (wc := [(h0, .inr (6, [.ref hu, .ref hs, .ref hc, .ref hp, .ref hg, .int 0, .int 0, .int 0, .int td, .int sd]))]) (wr := []) (w1 := [(h0, .inr (6, [.ref hu, .ref hs, .ref hc, .ref hp, .ref hg, .int 0, .int 0, .int 0, .int td, .int sd]))]) (tr := []) hP hK hD [0] [] rfl rfl rfl (by decide) ht_1 hvm_1 hk_1 hF_1 [] rfl hB_1
    have hS := hS1
    have hP : va_P D vwCl [(h0, .inr (6, [.ref hu, .ref hs, .ref hc, .ref hp, .ref hg, .int 0, .int 0, .int 0, .int td, .int sd]))] H1 := hP
    have hD : va_D A [(h0, .inr (6, [.ref hu, .ref hs, .ref hc, .ref hp, .ref hg, .int 0, .int 0, .int 0, .int td, .int sd]))] := hD
    have hK : va_K D vwCl [] s := hK
    clear hS1
    exact absurd (Int32.not_lt.mp hw_1.1) (Int32.not_le.mpr hw_1.2)
theorem dX4_find_0 : decode cX4_find 0 = .ok (.aload_n 0, 1) := by decide +kernel
theorem dX4_find_1 : decode cX4_find 1 = .ok (.iload_n 1, 1) := by decide +kernel
theorem dX4_find_2 : decode cX4_find 2 = .ok (.invokevirtual 76, 3) := by decide +kernel
set_option maxHeartbeats 4000000 in
set_option maxRecDepth 100000 in
theorem f_X4_find (l : Launch) (hst : l.stackTraces = false) (D : va_G) (h0 : Nat) (hu : Nat) (hs : Nat) (hc : Nat) (hp : Nat) (hg : Nat) (td : Int32) (sd : Int32) (a0 : Int32) (a1 : Int32) (sz : Nat)  : vx_Met l yX4_find [Cond.code yX4_find cX4_find 3 (some .int)] ({ frames := 7, cells := 1, slots := 6, locals := 130 }) (z_Pc D [.ref h0, .int a0, .int a1] [(h0, .inr (6, [.ref hu, .ref hs, .ref hc, .ref hp, .ref hg, .int 0, .int 0, .int 0, .int td, .int sd]))] [] sz) (va_Qi (fun (r : Int32) (_ : Unit) => False) (fun _ t => True) (va_A [(h0, .inr (6, [.ref hu, .ref hs, .ref hc, .ref hp, .ref hg, .int 0, .int 0, .int 0, .int td, .int sd]))] sz)) (z_T (True) "java/lang/IndexOutOfBoundsException" D [(h0, .inr (6, [.ref hu, .ref hs, .ref hc, .ref hp, .ref hg, .int 0, .int 0, .int 0, .int td, .int sd]))] [] sz) 1 6 (va_A [(h0, .inr (6, [.ref hu, .ref hs, .ref hc, .ref hp, .ref hg, .int 0, .int 0, .int 0, .int td, .int sd]))] sz) := by
  refine vx_ofW (cc := cX4_find) (maxL := 3) (ret := (some .int)) (by decide +kernel) rfl ?_
  intro p e s m args below meth c s₁ B hml hnt hv
  obtain ⟨rfl, hsz, hP, hK, hD0, hE, hX0⟩ := hv
  have hx := B.exec
  have hb := B.bytes
  have hr := B.returns
  have hts := z_E.ts (args := [.ref h0, .int a0, .int a1].toArray) hE
  have hown : s.vm.findClass RX4 = some m.cls := findClass_of_methodNamed B.named
  have hlocks := B.notSynchronized
  subst hsz
  have hD := hD0.self (sz := s.heap.size)
  generalize hAe : va_A [(h0, .inr (6, [.ref hu, .ref hs, .ref hc, .ref hp, .ref hg, .int 0, .int 0, .int 0, .int td, .int sd]))] s.heap.size = A at hD hX0 ⊢
  have hX : z_X A s s.heap := hX0
  have hA : ∀ q : Nat, s.heap.size ≤ q → A q := fun q h => by rw [← hAe]; exact Or.inr h
  have hS : va_S A s.heap s.heap [] := va_S.rf
  have hP : va_P D vwCl [(h0, .inr (6, [.ref hu, .ref hs, .ref hc, .ref hp, .ref hg, .int 0, .int 0, .int 0, .int td, .int sd]))] s.heap := hP
  have hl := lv_entry ([.ref h0, .int a0, .int a1]) (n := 3) (Nat.le_of_ble_eq_true rfl)
  rw [lg_entry_eq]
  generalize (lg_sl ([.ref h0, .int a0, .int a1]) ++ List.replicate (3 - (lg_sl ([.ref h0, .int a0, .int a1])).length) Slot.unset).toArray = ls at hl ⊢
  have hl : lv_has ls 3 [(0, .ref h0), (1, .int a0), (2, .int a1)] := hl
  skip
  refine lv_aload_n hx hb dX4_find_0 rfl (lv_at hl 0 rfl) ?_
  refine lv_iload_n hx hb dX4_find_1 rfl (lv_at hl 1 rfl) ?_
  obtain ⟨hb_1, hc_1⟩ := z_call (wc := [(h0, .inr (6, [.ref hu, .ref hs, .ref hc, .ref hp, .ref hg, .int 0, .int 0, .int 0, .int td, .int sd]))]) (tc := []) ([.ref h0, .int a0]) hP hK hD hS hA hE hX [0] rfl rfl [] rfl
  have hF_1 := va_free (wc := [(h0, .inr (6, [.ref hu, .ref hs, .ref hc, .ref hp, .ref hg, .int 0, .int 0, .int 0, .int td, .int sd]))]) hD hS hA [0] rfl
  refine vx_callv (vx_runV (As := [.int a0]) (rest := []) ⟨hx, hb, hml, hown, hts⟩ (c_X4_needUnit l hst D h0 hu hs hc hp hg 0 0 0 td sd a0 _ ) (z_cV 1 hE zw_525 zw_527 zw_13 zw_91 zw_528 rfl rfl rfl (by decide +kernel) ⟨(Nat.le_of_ble_eq_true rfl), (Nat.le_of_ble_eq_true rfl)⟩) ⟨hb_1, va_recv hK hP (ci := 6) (q0 := 0) rfl rfl, hc_1⟩ rfl rfl hl.1 rfl (lv_room (Nat.le_of_ble_eq_true rfl)) dX4_find_2 ⟨(Nat.le_of_ble_eq_true rfl), (Nat.le_of_ble_eq_true rfl)⟩) hS (fun q _ h => hF_1 q h) hF_1 (fun q _ h => hF_1 q h) (fun E_1 ce_1 q9_1 u_1 t_1 H1 locs ht_1 hvm_1 hw_1 hB_1 hz_1 hk_1 hS1 hce_1 hcv_1 hcl_1 => ?_) (fun u_1 t_1 H1 locs ht_1 hvm_1 hw_1 hB_1 hz_1 hk_1 hS1 => ?_)
  · obtain ⟨rfl, hB_1⟩ := hB_1
    obtain ⟨hP, hK, hD⟩ := z_back (wc := [(h0, .inr (6, [.ref hu, .ref hs, .ref hc, .ref hp, .ref hg, .int 0, .int 0, .int 0, .int td, .int sd]))]) (wr := []) (w1 := [(h0, .inr (6, [.ref hu, .ref hs, .ref hc, .ref hp, .ref hg, .int 0, .int 0, .int 0, .int td, .int sd]))]) (tr := []) hP hK hD [0] [] rfl rfl rfl (by decide) ht_1 hvm_1 hk_1 hF_1 [] rfl hB_1
    have hS := hS1
    have hP : va_P D vwCl [(h0, .inr (6, [.ref hu, .ref hs, .ref hc, .ref hp, .ref hg, .int 0, .int 0, .int 0, .int td, .int sd]))] H1 := hP
    have hD : va_D A [(h0, .inr (6, [.ref hu, .ref hs, .ref hc, .ref hp, .ref hg, .int 0, .int 0, .int 0, .int td, .int sd]))] := hD
    have hK : va_K D vwCl [] s := hK
    clear hS1
    exact vx_out (fun x hx => (hnt x hx).elim) hlocks hce_1 hcv_1 hcl_1 (fun t ht hvm => z_through trivial rfl hAe hP hK hD hS [0] rfl rfl [] rfl ht hvm) hS.2.2 (Nat.le_of_ble_eq_true rfl) (Nat.le_of_ble_eq_true rfl)
  · obtain ⟨hP, hK, hD⟩ := z_back (wc := [(h0, .inr (6, [.ref hu, .ref hs, .ref hc, .ref hp, .ref hg, .int 0, .int 0, .int 0, .int td, .int sd]))]) (wr := []) (w1 := [(h0, .inr (6, [.ref hu, .ref hs, .ref hc, .ref hp, .ref hg, .int 0, .int 0, .int 0, .int td, .int sd]))]) (tr := []) hP hK hD [0] [] rfl rfl rfl (by decide) ht_1 hvm_1 hk_1 hF_1 [] rfl hB_1
    have hS := hS1
    have hP : va_P D vwCl [(h0, .inr (6, [.ref hu, .ref hs, .ref hc, .ref hp, .ref hg, .int 0, .int 0, .int 0, .int td, .int sd]))] H1 := hP
    have hD : va_D A [(h0, .inr (6, [.ref hu, .ref hs, .ref hc, .ref hp, .ref hg, .int 0, .int 0, .int 0, .int td, .int sd]))] := hD
    have hK : va_K D vwCl [] s := hK
    clear hS1
    exact absurd (Int32.not_lt.mp hw_1.1) (Int32.not_le.mpr hw_1.2)
theorem dX4_addShop_0 : decode cX4_addShop 0 = .ok (.aload_n 0, 1) := by decide +kernel
theorem dX4_addShop_1 : decode cX4_addShop 1 = .ok (.iload_n 1, 1) := by decide +kernel
theorem dX4_addShop_2 : decode cX4_addShop 2 = .ok (.invokevirtual 76, 3) := by decide +kernel
set_option maxHeartbeats 4000000 in
set_option maxRecDepth 100000 in
theorem f_X4_addShop (l : Launch) (hst : l.stackTraces = false) (D : va_G) (h0 : Nat) (hu : Nat) (hs : Nat) (hc : Nat) (hp : Nat) (hg : Nat) (td : Int32) (sd : Int32) (a0 : Int32) (a1 : Int32) (a2 : Int32) (a3 : Int32) (a4 : Int32) (a5 : Int32) (sz : Nat)  : vx_Met l yX4_addShop [Cond.code yX4_addShop cX4_addShop 8 (some .int)] ({ frames := 7, cells := 1, slots := 6, locals := 130 }) (z_Pc D [.ref h0, .int a0, .int a1, .int a2, .int a3, .int a4, .int a5] [(h0, .inr (6, [.ref hu, .ref hs, .ref hc, .ref hp, .ref hg, .int 0, .int 0, .int 0, .int td, .int sd]))] [] sz) (va_Qi (fun (r : Int32) (_ : Unit) => False) (fun _ t => True) (va_A [(h0, .inr (6, [.ref hu, .ref hs, .ref hc, .ref hp, .ref hg, .int 0, .int 0, .int 0, .int td, .int sd]))] sz)) (z_T (True) "java/lang/IndexOutOfBoundsException" D [(h0, .inr (6, [.ref hu, .ref hs, .ref hc, .ref hp, .ref hg, .int 0, .int 0, .int 0, .int td, .int sd]))] [] sz) 1 6 (va_A [(h0, .inr (6, [.ref hu, .ref hs, .ref hc, .ref hp, .ref hg, .int 0, .int 0, .int 0, .int td, .int sd]))] sz) := by
  refine vx_ofW (cc := cX4_addShop) (maxL := 8) (ret := (some .int)) (by decide +kernel) rfl ?_
  intro p e s m args below meth c s₁ B hml hnt hv
  obtain ⟨rfl, hsz, hP, hK, hD0, hE, hX0⟩ := hv
  have hx := B.exec
  have hb := B.bytes
  have hr := B.returns
  have hts := z_E.ts (args := [.ref h0, .int a0, .int a1, .int a2, .int a3, .int a4, .int a5].toArray) hE
  have hown : s.vm.findClass RX4 = some m.cls := findClass_of_methodNamed B.named
  have hlocks := B.notSynchronized
  subst hsz
  have hD := hD0.self (sz := s.heap.size)
  generalize hAe : va_A [(h0, .inr (6, [.ref hu, .ref hs, .ref hc, .ref hp, .ref hg, .int 0, .int 0, .int 0, .int td, .int sd]))] s.heap.size = A at hD hX0 ⊢
  have hX : z_X A s s.heap := hX0
  have hA : ∀ q : Nat, s.heap.size ≤ q → A q := fun q h => by rw [← hAe]; exact Or.inr h
  have hS : va_S A s.heap s.heap [] := va_S.rf
  have hP : va_P D vwCl [(h0, .inr (6, [.ref hu, .ref hs, .ref hc, .ref hp, .ref hg, .int 0, .int 0, .int 0, .int td, .int sd]))] s.heap := hP
  have hl := lv_entry ([.ref h0, .int a0, .int a1, .int a2, .int a3, .int a4, .int a5]) (n := 8) (Nat.le_of_ble_eq_true rfl)
  rw [lg_entry_eq]
  generalize (lg_sl ([.ref h0, .int a0, .int a1, .int a2, .int a3, .int a4, .int a5]) ++ List.replicate (8 - (lg_sl ([.ref h0, .int a0, .int a1, .int a2, .int a3, .int a4, .int a5])).length) Slot.unset).toArray = ls at hl ⊢
  have hl : lv_has ls 8 [(0, .ref h0), (1, .int a0), (2, .int a1), (3, .int a2), (4, .int a3), (5, .int a4), (6, .int a5)] := hl
  skip
  refine lv_aload_n hx hb dX4_addShop_0 rfl (lv_at hl 0 rfl) ?_
  refine lv_iload_n hx hb dX4_addShop_1 rfl (lv_at hl 1 rfl) ?_
  obtain ⟨hb_1, hc_1⟩ := z_call (wc := [(h0, .inr (6, [.ref hu, .ref hs, .ref hc, .ref hp, .ref hg, .int 0, .int 0, .int 0, .int td, .int sd]))]) (tc := []) ([.ref h0, .int a0]) hP hK hD hS hA hE hX [0] rfl rfl [] rfl
  have hF_1 := va_free (wc := [(h0, .inr (6, [.ref hu, .ref hs, .ref hc, .ref hp, .ref hg, .int 0, .int 0, .int 0, .int td, .int sd]))]) hD hS hA [0] rfl
  refine vx_callv (vx_runV (As := [.int a0]) (rest := []) ⟨hx, hb, hml, hown, hts⟩ (c_X4_needUnit l hst D h0 hu hs hc hp hg 0 0 0 td sd a0 _ ) (z_cV 1 hE zw_525 zw_527 zw_13 zw_91 zw_528 rfl rfl rfl (by decide +kernel) ⟨(Nat.le_of_ble_eq_true rfl), (Nat.le_of_ble_eq_true rfl)⟩) ⟨hb_1, va_recv hK hP (ci := 6) (q0 := 0) rfl rfl, hc_1⟩ rfl rfl hl.1 rfl (lv_room (Nat.le_of_ble_eq_true rfl)) dX4_addShop_2 ⟨(Nat.le_of_ble_eq_true rfl), (Nat.le_of_ble_eq_true rfl)⟩) hS (fun q _ h => hF_1 q h) hF_1 (fun q _ h => hF_1 q h) (fun E_1 ce_1 q9_1 u_1 t_1 H1 locs ht_1 hvm_1 hw_1 hB_1 hz_1 hk_1 hS1 hce_1 hcv_1 hcl_1 => ?_) (fun u_1 t_1 H1 locs ht_1 hvm_1 hw_1 hB_1 hz_1 hk_1 hS1 => ?_)
  · obtain ⟨rfl, hB_1⟩ := hB_1
    obtain ⟨hP, hK, hD⟩ := z_back (wc := [(h0, .inr (6, [.ref hu, .ref hs, .ref hc, .ref hp, .ref hg, .int 0, .int 0, .int 0, .int td, .int sd]))]) (wr := []) (w1 := [(h0, .inr (6, [.ref hu, .ref hs, .ref hc, .ref hp, .ref hg, .int 0, .int 0, .int 0, .int td, .int sd]))]) (tr := []) hP hK hD [0] [] rfl rfl rfl (by decide) ht_1 hvm_1 hk_1 hF_1 [] rfl hB_1
    have hS := hS1
    have hP : va_P D vwCl [(h0, .inr (6, [.ref hu, .ref hs, .ref hc, .ref hp, .ref hg, .int 0, .int 0, .int 0, .int td, .int sd]))] H1 := hP
    have hD : va_D A [(h0, .inr (6, [.ref hu, .ref hs, .ref hc, .ref hp, .ref hg, .int 0, .int 0, .int 0, .int td, .int sd]))] := hD
    have hK : va_K D vwCl [] s := hK
    clear hS1
    exact vx_out (fun x hx => (hnt x hx).elim) hlocks hce_1 hcv_1 hcl_1 (fun t ht hvm => z_through trivial rfl hAe hP hK hD hS [0] rfl rfl [] rfl ht hvm) hS.2.2 (Nat.le_of_ble_eq_true rfl) (Nat.le_of_ble_eq_true rfl)
  · obtain ⟨hP, hK, hD⟩ := z_back (wc := [(h0, .inr (6, [.ref hu, .ref hs, .ref hc, .ref hp, .ref hg, .int 0, .int 0, .int 0, .int td, .int sd]))]) (wr := []) (w1 := [(h0, .inr (6, [.ref hu, .ref hs, .ref hc, .ref hp, .ref hg, .int 0, .int 0, .int 0, .int td, .int sd]))]) (tr := []) hP hK hD [0] [] rfl rfl rfl (by decide) ht_1 hvm_1 hk_1 hF_1 [] rfl hB_1
    have hS := hS1
    have hP : va_P D vwCl [(h0, .inr (6, [.ref hu, .ref hs, .ref hc, .ref hp, .ref hg, .int 0, .int 0, .int 0, .int td, .int sd]))] H1 := hP
    have hD : va_D A [(h0, .inr (6, [.ref hu, .ref hs, .ref hc, .ref hp, .ref hg, .int 0, .int 0, .int 0, .int td, .int sd]))] := hD
    have hK : va_K D vwCl [] s := hK
    clear hS1
    exact absurd (Int32.not_lt.mp hw_1.1) (Int32.not_le.mpr hw_1.2)
theorem dX4_flow_0 : decode cX4_flow 0 = .ok (.aload_n 0, 1) := by decide +kernel
theorem dX4_flow_1 : decode cX4_flow 1 = .ok (.iload_n 1, 1) := by decide +kernel
theorem dX4_flow_2 : decode cX4_flow 2 = .ok (.invokevirtual 76, 3) := by decide +kernel
set_option maxHeartbeats 4000000 in
set_option maxRecDepth 100000 in
theorem f_X4_flow (l : Launch) (hst : l.stackTraces = false) (D : va_G) (h0 : Nat) (hu : Nat) (hs : Nat) (hc : Nat) (hp : Nat) (hg : Nat) (td : Int32) (sd : Int32) (a0 : Int32) (sz : Nat)  : vx_Met l yX4_flow [Cond.code yX4_flow cX4_flow 2 (some .int)] ({ frames := 7, cells := 1, slots := 6, locals := 130 }) (z_Pc D [.ref h0, .int a0] [(h0, .inr (6, [.ref hu, .ref hs, .ref hc, .ref hp, .ref hg, .int 0, .int 0, .int 0, .int td, .int sd]))] [] sz) (va_Qi (fun (r : Int32) (_ : Unit) => False) (fun _ t => True) (va_A [(h0, .inr (6, [.ref hu, .ref hs, .ref hc, .ref hp, .ref hg, .int 0, .int 0, .int 0, .int td, .int sd]))] sz)) (z_T (True) "java/lang/IndexOutOfBoundsException" D [(h0, .inr (6, [.ref hu, .ref hs, .ref hc, .ref hp, .ref hg, .int 0, .int 0, .int 0, .int td, .int sd]))] [] sz) 1 6 (va_A [(h0, .inr (6, [.ref hu, .ref hs, .ref hc, .ref hp, .ref hg, .int 0, .int 0, .int 0, .int td, .int sd]))] sz) := by
  refine vx_ofW (cc := cX4_flow) (maxL := 2) (ret := (some .int)) (by decide +kernel) rfl ?_
  intro p e s m args below meth c s₁ B hml hnt hv
  obtain ⟨rfl, hsz, hP, hK, hD0, hE, hX0⟩ := hv
  have hx := B.exec
  have hb := B.bytes
  have hr := B.returns
  have hts := z_E.ts (args := [.ref h0, .int a0].toArray) hE
  have hown : s.vm.findClass RX4 = some m.cls := findClass_of_methodNamed B.named
  have hlocks := B.notSynchronized
  subst hsz
  have hD := hD0.self (sz := s.heap.size)
  generalize hAe : va_A [(h0, .inr (6, [.ref hu, .ref hs, .ref hc, .ref hp, .ref hg, .int 0, .int 0, .int 0, .int td, .int sd]))] s.heap.size = A at hD hX0 ⊢
  have hX : z_X A s s.heap := hX0
  have hA : ∀ q : Nat, s.heap.size ≤ q → A q := fun q h => by rw [← hAe]; exact Or.inr h
  have hS : va_S A s.heap s.heap [] := va_S.rf
  have hP : va_P D vwCl [(h0, .inr (6, [.ref hu, .ref hs, .ref hc, .ref hp, .ref hg, .int 0, .int 0, .int 0, .int td, .int sd]))] s.heap := hP
  have hl := lv_entry ([.ref h0, .int a0]) (n := 2) (Nat.le_of_ble_eq_true rfl)
  rw [lg_entry_eq]
  generalize (lg_sl ([.ref h0, .int a0]) ++ List.replicate (2 - (lg_sl ([.ref h0, .int a0])).length) Slot.unset).toArray = ls at hl ⊢
  have hl : lv_has ls 2 [(0, .ref h0), (1, .int a0)] := hl
  skip
  refine lv_aload_n hx hb dX4_flow_0 rfl (lv_at hl 0 rfl) ?_
  refine lv_iload_n hx hb dX4_flow_1 rfl (lv_at hl 1 rfl) ?_
  obtain ⟨hb_1, hc_1⟩ := z_call (wc := [(h0, .inr (6, [.ref hu, .ref hs, .ref hc, .ref hp, .ref hg, .int 0, .int 0, .int 0, .int td, .int sd]))]) (tc := []) ([.ref h0, .int a0]) hP hK hD hS hA hE hX [0] rfl rfl [] rfl
  have hF_1 := va_free (wc := [(h0, .inr (6, [.ref hu, .ref hs, .ref hc, .ref hp, .ref hg, .int 0, .int 0, .int 0, .int td, .int sd]))]) hD hS hA [0] rfl
  refine vx_callv (vx_runV (As := [.int a0]) (rest := []) ⟨hx, hb, hml, hown, hts⟩ (c_X4_needUnit l hst D h0 hu hs hc hp hg 0 0 0 td sd a0 _ ) (z_cV 1 hE zw_525 zw_527 zw_13 zw_91 zw_528 rfl rfl rfl (by decide +kernel) ⟨(Nat.le_of_ble_eq_true rfl), (Nat.le_of_ble_eq_true rfl)⟩) ⟨hb_1, va_recv hK hP (ci := 6) (q0 := 0) rfl rfl, hc_1⟩ rfl rfl hl.1 rfl (lv_room (Nat.le_of_ble_eq_true rfl)) dX4_flow_2 ⟨(Nat.le_of_ble_eq_true rfl), (Nat.le_of_ble_eq_true rfl)⟩) hS (fun q _ h => hF_1 q h) hF_1 (fun q _ h => hF_1 q h) (fun E_1 ce_1 q9_1 u_1 t_1 H1 locs ht_1 hvm_1 hw_1 hB_1 hz_1 hk_1 hS1 hce_1 hcv_1 hcl_1 => ?_) (fun u_1 t_1 H1 locs ht_1 hvm_1 hw_1 hB_1 hz_1 hk_1 hS1 => ?_)
  · obtain ⟨rfl, hB_1⟩ := hB_1
    obtain ⟨hP, hK, hD⟩ := z_back (wc := [(h0, .inr (6, [.ref hu, .ref hs, .ref hc, .ref hp, .ref hg, .int 0, .int 0, .int 0, .int td, .int sd]))]) (wr := []) (w1 := [(h0, .inr (6, [.ref hu, .ref hs, .ref hc, .ref hp, .ref hg, .int 0, .int 0, .int 0, .int td, .int sd]))]) (tr := []) hP hK hD [0] [] rfl rfl rfl (by decide) ht_1 hvm_1 hk_1 hF_1 [] rfl hB_1
    have hS := hS1
    have hP : va_P D vwCl [(h0, .inr (6, [.ref hu, .ref hs, .ref hc, .ref hp, .ref hg, .int 0, .int 0, .int 0, .int td, .int sd]))] H1 := hP
    have hD : va_D A [(h0, .inr (6, [.ref hu, .ref hs, .ref hc, .ref hp, .ref hg, .int 0, .int 0, .int 0, .int td, .int sd]))] := hD
    have hK : va_K D vwCl [] s := hK
    clear hS1
    exact vx_out (fun x hx => (hnt x hx).elim) hlocks hce_1 hcv_1 hcl_1 (fun t ht hvm => z_through trivial rfl hAe hP hK hD hS [0] rfl rfl [] rfl ht hvm) hS.2.2 (Nat.le_of_ble_eq_true rfl) (Nat.le_of_ble_eq_true rfl)
  · obtain ⟨hP, hK, hD⟩ := z_back (wc := [(h0, .inr (6, [.ref hu, .ref hs, .ref hc, .ref hp, .ref hg, .int 0, .int 0, .int 0, .int td, .int sd]))]) (wr := []) (w1 := [(h0, .inr (6, [.ref hu, .ref hs, .ref hc, .ref hp, .ref hg, .int 0, .int 0, .int 0, .int td, .int sd]))]) (tr := []) hP hK hD [0] [] rfl rfl rfl (by decide) ht_1 hvm_1 hk_1 hF_1 [] rfl hB_1
    have hS := hS1
    have hP : va_P D vwCl [(h0, .inr (6, [.ref hu, .ref hs, .ref hc, .ref hp, .ref hg, .int 0, .int 0, .int 0, .int td, .int sd]))] H1 := hP
    have hD : va_D A [(h0, .inr (6, [.ref hu, .ref hs, .ref hc, .ref hp, .ref hg, .int 0, .int 0, .int 0, .int td, .int sd]))] := hD
    have hK : va_K D vwCl [] s := hK
    clear hS1
    exact absurd (Int32.not_lt.mp hw_1.1) (Int32.not_le.mpr hw_1.2)
theorem dX4_room_0 : decode cX4_room 0 = .ok (.aload_n 0, 1) := by decide +kernel
theorem dX4_room_1 : decode cX4_room 1 = .ok (.iload_n 1, 1) := by decide +kernel
theorem dX4_room_2 : decode cX4_room 2 = .ok (.invokevirtual 76, 3) := by decide +kernel
set_option maxHeartbeats 4000000 in
set_option maxRecDepth 100000 in
theorem f_X4_room (l : Launch) (hst : l.stackTraces = false) (D : va_G) (h0 : Nat) (hu : Nat) (hs : Nat) (hc : Nat) (hp : Nat) (hg : Nat) (td : Int32) (sd : Int32) (a0 : Int32) (sz : Nat)  : vx_Met l yX4_room [Cond.code yX4_room cX4_room 2 (some .int)] ({ frames := 7, cells := 1, slots := 6, locals := 130 }) (z_Pc D [.ref h0, .int a0] [(h0, .inr (6, [.ref hu, .ref hs, .ref hc, .ref hp, .ref hg, .int 0, .int 0, .int 0, .int td, .int sd]))] [] sz) (va_Qi (fun (r : Int32) (_ : Unit) => False) (fun _ t => True) (va_A [(h0, .inr (6, [.ref hu, .ref hs, .ref hc, .ref hp, .ref hg, .int 0, .int 0, .int 0, .int td, .int sd]))] sz)) (z_T (True) "java/lang/IndexOutOfBoundsException" D [(h0, .inr (6, [.ref hu, .ref hs, .ref hc, .ref hp, .ref hg, .int 0, .int 0, .int 0, .int td, .int sd]))] [] sz) 1 6 (va_A [(h0, .inr (6, [.ref hu, .ref hs, .ref hc, .ref hp, .ref hg, .int 0, .int 0, .int 0, .int td, .int sd]))] sz) := by
  refine vx_ofW (cc := cX4_room) (maxL := 2) (ret := (some .int)) (by decide +kernel) rfl ?_
  intro p e s m args below meth c s₁ B hml hnt hv
  obtain ⟨rfl, hsz, hP, hK, hD0, hE, hX0⟩ := hv
  have hx := B.exec
  have hb := B.bytes
  have hr := B.returns
  have hts := z_E.ts (args := [.ref h0, .int a0].toArray) hE
  have hown : s.vm.findClass RX4 = some m.cls := findClass_of_methodNamed B.named
  have hlocks := B.notSynchronized
  subst hsz
  have hD := hD0.self (sz := s.heap.size)
  generalize hAe : va_A [(h0, .inr (6, [.ref hu, .ref hs, .ref hc, .ref hp, .ref hg, .int 0, .int 0, .int 0, .int td, .int sd]))] s.heap.size = A at hD hX0 ⊢
  have hX : z_X A s s.heap := hX0
  have hA : ∀ q : Nat, s.heap.size ≤ q → A q := fun q h => by rw [← hAe]; exact Or.inr h
  have hS : va_S A s.heap s.heap [] := va_S.rf
  have hP : va_P D vwCl [(h0, .inr (6, [.ref hu, .ref hs, .ref hc, .ref hp, .ref hg, .int 0, .int 0, .int 0, .int td, .int sd]))] s.heap := hP
  have hl := lv_entry ([.ref h0, .int a0]) (n := 2) (Nat.le_of_ble_eq_true rfl)
  rw [lg_entry_eq]
  generalize (lg_sl ([.ref h0, .int a0]) ++ List.replicate (2 - (lg_sl ([.ref h0, .int a0])).length) Slot.unset).toArray = ls at hl ⊢
  have hl : lv_has ls 2 [(0, .ref h0), (1, .int a0)] := hl
  skip
  refine lv_aload_n hx hb dX4_room_0 rfl (lv_at hl 0 rfl) ?_
  refine lv_iload_n hx hb dX4_room_1 rfl (lv_at hl 1 rfl) ?_
  obtain ⟨hb_1, hc_1⟩ := z_call (wc := [(h0, .inr (6, [.ref hu, .ref hs, .ref hc, .ref hp, .ref hg, .int 0, .int 0, .int 0, .int td, .int sd]))]) (tc := []) ([.ref h0, .int a0]) hP hK hD hS hA hE hX [0] rfl rfl [] rfl
  have hF_1 := va_free (wc := [(h0, .inr (6, [.ref hu, .ref hs, .ref hc, .ref hp, .ref hg, .int 0, .int 0, .int 0, .int td, .int sd]))]) hD hS hA [0] rfl
  refine vx_callv (vx_runV (As := [.int a0]) (rest := []) ⟨hx, hb, hml, hown, hts⟩ (c_X4_needUnit l hst D h0 hu hs hc hp hg 0 0 0 td sd a0 _ ) (z_cV 1 hE zw_525 zw_527 zw_13 zw_91 zw_528 rfl rfl rfl (by decide +kernel) ⟨(Nat.le_of_ble_eq_true rfl), (Nat.le_of_ble_eq_true rfl)⟩) ⟨hb_1, va_recv hK hP (ci := 6) (q0 := 0) rfl rfl, hc_1⟩ rfl rfl hl.1 rfl (lv_room (Nat.le_of_ble_eq_true rfl)) dX4_room_2 ⟨(Nat.le_of_ble_eq_true rfl), (Nat.le_of_ble_eq_true rfl)⟩) hS (fun q _ h => hF_1 q h) hF_1 (fun q _ h => hF_1 q h) (fun E_1 ce_1 q9_1 u_1 t_1 H1 locs ht_1 hvm_1 hw_1 hB_1 hz_1 hk_1 hS1 hce_1 hcv_1 hcl_1 => ?_) (fun u_1 t_1 H1 locs ht_1 hvm_1 hw_1 hB_1 hz_1 hk_1 hS1 => ?_)
  · obtain ⟨rfl, hB_1⟩ := hB_1
    obtain ⟨hP, hK, hD⟩ := z_back (wc := [(h0, .inr (6, [.ref hu, .ref hs, .ref hc, .ref hp, .ref hg, .int 0, .int 0, .int 0, .int td, .int sd]))]) (wr := []) (w1 := [(h0, .inr (6, [.ref hu, .ref hs, .ref hc, .ref hp, .ref hg, .int 0, .int 0, .int 0, .int td, .int sd]))]) (tr := []) hP hK hD [0] [] rfl rfl rfl (by decide) ht_1 hvm_1 hk_1 hF_1 [] rfl hB_1
    have hS := hS1
    have hP : va_P D vwCl [(h0, .inr (6, [.ref hu, .ref hs, .ref hc, .ref hp, .ref hg, .int 0, .int 0, .int 0, .int td, .int sd]))] H1 := hP
    have hD : va_D A [(h0, .inr (6, [.ref hu, .ref hs, .ref hc, .ref hp, .ref hg, .int 0, .int 0, .int 0, .int td, .int sd]))] := hD
    have hK : va_K D vwCl [] s := hK
    clear hS1
    exact vx_out (fun x hx => (hnt x hx).elim) hlocks hce_1 hcv_1 hcl_1 (fun t ht hvm => z_through trivial rfl hAe hP hK hD hS [0] rfl rfl [] rfl ht hvm) hS.2.2 (Nat.le_of_ble_eq_true rfl) (Nat.le_of_ble_eq_true rfl)
  · obtain ⟨hP, hK, hD⟩ := z_back (wc := [(h0, .inr (6, [.ref hu, .ref hs, .ref hc, .ref hp, .ref hg, .int 0, .int 0, .int 0, .int td, .int sd]))]) (wr := []) (w1 := [(h0, .inr (6, [.ref hu, .ref hs, .ref hc, .ref hp, .ref hg, .int 0, .int 0, .int 0, .int td, .int sd]))]) (tr := []) hP hK hD [0] [] rfl rfl rfl (by decide) ht_1 hvm_1 hk_1 hF_1 [] rfl hB_1
    have hS := hS1
    have hP : va_P D vwCl [(h0, .inr (6, [.ref hu, .ref hs, .ref hc, .ref hp, .ref hg, .int 0, .int 0, .int 0, .int td, .int sd]))] H1 := hP
    have hD : va_D A [(h0, .inr (6, [.ref hu, .ref hs, .ref hc, .ref hp, .ref hg, .int 0, .int 0, .int 0, .int td, .int sd]))] := hD
    have hK : va_K D vwCl [] s := hK
    clear hS1
    exact absurd (Int32.not_lt.mp hw_1.1) (Int32.not_le.mpr hw_1.2)
theorem dX4_lostDays_0 : decode cX4_lostDays 0 = .ok (.aload_n 0, 1) := by decide +kernel
theorem dX4_lostDays_1 : decode cX4_lostDays 1 = .ok (.iload_n 1, 1) := by decide +kernel
theorem dX4_lostDays_2 : decode cX4_lostDays 2 = .ok (.invokevirtual 76, 3) := by decide +kernel
set_option maxHeartbeats 4000000 in
set_option maxRecDepth 100000 in
theorem f_X4_lostDays (l : Launch) (hst : l.stackTraces = false) (D : va_G) (h0 : Nat) (hu : Nat) (hs : Nat) (hc : Nat) (hp : Nat) (hg : Nat) (td : Int32) (sd : Int32) (a0 : Int32) (a1 : Int32) (sz : Nat)  : vx_Met l yX4_lostDays [Cond.code yX4_lostDays cX4_lostDays 4 (some .int)] ({ frames := 7, cells := 1, slots := 6, locals := 130 }) (z_Pc D [.ref h0, .int a0, .int a1] [(h0, .inr (6, [.ref hu, .ref hs, .ref hc, .ref hp, .ref hg, .int 0, .int 0, .int 0, .int td, .int sd]))] [] sz) (va_Qi (fun (r : Int32) (_ : Unit) => False) (fun _ t => True) (va_A [(h0, .inr (6, [.ref hu, .ref hs, .ref hc, .ref hp, .ref hg, .int 0, .int 0, .int 0, .int td, .int sd]))] sz)) (z_T (True) "java/lang/IndexOutOfBoundsException" D [(h0, .inr (6, [.ref hu, .ref hs, .ref hc, .ref hp, .ref hg, .int 0, .int 0, .int 0, .int td, .int sd]))] [] sz) 1 6 (va_A [(h0, .inr (6, [.ref hu, .ref hs, .ref hc, .ref hp, .ref hg, .int 0, .int 0, .int 0, .int td, .int sd]))] sz) := by
  refine vx_ofW (cc := cX4_lostDays) (maxL := 4) (ret := (some .int)) (by decide +kernel) rfl ?_
  intro p e s m args below meth c s₁ B hml hnt hv
  obtain ⟨rfl, hsz, hP, hK, hD0, hE, hX0⟩ := hv
  have hx := B.exec
  have hb := B.bytes
  have hr := B.returns
  have hts := z_E.ts (args := [.ref h0, .int a0, .int a1].toArray) hE
  have hown : s.vm.findClass RX4 = some m.cls := findClass_of_methodNamed B.named
  have hlocks := B.notSynchronized
  subst hsz
  have hD := hD0.self (sz := s.heap.size)
  generalize hAe : va_A [(h0, .inr (6, [.ref hu, .ref hs, .ref hc, .ref hp, .ref hg, .int 0, .int 0, .int 0, .int td, .int sd]))] s.heap.size = A at hD hX0 ⊢
  have hX : z_X A s s.heap := hX0
  have hA : ∀ q : Nat, s.heap.size ≤ q → A q := fun q h => by rw [← hAe]; exact Or.inr h
  have hS : va_S A s.heap s.heap [] := va_S.rf
  have hP : va_P D vwCl [(h0, .inr (6, [.ref hu, .ref hs, .ref hc, .ref hp, .ref hg, .int 0, .int 0, .int 0, .int td, .int sd]))] s.heap := hP
  have hl := lv_entry ([.ref h0, .int a0, .int a1]) (n := 4) (Nat.le_of_ble_eq_true rfl)
  rw [lg_entry_eq]
  generalize (lg_sl ([.ref h0, .int a0, .int a1]) ++ List.replicate (4 - (lg_sl ([.ref h0, .int a0, .int a1])).length) Slot.unset).toArray = ls at hl ⊢
  have hl : lv_has ls 4 [(0, .ref h0), (1, .int a0), (2, .int a1)] := hl
  skip
  refine lv_aload_n hx hb dX4_lostDays_0 rfl (lv_at hl 0 rfl) ?_
  refine lv_iload_n hx hb dX4_lostDays_1 rfl (lv_at hl 1 rfl) ?_
  obtain ⟨hb_1, hc_1⟩ := z_call (wc := [(h0, .inr (6, [.ref hu, .ref hs, .ref hc, .ref hp, .ref hg, .int 0, .int 0, .int 0, .int td, .int sd]))]) (tc := []) ([.ref h0, .int a0]) hP hK hD hS hA hE hX [0] rfl rfl [] rfl
  have hF_1 := va_free (wc := [(h0, .inr (6, [.ref hu, .ref hs, .ref hc, .ref hp, .ref hg, .int 0, .int 0, .int 0, .int td, .int sd]))]) hD hS hA [0] rfl
  refine vx_callv (vx_runV (As := [.int a0]) (rest := []) ⟨hx, hb, hml, hown, hts⟩ (c_X4_needUnit l hst D h0 hu hs hc hp hg 0 0 0 td sd a0 _ ) (z_cV 1 hE zw_525 zw_527 zw_13 zw_91 zw_528 rfl rfl rfl (by decide +kernel) ⟨(Nat.le_of_ble_eq_true rfl), (Nat.le_of_ble_eq_true rfl)⟩) ⟨hb_1, va_recv hK hP (ci := 6) (q0 := 0) rfl rfl, hc_1⟩ rfl rfl hl.1 rfl (lv_room (Nat.le_of_ble_eq_true rfl)) dX4_lostDays_2 ⟨(Nat.le_of_ble_eq_true rfl), (Nat.le_of_ble_eq_true rfl)⟩) hS (fun q _ h => hF_1 q h) hF_1 (fun q _ h => hF_1 q h) (fun E_1 ce_1 q9_1 u_1 t_1 H1 locs ht_1 hvm_1 hw_1 hB_1 hz_1 hk_1 hS1 hce_1 hcv_1 hcl_1 => ?_) (fun u_1 t_1 H1 locs ht_1 hvm_1 hw_1 hB_1 hz_1 hk_1 hS1 => ?_)
  · obtain ⟨rfl, hB_1⟩ := hB_1
    obtain ⟨hP, hK, hD⟩ := z_back (wc := [(h0, .inr (6, [.ref hu, .ref hs, .ref hc, .ref hp, .ref hg, .int 0, .int 0, .int 0, .int td, .int sd]))]) (wr := []) (w1 := [(h0, .inr (6, [.ref hu, .ref hs, .ref hc, .ref hp, .ref hg, .int 0, .int 0, .int 0, .int td, .int sd]))]) (tr := []) hP hK hD [0] [] rfl rfl rfl (by decide) ht_1 hvm_1 hk_1 hF_1 [] rfl hB_1
    have hS := hS1
    have hP : va_P D vwCl [(h0, .inr (6, [.ref hu, .ref hs, .ref hc, .ref hp, .ref hg, .int 0, .int 0, .int 0, .int td, .int sd]))] H1 := hP
    have hD : va_D A [(h0, .inr (6, [.ref hu, .ref hs, .ref hc, .ref hp, .ref hg, .int 0, .int 0, .int 0, .int td, .int sd]))] := hD
    have hK : va_K D vwCl [] s := hK
    clear hS1
    exact vx_out (fun x hx => (hnt x hx).elim) hlocks hce_1 hcv_1 hcl_1 (fun t ht hvm => z_through trivial rfl hAe hP hK hD hS [0] rfl rfl [] rfl ht hvm) hS.2.2 (Nat.le_of_ble_eq_true rfl) (Nat.le_of_ble_eq_true rfl)
  · obtain ⟨hP, hK, hD⟩ := z_back (wc := [(h0, .inr (6, [.ref hu, .ref hs, .ref hc, .ref hp, .ref hg, .int 0, .int 0, .int 0, .int td, .int sd]))]) (wr := []) (w1 := [(h0, .inr (6, [.ref hu, .ref hs, .ref hc, .ref hp, .ref hg, .int 0, .int 0, .int 0, .int td, .int sd]))]) (tr := []) hP hK hD [0] [] rfl rfl rfl (by decide) ht_1 hvm_1 hk_1 hF_1 [] rfl hB_1
    have hS := hS1
    have hP : va_P D vwCl [(h0, .inr (6, [.ref hu, .ref hs, .ref hc, .ref hp, .ref hg, .int 0, .int 0, .int 0, .int td, .int sd]))] H1 := hP
    have hD : va_D A [(h0, .inr (6, [.ref hu, .ref hs, .ref hc, .ref hp, .ref hg, .int 0, .int 0, .int 0, .int td, .int sd]))] := hD
    have hK : va_K D vwCl [] s := hK
    clear hS1
    exact absurd (Int32.not_lt.mp hw_1.1) (Int32.not_le.mpr hw_1.2)
theorem dX4_startIn_0 : decode cX4_startIn 0 = .ok (.aload_n 0, 1) := by decide +kernel
theorem dX4_startIn_1 : decode cX4_startIn 1 = .ok (.iload_n 1, 1) := by decide +kernel
theorem dX4_startIn_2 : decode cX4_startIn 2 = .ok (.invokevirtual 76, 3) := by decide +kernel
set_option maxHeartbeats 4000000 in
set_option maxRecDepth 100000 in
theorem f_X4_startIn (l : Launch) (hst : l.stackTraces = false) (D : va_G) (h0 : Nat) (hu : Nat) (hs : Nat) (hc : Nat) (hp : Nat) (hg : Nat) (td : Int32) (sd : Int32) (a0 : Int32) (sz : Nat)  : vx_Met l yX4_startIn [Cond.code yX4_startIn cX4_startIn 2 (some .int)] ({ frames := 7, cells := 1, slots := 6, locals := 130 }) (z_Pc D [.ref h0, .int a0] [(h0, .inr (6, [.ref hu, .ref hs, .ref hc, .ref hp, .ref hg, .int 0, .int 0, .int 0, .int td, .int sd]))] [] sz) (va_Qi (fun (r : Int32) (_ : Unit) => False) (fun _ t => True) (va_A [(h0, .inr (6, [.ref hu, .ref hs, .ref hc, .ref hp, .ref hg, .int 0, .int 0, .int 0, .int td, .int sd]))] sz)) (z_T (True) "java/lang/IndexOutOfBoundsException" D [(h0, .inr (6, [.ref hu, .ref hs, .ref hc, .ref hp, .ref hg, .int 0, .int 0, .int 0, .int td, .int sd]))] [] sz) 1 6 (va_A [(h0, .inr (6, [.ref hu, .ref hs, .ref hc, .ref hp, .ref hg, .int 0, .int 0, .int 0, .int td, .int sd]))] sz) := by
  refine vx_ofW (cc := cX4_startIn) (maxL := 2) (ret := (some .int)) (by decide +kernel) rfl ?_
  intro p e s m args below meth c s₁ B hml hnt hv
  obtain ⟨rfl, hsz, hP, hK, hD0, hE, hX0⟩ := hv
  have hx := B.exec
  have hb := B.bytes
  have hr := B.returns
  have hts := z_E.ts (args := [.ref h0, .int a0].toArray) hE
  have hown : s.vm.findClass RX4 = some m.cls := findClass_of_methodNamed B.named
  have hlocks := B.notSynchronized
  subst hsz
  have hD := hD0.self (sz := s.heap.size)
  generalize hAe : va_A [(h0, .inr (6, [.ref hu, .ref hs, .ref hc, .ref hp, .ref hg, .int 0, .int 0, .int 0, .int td, .int sd]))] s.heap.size = A at hD hX0 ⊢
  have hX : z_X A s s.heap := hX0
  have hA : ∀ q : Nat, s.heap.size ≤ q → A q := fun q h => by rw [← hAe]; exact Or.inr h
  have hS : va_S A s.heap s.heap [] := va_S.rf
  have hP : va_P D vwCl [(h0, .inr (6, [.ref hu, .ref hs, .ref hc, .ref hp, .ref hg, .int 0, .int 0, .int 0, .int td, .int sd]))] s.heap := hP
  have hl := lv_entry ([.ref h0, .int a0]) (n := 2) (Nat.le_of_ble_eq_true rfl)
  rw [lg_entry_eq]
  generalize (lg_sl ([.ref h0, .int a0]) ++ List.replicate (2 - (lg_sl ([.ref h0, .int a0])).length) Slot.unset).toArray = ls at hl ⊢
  have hl : lv_has ls 2 [(0, .ref h0), (1, .int a0)] := hl
  skip
  refine lv_aload_n hx hb dX4_startIn_0 rfl (lv_at hl 0 rfl) ?_
  refine lv_iload_n hx hb dX4_startIn_1 rfl (lv_at hl 1 rfl) ?_
  obtain ⟨hb_1, hc_1⟩ := z_call (wc := [(h0, .inr (6, [.ref hu, .ref hs, .ref hc, .ref hp, .ref hg, .int 0, .int 0, .int 0, .int td, .int sd]))]) (tc := []) ([.ref h0, .int a0]) hP hK hD hS hA hE hX [0] rfl rfl [] rfl
  have hF_1 := va_free (wc := [(h0, .inr (6, [.ref hu, .ref hs, .ref hc, .ref hp, .ref hg, .int 0, .int 0, .int 0, .int td, .int sd]))]) hD hS hA [0] rfl
  refine vx_callv (vx_runV (As := [.int a0]) (rest := []) ⟨hx, hb, hml, hown, hts⟩ (c_X4_needUnit l hst D h0 hu hs hc hp hg 0 0 0 td sd a0 _ ) (z_cV 1 hE zw_525 zw_527 zw_13 zw_91 zw_528 rfl rfl rfl (by decide +kernel) ⟨(Nat.le_of_ble_eq_true rfl), (Nat.le_of_ble_eq_true rfl)⟩) ⟨hb_1, va_recv hK hP (ci := 6) (q0 := 0) rfl rfl, hc_1⟩ rfl rfl hl.1 rfl (lv_room (Nat.le_of_ble_eq_true rfl)) dX4_startIn_2 ⟨(Nat.le_of_ble_eq_true rfl), (Nat.le_of_ble_eq_true rfl)⟩) hS (fun q _ h => hF_1 q h) hF_1 (fun q _ h => hF_1 q h) (fun E_1 ce_1 q9_1 u_1 t_1 H1 locs ht_1 hvm_1 hw_1 hB_1 hz_1 hk_1 hS1 hce_1 hcv_1 hcl_1 => ?_) (fun u_1 t_1 H1 locs ht_1 hvm_1 hw_1 hB_1 hz_1 hk_1 hS1 => ?_)
  · obtain ⟨rfl, hB_1⟩ := hB_1
    obtain ⟨hP, hK, hD⟩ := z_back (wc := [(h0, .inr (6, [.ref hu, .ref hs, .ref hc, .ref hp, .ref hg, .int 0, .int 0, .int 0, .int td, .int sd]))]) (wr := []) (w1 := [(h0, .inr (6, [.ref hu, .ref hs, .ref hc, .ref hp, .ref hg, .int 0, .int 0, .int 0, .int td, .int sd]))]) (tr := []) hP hK hD [0] [] rfl rfl rfl (by decide) ht_1 hvm_1 hk_1 hF_1 [] rfl hB_1
    have hS := hS1
    have hP : va_P D vwCl [(h0, .inr (6, [.ref hu, .ref hs, .ref hc, .ref hp, .ref hg, .int 0, .int 0, .int 0, .int td, .int sd]))] H1 := hP
    have hD : va_D A [(h0, .inr (6, [.ref hu, .ref hs, .ref hc, .ref hp, .ref hg, .int 0, .int 0, .int 0, .int td, .int sd]))] := hD
    have hK : va_K D vwCl [] s := hK
    clear hS1
    exact vx_out (fun x hx => (hnt x hx).elim) hlocks hce_1 hcv_1 hcl_1 (fun t ht hvm => z_through trivial rfl hAe hP hK hD hS [0] rfl rfl [] rfl ht hvm) hS.2.2 (Nat.le_of_ble_eq_true rfl) (Nat.le_of_ble_eq_true rfl)
  · obtain ⟨hP, hK, hD⟩ := z_back (wc := [(h0, .inr (6, [.ref hu, .ref hs, .ref hc, .ref hp, .ref hg, .int 0, .int 0, .int 0, .int td, .int sd]))]) (wr := []) (w1 := [(h0, .inr (6, [.ref hu, .ref hs, .ref hc, .ref hp, .ref hg, .int 0, .int 0, .int 0, .int td, .int sd]))]) (tr := []) hP hK hD [0] [] rfl rfl rfl (by decide) ht_1 hvm_1 hk_1 hF_1 [] rfl hB_1
    have hS := hS1
    have hP : va_P D vwCl [(h0, .inr (6, [.ref hu, .ref hs, .ref hc, .ref hp, .ref hg, .int 0, .int 0, .int 0, .int td, .int sd]))] H1 := hP
    have hD : va_D A [(h0, .inr (6, [.ref hu, .ref hs, .ref hc, .ref hp, .ref hg, .int 0, .int 0, .int 0, .int td, .int sd]))] := hD
    have hK : va_K D vwCl [] s := hK
    clear hS1
    exact absurd (Int32.not_lt.mp hw_1.1) (Int32.not_le.mpr hw_1.2)
theorem dX4_state_0 : decode cX4_state 0 = .ok (.aload_n 0, 1) := by decide +kernel
theorem dX4_state_1 : decode cX4_state 1 = .ok (.iload_n 1, 1) := by decide +kernel
theorem dX4_state_2 : decode cX4_state 2 = .ok (.invokevirtual 189, 3) := by decide +kernel
theorem zw_678 : Cond.methodLink RX4 189 yX4_needShop ∈ z_Ts := z_m 678 (by decide +kernel) (by decide +kernel)
theorem zw_680 : Cond.instanceMethod yX4_needShop ∈ z_Ts := z_m 680 (by decide +kernel) (by decide +kernel)
theorem zw_23 : Cond.selects RX4 yX4_needShop yX4_needShop ∈ z_Ts := z_m 23 (by decide +kernel) (by decide +kernel)
theorem zw_681 : Cond.code yX4_needShop cX4_needShop 2 none ∈ z_Ts := z_m 681 (by decide +kernel) (by decide +kernel)
set_option maxHeartbeats 4000000 in
set_option maxRecDepth 100000 in
theorem f_X4_state (l : Launch) (hst : l.stackTraces = false) (D : va_G) (h0 : Nat) (hu : Nat) (hs : Nat) (hc : Nat) (hp : Nat) (hg : Nat) (td : Int32) (sd : Int32) (a0 : Int32) (sz : Nat)  : vx_Met l yX4_state [Cond.code yX4_state cX4_state 2 (some .char)] ({ frames := 7, cells := 1, slots := 6, locals := 130 }) (z_Pc D [.ref h0, .int a0] [(h0, .inr (6, [.ref hu, .ref hs, .ref hc, .ref hp, .ref hg, .int 0, .int 0, .int 0, .int td, .int sd]))] [] sz) (va_Qi (fun (r : Int32) (_ : Unit) => False) (fun _ t => True) (va_A [(h0, .inr (6, [.ref hu, .ref hs, .ref hc, .ref hp, .ref hg, .int 0, .int 0, .int 0, .int td, .int sd]))] sz)) (z_T (True) "java/lang/IndexOutOfBoundsException" D [(h0, .inr (6, [.ref hu, .ref hs, .ref hc, .ref hp, .ref hg, .int 0, .int 0, .int 0, .int td, .int sd]))] [] sz) 1 6 (va_A [(h0, .inr (6, [.ref hu, .ref hs, .ref hc, .ref hp, .ref hg, .int 0, .int 0, .int 0, .int td, .int sd]))] sz) := by
  refine vx_ofW (cc := cX4_state) (maxL := 2) (ret := (some .char)) (by decide +kernel) rfl ?_
  intro p e s m args below meth c s₁ B hml hnt hv
  obtain ⟨rfl, hsz, hP, hK, hD0, hE, hX0⟩ := hv
  have hx := B.exec
  have hb := B.bytes
  have hr := B.returns
  have hts := z_E.ts (args := [.ref h0, .int a0].toArray) hE
  have hown : s.vm.findClass RX4 = some m.cls := findClass_of_methodNamed B.named
  have hlocks := B.notSynchronized
  subst hsz
  have hD := hD0.self (sz := s.heap.size)
  generalize hAe : va_A [(h0, .inr (6, [.ref hu, .ref hs, .ref hc, .ref hp, .ref hg, .int 0, .int 0, .int 0, .int td, .int sd]))] s.heap.size = A at hD hX0 ⊢
  have hX : z_X A s s.heap := hX0
  have hA : ∀ q : Nat, s.heap.size ≤ q → A q := fun q h => by rw [← hAe]; exact Or.inr h
  have hS : va_S A s.heap s.heap [] := va_S.rf
  have hP : va_P D vwCl [(h0, .inr (6, [.ref hu, .ref hs, .ref hc, .ref hp, .ref hg, .int 0, .int 0, .int 0, .int td, .int sd]))] s.heap := hP
  have hl := lv_entry ([.ref h0, .int a0]) (n := 2) (Nat.le_of_ble_eq_true rfl)
  rw [lg_entry_eq]
  generalize (lg_sl ([.ref h0, .int a0]) ++ List.replicate (2 - (lg_sl ([.ref h0, .int a0])).length) Slot.unset).toArray = ls at hl ⊢
  have hl : lv_has ls 2 [(0, .ref h0), (1, .int a0)] := hl
  skip
  refine lv_aload_n hx hb dX4_state_0 rfl (lv_at hl 0 rfl) ?_
  refine lv_iload_n hx hb dX4_state_1 rfl (lv_at hl 1 rfl) ?_
  obtain ⟨hb_1, hc_1⟩ := z_call (wc := [(h0, .inr (6, [.ref hu, .ref hs, .ref hc, .ref hp, .ref hg, .int 0, .int 0, .int 0, .int td, .int sd]))]) (tc := []) ([.ref h0, .int a0]) hP hK hD hS hA hE hX [0] rfl rfl [] rfl
  have hF_1 := va_free (wc := [(h0, .inr (6, [.ref hu, .ref hs, .ref hc, .ref hp, .ref hg, .int 0, .int 0, .int 0, .int td, .int sd]))]) hD hS hA [0] rfl
  refine vx_callv (vx_runV (As := [.int a0]) (rest := []) ⟨hx, hb, hml, hown, hts⟩ (c_X4_needShop l hst D h0 hu hs hc hp hg 0 0 0 td sd a0 _ ) (z_cV 1 hE zw_678 zw_680 zw_23 zw_91 zw_681 rfl rfl rfl (by decide +kernel) ⟨(Nat.le_of_ble_eq_true rfl), (Nat.le_of_ble_eq_true rfl)⟩) ⟨hb_1, va_recv hK hP (ci := 6) (q0 := 0) rfl rfl, hc_1⟩ rfl rfl hl.1 rfl (lv_room (Nat.le_of_ble_eq_true rfl)) dX4_state_2 ⟨(Nat.le_of_ble_eq_true rfl), (Nat.le_of_ble_eq_true rfl)⟩) hS (fun q _ h => hF_1 q h) hF_1 (fun q _ h => hF_1 q h) (fun E_1 ce_1 q9_1 u_1 t_1 H1 locs ht_1 hvm_1 hw_1 hB_1 hz_1 hk_1 hS1 hce_1 hcv_1 hcl_1 => ?_) (fun u_1 t_1 H1 locs ht_1 hvm_1 hw_1 hB_1 hz_1 hk_1 hS1 => ?_)
  · obtain ⟨rfl, hB_1⟩ := hB_1
    obtain ⟨hP, hK, hD⟩ := z_back (wc := [(h0, .inr (6, [.ref hu, .ref hs, .ref hc, .ref hp, .ref hg, .int 0, .int 0, .int 0, .int td, .int sd]))]) (wr := []) (w1 := [(h0, .inr (6, [.ref hu, .ref hs, .ref hc, .ref hp, .ref hg, .int 0, .int 0, .int 0, .int td, .int sd]))]) (tr := []) hP hK hD [0] [] rfl rfl rfl (by decide) ht_1 hvm_1 hk_1 hF_1 [] rfl hB_1
    have hS := hS1
    have hP : va_P D vwCl [(h0, .inr (6, [.ref hu, .ref hs, .ref hc, .ref hp, .ref hg, .int 0, .int 0, .int 0, .int td, .int sd]))] H1 := hP
    have hD : va_D A [(h0, .inr (6, [.ref hu, .ref hs, .ref hc, .ref hp, .ref hg, .int 0, .int 0, .int 0, .int td, .int sd]))] := hD
    have hK : va_K D vwCl [] s := hK
    clear hS1
    exact vx_out (fun x hx => (hnt x hx).elim) hlocks hce_1 hcv_1 hcl_1 (fun t ht hvm => z_through trivial rfl hAe hP hK hD hS [0] rfl rfl [] rfl ht hvm) hS.2.2 (Nat.le_of_ble_eq_true rfl) (Nat.le_of_ble_eq_true rfl)
  · obtain ⟨hP, hK, hD⟩ := z_back (wc := [(h0, .inr (6, [.ref hu, .ref hs, .ref hc, .ref hp, .ref hg, .int 0, .int 0, .int 0, .int td, .int sd]))]) (wr := []) (w1 := [(h0, .inr (6, [.ref hu, .ref hs, .ref hc, .ref hp, .ref hg, .int 0, .int 0, .int 0, .int td, .int sd]))]) (tr := []) hP hK hD [0] [] rfl rfl rfl (by decide) ht_1 hvm_1 hk_1 hF_1 [] rfl hB_1
    have hS := hS1
    have hP : va_P D vwCl [(h0, .inr (6, [.ref hu, .ref hs, .ref hc, .ref hp, .ref hg, .int 0, .int 0, .int 0, .int td, .int sd]))] H1 := hP
    have hD : va_D A [(h0, .inr (6, [.ref hu, .ref hs, .ref hc, .ref hp, .ref hg, .int 0, .int 0, .int 0, .int td, .int sd]))] := hD
    have hK : va_K D vwCl [] s := hK
    clear hS1
    exact absurd (Int32.not_lt.mp hw_1.1) (Int32.not_le.mpr hw_1.2)
theorem dX4_unitOf_0 : decode cX4_unitOf 0 = .ok (.aload_n 0, 1) := by decide +kernel
theorem dX4_unitOf_1 : decode cX4_unitOf 1 = .ok (.iload_n 1, 1) := by decide +kernel
theorem dX4_unitOf_2 : decode cX4_unitOf 2 = .ok (.invokevirtual 189, 3) := by decide +kernel
set_option maxHeartbeats 4000000 in
set_option maxRecDepth 100000 in
theorem f_X4_unitOf (l : Launch) (hst : l.stackTraces = false) (D : va_G) (h0 : Nat) (hu : Nat) (hs : Nat) (hc : Nat) (hp : Nat) (hg : Nat) (td : Int32) (sd : Int32) (a0 : Int32) (sz : Nat)  : vx_Met l yX4_unitOf [Cond.code yX4_unitOf cX4_unitOf 2 (some .int)] ({ frames := 7, cells := 1, slots := 6, locals := 130 }) (z_Pc D [.ref h0, .int a0] [(h0, .inr (6, [.ref hu, .ref hs, .ref hc, .ref hp, .ref hg, .int 0, .int 0, .int 0, .int td, .int sd]))] [] sz) (va_Qi (fun (r : Int32) (_ : Unit) => False) (fun _ t => True) (va_A [(h0, .inr (6, [.ref hu, .ref hs, .ref hc, .ref hp, .ref hg, .int 0, .int 0, .int 0, .int td, .int sd]))] sz)) (z_T (True) "java/lang/IndexOutOfBoundsException" D [(h0, .inr (6, [.ref hu, .ref hs, .ref hc, .ref hp, .ref hg, .int 0, .int 0, .int 0, .int td, .int sd]))] [] sz) 1 6 (va_A [(h0, .inr (6, [.ref hu, .ref hs, .ref hc, .ref hp, .ref hg, .int 0, .int 0, .int 0, .int td, .int sd]))] sz) := by
  refine vx_ofW (cc := cX4_unitOf) (maxL := 2) (ret := (some .int)) (by decide +kernel) rfl ?_
  intro p e s m args below meth c s₁ B hml hnt hv
  obtain ⟨rfl, hsz, hP, hK, hD0, hE, hX0⟩ := hv
  have hx := B.exec
  have hb := B.bytes
  have hr := B.returns
  have hts := z_E.ts (args := [.ref h0, .int a0].toArray) hE
  have hown : s.vm.findClass RX4 = some m.cls := findClass_of_methodNamed B.named
  have hlocks := B.notSynchronized
  subst hsz
  have hD := hD0.self (sz := s.heap.size)
  generalize hAe : va_A [(h0, .inr (6, [.ref hu, .ref hs, .ref hc, .ref hp, .ref hg, .int 0, .int 0, .int 0, .int td, .int sd]))] s.heap.size = A at hD hX0 ⊢
  have hX : z_X A s s.heap := hX0
  have hA : ∀ q : Nat, s.heap.size ≤ q → A q := fun q h => by rw [← hAe]; exact Or.inr h
  have hS : va_S A s.heap s.heap [] := va_S.rf
  have hP : va_P D vwCl [(h0, .inr (6, [.ref hu, .ref hs, .ref hc, .ref hp, .ref hg, .int 0, .int 0, .int 0, .int td, .int sd]))] s.heap := hP
  have hl := lv_entry ([.ref h0, .int a0]) (n := 2) (Nat.le_of_ble_eq_true rfl)
  rw [lg_entry_eq]
  generalize (lg_sl ([.ref h0, .int a0]) ++ List.replicate (2 - (lg_sl ([.ref h0, .int a0])).length) Slot.unset).toArray = ls at hl ⊢
  have hl : lv_has ls 2 [(0, .ref h0), (1, .int a0)] := hl
  skip
  refine lv_aload_n hx hb dX4_unitOf_0 rfl (lv_at hl 0 rfl) ?_
  refine lv_iload_n hx hb dX4_unitOf_1 rfl (lv_at hl 1 rfl) ?_
  obtain ⟨hb_1, hc_1⟩ := z_call (wc := [(h0, .inr (6, [.ref hu, .ref hs, .ref hc, .ref hp, .ref hg, .int 0, .int 0, .int 0, .int td, .int sd]))]) (tc := []) ([.ref h0, .int a0]) hP hK hD hS hA hE hX [0] rfl rfl [] rfl
  have hF_1 := va_free (wc := [(h0, .inr (6, [.ref hu, .ref hs, .ref hc, .ref hp, .ref hg, .int 0, .int 0, .int 0, .int td, .int sd]))]) hD hS hA [0] rfl
  refine vx_callv (vx_runV (As := [.int a0]) (rest := []) ⟨hx, hb, hml, hown, hts⟩ (c_X4_needShop l hst D h0 hu hs hc hp hg 0 0 0 td sd a0 _ ) (z_cV 1 hE zw_678 zw_680 zw_23 zw_91 zw_681 rfl rfl rfl (by decide +kernel) ⟨(Nat.le_of_ble_eq_true rfl), (Nat.le_of_ble_eq_true rfl)⟩) ⟨hb_1, va_recv hK hP (ci := 6) (q0 := 0) rfl rfl, hc_1⟩ rfl rfl hl.1 rfl (lv_room (Nat.le_of_ble_eq_true rfl)) dX4_unitOf_2 ⟨(Nat.le_of_ble_eq_true rfl), (Nat.le_of_ble_eq_true rfl)⟩) hS (fun q _ h => hF_1 q h) hF_1 (fun q _ h => hF_1 q h) (fun E_1 ce_1 q9_1 u_1 t_1 H1 locs ht_1 hvm_1 hw_1 hB_1 hz_1 hk_1 hS1 hce_1 hcv_1 hcl_1 => ?_) (fun u_1 t_1 H1 locs ht_1 hvm_1 hw_1 hB_1 hz_1 hk_1 hS1 => ?_)
  · obtain ⟨rfl, hB_1⟩ := hB_1
    obtain ⟨hP, hK, hD⟩ := z_back (wc := [(h0, .inr (6, [.ref hu, .ref hs, .ref hc, .ref hp, .ref hg, .int 0, .int 0, .int 0, .int td, .int sd]))]) (wr := []) (w1 := [(h0, .inr (6, [.ref hu, .ref hs, .ref hc, .ref hp, .ref hg, .int 0, .int 0, .int 0, .int td, .int sd]))]) (tr := []) hP hK hD [0] [] rfl rfl rfl (by decide) ht_1 hvm_1 hk_1 hF_1 [] rfl hB_1
    have hS := hS1
    have hP : va_P D vwCl [(h0, .inr (6, [.ref hu, .ref hs, .ref hc, .ref hp, .ref hg, .int 0, .int 0, .int 0, .int td, .int sd]))] H1 := hP
    have hD : va_D A [(h0, .inr (6, [.ref hu, .ref hs, .ref hc, .ref hp, .ref hg, .int 0, .int 0, .int 0, .int td, .int sd]))] := hD
    have hK : va_K D vwCl [] s := hK
    clear hS1
    exact vx_out (fun x hx => (hnt x hx).elim) hlocks hce_1 hcv_1 hcl_1 (fun t ht hvm => z_through trivial rfl hAe hP hK hD hS [0] rfl rfl [] rfl ht hvm) hS.2.2 (Nat.le_of_ble_eq_true rfl) (Nat.le_of_ble_eq_true rfl)
  · obtain ⟨hP, hK, hD⟩ := z_back (wc := [(h0, .inr (6, [.ref hu, .ref hs, .ref hc, .ref hp, .ref hg, .int 0, .int 0, .int 0, .int td, .int sd]))]) (wr := []) (w1 := [(h0, .inr (6, [.ref hu, .ref hs, .ref hc, .ref hp, .ref hg, .int 0, .int 0, .int 0, .int td, .int sd]))]) (tr := []) hP hK hD [0] [] rfl rfl rfl (by decide) ht_1 hvm_1 hk_1 hF_1 [] rfl hB_1
    have hS := hS1
    have hP : va_P D vwCl [(h0, .inr (6, [.ref hu, .ref hs, .ref hc, .ref hp, .ref hg, .int 0, .int 0, .int 0, .int td, .int sd]))] H1 := hP
    have hD : va_D A [(h0, .inr (6, [.ref hu, .ref hs, .ref hc, .ref hp, .ref hg, .int 0, .int 0, .int 0, .int td, .int sd]))] := hD
    have hK : va_K D vwCl [] s := hK
    clear hS1
    exact absurd (Int32.not_lt.mp hw_1.1) (Int32.not_le.mpr hw_1.2)
theorem dX4_homeOf_0 : decode cX4_homeOf 0 = .ok (.aload_n 0, 1) := by decide +kernel
theorem dX4_homeOf_1 : decode cX4_homeOf 1 = .ok (.iload_n 1, 1) := by decide +kernel
theorem dX4_homeOf_2 : decode cX4_homeOf 2 = .ok (.invokevirtual 189, 3) := by decide +kernel
set_option maxHeartbeats 4000000 in
set_option maxRecDepth 100000 in
theorem f_X4_homeOf (l : Launch) (hst : l.stackTraces = false) (D : va_G) (h0 : Nat) (hu : Nat) (hs : Nat) (hc : Nat) (hp : Nat) (hg : Nat) (td : Int32) (sd : Int32) (a0 : Int32) (sz : Nat)  : vx_Met l yX4_homeOf [Cond.code yX4_homeOf cX4_homeOf 2 (some .int)] ({ frames := 7, cells := 1, slots := 6, locals := 130 }) (z_Pc D [.ref h0, .int a0] [(h0, .inr (6, [.ref hu, .ref hs, .ref hc, .ref hp, .ref hg, .int 0, .int 0, .int 0, .int td, .int sd]))] [] sz) (va_Qi (fun (r : Int32) (_ : Unit) => False) (fun _ t => True) (va_A [(h0, .inr (6, [.ref hu, .ref hs, .ref hc, .ref hp, .ref hg, .int 0, .int 0, .int 0, .int td, .int sd]))] sz)) (z_T (True) "java/lang/IndexOutOfBoundsException" D [(h0, .inr (6, [.ref hu, .ref hs, .ref hc, .ref hp, .ref hg, .int 0, .int 0, .int 0, .int td, .int sd]))] [] sz) 1 6 (va_A [(h0, .inr (6, [.ref hu, .ref hs, .ref hc, .ref hp, .ref hg, .int 0, .int 0, .int 0, .int td, .int sd]))] sz) := by
  refine vx_ofW (cc := cX4_homeOf) (maxL := 2) (ret := (some .int)) (by decide +kernel) rfl ?_
  intro p e s m args below meth c s₁ B hml hnt hv
  obtain ⟨rfl, hsz, hP, hK, hD0, hE, hX0⟩ := hv
  have hx := B.exec
  have hb := B.bytes
  have hr := B.returns
  have hts := z_E.ts (args := [.ref h0, .int a0].toArray) hE
  have hown : s.vm.findClass RX4 = some m.cls := findClass_of_methodNamed B.named
  have hlocks := B.notSynchronized
  subst hsz
  have hD := hD0.self (sz := s.heap.size)
  generalize hAe : va_A [(h0, .inr (6, [.ref hu, .ref hs, .ref hc, .ref hp, .ref hg, .int 0, .int 0, .int 0, .int td, .int sd]))] s.heap.size = A at hD hX0 ⊢
  have hX : z_X A s s.heap := hX0
  have hA : ∀ q : Nat, s.heap.size ≤ q → A q := fun q h => by rw [← hAe]; exact Or.inr h
  have hS : va_S A s.heap s.heap [] := va_S.rf
  have hP : va_P D vwCl [(h0, .inr (6, [.ref hu, .ref hs, .ref hc, .ref hp, .ref hg, .int 0, .int 0, .int 0, .int td, .int sd]))] s.heap := hP
  have hl := lv_entry ([.ref h0, .int a0]) (n := 2) (Nat.le_of_ble_eq_true rfl)
  rw [lg_entry_eq]
  generalize (lg_sl ([.ref h0, .int a0]) ++ List.replicate (2 - (lg_sl ([.ref h0, .int a0])).length) Slot.unset).toArray = ls at hl ⊢
  have hl : lv_has ls 2 [(0, .ref h0), (1, .int a0)] := hl
  skip
  refine lv_aload_n hx hb dX4_homeOf_0 rfl (lv_at hl 0 rfl) ?_
  refine lv_iload_n hx hb dX4_homeOf_1 rfl (lv_at hl 1 rfl) ?_
  obtain ⟨hb_1, hc_1⟩ := z_call (wc := [(h0, .inr (6, [.ref hu, .ref hs, .ref hc, .ref hp, .ref hg, .int 0, .int 0, .int 0, .int td, .int sd]))]) (tc := []) ([.ref h0, .int a0]) hP hK hD hS hA hE hX [0] rfl rfl [] rfl
  have hF_1 := va_free (wc := [(h0, .inr (6, [.ref hu, .ref hs, .ref hc, .ref hp, .ref hg, .int 0, .int 0, .int 0, .int td, .int sd]))]) hD hS hA [0] rfl
  refine vx_callv (vx_runV (As := [.int a0]) (rest := []) ⟨hx, hb, hml, hown, hts⟩ (c_X4_needShop l hst D h0 hu hs hc hp hg 0 0 0 td sd a0 _ ) (z_cV 1 hE zw_678 zw_680 zw_23 zw_91 zw_681 rfl rfl rfl (by decide +kernel) ⟨(Nat.le_of_ble_eq_true rfl), (Nat.le_of_ble_eq_true rfl)⟩) ⟨hb_1, va_recv hK hP (ci := 6) (q0 := 0) rfl rfl, hc_1⟩ rfl rfl hl.1 rfl (lv_room (Nat.le_of_ble_eq_true rfl)) dX4_homeOf_2 ⟨(Nat.le_of_ble_eq_true rfl), (Nat.le_of_ble_eq_true rfl)⟩) hS (fun q _ h => hF_1 q h) hF_1 (fun q _ h => hF_1 q h) (fun E_1 ce_1 q9_1 u_1 t_1 H1 locs ht_1 hvm_1 hw_1 hB_1 hz_1 hk_1 hS1 hce_1 hcv_1 hcl_1 => ?_) (fun u_1 t_1 H1 locs ht_1 hvm_1 hw_1 hB_1 hz_1 hk_1 hS1 => ?_)
  · obtain ⟨rfl, hB_1⟩ := hB_1
    obtain ⟨hP, hK, hD⟩ := z_back (wc := [(h0, .inr (6, [.ref hu, .ref hs, .ref hc, .ref hp, .ref hg, .int 0, .int 0, .int 0, .int td, .int sd]))]) (wr := []) (w1 := [(h0, .inr (6, [.ref hu, .ref hs, .ref hc, .ref hp, .ref hg, .int 0, .int 0, .int 0, .int td, .int sd]))]) (tr := []) hP hK hD [0] [] rfl rfl rfl (by decide) ht_1 hvm_1 hk_1 hF_1 [] rfl hB_1
    have hS := hS1
    have hP : va_P D vwCl [(h0, .inr (6, [.ref hu, .ref hs, .ref hc, .ref hp, .ref hg, .int 0, .int 0, .int 0, .int td, .int sd]))] H1 := hP
    have hD : va_D A [(h0, .inr (6, [.ref hu, .ref hs, .ref hc, .ref hp, .ref hg, .int 0, .int 0, .int 0, .int td, .int sd]))] := hD
    have hK : va_K D vwCl [] s := hK
    clear hS1
    exact vx_out (fun x hx => (hnt x hx).elim) hlocks hce_1 hcv_1 hcl_1 (fun t ht hvm => z_through trivial rfl hAe hP hK hD hS [0] rfl rfl [] rfl ht hvm) hS.2.2 (Nat.le_of_ble_eq_true rfl) (Nat.le_of_ble_eq_true rfl)
  · obtain ⟨hP, hK, hD⟩ := z_back (wc := [(h0, .inr (6, [.ref hu, .ref hs, .ref hc, .ref hp, .ref hg, .int 0, .int 0, .int 0, .int td, .int sd]))]) (wr := []) (w1 := [(h0, .inr (6, [.ref hu, .ref hs, .ref hc, .ref hp, .ref hg, .int 0, .int 0, .int 0, .int td, .int sd]))]) (tr := []) hP hK hD [0] [] rfl rfl rfl (by decide) ht_1 hvm_1 hk_1 hF_1 [] rfl hB_1
    have hS := hS1
    have hP : va_P D vwCl [(h0, .inr (6, [.ref hu, .ref hs, .ref hc, .ref hp, .ref hg, .int 0, .int 0, .int 0, .int td, .int sd]))] H1 := hP
    have hD : va_D A [(h0, .inr (6, [.ref hu, .ref hs, .ref hc, .ref hp, .ref hg, .int 0, .int 0, .int 0, .int td, .int sd]))] := hD
    have hK : va_K D vwCl [] s := hK
    clear hS1
    exact absurd (Int32.not_lt.mp hw_1.1) (Int32.not_le.mpr hw_1.2)
theorem dX4_move_0 : decode cX4_move 0 = .ok (.aload_n 0, 1) := by decide +kernel
theorem dX4_move_1 : decode cX4_move 1 = .ok (.iload_n 1, 1) := by decide +kernel
theorem dX4_move_2 : decode cX4_move 2 = .ok (.invokevirtual 189, 3) := by decide +kernel
set_option maxHeartbeats 4000000 in
set_option maxRecDepth 100000 in
theorem f_X4_move (l : Launch) (hst : l.stackTraces = false) (D : va_G) (h0 : Nat) (hu : Nat) (hs : Nat) (hc : Nat) (hp : Nat) (hg : Nat) (td : Int32) (sd : Int32) (a0 : Int32) (a1 : Int32) (sz : Nat)  : vx_Met l yX4_move [Cond.code yX4_move cX4_move 3 (some .int)] ({ frames := 7, cells := 1, slots := 6, locals := 130 }) (z_Pc D [.ref h0, .int a0, .int a1] [(h0, .inr (6, [.ref hu, .ref hs, .ref hc, .ref hp, .ref hg, .int 0, .int 0, .int 0, .int td, .int sd]))] [] sz) (va_Qi (fun (r : Int32) (_ : Unit) => False) (fun _ t => True) (va_A [(h0, .inr (6, [.ref hu, .ref hs, .ref hc, .ref hp, .ref hg, .int 0, .int 0, .int 0, .int td, .int sd]))] sz)) (z_T (True) "java/lang/IndexOutOfBoundsException" D [(h0, .inr (6, [.ref hu, .ref hs, .ref hc, .ref hp, .ref hg, .int 0, .int 0, .int 0, .int td, .int sd]))] [] sz) 1 6 (va_A [(h0, .inr (6, [.ref hu, .ref hs, .ref hc, .ref hp, .ref hg, .int 0, .int 0, .int 0, .int td, .int sd]))] sz) := by
  refine vx_ofW (cc := cX4_move) (maxL := 3) (ret := (some .int)) (by decide +kernel) rfl ?_
  intro p e s m args below meth c s₁ B hml hnt hv
  obtain ⟨rfl, hsz, hP, hK, hD0, hE, hX0⟩ := hv
  have hx := B.exec
  have hb := B.bytes
  have hr := B.returns
  have hts := z_E.ts (args := [.ref h0, .int a0, .int a1].toArray) hE
  have hown : s.vm.findClass RX4 = some m.cls := findClass_of_methodNamed B.named
  have hlocks := B.notSynchronized
  subst hsz
  have hD := hD0.self (sz := s.heap.size)
  generalize hAe : va_A [(h0, .inr (6, [.ref hu, .ref hs, .ref hc, .ref hp, .ref hg, .int 0, .int 0, .int 0, .int td, .int sd]))] s.heap.size = A at hD hX0 ⊢
  have hX : z_X A s s.heap := hX0
  have hA : ∀ q : Nat, s.heap.size ≤ q → A q := fun q h => by rw [← hAe]; exact Or.inr h
  have hS : va_S A s.heap s.heap [] := va_S.rf
  have hP : va_P D vwCl [(h0, .inr (6, [.ref hu, .ref hs, .ref hc, .ref hp, .ref hg, .int 0, .int 0, .int 0, .int td, .int sd]))] s.heap := hP
  have hl := lv_entry ([.ref h0, .int a0, .int a1]) (n := 3) (Nat.le_of_ble_eq_true rfl)
  rw [lg_entry_eq]
  generalize (lg_sl ([.ref h0, .int a0, .int a1]) ++ List.replicate (3 - (lg_sl ([.ref h0, .int a0, .int a1])).length) Slot.unset).toArray = ls at hl ⊢
  have hl : lv_has ls 3 [(0, .ref h0), (1, .int a0), (2, .int a1)] := hl
  skip
  refine lv_aload_n hx hb dX4_move_0 rfl (lv_at hl 0 rfl) ?_
  refine lv_iload_n hx hb dX4_move_1 rfl (lv_at hl 1 rfl) ?_
  obtain ⟨hb_1, hc_1⟩ := z_call (wc := [(h0, .inr (6, [.ref hu, .ref hs, .ref hc, .ref hp, .ref hg, .int 0, .int 0, .int 0, .int td, .int sd]))]) (tc := []) ([.ref h0, .int a0]) hP hK hD hS hA hE hX [0] rfl rfl [] rfl
  have hF_1 := va_free (wc := [(h0, .inr (6, [.ref hu, .ref hs, .ref hc, .ref hp, .ref hg, .int 0, .int 0, .int 0, .int td, .int sd]))]) hD hS hA [0] rfl
  refine vx_callv (vx_runV (As := [.int a0]) (rest := []) ⟨hx, hb, hml, hown, hts⟩ (c_X4_needShop l hst D h0 hu hs hc hp hg 0 0 0 td sd a0 _ ) (z_cV 1 hE zw_678 zw_680 zw_23 zw_91 zw_681 rfl rfl rfl (by decide +kernel) ⟨(Nat.le_of_ble_eq_true rfl), (Nat.le_of_ble_eq_true rfl)⟩) ⟨hb_1, va_recv hK hP (ci := 6) (q0 := 0) rfl rfl, hc_1⟩ rfl rfl hl.1 rfl (lv_room (Nat.le_of_ble_eq_true rfl)) dX4_move_2 ⟨(Nat.le_of_ble_eq_true rfl), (Nat.le_of_ble_eq_true rfl)⟩) hS (fun q _ h => hF_1 q h) hF_1 (fun q _ h => hF_1 q h) (fun E_1 ce_1 q9_1 u_1 t_1 H1 locs ht_1 hvm_1 hw_1 hB_1 hz_1 hk_1 hS1 hce_1 hcv_1 hcl_1 => ?_) (fun u_1 t_1 H1 locs ht_1 hvm_1 hw_1 hB_1 hz_1 hk_1 hS1 => ?_)
  · obtain ⟨rfl, hB_1⟩ := hB_1
    obtain ⟨hP, hK, hD⟩ := z_back (wc := [(h0, .inr (6, [.ref hu, .ref hs, .ref hc, .ref hp, .ref hg, .int 0, .int 0, .int 0, .int td, .int sd]))]) (wr := []) (w1 := [(h0, .inr (6, [.ref hu, .ref hs, .ref hc, .ref hp, .ref hg, .int 0, .int 0, .int 0, .int td, .int sd]))]) (tr := []) hP hK hD [0] [] rfl rfl rfl (by decide) ht_1 hvm_1 hk_1 hF_1 [] rfl hB_1
    have hS := hS1
    have hP : va_P D vwCl [(h0, .inr (6, [.ref hu, .ref hs, .ref hc, .ref hp, .ref hg, .int 0, .int 0, .int 0, .int td, .int sd]))] H1 := hP
    have hD : va_D A [(h0, .inr (6, [.ref hu, .ref hs, .ref hc, .ref hp, .ref hg, .int 0, .int 0, .int 0, .int td, .int sd]))] := hD
    have hK : va_K D vwCl [] s := hK
    clear hS1
    exact vx_out (fun x hx => (hnt x hx).elim) hlocks hce_1 hcv_1 hcl_1 (fun t ht hvm => z_through trivial rfl hAe hP hK hD hS [0] rfl rfl [] rfl ht hvm) hS.2.2 (Nat.le_of_ble_eq_true rfl) (Nat.le_of_ble_eq_true rfl)
  · obtain ⟨hP, hK, hD⟩ := z_back (wc := [(h0, .inr (6, [.ref hu, .ref hs, .ref hc, .ref hp, .ref hg, .int 0, .int 0, .int 0, .int td, .int sd]))]) (wr := []) (w1 := [(h0, .inr (6, [.ref hu, .ref hs, .ref hc, .ref hp, .ref hg, .int 0, .int 0, .int 0, .int td, .int sd]))]) (tr := []) hP hK hD [0] [] rfl rfl rfl (by decide) ht_1 hvm_1 hk_1 hF_1 [] rfl hB_1
    have hS := hS1
    have hP : va_P D vwCl [(h0, .inr (6, [.ref hu, .ref hs, .ref hc, .ref hp, .ref hg, .int 0, .int 0, .int 0, .int td, .int sd]))] H1 := hP
    have hD : va_D A [(h0, .inr (6, [.ref hu, .ref hs, .ref hc, .ref hp, .ref hg, .int 0, .int 0, .int 0, .int td, .int sd]))] := hD
    have hK : va_K D vwCl [] s := hK
    clear hS1
    exact absurd (Int32.not_lt.mp hw_1.1) (Int32.not_le.mpr hw_1.2)
theorem dX4_toStall_0 : decode cX4_toStall 0 = .ok (.aload_n 0, 1) := by decide +kernel
theorem dX4_toStall_1 : decode cX4_toStall 1 = .ok (.iload_n 1, 1) := by decide +kernel
theorem dX4_toStall_2 : decode cX4_toStall 2 = .ok (.invokevirtual 189, 3) := by decide +kernel
set_option maxHeartbeats 4000000 in
set_option maxRecDepth 100000 in
theorem f_X4_toStall (l : Launch) (hst : l.stackTraces = false) (D : va_G) (h0 : Nat) (hu : Nat) (hs : Nat) (hc : Nat) (hp : Nat) (hg : Nat) (td : Int32) (sd : Int32) (a0 : Int32) (sz : Nat)  : vx_Met l yX4_toStall [Cond.code yX4_toStall cX4_toStall 2 (some .int)] ({ frames := 7, cells := 1, slots := 6, locals := 130 }) (z_Pc D [.ref h0, .int a0] [(h0, .inr (6, [.ref hu, .ref hs, .ref hc, .ref hp, .ref hg, .int 0, .int 0, .int 0, .int td, .int sd]))] [] sz) (va_Qi (fun (r : Int32) (_ : Unit) => False) (fun _ t => True) (va_A [(h0, .inr (6, [.ref hu, .ref hs, .ref hc, .ref hp, .ref hg, .int 0, .int 0, .int 0, .int td, .int sd]))] sz)) (z_T (True) "java/lang/IndexOutOfBoundsException" D [(h0, .inr (6, [.ref hu, .ref hs, .ref hc, .ref hp, .ref hg, .int 0, .int 0, .int 0, .int td, .int sd]))] [] sz) 1 6 (va_A [(h0, .inr (6, [.ref hu, .ref hs, .ref hc, .ref hp, .ref hg, .int 0, .int 0, .int 0, .int td, .int sd]))] sz) := by
  refine vx_ofW (cc := cX4_toStall) (maxL := 2) (ret := (some .int)) (by decide +kernel) rfl ?_
  intro p e s m args below meth c s₁ B hml hnt hv
  obtain ⟨rfl, hsz, hP, hK, hD0, hE, hX0⟩ := hv
  have hx := B.exec
  have hb := B.bytes
  have hr := B.returns
  have hts := z_E.ts (args := [.ref h0, .int a0].toArray) hE
  have hown : s.vm.findClass RX4 = some m.cls := findClass_of_methodNamed B.named
  have hlocks := B.notSynchronized
  subst hsz
  have hD := hD0.self (sz := s.heap.size)
  generalize hAe : va_A [(h0, .inr (6, [.ref hu, .ref hs, .ref hc, .ref hp, .ref hg, .int 0, .int 0, .int 0, .int td, .int sd]))] s.heap.size = A at hD hX0 ⊢
  have hX : z_X A s s.heap := hX0
  have hA : ∀ q : Nat, s.heap.size ≤ q → A q := fun q h => by rw [← hAe]; exact Or.inr h
  have hS : va_S A s.heap s.heap [] := va_S.rf
  have hP : va_P D vwCl [(h0, .inr (6, [.ref hu, .ref hs, .ref hc, .ref hp, .ref hg, .int 0, .int 0, .int 0, .int td, .int sd]))] s.heap := hP
  have hl := lv_entry ([.ref h0, .int a0]) (n := 2) (Nat.le_of_ble_eq_true rfl)
  rw [lg_entry_eq]
  generalize (lg_sl ([.ref h0, .int a0]) ++ List.replicate (2 - (lg_sl ([.ref h0, .int a0])).length) Slot.unset).toArray = ls at hl ⊢
  have hl : lv_has ls 2 [(0, .ref h0), (1, .int a0)] := hl
  skip
  refine lv_aload_n hx hb dX4_toStall_0 rfl (lv_at hl 0 rfl) ?_
  refine lv_iload_n hx hb dX4_toStall_1 rfl (lv_at hl 1 rfl) ?_
  obtain ⟨hb_1, hc_1⟩ := z_call (wc := [(h0, .inr (6, [.ref hu, .ref hs, .ref hc, .ref hp, .ref hg, .int 0, .int 0, .int 0, .int td, .int sd]))]) (tc := []) ([.ref h0, .int a0]) hP hK hD hS hA hE hX [0] rfl rfl [] rfl
  have hF_1 := va_free (wc := [(h0, .inr (6, [.ref hu, .ref hs, .ref hc, .ref hp, .ref hg, .int 0, .int 0, .int 0, .int td, .int sd]))]) hD hS hA [0] rfl
  refine vx_callv (vx_runV (As := [.int a0]) (rest := []) ⟨hx, hb, hml, hown, hts⟩ (c_X4_needShop l hst D h0 hu hs hc hp hg 0 0 0 td sd a0 _ ) (z_cV 1 hE zw_678 zw_680 zw_23 zw_91 zw_681 rfl rfl rfl (by decide +kernel) ⟨(Nat.le_of_ble_eq_true rfl), (Nat.le_of_ble_eq_true rfl)⟩) ⟨hb_1, va_recv hK hP (ci := 6) (q0 := 0) rfl rfl, hc_1⟩ rfl rfl hl.1 rfl (lv_room (Nat.le_of_ble_eq_true rfl)) dX4_toStall_2 ⟨(Nat.le_of_ble_eq_true rfl), (Nat.le_of_ble_eq_true rfl)⟩) hS (fun q _ h => hF_1 q h) hF_1 (fun q _ h => hF_1 q h) (fun E_1 ce_1 q9_1 u_1 t_1 H1 locs ht_1 hvm_1 hw_1 hB_1 hz_1 hk_1 hS1 hce_1 hcv_1 hcl_1 => ?_) (fun u_1 t_1 H1 locs ht_1 hvm_1 hw_1 hB_1 hz_1 hk_1 hS1 => ?_)
  · obtain ⟨rfl, hB_1⟩ := hB_1
    obtain ⟨hP, hK, hD⟩ := z_back (wc := [(h0, .inr (6, [.ref hu, .ref hs, .ref hc, .ref hp, .ref hg, .int 0, .int 0, .int 0, .int td, .int sd]))]) (wr := []) (w1 := [(h0, .inr (6, [.ref hu, .ref hs, .ref hc, .ref hp, .ref hg, .int 0, .int 0, .int 0, .int td, .int sd]))]) (tr := []) hP hK hD [0] [] rfl rfl rfl (by decide) ht_1 hvm_1 hk_1 hF_1 [] rfl hB_1
    have hS := hS1
    have hP : va_P D vwCl [(h0, .inr (6, [.ref hu, .ref hs, .ref hc, .ref hp, .ref hg, .int 0, .int 0, .int 0, .int td, .int sd]))] H1 := hP
    have hD : va_D A [(h0, .inr (6, [.ref hu, .ref hs, .ref hc, .ref hp, .ref hg, .int 0, .int 0, .int 0, .int td, .int sd]))] := hD
    have hK : va_K D vwCl [] s := hK
    clear hS1
    exact vx_out (fun x hx => (hnt x hx).elim) hlocks hce_1 hcv_1 hcl_1 (fun t ht hvm => z_through trivial rfl hAe hP hK hD hS [0] rfl rfl [] rfl ht hvm) hS.2.2 (Nat.le_of_ble_eq_true rfl) (Nat.le_of_ble_eq_true rfl)
  · obtain ⟨hP, hK, hD⟩ := z_back (wc := [(h0, .inr (6, [.ref hu, .ref hs, .ref hc, .ref hp, .ref hg, .int 0, .int 0, .int 0, .int td, .int sd]))]) (wr := []) (w1 := [(h0, .inr (6, [.ref hu, .ref hs, .ref hc, .ref hp, .ref hg, .int 0, .int 0, .int 0, .int td, .int sd]))]) (tr := []) hP hK hD [0] [] rfl rfl rfl (by decide) ht_1 hvm_1 hk_1 hF_1 [] rfl hB_1
    have hS := hS1
    have hP : va_P D vwCl [(h0, .inr (6, [.ref hu, .ref hs, .ref hc, .ref hp, .ref hg, .int 0, .int 0, .int 0, .int td, .int sd]))] H1 := hP
    have hD : va_D A [(h0, .inr (6, [.ref hu, .ref hs, .ref hc, .ref hp, .ref hg, .int 0, .int 0, .int 0, .int td, .int sd]))] := hD
    have hK : va_K D vwCl [] s := hK
    clear hS1
    exact absurd (Int32.not_lt.mp hw_1.1) (Int32.not_le.mpr hw_1.2)
theorem dX4_store_0 : decode cX4_store 0 = .ok (.aload_n 0, 1) := by decide +kernel
theorem dX4_store_1 : decode cX4_store 1 = .ok (.iload_n 1, 1) := by decide +kernel
theorem dX4_store_2 : decode cX4_store 2 = .ok (.invokevirtual 189, 3) := by decide +kernel
set_option maxHeartbeats 4000000 in
set_option maxRecDepth 100000 in
theorem f_X4_store (l : Launch) (hst : l.stackTraces = false) (D : va_G) (h0 : Nat) (hu : Nat) (hs : Nat) (hc : Nat) (hp : Nat) (hg : Nat) (td : Int32) (sd : Int32) (a0 : Int32) (sz : Nat)  : vx_Met l yX4_store [Cond.code yX4_store cX4_store 2 (some .int)] ({ frames := 7, cells := 1, slots := 6, locals := 130 }) (z_Pc D [.ref h0, .int a0] [(h0, .inr (6, [.ref hu, .ref hs, .ref hc, .ref hp, .ref hg, .int 0, .int 0, .int 0, .int td, .int sd]))] [] sz) (va_Qi (fun (r : Int32) (_ : Unit) => False) (fun _ t => True) (va_A [(h0, .inr (6, [.ref hu, .ref hs, .ref hc, .ref hp, .ref hg, .int 0, .int 0, .int 0, .int td, .int sd]))] sz)) (z_T (True) "java/lang/IndexOutOfBoundsException" D [(h0, .inr (6, [.ref hu, .ref hs, .ref hc, .ref hp, .ref hg, .int 0, .int 0, .int 0, .int td, .int sd]))] [] sz) 1 6 (va_A [(h0, .inr (6, [.ref hu, .ref hs, .ref hc, .ref hp, .ref hg, .int 0, .int 0, .int 0, .int td, .int sd]))] sz) := by
  refine vx_ofW (cc := cX4_store) (maxL := 2) (ret := (some .int)) (by decide +kernel) rfl ?_
  intro p e s m args below meth c s₁ B hml hnt hv
  obtain ⟨rfl, hsz, hP, hK, hD0, hE, hX0⟩ := hv
  have hx := B.exec
  have hb := B.bytes
  have hr := B.returns
  have hts := z_E.ts (args := [.ref h0, .int a0].toArray) hE
  have hown : s.vm.findClass RX4 = some m.cls := findClass_of_methodNamed B.named
  have hlocks := B.notSynchronized
  subst hsz
  have hD := hD0.self (sz := s.heap.size)
  generalize hAe : va_A [(h0, .inr (6, [.ref hu, .ref hs, .ref hc, .ref hp, .ref hg, .int 0, .int 0, .int 0, .int td, .int sd]))] s.heap.size = A at hD hX0 ⊢
  have hX : z_X A s s.heap := hX0
  have hA : ∀ q : Nat, s.heap.size ≤ q → A q := fun q h => by rw [← hAe]; exact Or.inr h
  have hS : va_S A s.heap s.heap [] := va_S.rf
  have hP : va_P D vwCl [(h0, .inr (6, [.ref hu, .ref hs, .ref hc, .ref hp, .ref hg, .int 0, .int 0, .int 0, .int td, .int sd]))] s.heap := hP
  have hl := lv_entry ([.ref h0, .int a0]) (n := 2) (Nat.le_of_ble_eq_true rfl)
  rw [lg_entry_eq]
  generalize (lg_sl ([.ref h0, .int a0]) ++ List.replicate (2 - (lg_sl ([.ref h0, .int a0])).length) Slot.unset).toArray = ls at hl ⊢
  have hl : lv_has ls 2 [(0, .ref h0), (1, .int a0)] := hl
  skip
  refine lv_aload_n hx hb dX4_store_0 rfl (lv_at hl 0 rfl) ?_
  refine lv_iload_n hx hb dX4_store_1 rfl (lv_at hl 1 rfl) ?_
  obtain ⟨hb_1, hc_1⟩ := z_call (wc := [(h0, .inr (6, [.ref hu, .ref hs, .ref hc, .ref hp, .ref hg, .int 0, .int 0, .int 0, .int td, .int sd]))]) (tc := []) ([.ref h0, .int a0]) hP hK hD hS hA hE hX [0] rfl rfl [] rfl
  have hF_1 := va_free (wc := [(h0, .inr (6, [.ref hu, .ref hs, .ref hc, .ref hp, .ref hg, .int 0, .int 0, .int 0, .int td, .int sd]))]) hD hS hA [0] rfl
  refine vx_callv (vx_runV (As := [.int a0]) (rest := []) ⟨hx, hb, hml, hown, hts⟩ (c_X4_needShop l hst D h0 hu hs hc hp hg 0 0 0 td sd a0 _ ) (z_cV 1 hE zw_678 zw_680 zw_23 zw_91 zw_681 rfl rfl rfl (by decide +kernel) ⟨(Nat.le_of_ble_eq_true rfl), (Nat.le_of_ble_eq_true rfl)⟩) ⟨hb_1, va_recv hK hP (ci := 6) (q0 := 0) rfl rfl, hc_1⟩ rfl rfl hl.1 rfl (lv_room (Nat.le_of_ble_eq_true rfl)) dX4_store_2 ⟨(Nat.le_of_ble_eq_true rfl), (Nat.le_of_ble_eq_true rfl)⟩) hS (fun q _ h => hF_1 q h) hF_1 (fun q _ h => hF_1 q h) (fun E_1 ce_1 q9_1 u_1 t_1 H1 locs ht_1 hvm_1 hw_1 hB_1 hz_1 hk_1 hS1 hce_1 hcv_1 hcl_1 => ?_) (fun u_1 t_1 H1 locs ht_1 hvm_1 hw_1 hB_1 hz_1 hk_1 hS1 => ?_)
  · obtain ⟨rfl, hB_1⟩ := hB_1
    obtain ⟨hP, hK, hD⟩ := z_back (wc := [(h0, .inr (6, [.ref hu, .ref hs, .ref hc, .ref hp, .ref hg, .int 0, .int 0, .int 0, .int td, .int sd]))]) (wr := []) (w1 := [(h0, .inr (6, [.ref hu, .ref hs, .ref hc, .ref hp, .ref hg, .int 0, .int 0, .int 0, .int td, .int sd]))]) (tr := []) hP hK hD [0] [] rfl rfl rfl (by decide) ht_1 hvm_1 hk_1 hF_1 [] rfl hB_1
    have hS := hS1
    have hP : va_P D vwCl [(h0, .inr (6, [.ref hu, .ref hs, .ref hc, .ref hp, .ref hg, .int 0, .int 0, .int 0, .int td, .int sd]))] H1 := hP
    have hD : va_D A [(h0, .inr (6, [.ref hu, .ref hs, .ref hc, .ref hp, .ref hg, .int 0, .int 0, .int 0, .int td, .int sd]))] := hD
    have hK : va_K D vwCl [] s := hK
    clear hS1
    exact vx_out (fun x hx => (hnt x hx).elim) hlocks hce_1 hcv_1 hcl_1 (fun t ht hvm => z_through trivial rfl hAe hP hK hD hS [0] rfl rfl [] rfl ht hvm) hS.2.2 (Nat.le_of_ble_eq_true rfl) (Nat.le_of_ble_eq_true rfl)
  · obtain ⟨hP, hK, hD⟩ := z_back (wc := [(h0, .inr (6, [.ref hu, .ref hs, .ref hc, .ref hp, .ref hg, .int 0, .int 0, .int 0, .int td, .int sd]))]) (wr := []) (w1 := [(h0, .inr (6, [.ref hu, .ref hs, .ref hc, .ref hp, .ref hg, .int 0, .int 0, .int 0, .int td, .int sd]))]) (tr := []) hP hK hD [0] [] rfl rfl rfl (by decide) ht_1 hvm_1 hk_1 hF_1 [] rfl hB_1
    have hS := hS1
    have hP : va_P D vwCl [(h0, .inr (6, [.ref hu, .ref hs, .ref hc, .ref hp, .ref hg, .int 0, .int 0, .int 0, .int td, .int sd]))] H1 := hP
    have hD : va_D A [(h0, .inr (6, [.ref hu, .ref hs, .ref hc, .ref hp, .ref hg, .int 0, .int 0, .int 0, .int td, .int sd]))] := hD
    have hK : va_K D vwCl [] s := hK
    clear hS1
    exact absurd (Int32.not_lt.mp hw_1.1) (Int32.not_le.mpr hw_1.2)
theorem dX4_comes_0 : decode cX4_comes 0 = .ok (.aload_n 0, 1) := by decide +kernel
theorem dX4_comes_1 : decode cX4_comes 1 = .ok (.iload_n 1, 1) := by decide +kernel
theorem dX4_comes_2 : decode cX4_comes 2 = .ok (.invokevirtual 189, 3) := by decide +kernel
set_option maxHeartbeats 4000000 in
set_option maxRecDepth 100000 in
theorem f_X4_comes (l : Launch) (hst : l.stackTraces = false) (D : va_G) (h0 : Nat) (hu : Nat) (hs : Nat) (hc : Nat) (hp : Nat) (hg : Nat) (td : Int32) (sd : Int32) (a0 : Int32) (sz : Nat)  : vx_Met l yX4_comes [Cond.code yX4_comes cX4_comes 2 (some .boolean)] ({ frames := 7, cells := 1, slots := 6, locals := 130 }) (z_Pc D [.ref h0, .int a0] [(h0, .inr (6, [.ref hu, .ref hs, .ref hc, .ref hp, .ref hg, .int 0, .int 0, .int 0, .int td, .int sd]))] [] sz) (va_Qi (fun (r : Int32) (_ : Unit) => False) (fun _ t => True) (va_A [(h0, .inr (6, [.ref hu, .ref hs, .ref hc, .ref hp, .ref hg, .int 0, .int 0, .int 0, .int td, .int sd]))] sz)) (z_T (True) "java/lang/IndexOutOfBoundsException" D [(h0, .inr (6, [.ref hu, .ref hs, .ref hc, .ref hp, .ref hg, .int 0, .int 0, .int 0, .int td, .int sd]))] [] sz) 1 6 (va_A [(h0, .inr (6, [.ref hu, .ref hs, .ref hc, .ref hp, .ref hg, .int 0, .int 0, .int 0, .int td, .int sd]))] sz) := by
  refine vx_ofW (cc := cX4_comes) (maxL := 2) (ret := (some .boolean)) (by decide +kernel) rfl ?_
  intro p e s m args below meth c s₁ B hml hnt hv
  obtain ⟨rfl, hsz, hP, hK, hD0, hE, hX0⟩ := hv
  have hx := B.exec
  have hb := B.bytes
  have hr := B.returns
  have hts := z_E.ts (args := [.ref h0, .int a0].toArray) hE
  have hown : s.vm.findClass RX4 = some m.cls := findClass_of_methodNamed B.named
  have hlocks := B.notSynchronized
  subst hsz
  have hD := hD0.self (sz := s.heap.size)
  generalize hAe : va_A [(h0, .inr (6, [.ref hu, .ref hs, .ref hc, .ref hp, .ref hg, .int 0, .int 0, .int 0, .int td, .int sd]))] s.heap.size = A at hD hX0 ⊢
  have hX : z_X A s s.heap := hX0
  have hA : ∀ q : Nat, s.heap.size ≤ q → A q := fun q h => by rw [← hAe]; exact Or.inr h
  have hS : va_S A s.heap s.heap [] := va_S.rf
  have hP : va_P D vwCl [(h0, .inr (6, [.ref hu, .ref hs, .ref hc, .ref hp, .ref hg, .int 0, .int 0, .int 0, .int td, .int sd]))] s.heap := hP
  have hl := lv_entry ([.ref h0, .int a0]) (n := 2) (Nat.le_of_ble_eq_true rfl)
  rw [lg_entry_eq]
  generalize (lg_sl ([.ref h0, .int a0]) ++ List.replicate (2 - (lg_sl ([.ref h0, .int a0])).length) Slot.unset).toArray = ls at hl ⊢
  have hl : lv_has ls 2 [(0, .ref h0), (1, .int a0)] := hl
  skip
  refine lv_aload_n hx hb dX4_comes_0 rfl (lv_at hl 0 rfl) ?_
  refine lv_iload_n hx hb dX4_comes_1 rfl (lv_at hl 1 rfl) ?_
  obtain ⟨hb_1, hc_1⟩ := z_call (wc := [(h0, .inr (6, [.ref hu, .ref hs, .ref hc, .ref hp, .ref hg, .int 0, .int 0, .int 0, .int td, .int sd]))]) (tc := []) ([.ref h0, .int a0]) hP hK hD hS hA hE hX [0] rfl rfl [] rfl
  have hF_1 := va_free (wc := [(h0, .inr (6, [.ref hu, .ref hs, .ref hc, .ref hp, .ref hg, .int 0, .int 0, .int 0, .int td, .int sd]))]) hD hS hA [0] rfl
  refine vx_callv (vx_runV (As := [.int a0]) (rest := []) ⟨hx, hb, hml, hown, hts⟩ (c_X4_needShop l hst D h0 hu hs hc hp hg 0 0 0 td sd a0 _ ) (z_cV 1 hE zw_678 zw_680 zw_23 zw_91 zw_681 rfl rfl rfl (by decide +kernel) ⟨(Nat.le_of_ble_eq_true rfl), (Nat.le_of_ble_eq_true rfl)⟩) ⟨hb_1, va_recv hK hP (ci := 6) (q0 := 0) rfl rfl, hc_1⟩ rfl rfl hl.1 rfl (lv_room (Nat.le_of_ble_eq_true rfl)) dX4_comes_2 ⟨(Nat.le_of_ble_eq_true rfl), (Nat.le_of_ble_eq_true rfl)⟩) hS (fun q _ h => hF_1 q h) hF_1 (fun q _ h => hF_1 q h) (fun E_1 ce_1 q9_1 u_1 t_1 H1 locs ht_1 hvm_1 hw_1 hB_1 hz_1 hk_1 hS1 hce_1 hcv_1 hcl_1 => ?_) (fun u_1 t_1 H1 locs ht_1 hvm_1 hw_1 hB_1 hz_1 hk_1 hS1 => ?_)
  · obtain ⟨rfl, hB_1⟩ := hB_1
    obtain ⟨hP, hK, hD⟩ := z_back (wc := [(h0, .inr (6, [.ref hu, .ref hs, .ref hc, .ref hp, .ref hg, .int 0, .int 0, .int 0, .int td, .int sd]))]) (wr := []) (w1 := [(h0, .inr (6, [.ref hu, .ref hs, .ref hc, .ref hp, .ref hg, .int 0, .int 0, .int 0, .int td, .int sd]))]) (tr := []) hP hK hD [0] [] rfl rfl rfl (by decide) ht_1 hvm_1 hk_1 hF_1 [] rfl hB_1
    have hS := hS1
    have hP : va_P D vwCl [(h0, .inr (6, [.ref hu, .ref hs, .ref hc, .ref hp, .ref hg, .int 0, .int 0, .int 0, .int td, .int sd]))] H1 := hP
    have hD : va_D A [(h0, .inr (6, [.ref hu, .ref hs, .ref hc, .ref hp, .ref hg, .int 0, .int 0, .int 0, .int td, .int sd]))] := hD
    have hK : va_K D vwCl [] s := hK
    clear hS1
    exact vx_out (fun x hx => (hnt x hx).elim) hlocks hce_1 hcv_1 hcl_1 (fun t ht hvm => z_through trivial rfl hAe hP hK hD hS [0] rfl rfl [] rfl ht hvm) hS.2.2 (Nat.le_of_ble_eq_true rfl) (Nat.le_of_ble_eq_true rfl)
  · obtain ⟨hP, hK, hD⟩ := z_back (wc := [(h0, .inr (6, [.ref hu, .ref hs, .ref hc, .ref hp, .ref hg, .int 0, .int 0, .int 0, .int td, .int sd]))]) (wr := []) (w1 := [(h0, .inr (6, [.ref hu, .ref hs, .ref hc, .ref hp, .ref hg, .int 0, .int 0, .int 0, .int td, .int sd]))]) (tr := []) hP hK hD [0] [] rfl rfl rfl (by decide) ht_1 hvm_1 hk_1 hF_1 [] rfl hB_1
    have hS := hS1
    have hP : va_P D vwCl [(h0, .inr (6, [.ref hu, .ref hs, .ref hc, .ref hp, .ref hg, .int 0, .int 0, .int 0, .int td, .int sd]))] H1 := hP
    have hD : va_D A [(h0, .inr (6, [.ref hu, .ref hs, .ref hc, .ref hp, .ref hg, .int 0, .int 0, .int 0, .int td, .int sd]))] := hD
    have hK : va_K D vwCl [] s := hK
    clear hS1
    exact absurd (Int32.not_lt.mp hw_1.1) (Int32.not_le.mpr hw_1.2)
theorem dX4_mayBeShut_0 : decode cX4_mayBeShut 0 = .ok (.aload_n 0, 1) := by decide +kernel
theorem dX4_mayBeShut_1 : decode cX4_mayBeShut 1 = .ok (.iload_n 1, 1) := by decide +kernel
theorem dX4_mayBeShut_2 : decode cX4_mayBeShut 2 = .ok (.invokevirtual 189, 3) := by decide +kernel
set_option maxHeartbeats 4000000 in
set_option maxRecDepth 100000 in
theorem f_X4_mayBeShut (l : Launch) (hst : l.stackTraces = false) (D : va_G) (h0 : Nat) (hu : Nat) (hs : Nat) (hc : Nat) (hp : Nat) (hg : Nat) (td : Int32) (sd : Int32) (a0 : Int32) (sz : Nat)  : vx_Met l yX4_mayBeShut [Cond.code yX4_mayBeShut cX4_mayBeShut 2 (some .int)] ({ frames := 7, cells := 1, slots := 6, locals := 130 }) (z_Pc D [.ref h0, .int a0] [(h0, .inr (6, [.ref hu, .ref hs, .ref hc, .ref hp, .ref hg, .int 0, .int 0, .int 0, .int td, .int sd]))] [] sz) (va_Qi (fun (r : Int32) (_ : Unit) => False) (fun _ t => True) (va_A [(h0, .inr (6, [.ref hu, .ref hs, .ref hc, .ref hp, .ref hg, .int 0, .int 0, .int 0, .int td, .int sd]))] sz)) (z_T (True) "java/lang/IndexOutOfBoundsException" D [(h0, .inr (6, [.ref hu, .ref hs, .ref hc, .ref hp, .ref hg, .int 0, .int 0, .int 0, .int td, .int sd]))] [] sz) 1 6 (va_A [(h0, .inr (6, [.ref hu, .ref hs, .ref hc, .ref hp, .ref hg, .int 0, .int 0, .int 0, .int td, .int sd]))] sz) := by
  refine vx_ofW (cc := cX4_mayBeShut) (maxL := 2) (ret := (some .int)) (by decide +kernel) rfl ?_
  intro p e s m args below meth c s₁ B hml hnt hv
  obtain ⟨rfl, hsz, hP, hK, hD0, hE, hX0⟩ := hv
  have hx := B.exec
  have hb := B.bytes
  have hr := B.returns
  have hts := z_E.ts (args := [.ref h0, .int a0].toArray) hE
  have hown : s.vm.findClass RX4 = some m.cls := findClass_of_methodNamed B.named
  have hlocks := B.notSynchronized
  subst hsz
  have hD := hD0.self (sz := s.heap.size)
  generalize hAe : va_A [(h0, .inr (6, [.ref hu, .ref hs, .ref hc, .ref hp, .ref hg, .int 0, .int 0, .int 0, .int td, .int sd]))] s.heap.size = A at hD hX0 ⊢
  have hX : z_X A s s.heap := hX0
  have hA : ∀ q : Nat, s.heap.size ≤ q → A q := fun q h => by rw [← hAe]; exact Or.inr h
  have hS : va_S A s.heap s.heap [] := va_S.rf
  have hP : va_P D vwCl [(h0, .inr (6, [.ref hu, .ref hs, .ref hc, .ref hp, .ref hg, .int 0, .int 0, .int 0, .int td, .int sd]))] s.heap := hP
  have hl := lv_entry ([.ref h0, .int a0]) (n := 2) (Nat.le_of_ble_eq_true rfl)
  rw [lg_entry_eq]
  generalize (lg_sl ([.ref h0, .int a0]) ++ List.replicate (2 - (lg_sl ([.ref h0, .int a0])).length) Slot.unset).toArray = ls at hl ⊢
  have hl : lv_has ls 2 [(0, .ref h0), (1, .int a0)] := hl
  skip
  refine lv_aload_n hx hb dX4_mayBeShut_0 rfl (lv_at hl 0 rfl) ?_
  refine lv_iload_n hx hb dX4_mayBeShut_1 rfl (lv_at hl 1 rfl) ?_
  obtain ⟨hb_1, hc_1⟩ := z_call (wc := [(h0, .inr (6, [.ref hu, .ref hs, .ref hc, .ref hp, .ref hg, .int 0, .int 0, .int 0, .int td, .int sd]))]) (tc := []) ([.ref h0, .int a0]) hP hK hD hS hA hE hX [0] rfl rfl [] rfl
  have hF_1 := va_free (wc := [(h0, .inr (6, [.ref hu, .ref hs, .ref hc, .ref hp, .ref hg, .int 0, .int 0, .int 0, .int td, .int sd]))]) hD hS hA [0] rfl
  refine vx_callv (vx_runV (As := [.int a0]) (rest := []) ⟨hx, hb, hml, hown, hts⟩ (c_X4_needShop l hst D h0 hu hs hc hp hg 0 0 0 td sd a0 _ ) (z_cV 1 hE zw_678 zw_680 zw_23 zw_91 zw_681 rfl rfl rfl (by decide +kernel) ⟨(Nat.le_of_ble_eq_true rfl), (Nat.le_of_ble_eq_true rfl)⟩) ⟨hb_1, va_recv hK hP (ci := 6) (q0 := 0) rfl rfl, hc_1⟩ rfl rfl hl.1 rfl (lv_room (Nat.le_of_ble_eq_true rfl)) dX4_mayBeShut_2 ⟨(Nat.le_of_ble_eq_true rfl), (Nat.le_of_ble_eq_true rfl)⟩) hS (fun q _ h => hF_1 q h) hF_1 (fun q _ h => hF_1 q h) (fun E_1 ce_1 q9_1 u_1 t_1 H1 locs ht_1 hvm_1 hw_1 hB_1 hz_1 hk_1 hS1 hce_1 hcv_1 hcl_1 => ?_) (fun u_1 t_1 H1 locs ht_1 hvm_1 hw_1 hB_1 hz_1 hk_1 hS1 => ?_)
  · obtain ⟨rfl, hB_1⟩ := hB_1
    obtain ⟨hP, hK, hD⟩ := z_back (wc := [(h0, .inr (6, [.ref hu, .ref hs, .ref hc, .ref hp, .ref hg, .int 0, .int 0, .int 0, .int td, .int sd]))]) (wr := []) (w1 := [(h0, .inr (6, [.ref hu, .ref hs, .ref hc, .ref hp, .ref hg, .int 0, .int 0, .int 0, .int td, .int sd]))]) (tr := []) hP hK hD [0] [] rfl rfl rfl (by decide) ht_1 hvm_1 hk_1 hF_1 [] rfl hB_1
    have hS := hS1
    have hP : va_P D vwCl [(h0, .inr (6, [.ref hu, .ref hs, .ref hc, .ref hp, .ref hg, .int 0, .int 0, .int 0, .int td, .int sd]))] H1 := hP
    have hD : va_D A [(h0, .inr (6, [.ref hu, .ref hs, .ref hc, .ref hp, .ref hg, .int 0, .int 0, .int 0, .int td, .int sd]))] := hD
    have hK : va_K D vwCl [] s := hK
    clear hS1
    exact vx_out (fun x hx => (hnt x hx).elim) hlocks hce_1 hcv_1 hcl_1 (fun t ht hvm => z_through trivial rfl hAe hP hK hD hS [0] rfl rfl [] rfl ht hvm) hS.2.2 (Nat.le_of_ble_eq_true rfl) (Nat.le_of_ble_eq_true rfl)
  · obtain ⟨hP, hK, hD⟩ := z_back (wc := [(h0, .inr (6, [.ref hu, .ref hs, .ref hc, .ref hp, .ref hg, .int 0, .int 0, .int 0, .int td, .int sd]))]) (wr := []) (w1 := [(h0, .inr (6, [.ref hu, .ref hs, .ref hc, .ref hp, .ref hg, .int 0, .int 0, .int 0, .int td, .int sd]))]) (tr := []) hP hK hD [0] [] rfl rfl rfl (by decide) ht_1 hvm_1 hk_1 hF_1 [] rfl hB_1
    have hS := hS1
    have hP : va_P D vwCl [(h0, .inr (6, [.ref hu, .ref hs, .ref hc, .ref hp, .ref hg, .int 0, .int 0, .int 0, .int td, .int sd]))] H1 := hP
    have hD : va_D A [(h0, .inr (6, [.ref hu, .ref hs, .ref hc, .ref hp, .ref hg, .int 0, .int 0, .int 0, .int td, .int sd]))] := hD
    have hK : va_K D vwCl [] s := hK
    clear hS1
    exact absurd (Int32.not_lt.mp hw_1.1) (Int32.not_le.mpr hw_1.2)
theorem dX4_seen_0 : decode cX4_seen 0 = .ok (.aload_n 0, 1) := by decide +kernel
theorem dX4_seen_1 : decode cX4_seen 1 = .ok (.iload_n 1, 1) := by decide +kernel
theorem dX4_seen_2 : decode cX4_seen 2 = .ok (.invokevirtual 189, 3) := by decide +kernel
set_option maxHeartbeats 4000000 in
set_option maxRecDepth 100000 in
theorem f_X4_seen (l : Launch) (hst : l.stackTraces = false) (D : va_G) (h0 : Nat) (hu : Nat) (hs : Nat) (hc : Nat) (hp : Nat) (hg : Nat) (td : Int32) (sd : Int32) (a0 : Int32) (sz : Nat)  : vx_Met l yX4_seen [Cond.code yX4_seen cX4_seen 2 (some .int)] ({ frames := 7, cells := 1, slots := 6, locals := 130 }) (z_Pc D [.ref h0, .int a0] [(h0, .inr (6, [.ref hu, .ref hs, .ref hc, .ref hp, .ref hg, .int 0, .int 0, .int 0, .int td, .int sd]))] [] sz) (va_Qi (fun (r : Int32) (_ : Unit) => False) (fun _ t => True) (va_A [(h0, .inr (6, [.ref hu, .ref hs, .ref hc, .ref hp, .ref hg, .int 0, .int 0, .int 0, .int td, .int sd]))] sz)) (z_T (True) "java/lang/IndexOutOfBoundsException" D [(h0, .inr (6, [.ref hu, .ref hs, .ref hc, .ref hp, .ref hg, .int 0, .int 0, .int 0, .int td, .int sd]))] [] sz) 1 6 (va_A [(h0, .inr (6, [.ref hu, .ref hs, .ref hc, .ref hp, .ref hg, .int 0, .int 0, .int 0, .int td, .int sd]))] sz) := by
  refine vx_ofW (cc := cX4_seen) (maxL := 2) (ret := (some .int)) (by decide +kernel) rfl ?_
  intro p e s m args below meth c s₁ B hml hnt hv
  obtain ⟨rfl, hsz, hP, hK, hD0, hE, hX0⟩ := hv
  have hx := B.exec
  have hb := B.bytes
  have hr := B.returns
  have hts := z_E.ts (args := [.ref h0, .int a0].toArray) hE
  have hown : s.vm.findClass RX4 = some m.cls := findClass_of_methodNamed B.named
  have hlocks := B.notSynchronized
  subst hsz
  have hD := hD0.self (sz := s.heap.size)
  generalize hAe : va_A [(h0, .inr (6, [.ref hu, .ref hs, .ref hc, .ref hp, .ref hg, .int 0, .int 0, .int 0, .int td, .int sd]))] s.heap.size = A at hD hX0 ⊢
  have hX : z_X A s s.heap := hX0
  have hA : ∀ q : Nat, s.heap.size ≤ q → A q := fun q h => by rw [← hAe]; exact Or.inr h
  have hS : va_S A s.heap s.heap [] := va_S.rf
  have hP : va_P D vwCl [(h0, .inr (6, [.ref hu, .ref hs, .ref hc, .ref hp, .ref hg, .int 0, .int 0, .int 0, .int td, .int sd]))] s.heap := hP
  have hl := lv_entry ([.ref h0, .int a0]) (n := 2) (Nat.le_of_ble_eq_true rfl)
  rw [lg_entry_eq]
  generalize (lg_sl ([.ref h0, .int a0]) ++ List.replicate (2 - (lg_sl ([.ref h0, .int a0])).length) Slot.unset).toArray = ls at hl ⊢
  have hl : lv_has ls 2 [(0, .ref h0), (1, .int a0)] := hl
  skip
  refine lv_aload_n hx hb dX4_seen_0 rfl (lv_at hl 0 rfl) ?_
  refine lv_iload_n hx hb dX4_seen_1 rfl (lv_at hl 1 rfl) ?_
  obtain ⟨hb_1, hc_1⟩ := z_call (wc := [(h0, .inr (6, [.ref hu, .ref hs, .ref hc, .ref hp, .ref hg, .int 0, .int 0, .int 0, .int td, .int sd]))]) (tc := []) ([.ref h0, .int a0]) hP hK hD hS hA hE hX [0] rfl rfl [] rfl
  have hF_1 := va_free (wc := [(h0, .inr (6, [.ref hu, .ref hs, .ref hc, .ref hp, .ref hg, .int 0, .int 0, .int 0, .int td, .int sd]))]) hD hS hA [0] rfl
  refine vx_callv (vx_runV (As := [.int a0]) (rest := []) ⟨hx, hb, hml, hown, hts⟩ (c_X4_needShop l hst D h0 hu hs hc hp hg 0 0 0 td sd a0 _ ) (z_cV 1 hE zw_678 zw_680 zw_23 zw_91 zw_681 rfl rfl rfl (by decide +kernel) ⟨(Nat.le_of_ble_eq_true rfl), (Nat.le_of_ble_eq_true rfl)⟩) ⟨hb_1, va_recv hK hP (ci := 6) (q0 := 0) rfl rfl, hc_1⟩ rfl rfl hl.1 rfl (lv_room (Nat.le_of_ble_eq_true rfl)) dX4_seen_2 ⟨(Nat.le_of_ble_eq_true rfl), (Nat.le_of_ble_eq_true rfl)⟩) hS (fun q _ h => hF_1 q h) hF_1 (fun q _ h => hF_1 q h) (fun E_1 ce_1 q9_1 u_1 t_1 H1 locs ht_1 hvm_1 hw_1 hB_1 hz_1 hk_1 hS1 hce_1 hcv_1 hcl_1 => ?_) (fun u_1 t_1 H1 locs ht_1 hvm_1 hw_1 hB_1 hz_1 hk_1 hS1 => ?_)
  · obtain ⟨rfl, hB_1⟩ := hB_1
    obtain ⟨hP, hK, hD⟩ := z_back (wc := [(h0, .inr (6, [.ref hu, .ref hs, .ref hc, .ref hp, .ref hg, .int 0, .int 0, .int 0, .int td, .int sd]))]) (wr := []) (w1 := [(h0, .inr (6, [.ref hu, .ref hs, .ref hc, .ref hp, .ref hg, .int 0, .int 0, .int 0, .int td, .int sd]))]) (tr := []) hP hK hD [0] [] rfl rfl rfl (by decide) ht_1 hvm_1 hk_1 hF_1 [] rfl hB_1
    have hS := hS1
    have hP : va_P D vwCl [(h0, .inr (6, [.ref hu, .ref hs, .ref hc, .ref hp, .ref hg, .int 0, .int 0, .int 0, .int td, .int sd]))] H1 := hP
    have hD : va_D A [(h0, .inr (6, [.ref hu, .ref hs, .ref hc, .ref hp, .ref hg, .int 0, .int 0, .int 0, .int td, .int sd]))] := hD
    have hK : va_K D vwCl [] s := hK
    clear hS1
    exact vx_out (fun x hx => (hnt x hx).elim) hlocks hce_1 hcv_1 hcl_1 (fun t ht hvm => z_through trivial rfl hAe hP hK hD hS [0] rfl rfl [] rfl ht hvm) hS.2.2 (Nat.le_of_ble_eq_true rfl) (Nat.le_of_ble_eq_true rfl)
  · obtain ⟨hP, hK, hD⟩ := z_back (wc := [(h0, .inr (6, [.ref hu, .ref hs, .ref hc, .ref hp, .ref hg, .int 0, .int 0, .int 0, .int td, .int sd]))]) (wr := []) (w1 := [(h0, .inr (6, [.ref hu, .ref hs, .ref hc, .ref hp, .ref hg, .int 0, .int 0, .int 0, .int td, .int sd]))]) (tr := []) hP hK hD [0] [] rfl rfl rfl (by decide) ht_1 hvm_1 hk_1 hF_1 [] rfl hB_1
    have hS := hS1
    have hP : va_P D vwCl [(h0, .inr (6, [.ref hu, .ref hs, .ref hc, .ref hp, .ref hg, .int 0, .int 0, .int 0, .int td, .int sd]))] H1 := hP
    have hD : va_D A [(h0, .inr (6, [.ref hu, .ref hs, .ref hc, .ref hp, .ref hg, .int 0, .int 0, .int 0, .int td, .int sd]))] := hD
    have hK : va_K D vwCl [] s := hK
    clear hS1
    exact absurd (Int32.not_lt.mp hw_1.1) (Int32.not_le.mpr hw_1.2)
theorem dX4_known_0 : decode cX4_known 0 = .ok (.aload_n 0, 1) := by decide +kernel
theorem dX4_known_1 : decode cX4_known 1 = .ok (.iload_n 1, 1) := by decide +kernel
theorem dX4_known_2 : decode cX4_known 2 = .ok (.invokevirtual 189, 3) := by decide +kernel
set_option maxHeartbeats 4000000 in
set_option maxRecDepth 100000 in
theorem f_X4_known (l : Launch) (hst : l.stackTraces = false) (D : va_G) (h0 : Nat) (hu : Nat) (hs : Nat) (hc : Nat) (hp : Nat) (hg : Nat) (td : Int32) (sd : Int32) (a0 : Int32) (sz : Nat)  : vx_Met l yX4_known [Cond.code yX4_known cX4_known 2 (some .int)] ({ frames := 7, cells := 1, slots := 6, locals := 130 }) (z_Pc D [.ref h0, .int a0] [(h0, .inr (6, [.ref hu, .ref hs, .ref hc, .ref hp, .ref hg, .int 0, .int 0, .int 0, .int td, .int sd]))] [] sz) (va_Qi (fun (r : Int32) (_ : Unit) => False) (fun _ t => True) (va_A [(h0, .inr (6, [.ref hu, .ref hs, .ref hc, .ref hp, .ref hg, .int 0, .int 0, .int 0, .int td, .int sd]))] sz)) (z_T (True) "java/lang/IndexOutOfBoundsException" D [(h0, .inr (6, [.ref hu, .ref hs, .ref hc, .ref hp, .ref hg, .int 0, .int 0, .int 0, .int td, .int sd]))] [] sz) 1 6 (va_A [(h0, .inr (6, [.ref hu, .ref hs, .ref hc, .ref hp, .ref hg, .int 0, .int 0, .int 0, .int td, .int sd]))] sz) := by
  refine vx_ofW (cc := cX4_known) (maxL := 2) (ret := (some .int)) (by decide +kernel) rfl ?_
  intro p e s m args below meth c s₁ B hml hnt hv
  obtain ⟨rfl, hsz, hP, hK, hD0, hE, hX0⟩ := hv
  have hx := B.exec
  have hb := B.bytes
  have hr := B.returns
  have hts := z_E.ts (args := [.ref h0, .int a0].toArray) hE
  have hown : s.vm.findClass RX4 = some m.cls := findClass_of_methodNamed B.named
  have hlocks := B.notSynchronized
  subst hsz
  have hD := hD0.self (sz := s.heap.size)
  generalize hAe : va_A [(h0, .inr (6, [.ref hu, .ref hs, .ref hc, .ref hp, .ref hg, .int 0, .int 0, .int 0, .int td, .int sd]))] s.heap.size = A at hD hX0 ⊢
  have hX : z_X A s s.heap := hX0
  have hA : ∀ q : Nat, s.heap.size ≤ q → A q := fun q h => by rw [← hAe]; exact Or.inr h
  have hS : va_S A s.heap s.heap [] := va_S.rf
  have hP : va_P D vwCl [(h0, .inr (6, [.ref hu, .ref hs, .ref hc, .ref hp, .ref hg, .int 0, .int 0, .int 0, .int td, .int sd]))] s.heap := hP
  have hl := lv_entry ([.ref h0, .int a0]) (n := 2) (Nat.le_of_ble_eq_true rfl)
  rw [lg_entry_eq]
  generalize (lg_sl ([.ref h0, .int a0]) ++ List.replicate (2 - (lg_sl ([.ref h0, .int a0])).length) Slot.unset).toArray = ls at hl ⊢
  have hl : lv_has ls 2 [(0, .ref h0), (1, .int a0)] := hl
  skip
  refine lv_aload_n hx hb dX4_known_0 rfl (lv_at hl 0 rfl) ?_
  refine lv_iload_n hx hb dX4_known_1 rfl (lv_at hl 1 rfl) ?_
  obtain ⟨hb_1, hc_1⟩ := z_call (wc := [(h0, .inr (6, [.ref hu, .ref hs, .ref hc, .ref hp, .ref hg, .int 0, .int 0, .int 0, .int td, .int sd]))]) (tc := []) ([.ref h0, .int a0]) hP hK hD hS hA hE hX [0] rfl rfl [] rfl
  have hF_1 := va_free (wc := [(h0, .inr (6, [.ref hu, .ref hs, .ref hc, .ref hp, .ref hg, .int 0, .int 0, .int 0, .int td, .int sd]))]) hD hS hA [0] rfl
  refine vx_callv (vx_runV (As := [.int a0]) (rest := []) ⟨hx, hb, hml, hown, hts⟩ (c_X4_needShop l hst D h0 hu hs hc hp hg 0 0 0 td sd a0 _ ) (z_cV 1 hE zw_678 zw_680 zw_23 zw_91 zw_681 rfl rfl rfl (by decide +kernel) ⟨(Nat.le_of_ble_eq_true rfl), (Nat.le_of_ble_eq_true rfl)⟩) ⟨hb_1, va_recv hK hP (ci := 6) (q0 := 0) rfl rfl, hc_1⟩ rfl rfl hl.1 rfl (lv_room (Nat.le_of_ble_eq_true rfl)) dX4_known_2 ⟨(Nat.le_of_ble_eq_true rfl), (Nat.le_of_ble_eq_true rfl)⟩) hS (fun q _ h => hF_1 q h) hF_1 (fun q _ h => hF_1 q h) (fun E_1 ce_1 q9_1 u_1 t_1 H1 locs ht_1 hvm_1 hw_1 hB_1 hz_1 hk_1 hS1 hce_1 hcv_1 hcl_1 => ?_) (fun u_1 t_1 H1 locs ht_1 hvm_1 hw_1 hB_1 hz_1 hk_1 hS1 => ?_)
  · obtain ⟨rfl, hB_1⟩ := hB_1
    obtain ⟨hP, hK, hD⟩ := z_back (wc := [(h0, .inr (6, [.ref hu, .ref hs, .ref hc, .ref hp, .ref hg, .int 0, .int 0, .int 0, .int td, .int sd]))]) (wr := []) (w1 := [(h0, .inr (6, [.ref hu, .ref hs, .ref hc, .ref hp, .ref hg, .int 0, .int 0, .int 0, .int td, .int sd]))]) (tr := []) hP hK hD [0] [] rfl rfl rfl (by decide) ht_1 hvm_1 hk_1 hF_1 [] rfl hB_1
    have hS := hS1
    have hP : va_P D vwCl [(h0, .inr (6, [.ref hu, .ref hs, .ref hc, .ref hp, .ref hg, .int 0, .int 0, .int 0, .int td, .int sd]))] H1 := hP
    have hD : va_D A [(h0, .inr (6, [.ref hu, .ref hs, .ref hc, .ref hp, .ref hg, .int 0, .int 0, .int 0, .int td, .int sd]))] := hD
    have hK : va_K D vwCl [] s := hK
    clear hS1
    exact vx_out (fun x hx => (hnt x hx).elim) hlocks hce_1 hcv_1 hcl_1 (fun t ht hvm => z_through trivial rfl hAe hP hK hD hS [0] rfl rfl [] rfl ht hvm) hS.2.2 (Nat.le_of_ble_eq_true rfl) (Nat.le_of_ble_eq_true rfl)
  · obtain ⟨hP, hK, hD⟩ := z_back (wc := [(h0, .inr (6, [.ref hu, .ref hs, .ref hc, .ref hp, .ref hg, .int 0, .int 0, .int 0, .int td, .int sd]))]) (wr := []) (w1 := [(h0, .inr (6, [.ref hu, .ref hs, .ref hc, .ref hp, .ref hg, .int 0, .int 0, .int 0, .int td, .int sd]))]) (tr := []) hP hK hD [0] [] rfl rfl rfl (by decide) ht_1 hvm_1 hk_1 hF_1 [] rfl hB_1
    have hS := hS1
    have hP : va_P D vwCl [(h0, .inr (6, [.ref hu, .ref hs, .ref hc, .ref hp, .ref hg, .int 0, .int 0, .int 0, .int td, .int sd]))] H1 := hP
    have hD : va_D A [(h0, .inr (6, [.ref hu, .ref hs, .ref hc, .ref hp, .ref hg, .int 0, .int 0, .int 0, .int td, .int sd]))] := hD
    have hK : va_K D vwCl [] s := hK
    clear hS1
    exact absurd (Int32.not_lt.mp hw_1.1) (Int32.not_le.mpr hw_1.2)
theorem dX4_isDusty_0 : decode cX4_isDusty 0 = .ok (.aload_n 0, 1) := by decide +kernel
theorem dX4_isDusty_1 : decode cX4_isDusty 1 = .ok (.iload_n 1, 1) := by decide +kernel
theorem dX4_isDusty_2 : decode cX4_isDusty 2 = .ok (.invokevirtual 189, 3) := by decide +kernel
set_option maxHeartbeats 4000000 in
set_option maxRecDepth 100000 in
theorem f_X4_isDusty (l : Launch) (hst : l.stackTraces = false) (D : va_G) (h0 : Nat) (hu : Nat) (hs : Nat) (hc : Nat) (hp : Nat) (hg : Nat) (td : Int32) (sd : Int32) (a0 : Int32) (sz : Nat)  : vx_Met l yX4_isDusty [Cond.code yX4_isDusty cX4_isDusty 2 (some .boolean)] ({ frames := 7, cells := 1, slots := 6, locals := 130 }) (z_Pc D [.ref h0, .int a0] [(h0, .inr (6, [.ref hu, .ref hs, .ref hc, .ref hp, .ref hg, .int 0, .int 0, .int 0, .int td, .int sd]))] [] sz) (va_Qi (fun (r : Int32) (_ : Unit) => False) (fun _ t => True) (va_A [(h0, .inr (6, [.ref hu, .ref hs, .ref hc, .ref hp, .ref hg, .int 0, .int 0, .int 0, .int td, .int sd]))] sz)) (z_T (True) "java/lang/IndexOutOfBoundsException" D [(h0, .inr (6, [.ref hu, .ref hs, .ref hc, .ref hp, .ref hg, .int 0, .int 0, .int 0, .int td, .int sd]))] [] sz) 1 6 (va_A [(h0, .inr (6, [.ref hu, .ref hs, .ref hc, .ref hp, .ref hg, .int 0, .int 0, .int 0, .int td, .int sd]))] sz) := by
  refine vx_ofW (cc := cX4_isDusty) (maxL := 2) (ret := (some .boolean)) (by decide +kernel) rfl ?_
  intro p e s m args below meth c s₁ B hml hnt hv
  obtain ⟨rfl, hsz, hP, hK, hD0, hE, hX0⟩ := hv
  have hx := B.exec
  have hb := B.bytes
  have hr := B.returns
  have hts := z_E.ts (args := [.ref h0, .int a0].toArray) hE
  have hown : s.vm.findClass RX4 = some m.cls := findClass_of_methodNamed B.named
  have hlocks := B.notSynchronized
  subst hsz
  have hD := hD0.self (sz := s.heap.size)
  generalize hAe : va_A [(h0, .inr (6, [.ref hu, .ref hs, .ref hc, .ref hp, .ref hg, .int 0, .int 0, .int 0, .int td, .int sd]))] s.heap.size = A at hD hX0 ⊢
  have hX : z_X A s s.heap := hX0
  have hA : ∀ q : Nat, s.heap.size ≤ q → A q := fun q h => by rw [← hAe]; exact Or.inr h
  have hS : va_S A s.heap s.heap [] := va_S.rf
  have hP : va_P D vwCl [(h0, .inr (6, [.ref hu, .ref hs, .ref hc, .ref hp, .ref hg, .int 0, .int 0, .int 0, .int td, .int sd]))] s.heap := hP
  have hl := lv_entry ([.ref h0, .int a0]) (n := 2) (Nat.le_of_ble_eq_true rfl)
  rw [lg_entry_eq]
  generalize (lg_sl ([.ref h0, .int a0]) ++ List.replicate (2 - (lg_sl ([.ref h0, .int a0])).length) Slot.unset).toArray = ls at hl ⊢
  have hl : lv_has ls 2 [(0, .ref h0), (1, .int a0)] := hl
  skip
  refine lv_aload_n hx hb dX4_isDusty_0 rfl (lv_at hl 0 rfl) ?_
  refine lv_iload_n hx hb dX4_isDusty_1 rfl (lv_at hl 1 rfl) ?_
  obtain ⟨hb_1, hc_1⟩ := z_call (wc := [(h0, .inr (6, [.ref hu, .ref hs, .ref hc, .ref hp, .ref hg, .int 0, .int 0, .int 0, .int td, .int sd]))]) (tc := []) ([.ref h0, .int a0]) hP hK hD hS hA hE hX [0] rfl rfl [] rfl
  have hF_1 := va_free (wc := [(h0, .inr (6, [.ref hu, .ref hs, .ref hc, .ref hp, .ref hg, .int 0, .int 0, .int 0, .int td, .int sd]))]) hD hS hA [0] rfl
  refine vx_callv (vx_runV (As := [.int a0]) (rest := []) ⟨hx, hb, hml, hown, hts⟩ (c_X4_needShop l hst D h0 hu hs hc hp hg 0 0 0 td sd a0 _ ) (z_cV 1 hE zw_678 zw_680 zw_23 zw_91 zw_681 rfl rfl rfl (by decide +kernel) ⟨(Nat.le_of_ble_eq_true rfl), (Nat.le_of_ble_eq_true rfl)⟩) ⟨hb_1, va_recv hK hP (ci := 6) (q0 := 0) rfl rfl, hc_1⟩ rfl rfl hl.1 rfl (lv_room (Nat.le_of_ble_eq_true rfl)) dX4_isDusty_2 ⟨(Nat.le_of_ble_eq_true rfl), (Nat.le_of_ble_eq_true rfl)⟩) hS (fun q _ h => hF_1 q h) hF_1 (fun q _ h => hF_1 q h) (fun E_1 ce_1 q9_1 u_1 t_1 H1 locs ht_1 hvm_1 hw_1 hB_1 hz_1 hk_1 hS1 hce_1 hcv_1 hcl_1 => ?_) (fun u_1 t_1 H1 locs ht_1 hvm_1 hw_1 hB_1 hz_1 hk_1 hS1 => ?_)
  · obtain ⟨rfl, hB_1⟩ := hB_1
    obtain ⟨hP, hK, hD⟩ := z_back (wc := [(h0, .inr (6, [.ref hu, .ref hs, .ref hc, .ref hp, .ref hg, .int 0, .int 0, .int 0, .int td, .int sd]))]) (wr := []) (w1 := [(h0, .inr (6, [.ref hu, .ref hs, .ref hc, .ref hp, .ref hg, .int 0, .int 0, .int 0, .int td, .int sd]))]) (tr := []) hP hK hD [0] [] rfl rfl rfl (by decide) ht_1 hvm_1 hk_1 hF_1 [] rfl hB_1
    have hS := hS1
    have hP : va_P D vwCl [(h0, .inr (6, [.ref hu, .ref hs, .ref hc, .ref hp, .ref hg, .int 0, .int 0, .int 0, .int td, .int sd]))] H1 := hP
    have hD : va_D A [(h0, .inr (6, [.ref hu, .ref hs, .ref hc, .ref hp, .ref hg, .int 0, .int 0, .int 0, .int td, .int sd]))] := hD
    have hK : va_K D vwCl [] s := hK
    clear hS1
    exact vx_out (fun x hx => (hnt x hx).elim) hlocks hce_1 hcv_1 hcl_1 (fun t ht hvm => z_through trivial rfl hAe hP hK hD hS [0] rfl rfl [] rfl ht hvm) hS.2.2 (Nat.le_of_ble_eq_true rfl) (Nat.le_of_ble_eq_true rfl)
  · obtain ⟨hP, hK, hD⟩ := z_back (wc := [(h0, .inr (6, [.ref hu, .ref hs, .ref hc, .ref hp, .ref hg, .int 0, .int 0, .int 0, .int td, .int sd]))]) (wr := []) (w1 := [(h0, .inr (6, [.ref hu, .ref hs, .ref hc, .ref hp, .ref hg, .int 0, .int 0, .int 0, .int td, .int sd]))]) (tr := []) hP hK hD [0] [] rfl rfl rfl (by decide) ht_1 hvm_1 hk_1 hF_1 [] rfl hB_1
    have hS := hS1
    have hP : va_P D vwCl [(h0, .inr (6, [.ref hu, .ref hs, .ref hc, .ref hp, .ref hg, .int 0, .int 0, .int 0, .int td, .int sd]))] H1 := hP
    have hD : va_D A [(h0, .inr (6, [.ref hu, .ref hs, .ref hc, .ref hp, .ref hg, .int 0, .int 0, .int 0, .int td, .int sd]))] := hD
    have hK : va_K D vwCl [] s := hK
    clear hS1
    exact absurd (Int32.not_lt.mp hw_1.1) (Int32.not_le.mpr hw_1.2)
theorem dX4_took_0 : decode cX4_took 0 = .ok (.aload_n 0, 1) := by decide +kernel
theorem dX4_took_1 : decode cX4_took 1 = .ok (.iload_n 1, 1) := by decide +kernel
theorem dX4_took_2 : decode cX4_took 2 = .ok (.invokevirtual 189, 3) := by decide +kernel
set_option maxHeartbeats 4000000 in
set_option maxRecDepth 100000 in
theorem f_X4_took (l : Launch) (hst : l.stackTraces = false) (D : va_G) (h0 : Nat) (hu : Nat) (hs : Nat) (hc : Nat) (hp : Nat) (hg : Nat) (td : Int32) (sd : Int32) (a0 : Int32) (sz : Nat)  : vx_Met l yX4_took [Cond.code yX4_took cX4_took 2 (some .long)] ({ frames := 7, cells := 1, slots := 6, locals := 130 }) (z_Pc D [.ref h0, .int a0] [(h0, .inr (6, [.ref hu, .ref hs, .ref hc, .ref hp, .ref hg, .int 0, .int 0, .int 0, .int td, .int sd]))] [] sz) (va_Ql (fun (r : Int64) (_ : Unit) => False) (fun _ t => True) (va_A [(h0, .inr (6, [.ref hu, .ref hs, .ref hc, .ref hp, .ref hg, .int 0, .int 0, .int 0, .int td, .int sd]))] sz)) (z_T (True) "java/lang/IndexOutOfBoundsException" D [(h0, .inr (6, [.ref hu, .ref hs, .ref hc, .ref hp, .ref hg, .int 0, .int 0, .int 0, .int td, .int sd]))] [] sz) 1 6 (va_A [(h0, .inr (6, [.ref hu, .ref hs, .ref hc, .ref hp, .ref hg, .int 0, .int 0, .int 0, .int td, .int sd]))] sz) := by
  refine vx_ofW (cc := cX4_took) (maxL := 2) (ret := (some .long)) (by decide +kernel) rfl ?_
  intro p e s m args below meth c s₁ B hml hnt hv
  obtain ⟨rfl, hsz, hP, hK, hD0, hE, hX0⟩ := hv
  have hx := B.exec
  have hb := B.bytes
  have hr := B.returns
  have hts := z_E.ts (args := [.ref h0, .int a0].toArray) hE
  have hown : s.vm.findClass RX4 = some m.cls := findClass_of_methodNamed B.named
  have hlocks := B.notSynchronized
  subst hsz
  have hD := hD0.self (sz := s.heap.size)
  generalize hAe : va_A [(h0, .inr (6, [.ref hu, .ref hs, .ref hc, .ref hp, .ref hg, .int 0, .int 0, .int 0, .int td, .int sd]))] s.heap.size = A at hD hX0 ⊢
  have hX : z_X A s s.heap := hX0
  have hA : ∀ q : Nat, s.heap.size ≤ q → A q := fun q h => by rw [← hAe]; exact Or.inr h
  have hS : va_S A s.heap s.heap [] := va_S.rf
  have hP : va_P D vwCl [(h0, .inr (6, [.ref hu, .ref hs, .ref hc, .ref hp, .ref hg, .int 0, .int 0, .int 0, .int td, .int sd]))] s.heap := hP
  have hl := lv_entry ([.ref h0, .int a0]) (n := 2) (Nat.le_of_ble_eq_true rfl)
  rw [lg_entry_eq]
  generalize (lg_sl ([.ref h0, .int a0]) ++ List.replicate (2 - (lg_sl ([.ref h0, .int a0])).length) Slot.unset).toArray = ls at hl ⊢
  have hl : lv_has ls 2 [(0, .ref h0), (1, .int a0)] := hl
  skip
  refine lv_aload_n hx hb dX4_took_0 rfl (lv_at hl 0 rfl) ?_
  refine lv_iload_n hx hb dX4_took_1 rfl (lv_at hl 1 rfl) ?_
  obtain ⟨hb_1, hc_1⟩ := z_call (wc := [(h0, .inr (6, [.ref hu, .ref hs, .ref hc, .ref hp, .ref hg, .int 0, .int 0, .int 0, .int td, .int sd]))]) (tc := []) ([.ref h0, .int a0]) hP hK hD hS hA hE hX [0] rfl rfl [] rfl
  have hF_1 := va_free (wc := [(h0, .inr (6, [.ref hu, .ref hs, .ref hc, .ref hp, .ref hg, .int 0, .int 0, .int 0, .int td, .int sd]))]) hD hS hA [0] rfl
  refine vx_callv (vx_runV (As := [.int a0]) (rest := []) ⟨hx, hb, hml, hown, hts⟩ (c_X4_needShop l hst D h0 hu hs hc hp hg 0 0 0 td sd a0 _ ) (z_cV 1 hE zw_678 zw_680 zw_23 zw_91 zw_681 rfl rfl rfl (by decide +kernel) ⟨(Nat.le_of_ble_eq_true rfl), (Nat.le_of_ble_eq_true rfl)⟩) ⟨hb_1, va_recv hK hP (ci := 6) (q0 := 0) rfl rfl, hc_1⟩ rfl rfl hl.1 rfl (lv_room (Nat.le_of_ble_eq_true rfl)) dX4_took_2 ⟨(Nat.le_of_ble_eq_true rfl), (Nat.le_of_ble_eq_true rfl)⟩) hS (fun q _ h => hF_1 q h) hF_1 (fun q _ h => hF_1 q h) (fun E_1 ce_1 q9_1 u_1 t_1 H1 locs ht_1 hvm_1 hw_1 hB_1 hz_1 hk_1 hS1 hce_1 hcv_1 hcl_1 => ?_) (fun u_1 t_1 H1 locs ht_1 hvm_1 hw_1 hB_1 hz_1 hk_1 hS1 => ?_)
  · obtain ⟨rfl, hB_1⟩ := hB_1
    obtain ⟨hP, hK, hD⟩ := z_back (wc := [(h0, .inr (6, [.ref hu, .ref hs, .ref hc, .ref hp, .ref hg, .int 0, .int 0, .int 0, .int td, .int sd]))]) (wr := []) (w1 := [(h0, .inr (6, [.ref hu, .ref hs, .ref hc, .ref hp, .ref hg, .int 0, .int 0, .int 0, .int td, .int sd]))]) (tr := []) hP hK hD [0] [] rfl rfl rfl (by decide) ht_1 hvm_1 hk_1 hF_1 [] rfl hB_1
    have hS := hS1
    have hP : va_P D vwCl [(h0, .inr (6, [.ref hu, .ref hs, .ref hc, .ref hp, .ref hg, .int 0, .int 0, .int 0, .int td, .int sd]))] H1 := hP
    have hD : va_D A [(h0, .inr (6, [.ref hu, .ref hs, .ref hc, .ref hp, .ref hg, .int 0, .int 0, .int 0, .int td, .int sd]))] := hD
    have hK : va_K D vwCl [] s := hK
    clear hS1
    exact vx_out (fun x hx => (hnt x hx).elim) hlocks hce_1 hcv_1 hcl_1 (fun t ht hvm => z_through trivial rfl hAe hP hK hD hS [0] rfl rfl [] rfl ht hvm) hS.2.2 (Nat.le_of_ble_eq_true rfl) (Nat.le_of_ble_eq_true rfl)
  · obtain ⟨hP, hK, hD⟩ := z_back (wc := [(h0, .inr (6, [.ref hu, .ref hs, .ref hc, .ref hp, .ref hg, .int 0, .int 0, .int 0, .int td, .int sd]))]) (wr := []) (w1 := [(h0, .inr (6, [.ref hu, .ref hs, .ref hc, .ref hp, .ref hg, .int 0, .int 0, .int 0, .int td, .int sd]))]) (tr := []) hP hK hD [0] [] rfl rfl rfl (by decide) ht_1 hvm_1 hk_1 hF_1 [] rfl hB_1
    have hS := hS1
    have hP : va_P D vwCl [(h0, .inr (6, [.ref hu, .ref hs, .ref hc, .ref hp, .ref hg, .int 0, .int 0, .int 0, .int td, .int sd]))] H1 := hP
    have hD : va_D A [(h0, .inr (6, [.ref hu, .ref hs, .ref hc, .ref hp, .ref hg, .int 0, .int 0, .int 0, .int td, .int sd]))] := hD
    have hK : va_K D vwCl [] s := hK
    clear hS1
    exact absurd (Int32.not_lt.mp hw_1.1) (Int32.not_le.mpr hw_1.2)
theorem dX4_lost_0 : decode cX4_lost 0 = .ok (.aload_n 0, 1) := by decide +kernel
theorem dX4_lost_1 : decode cX4_lost 1 = .ok (.iload_n 1, 1) := by decide +kernel
theorem dX4_lost_2 : decode cX4_lost 2 = .ok (.invokevirtual 189, 3) := by decide +kernel
set_option maxHeartbeats 4000000 in
set_option maxRecDepth 100000 in
theorem f_X4_lost (l : Launch) (hst : l.stackTraces = false) (D : va_G) (h0 : Nat) (hu : Nat) (hs : Nat) (hc : Nat) (hp : Nat) (hg : Nat) (td : Int32) (sd : Int32) (a0 : Int32) (a1 : Int32) (sz : Nat)  : vx_Met l yX4_lost [Cond.code yX4_lost cX4_lost 4 (some .long)] ({ frames := 7, cells := 1, slots := 6, locals := 130 }) (z_Pc D [.ref h0, .int a0, .int a1] [(h0, .inr (6, [.ref hu, .ref hs, .ref hc, .ref hp, .ref hg, .int 0, .int 0, .int 0, .int td, .int sd]))] [] sz) (va_Ql (fun (r : Int64) (_ : Unit) => False) (fun _ t => True) (va_A [(h0, .inr (6, [.ref hu, .ref hs, .ref hc, .ref hp, .ref hg, .int 0, .int 0, .int 0, .int td, .int sd]))] sz)) (z_T (True) "java/lang/IndexOutOfBoundsException" D [(h0, .inr (6, [.ref hu, .ref hs, .ref hc, .ref hp, .ref hg, .int 0, .int 0, .int 0, .int td, .int sd]))] [] sz) 1 6 (va_A [(h0, .inr (6, [.ref hu, .ref hs, .ref hc, .ref hp, .ref hg, .int 0, .int 0, .int 0, .int td, .int sd]))] sz) := by
  refine vx_ofW (cc := cX4_lost) (maxL := 4) (ret := (some .long)) (by decide +kernel) rfl ?_
  intro p e s m args below meth c s₁ B hml hnt hv
  obtain ⟨rfl, hsz, hP, hK, hD0, hE, hX0⟩ := hv
  have hx := B.exec
  have hb := B.bytes
  have hr := B.returns
  have hts := z_E.ts (args := [.ref h0, .int a0, .int a1].toArray) hE
  have hown : s.vm.findClass RX4 = some m.cls := findClass_of_methodNamed B.named
  have hlocks := B.notSynchronized
  subst hsz
  have hD := hD0.self (sz := s.heap.size)
  generalize hAe : va_A [(h0, .inr (6, [.ref hu, .ref hs, .ref hc, .ref hp, .ref hg, .int 0, .int 0, .int 0, .int td, .int sd]))] s.heap.size = A at hD hX0 ⊢
  have hX : z_X A s s.heap := hX0
  have hA : ∀ q : Nat, s.heap.size ≤ q → A q := fun q h => by rw [← hAe]; exact Or.inr h
  have hS : va_S A s.heap s.heap [] := va_S.rf
  have hP : va_P D vwCl [(h0, .inr (6, [.ref hu, .ref hs, .ref hc, .ref hp, .ref hg, .int 0, .int 0, .int 0, .int td, .int sd]))] s.heap := hP
  have hl := lv_entry ([.ref h0, .int a0, .int a1]) (n := 4) (Nat.le_of_ble_eq_true rfl)
  rw [lg_entry_eq]
  generalize (lg_sl ([.ref h0, .int a0, .int a1]) ++ List.replicate (4 - (lg_sl ([.ref h0, .int a0, .int a1])).length) Slot.unset).toArray = ls at hl ⊢
  have hl : lv_has ls 4 [(0, .ref h0), (1, .int a0), (2, .int a1)] := hl
  skip
  refine lv_aload_n hx hb dX4_lost_0 rfl (lv_at hl 0 rfl) ?_
  refine lv_iload_n hx hb dX4_lost_1 rfl (lv_at hl 1 rfl) ?_
  obtain ⟨hb_1, hc_1⟩ := z_call (wc := [(h0, .inr (6, [.ref hu, .ref hs, .ref hc, .ref hp, .ref hg, .int 0, .int 0, .int 0, .int td, .int sd]))]) (tc := []) ([.ref h0, .int a0]) hP hK hD hS hA hE hX [0] rfl rfl [] rfl
  have hF_1 := va_free (wc := [(h0, .inr (6, [.ref hu, .ref hs, .ref hc, .ref hp, .ref hg, .int 0, .int 0, .int 0, .int td, .int sd]))]) hD hS hA [0] rfl
  refine vx_callv (vx_runV (As := [.int a0]) (rest := []) ⟨hx, hb, hml, hown, hts⟩ (c_X4_needShop l hst D h0 hu hs hc hp hg 0 0 0 td sd a0 _ ) (z_cV 1 hE zw_678 zw_680 zw_23 zw_91 zw_681 rfl rfl rfl (by decide +kernel) ⟨(Nat.le_of_ble_eq_true rfl), (Nat.le_of_ble_eq_true rfl)⟩) ⟨hb_1, va_recv hK hP (ci := 6) (q0 := 0) rfl rfl, hc_1⟩ rfl rfl hl.1 rfl (lv_room (Nat.le_of_ble_eq_true rfl)) dX4_lost_2 ⟨(Nat.le_of_ble_eq_true rfl), (Nat.le_of_ble_eq_true rfl)⟩) hS (fun q _ h => hF_1 q h) hF_1 (fun q _ h => hF_1 q h) (fun E_1 ce_1 q9_1 u_1 t_1 H1 locs ht_1 hvm_1 hw_1 hB_1 hz_1 hk_1 hS1 hce_1 hcv_1 hcl_1 => ?_) (fun u_1 t_1 H1 locs ht_1 hvm_1 hw_1 hB_1 hz_1 hk_1 hS1 => ?_)
  · obtain ⟨rfl, hB_1⟩ := hB_1
    obtain ⟨hP, hK, hD⟩ := z_back (wc := [(h0, .inr (6, [.ref hu, .ref hs, .ref hc, .ref hp, .ref hg, .int 0, .int 0, .int 0, .int td, .int sd]))]) (wr := []) (w1 := [(h0, .inr (6, [.ref hu, .ref hs, .ref hc, .ref hp, .ref hg, .int 0, .int 0, .int 0, .int td, .int sd]))]) (tr := []) hP hK hD [0] [] rfl rfl rfl (by decide) ht_1 hvm_1 hk_1 hF_1 [] rfl hB_1
    have hS := hS1
    have hP : va_P D vwCl [(h0, .inr (6, [.ref hu, .ref hs, .ref hc, .ref hp, .ref hg, .int 0, .int 0, .int 0, .int td, .int sd]))] H1 := hP
    have hD : va_D A [(h0, .inr (6, [.ref hu, .ref hs, .ref hc, .ref hp, .ref hg, .int 0, .int 0, .int 0, .int td, .int sd]))] := hD
    have hK : va_K D vwCl [] s := hK
    clear hS1
    exact vx_out (fun x hx => (hnt x hx).elim) hlocks hce_1 hcv_1 hcl_1 (fun t ht hvm => z_through trivial rfl hAe hP hK hD hS [0] rfl rfl [] rfl ht hvm) hS.2.2 (Nat.le_of_ble_eq_true rfl) (Nat.le_of_ble_eq_true rfl)
  · obtain ⟨hP, hK, hD⟩ := z_back (wc := [(h0, .inr (6, [.ref hu, .ref hs, .ref hc, .ref hp, .ref hg, .int 0, .int 0, .int 0, .int td, .int sd]))]) (wr := []) (w1 := [(h0, .inr (6, [.ref hu, .ref hs, .ref hc, .ref hp, .ref hg, .int 0, .int 0, .int 0, .int td, .int sd]))]) (tr := []) hP hK hD [0] [] rfl rfl rfl (by decide) ht_1 hvm_1 hk_1 hF_1 [] rfl hB_1
    have hS := hS1
    have hP : va_P D vwCl [(h0, .inr (6, [.ref hu, .ref hs, .ref hc, .ref hp, .ref hg, .int 0, .int 0, .int 0, .int td, .int sd]))] H1 := hP
    have hD : va_D A [(h0, .inr (6, [.ref hu, .ref hs, .ref hc, .ref hp, .ref hg, .int 0, .int 0, .int 0, .int td, .int sd]))] := hD
    have hK : va_K D vwCl [] s := hK
    clear hS1
    exact absurd (Int32.not_lt.mp hw_1.1) (Int32.not_le.mpr hw_1.2)
theorem dX4_rent_0 : decode cX4_rent 0 = .ok (.aload_n 0, 1) := by decide +kernel
theorem dX4_rent_1 : decode cX4_rent 1 = .ok (.iload_n 1, 1) := by decide +kernel
theorem dX4_rent_2 : decode cX4_rent 2 = .ok (.invokevirtual 189, 3) := by decide +kernel
set_option maxHeartbeats 4000000 in
set_option maxRecDepth 100000 in
theorem f_X4_rent (l : Launch) (hst : l.stackTraces = false) (D : va_G) (h0 : Nat) (hu : Nat) (hs : Nat) (hc : Nat) (hp : Nat) (hg : Nat) (td : Int32) (sd : Int32) (a0 : Int32) (sz : Nat)  : vx_Met l yX4_rent [Cond.code yX4_rent cX4_rent 2 (some .long)] ({ frames := 7, cells := 1, slots := 6, locals := 130 }) (z_Pc D [.ref h0, .int a0] [(h0, .inr (6, [.ref hu, .ref hs, .ref hc, .ref hp, .ref hg, .int 0, .int 0, .int 0, .int td, .int sd]))] [] sz) (va_Ql (fun (r : Int64) (_ : Unit) => False) (fun _ t => True) (va_A [(h0, .inr (6, [.ref hu, .ref hs, .ref hc, .ref hp, .ref hg, .int 0, .int 0, .int 0, .int td, .int sd]))] sz)) (z_T (True) "java/lang/IndexOutOfBoundsException" D [(h0, .inr (6, [.ref hu, .ref hs, .ref hc, .ref hp, .ref hg, .int 0, .int 0, .int 0, .int td, .int sd]))] [] sz) 1 6 (va_A [(h0, .inr (6, [.ref hu, .ref hs, .ref hc, .ref hp, .ref hg, .int 0, .int 0, .int 0, .int td, .int sd]))] sz) := by
  refine vx_ofW (cc := cX4_rent) (maxL := 2) (ret := (some .long)) (by decide +kernel) rfl ?_
  intro p e s m args below meth c s₁ B hml hnt hv
  obtain ⟨rfl, hsz, hP, hK, hD0, hE, hX0⟩ := hv
  have hx := B.exec
  have hb := B.bytes
  have hr := B.returns
  have hts := z_E.ts (args := [.ref h0, .int a0].toArray) hE
  have hown : s.vm.findClass RX4 = some m.cls := findClass_of_methodNamed B.named
  have hlocks := B.notSynchronized
  subst hsz
  have hD := hD0.self (sz := s.heap.size)
  generalize hAe : va_A [(h0, .inr (6, [.ref hu, .ref hs, .ref hc, .ref hp, .ref hg, .int 0, .int 0, .int 0, .int td, .int sd]))] s.heap.size = A at hD hX0 ⊢
  have hX : z_X A s s.heap := hX0
  have hA : ∀ q : Nat, s.heap.size ≤ q → A q := fun q h => by rw [← hAe]; exact Or.inr h
  have hS : va_S A s.heap s.heap [] := va_S.rf
  have hP : va_P D vwCl [(h0, .inr (6, [.ref hu, .ref hs, .ref hc, .ref hp, .ref hg, .int 0, .int 0, .int 0, .int td, .int sd]))] s.heap := hP
  have hl := lv_entry ([.ref h0, .int a0]) (n := 2) (Nat.le_of_ble_eq_true rfl)
  rw [lg_entry_eq]
  generalize (lg_sl ([.ref h0, .int a0]) ++ List.replicate (2 - (lg_sl ([.ref h0, .int a0])).length) Slot.unset).toArray = ls at hl ⊢
  have hl : lv_has ls 2 [(0, .ref h0), (1, .int a0)] := hl
  skip
  refine lv_aload_n hx hb dX4_rent_0 rfl (lv_at hl 0 rfl) ?_
  refine lv_iload_n hx hb dX4_rent_1 rfl (lv_at hl 1 rfl) ?_
  obtain ⟨hb_1, hc_1⟩ := z_call (wc := [(h0, .inr (6, [.ref hu, .ref hs, .ref hc, .ref hp, .ref hg, .int 0, .int 0, .int 0, .int td, .int sd]))]) (tc := []) ([.ref h0, .int a0]) hP hK hD hS hA hE hX [0] rfl rfl [] rfl
  have hF_1 := va_free (wc := [(h0, .inr (6, [.ref hu, .ref hs, .ref hc, .ref hp, .ref hg, .int 0, .int 0, .int 0, .int td, .int sd]))]) hD hS hA [0] rfl
  refine vx_callv (vx_runV (As := [.int a0]) (rest := []) ⟨hx, hb, hml, hown, hts⟩ (c_X4_needShop l hst D h0 hu hs hc hp hg 0 0 0 td sd a0 _ ) (z_cV 1 hE zw_678 zw_680 zw_23 zw_91 zw_681 rfl rfl rfl (by decide +kernel) ⟨(Nat.le_of_ble_eq_true rfl), (Nat.le_of_ble_eq_true rfl)⟩) ⟨hb_1, va_recv hK hP (ci := 6) (q0 := 0) rfl rfl, hc_1⟩ rfl rfl hl.1 rfl (lv_room (Nat.le_of_ble_eq_true rfl)) dX4_rent_2 ⟨(Nat.le_of_ble_eq_true rfl), (Nat.le_of_ble_eq_true rfl)⟩) hS (fun q _ h => hF_1 q h) hF_1 (fun q _ h => hF_1 q h) (fun E_1 ce_1 q9_1 u_1 t_1 H1 locs ht_1 hvm_1 hw_1 hB_1 hz_1 hk_1 hS1 hce_1 hcv_1 hcl_1 => ?_) (fun u_1 t_1 H1 locs ht_1 hvm_1 hw_1 hB_1 hz_1 hk_1 hS1 => ?_)
  · obtain ⟨rfl, hB_1⟩ := hB_1
    obtain ⟨hP, hK, hD⟩ := z_back (wc := [(h0, .inr (6, [.ref hu, .ref hs, .ref hc, .ref hp, .ref hg, .int 0, .int 0, .int 0, .int td, .int sd]))]) (wr := []) (w1 := [(h0, .inr (6, [.ref hu, .ref hs, .ref hc, .ref hp, .ref hg, .int 0, .int 0, .int 0, .int td, .int sd]))]) (tr := []) hP hK hD [0] [] rfl rfl rfl (by decide) ht_1 hvm_1 hk_1 hF_1 [] rfl hB_1
    have hS := hS1
    have hP : va_P D vwCl [(h0, .inr (6, [.ref hu, .ref hs, .ref hc, .ref hp, .ref hg, .int 0, .int 0, .int 0, .int td, .int sd]))] H1 := hP
    have hD : va_D A [(h0, .inr (6, [.ref hu, .ref hs, .ref hc, .ref hp, .ref hg, .int 0, .int 0, .int 0, .int td, .int sd]))] := hD
    have hK : va_K D vwCl [] s := hK
    clear hS1
    exact vx_out (fun x hx => (hnt x hx).elim) hlocks hce_1 hcv_1 hcl_1 (fun t ht hvm => z_through trivial rfl hAe hP hK hD hS [0] rfl rfl [] rfl ht hvm) hS.2.2 (Nat.le_of_ble_eq_true rfl) (Nat.le_of_ble_eq_true rfl)
  · obtain ⟨hP, hK, hD⟩ := z_back (wc := [(h0, .inr (6, [.ref hu, .ref hs, .ref hc, .ref hp, .ref hg, .int 0, .int 0, .int 0, .int td, .int sd]))]) (wr := []) (w1 := [(h0, .inr (6, [.ref hu, .ref hs, .ref hc, .ref hp, .ref hg, .int 0, .int 0, .int 0, .int td, .int sd]))]) (tr := []) hP hK hD [0] [] rfl rfl rfl (by decide) ht_1 hvm_1 hk_1 hF_1 [] rfl hB_1
    have hS := hS1
    have hP : va_P D vwCl [(h0, .inr (6, [.ref hu, .ref hs, .ref hc, .ref hp, .ref hg, .int 0, .int 0, .int 0, .int td, .int sd]))] H1 := hP
    have hD : va_D A [(h0, .inr (6, [.ref hu, .ref hs, .ref hc, .ref hp, .ref hg, .int 0, .int 0, .int 0, .int td, .int sd]))] := hD
    have hK : va_K D vwCl [] s := hK
    clear hS1
    exact absurd (Int32.not_lt.mp hw_1.1) (Int32.not_le.mpr hw_1.2)
theorem dX4_send_0 : decode cX4_send 0 = .ok (.aload_n 0, 1) := by decide +kernel
theorem dX4_send_1 : decode cX4_send 1 = .ok (.iload_n 1, 1) := by decide +kernel
theorem dX4_send_2 : decode cX4_send 2 = .ok (.invokevirtual 264, 3) := by decide +kernel
theorem zw_893 : Cond.methodLink RX4 264 yX4_needCrew ∈ z_Ts := z_m 893 (by decide +kernel) (by decide +kernel)
theorem zw_895 : Cond.instanceMethod yX4_needCrew ∈ z_Ts := z_m 895 (by decide +kernel) (by decide +kernel)
theorem zw_44 : Cond.selects RX4 yX4_needCrew yX4_needCrew ∈ z_Ts := z_m 44 (by decide +kernel) (by decide +kernel)
theorem zw_896 : Cond.code yX4_needCrew cX4_needCrew 2 none ∈ z_Ts := z_m 896 (by decide +kernel) (by decide +kernel)
set_option maxHeartbeats 4000000 in
set_option maxRecDepth 100000 in
theorem f_X4_send (l : Launch) (hst : l.stackTraces = false) (D : va_G) (h0 : Nat) (hu : Nat) (hs : Nat) (hc : Nat) (hp : Nat) (hg : Nat) (td : Int32) (sd : Int32) (a0 : Int32) (a1 : Int32) (sz : Nat)  : vx_Met l yX4_send [Cond.code yX4_send cX4_send 4 (some .int)] ({ frames := 7, cells := 1, slots := 6, locals := 130 }) (z_Pc D [.ref h0, .int a0, .int a1] [(h0, .inr (6, [.ref hu, .ref hs, .ref hc, .ref hp, .ref hg, .int 0, .int 0, .int 0, .int td, .int sd]))] [] sz) (va_Qi (fun (r : Int32) (_ : Unit) => False) (fun _ t => True) (va_A [(h0, .inr (6, [.ref hu, .ref hs, .ref hc, .ref hp, .ref hg, .int 0, .int 0, .int 0, .int td, .int sd]))] sz)) (z_T (True) "java/lang/IndexOutOfBoundsException" D [(h0, .inr (6, [.ref hu, .ref hs, .ref hc, .ref hp, .ref hg, .int 0, .int 0, .int 0, .int td, .int sd]))] [] sz) 1 6 (va_A [(h0, .inr (6, [.ref hu, .ref hs, .ref hc, .ref hp, .ref hg, .int 0, .int 0, .int 0, .int td, .int sd]))] sz) := by
  refine vx_ofW (cc := cX4_send) (maxL := 4) (ret := (some .int)) (by decide +kernel) rfl ?_
  intro p e s m args below meth c s₁ B hml hnt hv
  obtain ⟨rfl, hsz, hP, hK, hD0, hE, hX0⟩ := hv
  have hx := B.exec
  have hb := B.bytes
  have hr := B.returns
  have hts := z_E.ts (args := [.ref h0, .int a0, .int a1].toArray) hE
  have hown : s.vm.findClass RX4 = some m.cls := findClass_of_methodNamed B.named
  have hlocks := B.notSynchronized
  subst hsz
  have hD := hD0.self (sz := s.heap.size)
  generalize hAe : va_A [(h0, .inr (6, [.ref hu, .ref hs, .ref hc, .ref hp, .ref hg, .int 0, .int 0, .int 0, .int td, .int sd]))] s.heap.size = A at hD hX0 ⊢
  have hX : z_X A s s.heap := hX0
  have hA : ∀ q : Nat, s.heap.size ≤ q → A q := fun q h => by rw [← hAe]; exact Or.inr h
  have hS : va_S A s.heap s.heap [] := va_S.rf
  have hP : va_P D vwCl [(h0, .inr (6, [.ref hu, .ref hs, .ref hc, .ref hp, .ref hg, .int 0, .int 0, .int 0, .int td, .int sd]))] s.heap := hP
  have hl := lv_entry ([.ref h0, .int a0, .int a1]) (n := 4) (Nat.le_of_ble_eq_true rfl)
  rw [lg_entry_eq]
  generalize (lg_sl ([.ref h0, .int a0, .int a1]) ++ List.replicate (4 - (lg_sl ([.ref h0, .int a0, .int a1])).length) Slot.unset).toArray = ls at hl ⊢
  have hl : lv_has ls 4 [(0, .ref h0), (1, .int a0), (2, .int a1)] := hl
  skip
  refine lv_aload_n hx hb dX4_send_0 rfl (lv_at hl 0 rfl) ?_
  refine lv_iload_n hx hb dX4_send_1 rfl (lv_at hl 1 rfl) ?_
  obtain ⟨hb_1, hc_1⟩ := z_call (wc := [(h0, .inr (6, [.ref hu, .ref hs, .ref hc, .ref hp, .ref hg, .int 0, .int 0, .int 0, .int td, .int sd]))]) (tc := []) ([.ref h0, .int a0]) hP hK hD hS hA hE hX [0] rfl rfl [] rfl
  have hF_1 := va_free (wc := [(h0, .inr (6, [.ref hu, .ref hs, .ref hc, .ref hp, .ref hg, .int 0, .int 0, .int 0, .int td, .int sd]))]) hD hS hA [0] rfl
  refine vx_callv (vx_runV (As := [.int a0]) (rest := []) ⟨hx, hb, hml, hown, hts⟩ (c_X4_needCrew l hst D h0 hu hs hc hp hg 0 0 0 td sd a0 _ ) (z_cV 1 hE zw_893 zw_895 zw_44 zw_91 zw_896 rfl rfl rfl (by decide +kernel) ⟨(Nat.le_of_ble_eq_true rfl), (Nat.le_of_ble_eq_true rfl)⟩) ⟨hb_1, va_recv hK hP (ci := 6) (q0 := 0) rfl rfl, hc_1⟩ rfl rfl hl.1 rfl (lv_room (Nat.le_of_ble_eq_true rfl)) dX4_send_2 ⟨(Nat.le_of_ble_eq_true rfl), (Nat.le_of_ble_eq_true rfl)⟩) hS (fun q _ h => hF_1 q h) hF_1 (fun q _ h => hF_1 q h) (fun E_1 ce_1 q9_1 u_1 t_1 H1 locs ht_1 hvm_1 hw_1 hB_1 hz_1 hk_1 hS1 hce_1 hcv_1 hcl_1 => ?_) (fun u_1 t_1 H1 locs ht_1 hvm_1 hw_1 hB_1 hz_1 hk_1 hS1 => ?_)
  · obtain ⟨rfl, hB_1⟩ := hB_1
    obtain ⟨hP, hK, hD⟩ := z_back (wc := [(h0, .inr (6, [.ref hu, .ref hs, .ref hc, .ref hp, .ref hg, .int 0, .int 0, .int 0, .int td, .int sd]))]) (wr := []) (w1 := [(h0, .inr (6, [.ref hu, .ref hs, .ref hc, .ref hp, .ref hg, .int 0, .int 0, .int 0, .int td, .int sd]))]) (tr := []) hP hK hD [0] [] rfl rfl rfl (by decide) ht_1 hvm_1 hk_1 hF_1 [] rfl hB_1
    have hS := hS1
    have hP : va_P D vwCl [(h0, .inr (6, [.ref hu, .ref hs, .ref hc, .ref hp, .ref hg, .int 0, .int 0, .int 0, .int td, .int sd]))] H1 := hP
    have hD : va_D A [(h0, .inr (6, [.ref hu, .ref hs, .ref hc, .ref hp, .ref hg, .int 0, .int 0, .int 0, .int td, .int sd]))] := hD
    have hK : va_K D vwCl [] s := hK
    clear hS1
    exact vx_out (fun x hx => (hnt x hx).elim) hlocks hce_1 hcv_1 hcl_1 (fun t ht hvm => z_through trivial rfl hAe hP hK hD hS [0] rfl rfl [] rfl ht hvm) hS.2.2 (Nat.le_of_ble_eq_true rfl) (Nat.le_of_ble_eq_true rfl)
  · obtain ⟨hP, hK, hD⟩ := z_back (wc := [(h0, .inr (6, [.ref hu, .ref hs, .ref hc, .ref hp, .ref hg, .int 0, .int 0, .int 0, .int td, .int sd]))]) (wr := []) (w1 := [(h0, .inr (6, [.ref hu, .ref hs, .ref hc, .ref hp, .ref hg, .int 0, .int 0, .int 0, .int td, .int sd]))]) (tr := []) hP hK hD [0] [] rfl rfl rfl (by decide) ht_1 hvm_1 hk_1 hF_1 [] rfl hB_1
    have hS := hS1
    have hP : va_P D vwCl [(h0, .inr (6, [.ref hu, .ref hs, .ref hc, .ref hp, .ref hg, .int 0, .int 0, .int 0, .int td, .int sd]))] H1 := hP
    have hD : va_D A [(h0, .inr (6, [.ref hu, .ref hs, .ref hc, .ref hp, .ref hg, .int 0, .int 0, .int 0, .int td, .int sd]))] := hD
    have hK : va_K D vwCl [] s := hK
    clear hS1
    exact absurd (Int32.not_lt.mp hw_1.1) (Int32.not_le.mpr hw_1.2)
theorem dX4_canWork_0 : decode cX4_canWork 0 = .ok (.aload_n 0, 1) := by decide +kernel
theorem dX4_canWork_1 : decode cX4_canWork 1 = .ok (.iload_n 1, 1) := by decide +kernel
theorem dX4_canWork_2 : decode cX4_canWork 2 = .ok (.invokevirtual 264, 3) := by decide +kernel
set_option maxHeartbeats 4000000 in
set_option maxRecDepth 100000 in
theorem f_X4_canWork (l : Launch) (hst : l.stackTraces = false) (D : va_G) (h0 : Nat) (hu : Nat) (hs : Nat) (hc : Nat) (hp : Nat) (hg : Nat) (td : Int32) (sd : Int32) (a0 : Int32) (sz : Nat)  : vx_Met l yX4_canWork [Cond.code yX4_canWork cX4_canWork 2 (some .boolean)] ({ frames := 7, cells := 1, slots := 6, locals := 130 }) (z_Pc D [.ref h0, .int a0] [(h0, .inr (6, [.ref hu, .ref hs, .ref hc, .ref hp, .ref hg, .int 0, .int 0, .int 0, .int td, .int sd]))] [] sz) (va_Qi (fun (r : Int32) (_ : Unit) => False) (fun _ t => True) (va_A [(h0, .inr (6, [.ref hu, .ref hs, .ref hc, .ref hp, .ref hg, .int 0, .int 0, .int 0, .int td, .int sd]))] sz)) (z_T (True) "java/lang/IndexOutOfBoundsException" D [(h0, .inr (6, [.ref hu, .ref hs, .ref hc, .ref hp, .ref hg, .int 0, .int 0, .int 0, .int td, .int sd]))] [] sz) 1 6 (va_A [(h0, .inr (6, [.ref hu, .ref hs, .ref hc, .ref hp, .ref hg, .int 0, .int 0, .int 0, .int td, .int sd]))] sz) := by
  refine vx_ofW (cc := cX4_canWork) (maxL := 2) (ret := (some .boolean)) (by decide +kernel) rfl ?_
  intro p e s m args below meth c s₁ B hml hnt hv
  obtain ⟨rfl, hsz, hP, hK, hD0, hE, hX0⟩ := hv
  have hx := B.exec
  have hb := B.bytes
  have hr := B.returns
  have hts := z_E.ts (args := [.ref h0, .int a0].toArray) hE
  have hown : s.vm.findClass RX4 = some m.cls := findClass_of_methodNamed B.named
  have hlocks := B.notSynchronized
  subst hsz
  have hD := hD0.self (sz := s.heap.size)
  generalize hAe : va_A [(h0, .inr (6, [.ref hu, .ref hs, .ref hc, .ref hp, .ref hg, .int 0, .int 0, .int 0, .int td, .int sd]))] s.heap.size = A at hD hX0 ⊢
  have hX : z_X A s s.heap := hX0
  have hA : ∀ q : Nat, s.heap.size ≤ q → A q := fun q h => by rw [← hAe]; exact Or.inr h
  have hS : va_S A s.heap s.heap [] := va_S.rf
  have hP : va_P D vwCl [(h0, .inr (6, [.ref hu, .ref hs, .ref hc, .ref hp, .ref hg, .int 0, .int 0, .int 0, .int td, .int sd]))] s.heap := hP
  have hl := lv_entry ([.ref h0, .int a0]) (n := 2) (Nat.le_of_ble_eq_true rfl)
  rw [lg_entry_eq]
  generalize (lg_sl ([.ref h0, .int a0]) ++ List.replicate (2 - (lg_sl ([.ref h0, .int a0])).length) Slot.unset).toArray = ls at hl ⊢
  have hl : lv_has ls 2 [(0, .ref h0), (1, .int a0)] := hl
  skip
  refine lv_aload_n hx hb dX4_canWork_0 rfl (lv_at hl 0 rfl) ?_
  refine lv_iload_n hx hb dX4_canWork_1 rfl (lv_at hl 1 rfl) ?_
  obtain ⟨hb_1, hc_1⟩ := z_call (wc := [(h0, .inr (6, [.ref hu, .ref hs, .ref hc, .ref hp, .ref hg, .int 0, .int 0, .int 0, .int td, .int sd]))]) (tc := []) ([.ref h0, .int a0]) hP hK hD hS hA hE hX [0] rfl rfl [] rfl
  have hF_1 := va_free (wc := [(h0, .inr (6, [.ref hu, .ref hs, .ref hc, .ref hp, .ref hg, .int 0, .int 0, .int 0, .int td, .int sd]))]) hD hS hA [0] rfl
  refine vx_callv (vx_runV (As := [.int a0]) (rest := []) ⟨hx, hb, hml, hown, hts⟩ (c_X4_needCrew l hst D h0 hu hs hc hp hg 0 0 0 td sd a0 _ ) (z_cV 1 hE zw_893 zw_895 zw_44 zw_91 zw_896 rfl rfl rfl (by decide +kernel) ⟨(Nat.le_of_ble_eq_true rfl), (Nat.le_of_ble_eq_true rfl)⟩) ⟨hb_1, va_recv hK hP (ci := 6) (q0 := 0) rfl rfl, hc_1⟩ rfl rfl hl.1 rfl (lv_room (Nat.le_of_ble_eq_true rfl)) dX4_canWork_2 ⟨(Nat.le_of_ble_eq_true rfl), (Nat.le_of_ble_eq_true rfl)⟩) hS (fun q _ h => hF_1 q h) hF_1 (fun q _ h => hF_1 q h) (fun E_1 ce_1 q9_1 u_1 t_1 H1 locs ht_1 hvm_1 hw_1 hB_1 hz_1 hk_1 hS1 hce_1 hcv_1 hcl_1 => ?_) (fun u_1 t_1 H1 locs ht_1 hvm_1 hw_1 hB_1 hz_1 hk_1 hS1 => ?_)
  · obtain ⟨rfl, hB_1⟩ := hB_1
    obtain ⟨hP, hK, hD⟩ := z_back (wc := [(h0, .inr (6, [.ref hu, .ref hs, .ref hc, .ref hp, .ref hg, .int 0, .int 0, .int 0, .int td, .int sd]))]) (wr := []) (w1 := [(h0, .inr (6, [.ref hu, .ref hs, .ref hc, .ref hp, .ref hg, .int 0, .int 0, .int 0, .int td, .int sd]))]) (tr := []) hP hK hD [0] [] rfl rfl rfl (by decide) ht_1 hvm_1 hk_1 hF_1 [] rfl hB_1
    have hS := hS1
    have hP : va_P D vwCl [(h0, .inr (6, [.ref hu, .ref hs, .ref hc, .ref hp, .ref hg, .int 0, .int 0, .int 0, .int td, .int sd]))] H1 := hP
    have hD : va_D A [(h0, .inr (6, [.ref hu, .ref hs, .ref hc, .ref hp, .ref hg, .int 0, .int 0, .int 0, .int td, .int sd]))] := hD
    have hK : va_K D vwCl [] s := hK
    clear hS1
    exact vx_out (fun x hx => (hnt x hx).elim) hlocks hce_1 hcv_1 hcl_1 (fun t ht hvm => z_through trivial rfl hAe hP hK hD hS [0] rfl rfl [] rfl ht hvm) hS.2.2 (Nat.le_of_ble_eq_true rfl) (Nat.le_of_ble_eq_true rfl)
  · obtain ⟨hP, hK, hD⟩ := z_back (wc := [(h0, .inr (6, [.ref hu, .ref hs, .ref hc, .ref hp, .ref hg, .int 0, .int 0, .int 0, .int td, .int sd]))]) (wr := []) (w1 := [(h0, .inr (6, [.ref hu, .ref hs, .ref hc, .ref hp, .ref hg, .int 0, .int 0, .int 0, .int td, .int sd]))]) (tr := []) hP hK hD [0] [] rfl rfl rfl (by decide) ht_1 hvm_1 hk_1 hF_1 [] rfl hB_1
    have hS := hS1
    have hP : va_P D vwCl [(h0, .inr (6, [.ref hu, .ref hs, .ref hc, .ref hp, .ref hg, .int 0, .int 0, .int 0, .int td, .int sd]))] H1 := hP
    have hD : va_D A [(h0, .inr (6, [.ref hu, .ref hs, .ref hc, .ref hp, .ref hg, .int 0, .int 0, .int 0, .int td, .int sd]))] := hD
    have hK : va_K D vwCl [] s := hK
    clear hS1
    exact absurd (Int32.not_lt.mp hw_1.1) (Int32.not_le.mpr hw_1.2)
end
section
theorem dL_addWall_0 : decode cL_addWall 0 = .ok (.aload_n 3, 1) := by decide +kernel
theorem dL_addWall_1 : decode cL_addWall 1 = .ok (.iconst 0, 1) := by decide +kernel
theorem dL_addWall_2 : decode cL_addWall 2 = .ok (.aload_n 0, 1) := by decide +kernel
theorem dL_addWall_3 : decode cL_addWall 3 = .ok (.iload_n 1, 1) := by decide +kernel
theorem dL_addWall_4 : decode cL_addWall 4 = .ok (.iload_n 2, 1) := by decide +kernel
theorem dL_addWall_5 : decode cL_addWall 5 = .ok (.invokevirtual 19, 3) := by decide +kernel
theorem zw_521 : Cond.methodLink RL 19 yX4_addWall ∈ z_Ts := z_m 521 (by decide +kernel) (by decide +kernel)
theorem zw_522 : Cond.instanceMethod yX4_addWall ∈ z_Ts := z_m 522 (by decide +kernel) (by decide +kernel)
theorem zw_523 : Cond.selects RX4 yX4_addWall yX4_addWall ∈ z_Ts := z_m 523 (by decide +kernel) (by decide +kernel)
theorem zw_524 : Cond.code yX4_addWall cX4_addWall 3 (some .int) ∈ z_Ts := z_m 524 (by decide +kernel) (by decide +kernel)
theorem zw_520 : Cond.classLink RL 23 "java/lang/IndexOutOfBoundsException" ∈ z_Ts := z_m 520 (by decide +kernel) (by decide +kernel)
theorem zw_531 : Cond.castable "java/lang/IndexOutOfBoundsException" "java/lang/IndexOutOfBoundsException" ∈ z_Ts := z_m 531 (by decide +kernel) (by decide +kernel)
theorem dL_addWall_13 : decode cL_addWall 13 = .ok (.astore 4, 2) := by decide +kernel
theorem dL_addWall_15 : decode cL_addWall 15 = .ok (.iconst 1, 1) := by decide +kernel
theorem dL_addWall_16 : decode cL_addWall 16 = .ok (.ireturn, 1) := by decide +kernel
set_option maxHeartbeats 4000000 in
set_option maxRecDepth 100000 in
theorem f_L_addWall (l : Launch) (hst : l.stackTraces = false) (D : va_G) (h0 : Nat) (hu : Nat) (hs : Nat) (hc : Nat) (hp : Nat) (hg : Nat) (td : Int32) (sd : Int32) (a0 : Int32) (a1 : Int32) (ho : Nat) (fo : Nat → Int64) (cJ : ClassId) (sz : Nat)  : vx_Met l yL_addWall [Cond.codeWith yL_addWall cL_addWall 5 (some .int) [(0, 10, 13, 23), (0, 10, 17, 13), (0, 10, 21, 15)]] ({ frames := 8, cells := 1, slots := 6, locals := 170 }) (z_Pc D [.ref h0, .int a0, .int a1, .ref ho] [(h0, .inr (6, [.ref hu, .ref hs, .ref hc, .ref hp, .ref hg, .int 0, .int 0, .int 0, .int td, .int sd])), (ho, .inl (cJ, 1, .inr (.inl fo)))] [(cJ, .long)] sz) (va_Qi (fun (r : Int32) (_ : Unit) => r = 1) (fun _ t => z_W D [(h0, .inr (6, [.ref hu, .ref hs, .ref hc, .ref hp, .ref hg, .int 0, .int 0, .int 0, .int td, .int sd])), (ho, .inl (cJ, 1, .inr (.inl fo)))] [(cJ, .long)] (va_A [(h0, .inr (6, [.ref hu, .ref hs, .ref hc, .ref hp, .ref hg, .int 0, .int 0, .int 0, .int td, .int sd])), (ho, .inl (cJ, 1, .inr (.inl fo)))] sz) t) (va_A [(h0, .inr (6, [.ref hu, .ref hs, .ref hc, .ref hp, .ref hg, .int 0, .int 0, .int 0, .int td, .int sd])), (ho, .inl (cJ, 1, .inr (.inl fo)))] sz)) (z_T (False) "none" D [(h0, .inr (6, [.ref hu, .ref hs, .ref hc, .ref hp, .ref hg, .int 0, .int 0, .int 0, .int td, .int sd])), (ho, .inl (cJ, 1, .inr (.inl fo)))] [(cJ, .long)] sz) 1 6 (va_A [(h0, .inr (6, [.ref hu, .ref hs, .ref hc, .ref hp, .ref hg, .int 0, .int 0, .int 0, .int td, .int sd])), (ho, .inl (cJ, 1, .inr (.inl fo)))] sz) := by
  refine vx_ofWH (cc := cL_addWall) (maxL := 5) (ret := (some .int)) (hh := [(0, 10, 13, 23), (0, 10, 17, 13), (0, 10, 21, 15)]) (by decide +kernel) rfl ?_
  intro p e s m args below meth c s₁ B hml hv
  obtain ⟨rfl, hsz, hP, hK, hD0, hE, hX0⟩ := hv
  have hx := B.exec
  have hb := B.bytes
  have hr := B.returns
  have hts := z_E.ts (args := [.ref h0, .int a0, .int a1, .ref ho].toArray) hE
  have hown : s.vm.findClass RL = some m.cls := findClass_of_methodNamed B.named
  have hlocks := B.notSynchronized
  have htb := vx_table (x := yL_addWall) B (atoms_spec (ws := [Cond.codeWith yL_addWall cL_addWall 5 (some .int) [(0, 10, 13, 23), (0, 10, 17, 13), (0, 10, 21, 15)]]) B.pre _ List.mem_cons_self)
  subst hsz
  have hD := hD0.self (sz := s.heap.size)
  generalize hAe : va_A [(h0, .inr (6, [.ref hu, .ref hs, .ref hc, .ref hp, .ref hg, .int 0, .int 0, .int 0, .int td, .int sd])), (ho, .inl (cJ, 1, .inr (.inl fo)))] s.heap.size = A at hD hX0 ⊢
  have hX : z_X A s s.heap := hX0
  have hA : ∀ q : Nat, s.heap.size ≤ q → A q := fun q h => by rw [← hAe]; exact Or.inr h
  have hS : va_S A s.heap s.heap [] := va_S.rf
  have hP : va_P D vwCl [(h0, .inr (6, [.ref hu, .ref hs, .ref hc, .ref hp, .ref hg, .int 0, .int 0, .int 0, .int td, .int sd])), (ho, .inl (cJ, 1, .inr (.inl fo)))] s.heap := hP
  have hl := lv_entry ([.ref h0, .int a0, .int a1, .ref ho]) (n := 5) (Nat.le_of_ble_eq_true rfl)
  rw [lg_entry_eq]
  generalize (lg_sl ([.ref h0, .int a0, .int a1, .ref ho]) ++ List.replicate (5 - (lg_sl ([.ref h0, .int a0, .int a1, .ref ho])).length) Slot.unset).toArray = ls at hl ⊢
  have hl : lv_has ls 5 [(0, .ref h0), (1, .int a0), (2, .int a1), (3, .ref ho)] := hl
  skip
  refine lv_aload_n hx hb dL_addWall_0 rfl (lv_at hl 3 rfl) ?_
  refine lv_iconst (v := 0) hx hb dL_addWall_1 (by decide) ?_
  refine lv_aload_n hx hb dL_addWall_2 rfl (lv_at hl 0 rfl) ?_
  refine lv_iload_n hx hb dL_addWall_3 rfl (lv_at hl 1 rfl) ?_
  refine lv_iload_n hx hb dL_addWall_4 rfl (lv_at hl 2 rfl) ?_
  obtain ⟨hb_1, hc_1⟩ := z_call (wc := [(h0, .inr (6, [.ref hu, .ref hs, .ref hc, .ref hp, .ref hg, .int 0, .int 0, .int 0, .int td, .int sd]))]) (tc := []) ([.ref h0, .int a0, .int a1]) hP hK hD hS hA hE hX [0] rfl rfl [] rfl
  have hF_1 := va_free (wc := [(h0, .inr (6, [.ref hu, .ref hs, .ref hc, .ref hp, .ref hg, .int 0, .int 0, .int 0, .int td, .int sd]))]) hD hS hA [0] rfl
  refine vx_calli (vx_runV (As := [.int a0, .int a1]) (rest := [.int 0, .ref ho]) ⟨hx, hb, hml, hown, hts⟩ (f_X4_addWall l hst D h0 hu hs hc hp hg td sd a0 a1 _ ) (z_cV 2 hE zw_521 zw_522 zw_523 zw_91 zw_524 rfl rfl rfl (by decide +kernel) ⟨(Nat.le_of_ble_eq_true rfl), (Nat.le_of_ble_eq_true rfl)⟩) ⟨hb_1, va_recv hK hP (ci := 6) (q0 := 0) rfl rfl, hc_1⟩ rfl rfl hl.1 rfl (lv_room (Nat.le_of_ble_eq_true rfl)) dL_addWall_5 ⟨(Nat.le_of_ble_eq_true rfl), (Nat.le_of_ble_eq_true rfl)⟩) hS (fun q _ h => hF_1 q h) hF_1 (fun q _ h => hF_1 q h) (fun E_1 ce_1 q9_1 u_1 t_1 H1 locs ht_1 hvm_1 hw_1 hB_1 hz_1 hk_1 hS1 hce_1 hcv_1 hcl_1 => ?_) (fun r_1 u_1 t_1 H1 locs ht_1 hvm_1 hw_1 hB_1 hz_1 hk_1 hS1 => ?_)
  · obtain ⟨rfl, hB_1⟩ := hB_1
    obtain ⟨hP, hK, hD⟩ := z_back (wc := [(h0, .inr (6, [.ref hu, .ref hs, .ref hc, .ref hp, .ref hg, .int 0, .int 0, .int 0, .int td, .int sd]))]) (wr := [(ho, .inl (cJ, 1, .inr (.inl fo)))]) (w1 := [(h0, .inr (6, [.ref hu, .ref hs, .ref hc, .ref hp, .ref hg, .int 0, .int 0, .int 0, .int td, .int sd]))]) (tr := [(cJ, .long)]) hP hK hD [0] [1] rfl rfl rfl (by decide) ht_1 hvm_1 hk_1 hF_1 [0] rfl hB_1
    have hS := hS1
    have hP : va_P D vwCl [(ho, .inl (cJ, 1, .inr (.inl fo))), (h0, .inr (6, [.ref hu, .ref hs, .ref hc, .ref hp, .ref hg, .int 0, .int 0, .int 0, .int td, .int sd]))] H1 := hP
    have hD : va_D A [(ho, .inl (cJ, 1, .inr (.inl fo))), (h0, .inr (6, [.ref hu, .ref hs, .ref hc, .ref hp, .ref hg, .int 0, .int 0, .int 0, .int td, .int sd]))] := hD
    have hK : va_K D vwCl [(cJ, .long)] s := hK
    clear hS1
    refine vx_catch (name := "java/lang/IndexOutOfBoundsException") hown [] ⟨0, 10, 13, 23⟩ [⟨0, 10, 17, 13⟩, ⟨0, 10, 21, 15⟩] (htb.trans rfl) (fun z hz => nomatch hz) (by decide) (by decide) (hts _ zw_520) (hts _ zw_531) hce_1 hcv_1 hcl_1 ?_
    refine lv_astore (lv' := [(4, .ref q9_1), (0, .ref h0), (1, .int a0), (2, .int a1), (3, .ref ho)]) hx hb dL_addWall_13 hl (by decide) rfl (fun ls hl => ?_)
    refine lv_iconst (v := 1) hx hb dL_addWall_15 (by decide) ?_
    exact vx_ret (W.iret (v := 1) hx hb hr (fun t ht hW => ⟨⟨1, (), rfl, rfl, z_end hP hK hD [1, 0] rfl rfl [0] rfl ht hW.alike⟩, hS.F ht⟩) hS.2.2 dL_addWall_16)
  · exact hw_1.elim
theorem dL_plan_0 : decode cL_plan 0 = .ok (.aload_n 3, 1) := by decide +kernel
theorem dL_plan_1 : decode cL_plan 1 = .ok (.iconst 0, 1) := by decide +kernel
theorem dL_plan_2 : decode cL_plan 2 = .ok (.aload_n 0, 1) := by decide +kernel
theorem dL_plan_3 : decode cL_plan 3 = .ok (.iload_n 1, 1) := by decide +kernel
theorem dL_plan_4 : decode cL_plan 4 = .ok (.iload_n 2, 1) := by decide +kernel
theorem dL_plan_5 : decode cL_plan 5 = .ok (.invokevirtual 25, 3) := by decide +kernel
theorem zw_554 : Cond.methodLink RL 25 yX4_plan ∈ z_Ts := z_m 554 (by decide +kernel) (by decide +kernel)
theorem zw_555 : Cond.instanceMethod yX4_plan ∈ z_Ts := z_m 555 (by decide +kernel) (by decide +kernel)
theorem zw_556 : Cond.selects RX4 yX4_plan yX4_plan ∈ z_Ts := z_m 556 (by decide +kernel) (by decide +kernel)
theorem zw_557 : Cond.code yX4_plan cX4_plan 3 (some .int) ∈ z_Ts := z_m 557 (by decide +kernel) (by decide +kernel)
theorem dL_plan_13 : decode cL_plan 13 = .ok (.astore 4, 2) := by decide +kernel
theorem dL_plan_15 : decode cL_plan 15 = .ok (.iconst 1, 1) := by decide +kernel
theorem dL_plan_16 : decode cL_plan 16 = .ok (.ireturn, 1) := by decide +kernel
set_option maxHeartbeats 4000000 in
set_option maxRecDepth 100000 in
theorem f_L_plan (l : Launch) (hst : l.stackTraces = false) (D : va_G) (h0 : Nat) (hu : Nat) (hs : Nat) (hc : Nat) (hp : Nat) (hg : Nat) (td : Int32) (sd : Int32) (a0 : Int32) (a1 : Int32) (ho : Nat) (fo : Nat → Int64) (cJ : ClassId) (sz : Nat)  : vx_Met l yL_plan [Cond.codeWith yL_plan cL_plan 5 (some .int) [(0, 10, 13, 23), (0, 10, 17, 13), (0, 10, 21, 15)]] ({ frames := 8, cells := 1, slots := 6, locals := 170 }) (z_Pc D [.ref h0, .int a0, .int a1, .ref ho] [(h0, .inr (6, [.ref hu, .ref hs, .ref hc, .ref hp, .ref hg, .int 0, .int 0, .int 0, .int td, .int sd])), (ho, .inl (cJ, 1, .inr (.inl fo)))] [(cJ, .long)] sz) (va_Qi (fun (r : Int32) (_ : Unit) => r = 1) (fun _ t => z_W D [(h0, .inr (6, [.ref hu, .ref hs, .ref hc, .ref hp, .ref hg, .int 0, .int 0, .int 0, .int td, .int sd])), (ho, .inl (cJ, 1, .inr (.inl fo)))] [(cJ, .long)] (va_A [(h0, .inr (6, [.ref hu, .ref hs, .ref hc, .ref hp, .ref hg, .int 0, .int 0, .int 0, .int td, .int sd])), (ho, .inl (cJ, 1, .inr (.inl fo)))] sz) t) (va_A [(h0, .inr (6, [.ref hu, .ref hs, .ref hc, .ref hp, .ref hg, .int 0, .int 0, .int 0, .int td, .int sd])), (ho, .inl (cJ, 1, .inr (.inl fo)))] sz)) (z_T (False) "none" D [(h0, .inr (6, [.ref hu, .ref hs, .ref hc, .ref hp, .ref hg, .int 0, .int 0, .int 0, .int td, .int sd])), (ho, .inl (cJ, 1, .inr (.inl fo)))] [(cJ, .long)] sz) 1 6 (va_A [(h0, .inr (6, [.ref hu, .ref hs, .ref hc, .ref hp, .ref hg, .int 0, .int 0, .int 0, .int td, .int sd])), (ho, .inl (cJ, 1, .inr (.inl fo)))] sz) := by
  refine vx_ofWH (cc := cL_plan) (maxL := 5) (ret := (some .int)) (hh := [(0, 10, 13, 23), (0, 10, 17, 13), (0, 10, 21, 15)]) (by decide +kernel) rfl ?_
  intro p e s m args below meth c s₁ B hml hv
  obtain ⟨rfl, hsz, hP, hK, hD0, hE, hX0⟩ := hv
  have hx := B.exec
  have hb := B.bytes
  have hr := B.returns
  have hts := z_E.ts (args := [.ref h0, .int a0, .int a1, .ref ho].toArray) hE
  have hown : s.vm.findClass RL = some m.cls := findClass_of_methodNamed B.named
  have hlocks := B.notSynchronized
  have htb := vx_table (x := yL_plan) B (atoms_spec (ws := [Cond.codeWith yL_plan cL_plan 5 (some .int) [(0, 10, 13, 23), (0, 10, 17, 13), (0, 10, 21, 15)]]) B.pre _ List.mem_cons_self)
  subst hsz
  have hD := hD0.self (sz := s.heap.size)
  generalize hAe : va_A [(h0, .inr (6, [.ref hu, .ref hs, .ref hc, .ref hp, .ref hg, .int 0, .int 0, .int 0, .int td, .int sd])), (ho, .inl (cJ, 1, .inr (.inl fo)))] s.heap.size = A at hD hX0 ⊢
  have hX : z_X A s s.heap := hX0
  have hA : ∀ q : Nat, s.heap.size ≤ q → A q := fun q h => by rw [← hAe]; exact Or.inr h
  have hS : va_S A s.heap s.heap [] := va_S.rf
  have hP : va_P D vwCl [(h0, .inr (6, [.ref hu, .ref hs, .ref hc, .ref hp, .ref hg, .int 0, .int 0, .int 0, .int td, .int sd])), (ho, .inl (cJ, 1, .inr (.inl fo)))] s.heap := hP
  have hl := lv_entry ([.ref h0, .int a0, .int a1, .ref ho]) (n := 5) (Nat.le_of_ble_eq_true rfl)
  rw [lg_entry_eq]
  generalize (lg_sl ([.ref h0, .int a0, .int a1, .ref ho]) ++ List.replicate (5 - (lg_sl ([.ref h0, .int a0, .int a1, .ref ho])).length) Slot.unset).toArray = ls at hl ⊢
  have hl : lv_has ls 5 [(0, .ref h0), (1, .int a0), (2, .int a1), (3, .ref ho)] := hl
  skip
  refine lv_aload_n hx hb dL_plan_0 rfl (lv_at hl 3 rfl) ?_
  refine lv_iconst (v := 0) hx hb dL_plan_1 (by decide) ?_
  refine lv_aload_n hx hb dL_plan_2 rfl (lv_at hl 0 rfl) ?_
  refine lv_iload_n hx hb dL_plan_3 rfl (lv_at hl 1 rfl) ?_
  refine lv_iload_n hx hb dL_plan_4 rfl (lv_at hl 2 rfl) ?_
  obtain ⟨hb_1, hc_1⟩ := z_call (wc := [(h0, .inr (6, [.ref hu, .ref hs, .ref hc, .ref hp, .ref hg, .int 0, .int 0, .int 0, .int td, .int sd]))]) (tc := []) ([.ref h0, .int a0, .int a1]) hP hK hD hS hA hE hX [0] rfl rfl [] rfl
  have hF_1 := va_free (wc := [(h0, .inr (6, [.ref hu, .ref hs, .ref hc, .ref hp, .ref hg, .int 0, .int 0, .int 0, .int td, .int sd]))]) hD hS hA [0] rfl
  refine vx_calli (vx_runV (As := [.int a0, .int a1]) (rest := [.int 0, .ref ho]) ⟨hx, hb, hml, hown, hts⟩ (f_X4_plan l hst D h0 hu hs hc hp hg td sd a0 a1 _ ) (z_cV 2 hE zw_554 zw_555 zw_556 zw_91 zw_557 rfl rfl rfl (by decide +kernel) ⟨(Nat.le_of_ble_eq_true rfl), (Nat.le_of_ble_eq_true rfl)⟩) ⟨hb_1, va_recv hK hP (ci := 6) (q0 := 0) rfl rfl, hc_1⟩ rfl rfl hl.1 rfl (lv_room (Nat.le_of_ble_eq_true rfl)) dL_plan_5 ⟨(Nat.le_of_ble_eq_true rfl), (Nat.le_of_ble_eq_true rfl)⟩) hS (fun q _ h => hF_1 q h) hF_1 (fun q _ h => hF_1 q h) (fun E_1 ce_1 q9_1 u_1 t_1 H1 locs ht_1 hvm_1 hw_1 hB_1 hz_1 hk_1 hS1 hce_1 hcv_1 hcl_1 => ?_) (fun r_1 u_1 t_1 H1 locs ht_1 hvm_1 hw_1 hB_1 hz_1 hk_1 hS1 => ?_)
  · obtain ⟨rfl, hB_1⟩ := hB_1
    obtain ⟨hP, hK, hD⟩ := z_back (wc := [(h0, .inr (6, [.ref hu, .ref hs, .ref hc, .ref hp, .ref hg, .int 0, .int 0, .int 0, .int td, .int sd]))]) (wr := [(ho, .inl (cJ, 1, .inr (.inl fo)))]) (w1 := [(h0, .inr (6, [.ref hu, .ref hs, .ref hc, .ref hp, .ref hg, .int 0, .int 0, .int 0, .int td, .int sd]))]) (tr := [(cJ, .long)]) hP hK hD [0] [1] rfl rfl rfl (by decide) ht_1 hvm_1 hk_1 hF_1 [0] rfl hB_1
    have hS := hS1
    have hP : va_P D vwCl [(ho, .inl (cJ, 1, .inr (.inl fo))), (h0, .inr (6, [.ref hu, .ref hs, .ref hc, .ref hp, .ref hg, .int 0, .int 0, .int 0, .int td, .int sd]))] H1 := hP
    have hD : va_D A [(ho, .inl (cJ, 1, .inr (.inl fo))), (h0, .inr (6, [.ref hu, .ref hs, .ref hc, .ref hp, .ref hg, .int 0, .int 0, .int 0, .int td, .int sd]))] := hD
    have hK : va_K D vwCl [(cJ, .long)] s := hK
    clear hS1
    refine vx_catch (name := "java/lang/IndexOutOfBoundsException") hown [] ⟨0, 10, 13, 23⟩ [⟨0, 10, 17, 13⟩, ⟨0, 10, 21, 15⟩] (htb.trans rfl) (fun z hz => nomatch hz) (by decide) (by decide) (hts _ zw_520) (hts _ zw_531) hce_1 hcv_1 hcl_1 ?_
    refine lv_astore (lv' := [(4, .ref q9_1), (0, .ref h0), (1, .int a0), (2, .int a1), (3, .ref ho)]) hx hb dL_plan_13 hl (by decide) rfl (fun ls hl => ?_)
    refine lv_iconst (v := 1) hx hb dL_plan_15 (by decide) ?_
    exact vx_ret (W.iret (v := 1) hx hb hr (fun t ht hW => ⟨⟨1, (), rfl, rfl, z_end hP hK hD [1, 0] rfl rfl [0] rfl ht hW.alike⟩, hS.F ht⟩) hS.2.2 dL_plan_16)
  · exact hw_1.elim
theorem dL_rest_0 : decode cL_rest 0 = .ok (.aload_n 3, 1) := by decide +kernel
theorem dL_rest_1 : decode cL_rest 1 = .ok (.iconst 0, 1) := by decide +kernel
theorem dL_rest_2 : decode cL_rest 2 = .ok (.aload_n 0, 1) := by decide +kernel
theorem dL_rest_3 : decode cL_rest 3 = .ok (.iload_n 1, 1) := by decide +kernel
theorem dL_rest_4 : decode cL_rest 4 = .ok (.iload_n 2, 1) := by decide +kernel
theorem dL_rest_5 : decode cL_rest 5 = .ok (.invokevirtual 28, 3) := by decide +kernel
theorem zw_566 : Cond.methodLink RL 28 yX4_rest ∈ z_Ts := z_m 566 (by decide +kernel) (by decide +kernel)
theorem zw_567 : Cond.instanceMethod yX4_rest ∈ z_Ts := z_m 567 (by decide +kernel) (by decide +kernel)
theorem zw_568 : Cond.selects RX4 yX4_rest yX4_rest ∈ z_Ts := z_m 568 (by decide +kernel) (by decide +kernel)
theorem zw_569 : Cond.code yX4_rest cX4_rest 4 (some .boolean) ∈ z_Ts := z_m 569 (by decide +kernel) (by decide +kernel)
theorem dL_rest_20 : decode cL_rest 20 = .ok (.astore 4, 2) := by decide +kernel
theorem dL_rest_22 : decode cL_rest 22 = .ok (.iconst 1, 1) := by decide +kernel
theorem dL_rest_23 : decode cL_rest 23 = .ok (.ireturn, 1) := by decide +kernel
set_option maxHeartbeats 4000000 in
set_option maxRecDepth 100000 in
theorem f_L_rest (l : Launch) (hst : l.stackTraces = false) (D : va_G) (h0 : Nat) (hu : Nat) (hs : Nat) (hc : Nat) (hp : Nat) (hg : Nat) (td : Int32) (sd : Int32) (a0 : Int32) (a1 : Int32) (ho : Nat) (fo : Nat → Int64) (cJ : ClassId) (sz : Nat)  : vx_Met l yL_rest [Cond.codeWith yL_rest cL_rest 5 (some .int) [(0, 17, 20, 23), (0, 17, 24, 15), (0, 17, 28, 13)]] ({ frames := 8, cells := 1, slots := 6, locals := 170 }) (z_Pc D [.ref h0, .int a0, .int a1, .ref ho] [(h0, .inr (6, [.ref hu, .ref hs, .ref hc, .ref hp, .ref hg, .int 0, .int 0, .int 0, .int td, .int sd])), (ho, .inl (cJ, 1, .inr (.inl fo)))] [(cJ, .long)] sz) (va_Qi (fun (r : Int32) (_ : Unit) => r = 1) (fun _ t => z_W D [(h0, .inr (6, [.ref hu, .ref hs, .ref hc, .ref hp, .ref hg, .int 0, .int 0, .int 0, .int td, .int sd])), (ho, .inl (cJ, 1, .inr (.inl fo)))] [(cJ, .long)] (va_A [(h0, .inr (6, [.ref hu, .ref hs, .ref hc, .ref hp, .ref hg, .int 0, .int 0, .int 0, .int td, .int sd])), (ho, .inl (cJ, 1, .inr (.inl fo)))] sz) t) (va_A [(h0, .inr (6, [.ref hu, .ref hs, .ref hc, .ref hp, .ref hg, .int 0, .int 0, .int 0, .int td, .int sd])), (ho, .inl (cJ, 1, .inr (.inl fo)))] sz)) (z_T (False) "none" D [(h0, .inr (6, [.ref hu, .ref hs, .ref hc, .ref hp, .ref hg, .int 0, .int 0, .int 0, .int td, .int sd])), (ho, .inl (cJ, 1, .inr (.inl fo)))] [(cJ, .long)] sz) 1 6 (va_A [(h0, .inr (6, [.ref hu, .ref hs, .ref hc, .ref hp, .ref hg, .int 0, .int 0, .int 0, .int td, .int sd])), (ho, .inl (cJ, 1, .inr (.inl fo)))] sz) := by
  refine vx_ofWH (cc := cL_rest) (maxL := 5) (ret := (some .int)) (hh := [(0, 17, 20, 23), (0, 17, 24, 15), (0, 17, 28, 13)]) (by decide +kernel) rfl ?_
  intro p e s m args below meth c s₁ B hml hv
  obtain ⟨rfl, hsz, hP, hK, hD0, hE, hX0⟩ := hv
  have hx := B.exec
  have hb := B.bytes
  have hr := B.returns
  have hts := z_E.ts (args := [.ref h0, .int a0, .int a1, .ref ho].toArray) hE
  have hown : s.vm.findClass RL = some m.cls := findClass_of_methodNamed B.named
  have hlocks := B.notSynchronized
  have htb := vx_table (x := yL_rest) B (atoms_spec (ws := [Cond.codeWith yL_rest cL_rest 5 (some .int) [(0, 17, 20, 23), (0, 17, 24, 15), (0, 17, 28, 13)]]) B.pre _ List.mem_cons_self)
  subst hsz
  have hD := hD0.self (sz := s.heap.size)
  generalize hAe : va_A [(h0, .inr (6, [.ref hu, .ref hs, .ref hc, .ref hp, .ref hg, .int 0, .int 0, .int 0, .int td, .int sd])), (ho, .inl (cJ, 1, .inr (.inl fo)))] s.heap.size = A at hD hX0 ⊢
  have hX : z_X A s s.heap := hX0
  have hA : ∀ q : Nat, s.heap.size ≤ q → A q := fun q h => by rw [← hAe]; exact Or.inr h
  have hS : va_S A s.heap s.heap [] := va_S.rf
  have hP : va_P D vwCl [(h0, .inr (6, [.ref hu, .ref hs, .ref hc, .ref hp, .ref hg, .int 0, .int 0, .int 0, .int td, .int sd])), (ho, .inl (cJ, 1, .inr (.inl fo)))] s.heap := hP
  have hl := lv_entry ([.ref h0, .int a0, .int a1, .ref ho]) (n := 5) (Nat.le_of_ble_eq_true rfl)
  rw [lg_entry_eq]
  generalize (lg_sl ([.ref h0, .int a0, .int a1, .ref ho]) ++ List.replicate (5 - (lg_sl ([.ref h0, .int a0, .int a1, .ref ho])).length) Slot.unset).toArray = ls at hl ⊢
  have hl : lv_has ls 5 [(0, .ref h0), (1, .int a0), (2, .int a1), (3, .ref ho)] := hl
  skip
  refine lv_aload_n hx hb dL_rest_0 rfl (lv_at hl 3 rfl) ?_
  refine lv_iconst (v := 0) hx hb dL_rest_1 (by decide) ?_
  refine lv_aload_n hx hb dL_rest_2 rfl (lv_at hl 0 rfl) ?_
  refine lv_iload_n hx hb dL_rest_3 rfl (lv_at hl 1 rfl) ?_
  refine lv_iload_n hx hb dL_rest_4 rfl (lv_at hl 2 rfl) ?_
  obtain ⟨hb_1, hc_1⟩ := z_call (wc := [(h0, .inr (6, [.ref hu, .ref hs, .ref hc, .ref hp, .ref hg, .int 0, .int 0, .int 0, .int td, .int sd]))]) (tc := []) ([.ref h0, .int a0, .int a1]) hP hK hD hS hA hE hX [0] rfl rfl [] rfl
  have hF_1 := va_free (wc := [(h0, .inr (6, [.ref hu, .ref hs, .ref hc, .ref hp, .ref hg, .int 0, .int 0, .int 0, .int td, .int sd]))]) hD hS hA [0] rfl
  refine vx_calli (vx_runV (As := [.int a0, .int a1]) (rest := [.int 0, .ref ho]) ⟨hx, hb, hml, hown, hts⟩ (f_X4_rest l hst D h0 hu hs hc hp hg td sd a0 a1 _ ) (z_cV 2 hE zw_566 zw_567 zw_568 zw_91 zw_569 rfl rfl rfl (by decide +kernel) ⟨(Nat.le_of_ble_eq_true rfl), (Nat.le_of_ble_eq_true rfl)⟩) ⟨hb_1, va_recv hK hP (ci := 6) (q0 := 0) rfl rfl, hc_1⟩ rfl rfl hl.1 rfl (lv_room (Nat.le_of_ble_eq_true rfl)) dL_rest_5 ⟨(Nat.le_of_ble_eq_true rfl), (Nat.le_of_ble_eq_true rfl)⟩) hS (fun q _ h => hF_1 q h) hF_1 (fun q _ h => hF_1 q h) (fun E_1 ce_1 q9_1 u_1 t_1 H1 locs ht_1 hvm_1 hw_1 hB_1 hz_1 hk_1 hS1 hce_1 hcv_1 hcl_1 => ?_) (fun r_1 u_1 t_1 H1 locs ht_1 hvm_1 hw_1 hB_1 hz_1 hk_1 hS1 => ?_)
  · obtain ⟨rfl, hB_1⟩ := hB_1
    obtain ⟨hP, hK, hD⟩ := z_back (wc := [(h0, .inr (6, [.ref hu, .ref hs, .ref hc, .ref hp, .ref hg, .int 0, .int 0, .int 0, .int td, .int sd]))]) (wr := [(ho, .inl (cJ, 1, .inr (.inl fo)))]) (w1 := [(h0, .inr (6, [.ref hu, .ref hs, .ref hc, .ref hp, .ref hg, .int 0, .int 0, .int 0, .int td, .int sd]))]) (tr := [(cJ, .long)]) hP hK hD [0] [1] rfl rfl rfl (by decide) ht_1 hvm_1 hk_1 hF_1 [0] rfl hB_1
    have hS := hS1
    have hP : va_P D vwCl [(ho, .inl (cJ, 1, .inr (.inl fo))), (h0, .inr (6, [.ref hu, .ref hs, .ref hc, .ref hp, .ref hg, .int 0, .int 0, .int 0, .int td, .int sd]))] H1 := hP
    have hD : va_D A [(ho, .inl (cJ, 1, .inr (.inl fo))), (h0, .inr (6, [.ref hu, .ref hs, .ref hc, .ref hp, .ref hg, .int 0, .int 0, .int 0, .int td, .int sd]))] := hD
    have hK : va_K D vwCl [(cJ, .long)] s := hK
    clear hS1
    refine vx_catch (name := "java/lang/IndexOutOfBoundsException") hown [] ⟨0, 17, 20, 23⟩ [⟨0, 17, 24, 15⟩, ⟨0, 17, 28, 13⟩] (htb.trans rfl) (fun z hz => nomatch hz) (by decide) (by decide) (hts _ zw_520) (hts _ zw_531) hce_1 hcv_1 hcl_1 ?_
    refine lv_astore (lv' := [(4, .ref q9_1), (0, .ref h0), (1, .int a0), (2, .int a1), (3, .ref ho)]) hx hb dL_rest_20 hl (by decide) rfl (fun ls hl => ?_)
    refine lv_iconst (v := 1) hx hb dL_rest_22 (by decide) ?_
    exact vx_ret (W.iret (v := 1) hx hb hr (fun t ht hW => ⟨⟨1, (), rfl, rfl, z_end hP hK hD [1, 0] rfl rfl [0] rfl ht hW.alike⟩, hS.F ht⟩) hS.2.2 dL_rest_23)
  · exact hw_1.elim
theorem dL_notice_0 : decode cL_notice 0 = .ok (.aload_n 3, 1) := by decide +kernel
theorem dL_notice_1 : decode cL_notice 1 = .ok (.iconst 0, 1) := by decide +kernel
theorem dL_notice_2 : decode cL_notice 2 = .ok (.aload_n 0, 1) := by decide +kernel
theorem dL_notice_3 : decode cL_notice 3 = .ok (.iload_n 1, 1) := by decide +kernel
theorem dL_notice_4 : decode cL_notice 4 = .ok (.iload_n 2, 1) := by decide +kernel
theorem dL_notice_5 : decode cL_notice 5 = .ok (.invokevirtual 32, 3) := by decide +kernel
theorem zw_583 : Cond.methodLink RL 32 yX4_notice ∈ z_Ts := z_m 583 (by decide +kernel) (by decide +kernel)
theorem zw_584 : Cond.instanceMethod yX4_notice ∈ z_Ts := z_m 584 (by decide +kernel) (by decide +kernel)
theorem zw_585 : Cond.selects RX4 yX4_notice yX4_notice ∈ z_Ts := z_m 585 (by decide +kernel) (by decide +kernel)
theorem zw_586 : Cond.code yX4_notice cX4_notice 3 (some .int) ∈ z_Ts := z_m 586 (by decide +kernel) (by decide +kernel)
theorem dL_notice_13 : decode cL_notice 13 = .ok (.astore 4, 2) := by decide +kernel
theorem dL_notice_15 : decode cL_notice 15 = .ok (.iconst 1, 1) := by decide +kernel
theorem dL_notice_16 : decode cL_notice 16 = .ok (.ireturn, 1) := by decide +kernel
set_option maxHeartbeats 4000000 in
set_option maxRecDepth 100000 in
theorem f_L_notice (l : Launch) (hst : l.stackTraces = false) (D : va_G) (h0 : Nat) (hu : Nat) (hs : Nat) (hc : Nat) (hp : Nat) (hg : Nat) (td : Int32) (sd : Int32) (a0 : Int32) (a1 : Int32) (ho : Nat) (fo : Nat → Int64) (cJ : ClassId) (sz : Nat)  : vx_Met l yL_notice [Cond.codeWith yL_notice cL_notice 5 (some .int) [(0, 10, 13, 23), (0, 10, 17, 15), (0, 10, 21, 13)]] ({ frames := 8, cells := 1, slots := 6, locals := 170 }) (z_Pc D [.ref h0, .int a0, .int a1, .ref ho] [(h0, .inr (6, [.ref hu, .ref hs, .ref hc, .ref hp, .ref hg, .int 0, .int 0, .int 0, .int td, .int sd])), (ho, .inl (cJ, 1, .inr (.inl fo)))] [(cJ, .long)] sz) (va_Qi (fun (r : Int32) (_ : Unit) => r = 1) (fun _ t => z_W D [(h0, .inr (6, [.ref hu, .ref hs, .ref hc, .ref hp, .ref hg, .int 0, .int 0, .int 0, .int td, .int sd])), (ho, .inl (cJ, 1, .inr (.inl fo)))] [(cJ, .long)] (va_A [(h0, .inr (6, [.ref hu, .ref hs, .ref hc, .ref hp, .ref hg, .int 0, .int 0, .int 0, .int td, .int sd])), (ho, .inl (cJ, 1, .inr (.inl fo)))] sz) t) (va_A [(h0, .inr (6, [.ref hu, .ref hs, .ref hc, .ref hp, .ref hg, .int 0, .int 0, .int 0, .int td, .int sd])), (ho, .inl (cJ, 1, .inr (.inl fo)))] sz)) (z_T (False) "none" D [(h0, .inr (6, [.ref hu, .ref hs, .ref hc, .ref hp, .ref hg, .int 0, .int 0, .int 0, .int td, .int sd])), (ho, .inl (cJ, 1, .inr (.inl fo)))] [(cJ, .long)] sz) 1 6 (va_A [(h0, .inr (6, [.ref hu, .ref hs, .ref hc, .ref hp, .ref hg, .int 0, .int 0, .int 0, .int td, .int sd])), (ho, .inl (cJ, 1, .inr (.inl fo)))] sz) := by
  refine vx_ofWH (cc := cL_notice) (maxL := 5) (ret := (some .int)) (hh := [(0, 10, 13, 23), (0, 10, 17, 15), (0, 10, 21, 13)]) (by decide +kernel) rfl ?_
  intro p e s m args below meth c s₁ B hml hv
  obtain ⟨rfl, hsz, hP, hK, hD0, hE, hX0⟩ := hv
  have hx := B.exec
  have hb := B.bytes
  have hr := B.returns
  have hts := z_E.ts (args := [.ref h0, .int a0, .int a1, .ref ho].toArray) hE
  have hown : s.vm.findClass RL = some m.cls := findClass_of_methodNamed B.named
  have hlocks := B.notSynchronized
  have htb := vx_table (x := yL_notice) B (atoms_spec (ws := [Cond.codeWith yL_notice cL_notice 5 (some .int) [(0, 10, 13, 23), (0, 10, 17, 15), (0, 10, 21, 13)]]) B.pre _ List.mem_cons_self)
  subst hsz
  have hD := hD0.self (sz := s.heap.size)
  generalize hAe : va_A [(h0, .inr (6, [.ref hu, .ref hs, .ref hc, .ref hp, .ref hg, .int 0, .int 0, .int 0, .int td, .int sd])), (ho, .inl (cJ, 1, .inr (.inl fo)))] s.heap.size = A at hD hX0 ⊢
  have hX : z_X A s s.heap := hX0
  have hA : ∀ q : Nat, s.heap.size ≤ q → A q := fun q h => by rw [← hAe]; exact Or.inr h
  have hS : va_S A s.heap s.heap [] := va_S.rf
  have hP : va_P D vwCl [(h0, .inr (6, [.ref hu, .ref hs, .ref hc, .ref hp, .ref hg, .int 0, .int 0, .int 0, .int td, .int sd])), (ho, .inl (cJ, 1, .inr (.inl fo)))] s.heap := hP
  have hl := lv_entry ([.ref h0, .int a0, .int a1, .ref ho]) (n := 5) (Nat.le_of_ble_eq_true rfl)
  rw [lg_entry_eq]
  generalize (lg_sl ([.ref h0, .int a0, .int a1, .ref ho]) ++ List.replicate (5 - (lg_sl ([.ref h0, .int a0, .int a1, .ref ho])).length) Slot.unset).toArray = ls at hl ⊢
  have hl : lv_has ls 5 [(0, .ref h0), (1, .int a0), (2, .int a1), (3, .ref ho)] := hl
  skip
  refine lv_aload_n hx hb dL_notice_0 rfl (lv_at hl 3 rfl) ?_
  refine lv_iconst (v := 0) hx hb dL_notice_1 (by decide) ?_
  refine lv_aload_n hx hb dL_notice_2 rfl (lv_at hl 0 rfl) ?_
  refine lv_iload_n hx hb dL_notice_3 rfl (lv_at hl 1 rfl) ?_
  refine lv_iload_n hx hb dL_notice_4 rfl (lv_at hl 2 rfl) ?_
  obtain ⟨hb_1, hc_1⟩ := z_call (wc := [(h0, .inr (6, [.ref hu, .ref hs, .ref hc, .ref hp, .ref hg, .int 0, .int 0, .int 0, .int td, .int sd]))]) (tc := []) ([.ref h0, .int a0, .int a1]) hP hK hD hS hA hE hX [0] rfl rfl [] rfl
  have hF_1 := va_free (wc := [(h0, .inr (6, [.ref hu, .ref hs, .ref hc, .ref hp, .ref hg, .int 0, .int 0, .int 0, .int td, .int sd]))]) hD hS hA [0] rfl
  refine vx_calli (vx_runV (As := [.int a0, .int a1]) (rest := [.int 0, .ref ho]) ⟨hx, hb, hml, hown, hts⟩ (f_X4_notice l hst D h0 hu hs hc hp hg td sd a0 a1 _ ) (z_cV 2 hE zw_583 zw_584 zw_585 zw_91 zw_586 rfl rfl rfl (by decide +kernel) ⟨(Nat.le_of_ble_eq_true rfl), (Nat.le_of_ble_eq_true rfl)⟩) ⟨hb_1, va_recv hK hP (ci := 6) (q0 := 0) rfl rfl, hc_1⟩ rfl rfl hl.1 rfl (lv_room (Nat.le_of_ble_eq_true rfl)) dL_notice_5 ⟨(Nat.le_of_ble_eq_true rfl), (Nat.le_of_ble_eq_true rfl)⟩) hS (fun q _ h => hF_1 q h) hF_1 (fun q _ h => hF_1 q h) (fun E_1 ce_1 q9_1 u_1 t_1 H1 locs ht_1 hvm_1 hw_1 hB_1 hz_1 hk_1 hS1 hce_1 hcv_1 hcl_1 => ?_) (fun r_1 u_1 t_1 H1 locs ht_1 hvm_1 hw_1 hB_1 hz_1 hk_1 hS1 => ?_)
  · obtain ⟨rfl, hB_1⟩ := hB_1
    obtain ⟨hP, hK, hD⟩ := z_back (wc := [(h0, .inr (6, [.ref hu, .ref hs, .ref hc, .ref hp, .ref hg, .int 0, .int 0, .int 0, .int td, .int sd]))]) (wr := [(ho, .inl (cJ, 1, .inr (.inl fo)))]) (w1 := [(h0, .inr (6, [.ref hu, .ref hs, .ref hc, .ref hp, .ref hg, .int 0, .int 0, .int 0, .int td, .int sd]))]) (tr := [(cJ, .long)]) hP hK hD [0] [1] rfl rfl rfl (by decide) ht_1 hvm_1 hk_1 hF_1 [0] rfl hB_1
    have hS := hS1
    have hP : va_P D vwCl [(ho, .inl (cJ, 1, .inr (.inl fo))), (h0, .inr (6, [.ref hu, .ref hs, .ref hc, .ref hp, .ref hg, .int 0, .int 0, .int 0, .int td, .int sd]))] H1 := hP
    have hD : va_D A [(ho, .inl (cJ, 1, .inr (.inl fo))), (h0, .inr (6, [.ref hu, .ref hs, .ref hc, .ref hp, .ref hg, .int 0, .int 0, .int 0, .int td, .int sd]))] := hD
    have hK : va_K D vwCl [(cJ, .long)] s := hK
    clear hS1
    refine vx_catch (name := "java/lang/IndexOutOfBoundsException") hown [] ⟨0, 10, 13, 23⟩ [⟨0, 10, 17, 15⟩, ⟨0, 10, 21, 13⟩] (htb.trans rfl) (fun z hz => nomatch hz) (by decide) (by decide) (hts _ zw_520) (hts _ zw_531) hce_1 hcv_1 hcl_1 ?_
    refine lv_astore (lv' := [(4, .ref q9_1), (0, .ref h0), (1, .int a0), (2, .int a1), (3, .ref ho)]) hx hb dL_notice_13 hl (by decide) rfl (fun ls hl => ?_)
    refine lv_iconst (v := 1) hx hb dL_notice_15 (by decide) ?_
    exact vx_ret (W.iret (v := 1) hx hb hr (fun t ht hW => ⟨⟨1, (), rfl, rfl, z_end hP hK hD [1, 0] rfl rfl [0] rfl ht hW.alike⟩, hS.F ht⟩) hS.2.2 dL_notice_16)
  · exact hw_1.elim
theorem dL_work_0 : decode cL_work 0 = .ok (.aload_n 2, 1) := by decide +kernel
theorem dL_work_1 : decode cL_work 1 = .ok (.iconst 0, 1) := by decide +kernel
theorem dL_work_2 : decode cL_work 2 = .ok (.aload_n 0, 1) := by decide +kernel
theorem dL_work_3 : decode cL_work 3 = .ok (.iload_n 1, 1) := by decide +kernel
theorem dL_work_4 : decode cL_work 4 = .ok (.invokevirtual 35, 3) := by decide +kernel
theorem zw_592 : Cond.methodLink RL 35 yX4_work ∈ z_Ts := z_m 592 (by decide +kernel) (by decide +kernel)
theorem zw_593 : Cond.instanceMethod yX4_work ∈ z_Ts := z_m 593 (by decide +kernel) (by decide +kernel)
theorem zw_594 : Cond.selects RX4 yX4_work yX4_work ∈ z_Ts := z_m 594 (by decide +kernel) (by decide +kernel)
theorem zw_595 : Cond.code yX4_work cX4_work 2 (some .char) ∈ z_Ts := z_m 595 (by decide +kernel) (by decide +kernel)
theorem dL_work_12 : decode cL_work 12 = .ok (.astore_n 3, 1) := by decide +kernel
theorem dL_work_13 : decode cL_work 13 = .ok (.iconst 1, 1) := by decide +kernel
theorem dL_work_14 : decode cL_work 14 = .ok (.ireturn, 1) := by decide +kernel
set_option maxHeartbeats 4000000 in
set_option maxRecDepth 100000 in
theorem f_L_work (l : Launch) (hst : l.stackTraces = false) (D : va_G) (h0 : Nat) (hu : Nat) (hs : Nat) (hc : Nat) (hp : Nat) (hg : Nat) (td : Int32) (sd : Int32) (a0 : Int32) (ho : Nat) (fo : Nat → Int64) (cJ : ClassId) (sz : Nat)  : vx_Met l yL_work [Cond.codeWith yL_work cL_work 4 (some .int) [(0, 9, 12, 23), (0, 9, 15, 39)]] ({ frames := 8, cells := 1, slots := 6, locals := 170 }) (z_Pc D [.ref h0, .int a0, .ref ho] [(h0, .inr (6, [.ref hu, .ref hs, .ref hc, .ref hp, .ref hg, .int 0, .int 0, .int 0, .int td, .int sd])), (ho, .inl (cJ, 1, .inr (.inl fo)))] [(cJ, .long)] sz) (va_Qi (fun (r : Int32) (_ : Unit) => r = 1) (fun _ t => z_W D [(h0, .inr (6, [.ref hu, .ref hs, .ref hc, .ref hp, .ref hg, .int 0, .int 0, .int 0, .int td, .int sd])), (ho, .inl (cJ, 1, .inr (.inl fo)))] [(cJ, .long)] (va_A [(h0, .inr (6, [.ref hu, .ref hs, .ref hc, .ref hp, .ref hg, .int 0, .int 0, .int 0, .int td, .int sd])), (ho, .inl (cJ, 1, .inr (.inl fo)))] sz) t) (va_A [(h0, .inr (6, [.ref hu, .ref hs, .ref hc, .ref hp, .ref hg, .int 0, .int 0, .int 0, .int td, .int sd])), (ho, .inl (cJ, 1, .inr (.inl fo)))] sz)) (z_T (False) "none" D [(h0, .inr (6, [.ref hu, .ref hs, .ref hc, .ref hp, .ref hg, .int 0, .int 0, .int 0, .int td, .int sd])), (ho, .inl (cJ, 1, .inr (.inl fo)))] [(cJ, .long)] sz) 1 6 (va_A [(h0, .inr (6, [.ref hu, .ref hs, .ref hc, .ref hp, .ref hg, .int 0, .int 0, .int 0, .int td, .int sd])), (ho, .inl (cJ, 1, .inr (.inl fo)))] sz) := by
  refine vx_ofWH (cc := cL_work) (maxL := 4) (ret := (some .int)) (hh := [(0, 9, 12, 23), (0, 9, 15, 39)]) (by decide +kernel) rfl ?_
  intro p e s m args below meth c s₁ B hml hv
  obtain ⟨rfl, hsz, hP, hK, hD0, hE, hX0⟩ := hv
  have hx := B.exec
  have hb := B.bytes
  have hr := B.returns
  have hts := z_E.ts (args := [.ref h0, .int a0, .ref ho].toArray) hE
  have hown : s.vm.findClass RL = some m.cls := findClass_of_methodNamed B.named
  have hlocks := B.notSynchronized
  have htb := vx_table (x := yL_work) B (atoms_spec (ws := [Cond.codeWith yL_work cL_work 4 (some .int) [(0, 9, 12, 23), (0, 9, 15, 39)]]) B.pre _ List.mem_cons_self)
  subst hsz
  have hD := hD0.self (sz := s.heap.size)
  generalize hAe : va_A [(h0, .inr (6, [.ref hu, .ref hs, .ref hc, .ref hp, .ref hg, .int 0, .int 0, .int 0, .int td, .int sd])), (ho, .inl (cJ, 1, .inr (.inl fo)))] s.heap.size = A at hD hX0 ⊢
  have hX : z_X A s s.heap := hX0
  have hA : ∀ q : Nat, s.heap.size ≤ q → A q := fun q h => by rw [← hAe]; exact Or.inr h
  have hS : va_S A s.heap s.heap [] := va_S.rf
  have hP : va_P D vwCl [(h0, .inr (6, [.ref hu, .ref hs, .ref hc, .ref hp, .ref hg, .int 0, .int 0, .int 0, .int td, .int sd])), (ho, .inl (cJ, 1, .inr (.inl fo)))] s.heap := hP
  have hl := lv_entry ([.ref h0, .int a0, .ref ho]) (n := 4) (Nat.le_of_ble_eq_true rfl)
  rw [lg_entry_eq]
  generalize (lg_sl ([.ref h0, .int a0, .ref ho]) ++ List.replicate (4 - (lg_sl ([.ref h0, .int a0, .ref ho])).length) Slot.unset).toArray = ls at hl ⊢
  have hl : lv_has ls 4 [(0, .ref h0), (1, .int a0), (2, .ref ho)] := hl
  skip
  refine lv_aload_n hx hb dL_work_0 rfl (lv_at hl 2 rfl) ?_
  refine lv_iconst (v := 0) hx hb dL_work_1 (by decide) ?_
  refine lv_aload_n hx hb dL_work_2 rfl (lv_at hl 0 rfl) ?_
  refine lv_iload_n hx hb dL_work_3 rfl (lv_at hl 1 rfl) ?_
  obtain ⟨hb_1, hc_1⟩ := z_call (wc := [(h0, .inr (6, [.ref hu, .ref hs, .ref hc, .ref hp, .ref hg, .int 0, .int 0, .int 0, .int td, .int sd]))]) (tc := []) ([.ref h0, .int a0]) hP hK hD hS hA hE hX [0] rfl rfl [] rfl
  have hF_1 := va_free (wc := [(h0, .inr (6, [.ref hu, .ref hs, .ref hc, .ref hp, .ref hg, .int 0, .int 0, .int 0, .int td, .int sd]))]) hD hS hA [0] rfl
  refine vx_calli (vx_runV (As := [.int a0]) (rest := [.int 0, .ref ho]) ⟨hx, hb, hml, hown, hts⟩ (f_X4_work l hst D h0 hu hs hc hp hg td sd a0 _ ) (z_cV 1 hE zw_592 zw_593 zw_594 zw_91 zw_595 rfl rfl rfl (by decide +kernel) ⟨(Nat.le_of_ble_eq_true rfl), (Nat.le_of_ble_eq_true rfl)⟩) ⟨hb_1, va_recv hK hP (ci := 6) (q0 := 0) rfl rfl, hc_1⟩ rfl rfl hl.1 rfl (lv_room (Nat.le_of_ble_eq_true rfl)) dL_work_4 ⟨(Nat.le_of_ble_eq_true rfl), (Nat.le_of_ble_eq_true rfl)⟩) hS (fun q _ h => hF_1 q h) hF_1 (fun q _ h => hF_1 q h) (fun E_1 ce_1 q9_1 u_1 t_1 H1 locs ht_1 hvm_1 hw_1 hB_1 hz_1 hk_1 hS1 hce_1 hcv_1 hcl_1 => ?_) (fun r_1 u_1 t_1 H1 locs ht_1 hvm_1 hw_1 hB_1 hz_1 hk_1 hS1 => ?_)
  · obtain ⟨rfl, hB_1⟩ := hB_1
    obtain ⟨hP, hK, hD⟩ := z_back (wc := [(h0, .inr (6, [.ref hu, .ref hs, .ref hc, .ref hp, .ref hg, .int 0, .int 0, .int 0, .int td, .int sd]))]) (wr := [(ho, .inl (cJ, 1, .inr (.inl fo)))]) (w1 := [(h0, .inr (6, [.ref hu, .ref hs, .ref hc, .ref hp, .ref hg, .int 0, .int 0, .int 0, .int td, .int sd]))]) (tr := [(cJ, .long)]) hP hK hD [0] [1] rfl rfl rfl (by decide) ht_1 hvm_1 hk_1 hF_1 [0] rfl hB_1
    have hS := hS1
    have hP : va_P D vwCl [(ho, .inl (cJ, 1, .inr (.inl fo))), (h0, .inr (6, [.ref hu, .ref hs, .ref hc, .ref hp, .ref hg, .int 0, .int 0, .int 0, .int td, .int sd]))] H1 := hP
    have hD : va_D A [(ho, .inl (cJ, 1, .inr (.inl fo))), (h0, .inr (6, [.ref hu, .ref hs, .ref hc, .ref hp, .ref hg, .int 0, .int 0, .int 0, .int td, .int sd]))] := hD
    have hK : va_K D vwCl [(cJ, .long)] s := hK
    clear hS1
    refine vx_catch (name := "java/lang/IndexOutOfBoundsException") hown [] ⟨0, 9, 12, 23⟩ [⟨0, 9, 15, 39⟩] (htb.trans rfl) (fun z hz => nomatch hz) (by decide) (by decide) (hts _ zw_520) (hts _ zw_531) hce_1 hcv_1 hcl_1 ?_
    refine lv_astore_n (lv' := [(3, .ref q9_1), (0, .ref h0), (1, .int a0), (2, .ref ho)]) hx hb dL_work_12 rfl hl (by decide) rfl (fun ls hl => ?_)
    refine lv_iconst (v := 1) hx hb dL_work_13 (by decide) ?_
    exact vx_ret (W.iret (v := 1) hx hb hr (fun t ht hW => ⟨⟨1, (), rfl, rfl, z_end hP hK hD [1, 0] rfl rfl [0] rfl ht hW.alike⟩, hS.F ht⟩) hS.2.2 dL_work_14)
  · exact hw_1.elim
theorem dL_left_0 : decode cL_left 0 = .ok (.aload_n 2, 1) := by decide +kernel
theorem dL_left_1 : decode cL_left 1 = .ok (.iconst 0, 1) := by decide +kernel
theorem dL_left_2 : decode cL_left 2 = .ok (.aload_n 0, 1) := by decide +kernel
theorem dL_left_3 : decode cL_left 3 = .ok (.iload_n 1, 1) := by decide +kernel
theorem dL_left_4 : decode cL_left 4 = .ok (.invokevirtual 41, 3) := by decide +kernel
theorem zw_619 : Cond.methodLink RL 41 yX4_left ∈ z_Ts := z_m 619 (by decide +kernel) (by decide +kernel)
theorem zw_620 : Cond.instanceMethod yX4_left ∈ z_Ts := z_m 620 (by decide +kernel) (by decide +kernel)
theorem zw_621 : Cond.selects RX4 yX4_left yX4_left ∈ z_Ts := z_m 621 (by decide +kernel) (by decide +kernel)
theorem zw_622 : Cond.code yX4_left cX4_left 2 (some .int) ∈ z_Ts := z_m 622 (by decide +kernel) (by decide +kernel)
theorem dL_left_12 : decode cL_left 12 = .ok (.astore_n 3, 1) := by decide +kernel
theorem dL_left_13 : decode cL_left 13 = .ok (.iconst 1, 1) := by decide +kernel
theorem dL_left_14 : decode cL_left 14 = .ok (.ireturn, 1) := by decide +kernel
set_option maxHeartbeats 4000000 in
set_option maxRecDepth 100000 in
theorem f_L_left (l : Launch) (hst : l.stackTraces = false) (D : va_G) (h0 : Nat) (hu : Nat) (hs : Nat) (hc : Nat) (hp : Nat) (hg : Nat) (td : Int32) (sd : Int32) (a0 : Int32) (ho : Nat) (fo : Nat → Int64) (cJ : ClassId) (sz : Nat)  : vx_Met l yL_left [Cond.codeWith yL_left cL_left 4 (some .int) [(0, 9, 12, 23), (0, 9, 15, 39)]] ({ frames := 8, cells := 1, slots := 6, locals := 170 }) (z_Pc D [.ref h0, .int a0, .ref ho] [(h0, .inr (6, [.ref hu, .ref hs, .ref hc, .ref hp, .ref hg, .int 0, .int 0, .int 0, .int td, .int sd])), (ho, .inl (cJ, 1, .inr (.inl fo)))] [(cJ, .long)] sz) (va_Qi (fun (r : Int32) (_ : Unit) => r = 1) (fun _ t => z_W D [(h0, .inr (6, [.ref hu, .ref hs, .ref hc, .ref hp, .ref hg, .int 0, .int 0, .int 0, .int td, .int sd])), (ho, .inl (cJ, 1, .inr (.inl fo)))] [(cJ, .long)] (va_A [(h0, .inr (6, [.ref hu, .ref hs, .ref hc, .ref hp, .ref hg, .int 0, .int 0, .int 0, .int td, .int sd])), (ho, .inl (cJ, 1, .inr (.inl fo)))] sz) t) (va_A [(h0, .inr (6, [.ref hu, .ref hs, .ref hc, .ref hp, .ref hg, .int 0, .int 0, .int 0, .int td, .int sd])), (ho, .inl (cJ, 1, .inr (.inl fo)))] sz)) (z_T (False) "none" D [(h0, .inr (6, [.ref hu, .ref hs, .ref hc, .ref hp, .ref hg, .int 0, .int 0, .int 0, .int td, .int sd])), (ho, .inl (cJ, 1, .inr (.inl fo)))] [(cJ, .long)] sz) 1 6 (va_A [(h0, .inr (6, [.ref hu, .ref hs, .ref hc, .ref hp, .ref hg, .int 0, .int 0, .int 0, .int td, .int sd])), (ho, .inl (cJ, 1, .inr (.inl fo)))] sz) := by
  refine vx_ofWH (cc := cL_left) (maxL := 4) (ret := (some .int)) (hh := [(0, 9, 12, 23), (0, 9, 15, 39)]) (by decide +kernel) rfl ?_
  intro p e s m args below meth c s₁ B hml hv
  obtain ⟨rfl, hsz, hP, hK, hD0, hE, hX0⟩ := hv
  have hx := B.exec
  have hb := B.bytes
  have hr := B.returns
  have hts := z_E.ts (args := [.ref h0, .int a0, .ref ho].toArray) hE
  have hown : s.vm.findClass RL = some m.cls := findClass_of_methodNamed B.named
  have hlocks := B.notSynchronized
  have htb := vx_table (x := yL_left) B (atoms_spec (ws := [Cond.codeWith yL_left cL_left 4 (some .int) [(0, 9, 12, 23), (0, 9, 15, 39)]]) B.pre _ List.mem_cons_self)
  subst hsz
  have hD := hD0.self (sz := s.heap.size)
  generalize hAe : va_A [(h0, .inr (6, [.ref hu, .ref hs, .ref hc, .ref hp, .ref hg, .int 0, .int 0, .int 0, .int td, .int sd])), (ho, .inl (cJ, 1, .inr (.inl fo)))] s.heap.size = A at hD hX0 ⊢
  have hX : z_X A s s.heap := hX0
  have hA : ∀ q : Nat, s.heap.size ≤ q → A q := fun q h => by rw [← hAe]; exact Or.inr h
  have hS : va_S A s.heap s.heap [] := va_S.rf
  have hP : va_P D vwCl [(h0, .inr (6, [.ref hu, .ref hs, .ref hc, .ref hp, .ref hg, .int 0, .int 0, .int 0, .int td, .int sd])), (ho, .inl (cJ, 1, .inr (.inl fo)))] s.heap := hP
  have hl := lv_entry ([.ref h0, .int a0, .ref ho]) (n := 4) (Nat.le_of_ble_eq_true rfl)
  rw [lg_entry_eq]
  generalize (lg_sl ([.ref h0, .int a0, .ref ho]) ++ List.replicate (4 - (lg_sl ([.ref h0, .int a0, .ref ho])).length) Slot.unset).toArray = ls at hl ⊢
  have hl : lv_has ls 4 [(0, .ref h0), (1, .int a0), (2, .ref ho)] := hl
  skip
  refine lv_aload_n hx hb dL_left_0 rfl (lv_at hl 2 rfl) ?_
  refine lv_iconst (v := 0) hx hb dL_left_1 (by decide) ?_
  refine lv_aload_n hx hb dL_left_2 rfl (lv_at hl 0 rfl) ?_
  refine lv_iload_n hx hb dL_left_3 rfl (lv_at hl 1 rfl) ?_
  obtain ⟨hb_1, hc_1⟩ := z_call (wc := [(h0, .inr (6, [.ref hu, .ref hs, .ref hc, .ref hp, .ref hg, .int 0, .int 0, .int 0, .int td, .int sd]))]) (tc := []) ([.ref h0, .int a0]) hP hK hD hS hA hE hX [0] rfl rfl [] rfl
  have hF_1 := va_free (wc := [(h0, .inr (6, [.ref hu, .ref hs, .ref hc, .ref hp, .ref hg, .int 0, .int 0, .int 0, .int td, .int sd]))]) hD hS hA [0] rfl
  refine vx_calli (vx_runV (As := [.int a0]) (rest := [.int 0, .ref ho]) ⟨hx, hb, hml, hown, hts⟩ (f_X4_left l hst D h0 hu hs hc hp hg td sd a0 _ ) (z_cV 1 hE zw_619 zw_620 zw_621 zw_91 zw_622 rfl rfl rfl (by decide +kernel) ⟨(Nat.le_of_ble_eq_true rfl), (Nat.le_of_ble_eq_true rfl)⟩) ⟨hb_1, va_recv hK hP (ci := 6) (q0 := 0) rfl rfl, hc_1⟩ rfl rfl hl.1 rfl (lv_room (Nat.le_of_ble_eq_true rfl)) dL_left_4 ⟨(Nat.le_of_ble_eq_true rfl), (Nat.le_of_ble_eq_true rfl)⟩) hS (fun q _ h => hF_1 q h) hF_1 (fun q _ h => hF_1 q h) (fun E_1 ce_1 q9_1 u_1 t_1 H1 locs ht_1 hvm_1 hw_1 hB_1 hz_1 hk_1 hS1 hce_1 hcv_1 hcl_1 => ?_) (fun r_1 u_1 t_1 H1 locs ht_1 hvm_1 hw_1 hB_1 hz_1 hk_1 hS1 => ?_)
  · obtain ⟨rfl, hB_1⟩ := hB_1
    obtain ⟨hP, hK, hD⟩ := z_back (wc := [(h0, .inr (6, [.ref hu, .ref hs, .ref hc, .ref hp, .ref hg, .int 0, .int 0, .int 0, .int td, .int sd]))]) (wr := [(ho, .inl (cJ, 1, .inr (.inl fo)))]) (w1 := [(h0, .inr (6, [.ref hu, .ref hs, .ref hc, .ref hp, .ref hg, .int 0, .int 0, .int 0, .int td, .int sd]))]) (tr := [(cJ, .long)]) hP hK hD [0] [1] rfl rfl rfl (by decide) ht_1 hvm_1 hk_1 hF_1 [0] rfl hB_1
    have hS := hS1
    have hP : va_P D vwCl [(ho, .inl (cJ, 1, .inr (.inl fo))), (h0, .inr (6, [.ref hu, .ref hs, .ref hc, .ref hp, .ref hg, .int 0, .int 0, .int 0, .int td, .int sd]))] H1 := hP
    have hD : va_D A [(ho, .inl (cJ, 1, .inr (.inl fo))), (h0, .inr (6, [.ref hu, .ref hs, .ref hc, .ref hp, .ref hg, .int 0, .int 0, .int 0, .int td, .int sd]))] := hD
    have hK : va_K D vwCl [(cJ, .long)] s := hK
    clear hS1
    refine vx_catch (name := "java/lang/IndexOutOfBoundsException") hown [] ⟨0, 9, 12, 23⟩ [⟨0, 9, 15, 39⟩] (htb.trans rfl) (fun z hz => nomatch hz) (by decide) (by decide) (hts _ zw_520) (hts _ zw_531) hce_1 hcv_1 hcl_1 ?_
    refine lv_astore_n (lv' := [(3, .ref q9_1), (0, .ref h0), (1, .int a0), (2, .ref ho)]) hx hb dL_left_12 rfl hl (by decide) rfl (fun ls hl => ?_)
    refine lv_iconst (v := 1) hx hb dL_left_13 (by decide) ?_
    exact vx_ret (W.iret (v := 1) hx hb hr (fun t ht hW => ⟨⟨1, (), rfl, rfl, z_end hP hK hD [1, 0] rfl rfl [0] rfl ht hW.alike⟩, hS.F ht⟩) hS.2.2 dL_left_14)
  · exact hw_1.elim
theorem dL_whyNot_0 : decode cL_whyNot 0 = .ok (.aload_n 2, 1) := by decide +kernel
theorem dL_whyNot_1 : decode cL_whyNot 1 = .ok (.iconst 0, 1) := by decide +kernel
theorem dL_whyNot_2 : decode cL_whyNot 2 = .ok (.aload_n 0, 1) := by decide +kernel
theorem dL_whyNot_3 : decode cL_whyNot 3 = .ok (.iload_n 1, 1) := by decide +kernel
theorem dL_whyNot_4 : decode cL_whyNot 4 = .ok (.invokevirtual 44, 3) := by decide +kernel
theorem zw_626 : Cond.methodLink RL 44 yX4_whyNot ∈ z_Ts := z_m 626 (by decide +kernel) (by decide +kernel)
theorem zw_627 : Cond.instanceMethod yX4_whyNot ∈ z_Ts := z_m 627 (by decide +kernel) (by decide +kernel)
theorem zw_628 : Cond.selects RX4 yX4_whyNot yX4_whyNot ∈ z_Ts := z_m 628 (by decide +kernel) (by decide +kernel)
theorem zw_629 : Cond.code yX4_whyNot cX4_whyNot 2 (some .char) ∈ z_Ts := z_m 629 (by decide +kernel) (by decide +kernel)
theorem dL_whyNot_12 : decode cL_whyNot 12 = .ok (.astore_n 3, 1) := by decide +kernel
theorem dL_whyNot_13 : decode cL_whyNot 13 = .ok (.iconst 1, 1) := by decide +kernel
theorem dL_whyNot_14 : decode cL_whyNot 14 = .ok (.ireturn, 1) := by decide +kernel
set_option maxHeartbeats 4000000 in
set_option maxRecDepth 100000 in
theorem f_L_whyNot (l : Launch) (hst : l.stackTraces = false) (D : va_G) (h0 : Nat) (hu : Nat) (hs : Nat) (hc : Nat) (hp : Nat) (hg : Nat) (td : Int32) (sd : Int32) (a0 : Int32) (ho : Nat) (fo : Nat → Int64) (cJ : ClassId) (sz : Nat)  : vx_Met l yL_whyNot [Cond.codeWith yL_whyNot cL_whyNot 4 (some .int) [(0, 9, 12, 23), (0, 9, 15, 39)]] ({ frames := 8, cells := 1, slots := 6, locals := 170 }) (z_Pc D [.ref h0, .int a0, .ref ho] [(h0, .inr (6, [.ref hu, .ref hs, .ref hc, .ref hp, .ref hg, .int 0, .int 0, .int 0, .int td, .int sd])), (ho, .inl (cJ, 1, .inr (.inl fo)))] [(cJ, .long)] sz) (va_Qi (fun (r : Int32) (_ : Unit) => r = 1) (fun _ t => z_W D [(h0, .inr (6, [.ref hu, .ref hs, .ref hc, .ref hp, .ref hg, .int 0, .int 0, .int 0, .int td, .int sd])), (ho, .inl (cJ, 1, .inr (.inl fo)))] [(cJ, .long)] (va_A [(h0, .inr (6, [.ref hu, .ref hs, .ref hc, .ref hp, .ref hg, .int 0, .int 0, .int 0, .int td, .int sd])), (ho, .inl (cJ, 1, .inr (.inl fo)))] sz) t) (va_A [(h0, .inr (6, [.ref hu, .ref hs, .ref hc, .ref hp, .ref hg, .int 0, .int 0, .int 0, .int td, .int sd])), (ho, .inl (cJ, 1, .inr (.inl fo)))] sz)) (z_T (False) "none" D [(h0, .inr (6, [.ref hu, .ref hs, .ref hc, .ref hp, .ref hg, .int 0, .int 0, .int 0, .int td, .int sd])), (ho, .inl (cJ, 1, .inr (.inl fo)))] [(cJ, .long)] sz) 1 6 (va_A [(h0, .inr (6, [.ref hu, .ref hs, .ref hc, .ref hp, .ref hg, .int 0, .int 0, .int 0, .int td, .int sd])), (ho, .inl (cJ, 1, .inr (.inl fo)))] sz) := by
  refine vx_ofWH (cc := cL_whyNot) (maxL := 4) (ret := (some .int)) (hh := [(0, 9, 12, 23), (0, 9, 15, 39)]) (by decide +kernel) rfl ?_
  intro p e s m args below meth c s₁ B hml hv
  obtain ⟨rfl, hsz, hP, hK, hD0, hE, hX0⟩ := hv
  have hx := B.exec
  have hb := B.bytes
  have hr := B.returns
  have hts := z_E.ts (args := [.ref h0, .int a0, .ref ho].toArray) hE
  have hown : s.vm.findClass RL = some m.cls := findClass_of_methodNamed B.named
  have hlocks := B.notSynchronized
  have htb := vx_table (x := yL_whyNot) B (atoms_spec (ws := [Cond.codeWith yL_whyNot cL_whyNot 4 (some .int) [(0, 9, 12, 23), (0, 9, 15, 39)]]) B.pre _ List.mem_cons_self)
  subst hsz
  have hD := hD0.self (sz := s.heap.size)
  generalize hAe : va_A [(h0, .inr (6, [.ref hu, .ref hs, .ref hc, .ref hp, .ref hg, .int 0, .int 0, .int 0, .int td, .int sd])), (ho, .inl (cJ, 1, .inr (.inl fo)))] s.heap.size = A at hD hX0 ⊢
  have hX : z_X A s s.heap := hX0
  have hA : ∀ q : Nat, s.heap.size ≤ q → A q := fun q h => by rw [← hAe]; exact Or.inr h
  have hS : va_S A s.heap s.heap [] := va_S.rf
  have hP : va_P D vwCl [(h0, .inr (6, [.ref hu, .ref hs, .ref hc, .ref hp, .ref hg, .int 0, .int 0, .int 0, .int td, .int sd])), (ho, .inl (cJ, 1, .inr (.inl fo)))] s.heap := hP
  have hl := lv_entry ([.ref h0, .int a0, .ref ho]) (n := 4) (Nat.le_of_ble_eq_true rfl)
  rw [lg_entry_eq]
  generalize (lg_sl ([.ref h0, .int a0, .ref ho]) ++ List.replicate (4 - (lg_sl ([.ref h0, .int a0, .ref ho])).length) Slot.unset).toArray = ls at hl ⊢
  have hl : lv_has ls 4 [(0, .ref h0), (1, .int a0), (2, .ref ho)] := hl
  skip
  refine lv_aload_n hx hb dL_whyNot_0 rfl (lv_at hl 2 rfl) ?_
  refine lv_iconst (v := 0) hx hb dL_whyNot_1 (by decide) ?_
  refine lv_aload_n hx hb dL_whyNot_2 rfl (lv_at hl 0 rfl) ?_
  refine lv_iload_n hx hb dL_whyNot_3 rfl (lv_at hl 1 rfl) ?_
  obtain ⟨hb_1, hc_1⟩ := z_call (wc := [(h0, .inr (6, [.ref hu, .ref hs, .ref hc, .ref hp, .ref hg, .int 0, .int 0, .int 0, .int td, .int sd]))]) (tc := []) ([.ref h0, .int a0]) hP hK hD hS hA hE hX [0] rfl rfl [] rfl
  have hF_1 := va_free (wc := [(h0, .inr (6, [.ref hu, .ref hs, .ref hc, .ref hp, .ref hg, .int 0, .int 0, .int 0, .int td, .int sd]))]) hD hS hA [0] rfl
  refine vx_calli (vx_runV (As := [.int a0]) (rest := [.int 0, .ref ho]) ⟨hx, hb, hml, hown, hts⟩ (f_X4_whyNot l hst D h0 hu hs hc hp hg td sd a0 _ ) (z_cV 1 hE zw_626 zw_627 zw_628 zw_91 zw_629 rfl rfl rfl (by decide +kernel) ⟨(Nat.le_of_ble_eq_true rfl), (Nat.le_of_ble_eq_true rfl)⟩) ⟨hb_1, va_recv hK hP (ci := 6) (q0 := 0) rfl rfl, hc_1⟩ rfl rfl hl.1 rfl (lv_room (Nat.le_of_ble_eq_true rfl)) dL_whyNot_4 ⟨(Nat.le_of_ble_eq_true rfl), (Nat.le_of_ble_eq_true rfl)⟩) hS (fun q _ h => hF_1 q h) hF_1 (fun q _ h => hF_1 q h) (fun E_1 ce_1 q9_1 u_1 t_1 H1 locs ht_1 hvm_1 hw_1 hB_1 hz_1 hk_1 hS1 hce_1 hcv_1 hcl_1 => ?_) (fun r_1 u_1 t_1 H1 locs ht_1 hvm_1 hw_1 hB_1 hz_1 hk_1 hS1 => ?_)
  · obtain ⟨rfl, hB_1⟩ := hB_1
    obtain ⟨hP, hK, hD⟩ := z_back (wc := [(h0, .inr (6, [.ref hu, .ref hs, .ref hc, .ref hp, .ref hg, .int 0, .int 0, .int 0, .int td, .int sd]))]) (wr := [(ho, .inl (cJ, 1, .inr (.inl fo)))]) (w1 := [(h0, .inr (6, [.ref hu, .ref hs, .ref hc, .ref hp, .ref hg, .int 0, .int 0, .int 0, .int td, .int sd]))]) (tr := [(cJ, .long)]) hP hK hD [0] [1] rfl rfl rfl (by decide) ht_1 hvm_1 hk_1 hF_1 [0] rfl hB_1
    have hS := hS1
    have hP : va_P D vwCl [(ho, .inl (cJ, 1, .inr (.inl fo))), (h0, .inr (6, [.ref hu, .ref hs, .ref hc, .ref hp, .ref hg, .int 0, .int 0, .int 0, .int td, .int sd]))] H1 := hP
    have hD : va_D A [(ho, .inl (cJ, 1, .inr (.inl fo))), (h0, .inr (6, [.ref hu, .ref hs, .ref hc, .ref hp, .ref hg, .int 0, .int 0, .int 0, .int td, .int sd]))] := hD
    have hK : va_K D vwCl [(cJ, .long)] s := hK
    clear hS1
    refine vx_catch (name := "java/lang/IndexOutOfBoundsException") hown [] ⟨0, 9, 12, 23⟩ [⟨0, 9, 15, 39⟩] (htb.trans rfl) (fun z hz => nomatch hz) (by decide) (by decide) (hts _ zw_520) (hts _ zw_531) hce_1 hcv_1 hcl_1 ?_
    refine lv_astore_n (lv' := [(3, .ref q9_1), (0, .ref h0), (1, .int a0), (2, .ref ho)]) hx hb dL_whyNot_12 rfl hl (by decide) rfl (fun ls hl => ?_)
    refine lv_iconst (v := 1) hx hb dL_whyNot_13 (by decide) ?_
    exact vx_ret (W.iret (v := 1) hx hb hr (fun t ht hW => ⟨⟨1, (), rfl, rfl, z_end hP hK hD [1, 0] rfl rfl [0] rfl ht hW.alike⟩, hS.F ht⟩) hS.2.2 dL_whyNot_14)
  · exact hw_1.elim
theorem dL_begin_0 : decode cL_begin 0 = .ok (.aload_n 2, 1) := by decide +kernel
theorem dL_begin_1 : decode cL_begin 1 = .ok (.iconst 0, 1) := by decide +kernel
theorem dL_begin_2 : decode cL_begin 2 = .ok (.aload_n 0, 1) := by decide +kernel
theorem dL_begin_3 : decode cL_begin 3 = .ok (.iload_n 1, 1) := by decide +kernel
theorem dL_begin_4 : decode cL_begin 4 = .ok (.invokevirtual 47, 3) := by decide +kernel
theorem zw_641 : Cond.methodLink RL 47 yX4_begin ∈ z_Ts := z_m 641 (by decide +kernel) (by decide +kernel)
theorem zw_642 : Cond.instanceMethod yX4_begin ∈ z_Ts := z_m 642 (by decide +kernel) (by decide +kernel)
theorem zw_643 : Cond.selects RX4 yX4_begin yX4_begin ∈ z_Ts := z_m 643 (by decide +kernel) (by decide +kernel)
theorem zw_644 : Cond.code yX4_begin cX4_begin 2 (some .int) ∈ z_Ts := z_m 644 (by decide +kernel) (by decide +kernel)
theorem dL_begin_12 : decode cL_begin 12 = .ok (.astore_n 3, 1) := by decide +kernel
theorem dL_begin_13 : decode cL_begin 13 = .ok (.iconst 1, 1) := by decide +kernel
theorem dL_begin_14 : decode cL_begin 14 = .ok (.ireturn, 1) := by decide +kernel
set_option maxHeartbeats 4000000 in
set_option maxRecDepth 100000 in
theorem f_L_begin (l : Launch) (hst : l.stackTraces = false) (D : va_G) (h0 : Nat) (hu : Nat) (hs : Nat) (hc : Nat) (hp : Nat) (hg : Nat) (td : Int32) (sd : Int32) (a0 : Int32) (ho : Nat) (fo : Nat → Int64) (cJ : ClassId) (sz : Nat)  : vx_Met l yL_begin [Cond.codeWith yL_begin cL_begin 4 (some .int) [(0, 9, 12, 23), (0, 9, 15, 15)]] ({ frames := 8, cells := 1, slots := 6, locals := 170 }) (z_Pc D [.ref h0, .int a0, .ref ho] [(h0, .inr (6, [.ref hu, .ref hs, .ref hc, .ref hp, .ref hg, .int 0, .int 0, .int 0, .int td, .int sd])), (ho, .inl (cJ, 1, .inr (.inl fo)))] [(cJ, .long)] sz) (va_Qi (fun (r : Int32) (_ : Unit) => r = 1) (fun _ t => z_W D [(h0, .inr (6, [.ref hu, .ref hs, .ref hc, .ref hp, .ref hg, .int 0, .int 0, .int 0, .int td, .int sd])), (ho, .inl (cJ, 1, .inr (.inl fo)))] [(cJ, .long)] (va_A [(h0, .inr (6, [.ref hu, .ref hs, .ref hc, .ref hp, .ref hg, .int 0, .int 0, .int 0, .int td, .int sd])), (ho, .inl (cJ, 1, .inr (.inl fo)))] sz) t) (va_A [(h0, .inr (6, [.ref hu, .ref hs, .ref hc, .ref hp, .ref hg, .int 0, .int 0, .int 0, .int td, .int sd])), (ho, .inl (cJ, 1, .inr (.inl fo)))] sz)) (z_T (False) "none" D [(h0, .inr (6, [.ref hu, .ref hs, .ref hc, .ref hp, .ref hg, .int 0, .int 0, .int 0, .int td, .int sd])), (ho, .inl (cJ, 1, .inr (.inl fo)))] [(cJ, .long)] sz) 1 6 (va_A [(h0, .inr (6, [.ref hu, .ref hs, .ref hc, .ref hp, .ref hg, .int 0, .int 0, .int 0, .int td, .int sd])), (ho, .inl (cJ, 1, .inr (.inl fo)))] sz) := by
  refine vx_ofWH (cc := cL_begin) (maxL := 4) (ret := (some .int)) (hh := [(0, 9, 12, 23), (0, 9, 15, 15)]) (by decide +kernel) rfl ?_
  intro p e s m args below meth c s₁ B hml hv
  obtain ⟨rfl, hsz, hP, hK, hD0, hE, hX0⟩ := hv
  have hx := B.exec
  have hb := B.bytes
  have hr := B.returns
  have hts := z_E.ts (args := [.ref h0, .int a0, .ref ho].toArray) hE
  have hown : s.vm.findClass RL = some m.cls := findClass_of_methodNamed B.named
  have hlocks := B.notSynchronized
  have htb := vx_table (x := yL_begin) B (atoms_spec (ws := [Cond.codeWith yL_begin cL_begin 4 (some .int) [(0, 9, 12, 23), (0, 9, 15, 15)]]) B.pre _ List.mem_cons_self)
  subst hsz
  have hD := hD0.self (sz := s.heap.size)
  generalize hAe : va_A [(h0, .inr (6, [.ref hu, .ref hs, .ref hc, .ref hp, .ref hg, .int 0, .int 0, .int 0, .int td, .int sd])), (ho, .inl (cJ, 1, .inr (.inl fo)))] s.heap.size = A at hD hX0 ⊢
  have hX : z_X A s s.heap := hX0
  have hA : ∀ q : Nat, s.heap.size ≤ q → A q := fun q h => by rw [← hAe]; exact Or.inr h
  have hS : va_S A s.heap s.heap [] := va_S.rf
  have hP : va_P D vwCl [(h0, .inr (6, [.ref hu, .ref hs, .ref hc, .ref hp, .ref hg, .int 0, .int 0, .int 0, .int td, .int sd])), (ho, .inl (cJ, 1, .inr (.inl fo)))] s.heap := hP
  have hl := lv_entry ([.ref h0, .int a0, .ref ho]) (n := 4) (Nat.le_of_ble_eq_true rfl)
  rw [lg_entry_eq]
  generalize (lg_sl ([.ref h0, .int a0, .ref ho]) ++ List.replicate (4 - (lg_sl ([.ref h0, .int a0, .ref ho])).length) Slot.unset).toArray = ls at hl ⊢
  have hl : lv_has ls 4 [(0, .ref h0), (1, .int a0), (2, .ref ho)] := hl
  skip
  refine lv_aload_n hx hb dL_begin_0 rfl (lv_at hl 2 rfl) ?_
  refine lv_iconst (v := 0) hx hb dL_begin_1 (by decide) ?_
  refine lv_aload_n hx hb dL_begin_2 rfl (lv_at hl 0 rfl) ?_
  refine lv_iload_n hx hb dL_begin_3 rfl (lv_at hl 1 rfl) ?_
  obtain ⟨hb_1, hc_1⟩ := z_call (wc := [(h0, .inr (6, [.ref hu, .ref hs, .ref hc, .ref hp, .ref hg, .int 0, .int 0, .int 0, .int td, .int sd]))]) (tc := []) ([.ref h0, .int a0]) hP hK hD hS hA hE hX [0] rfl rfl [] rfl
  have hF_1 := va_free (wc := [(h0, .inr (6, [.ref hu, .ref hs, .ref hc, .ref hp, .ref hg, .int 0, .int 0, .int 0, .int td, .int sd]))]) hD hS hA [0] rfl
  refine vx_calli (vx_runV (As := [.int a0]) (rest := [.int 0, .ref ho]) ⟨hx, hb, hml, hown, hts⟩ (f_X4_begin l hst D h0 hu hs hc hp hg td sd a0 _ ) (z_cV 1 hE zw_641 zw_642 zw_643 zw_91 zw_644 rfl rfl rfl (by decide +kernel) ⟨(Nat.le_of_ble_eq_true rfl), (Nat.le_of_ble_eq_true rfl)⟩) ⟨hb_1, va_recv hK hP (ci := 6) (q0 := 0) rfl rfl, hc_1⟩ rfl rfl hl.1 rfl (lv_room (Nat.le_of_ble_eq_true rfl)) dL_begin_4 ⟨(Nat.le_of_ble_eq_true rfl), (Nat.le_of_ble_eq_true rfl)⟩) hS (fun q _ h => hF_1 q h) hF_1 (fun q _ h => hF_1 q h) (fun E_1 ce_1 q9_1 u_1 t_1 H1 locs ht_1 hvm_1 hw_1 hB_1 hz_1 hk_1 hS1 hce_1 hcv_1 hcl_1 => ?_) (fun r_1 u_1 t_1 H1 locs ht_1 hvm_1 hw_1 hB_1 hz_1 hk_1 hS1 => ?_)
  · obtain ⟨rfl, hB_1⟩ := hB_1
    obtain ⟨hP, hK, hD⟩ := z_back (wc := [(h0, .inr (6, [.ref hu, .ref hs, .ref hc, .ref hp, .ref hg, .int 0, .int 0, .int 0, .int td, .int sd]))]) (wr := [(ho, .inl (cJ, 1, .inr (.inl fo)))]) (w1 := [(h0, .inr (6, [.ref hu, .ref hs, .ref hc, .ref hp, .ref hg, .int 0, .int 0, .int 0, .int td, .int sd]))]) (tr := [(cJ, .long)]) hP hK hD [0] [1] rfl rfl rfl (by decide) ht_1 hvm_1 hk_1 hF_1 [0] rfl hB_1
    have hS := hS1
    have hP : va_P D vwCl [(ho, .inl (cJ, 1, .inr (.inl fo))), (h0, .inr (6, [.ref hu, .ref hs, .ref hc, .ref hp, .ref hg, .int 0, .int 0, .int 0, .int td, .int sd]))] H1 := hP
    have hD : va_D A [(ho, .inl (cJ, 1, .inr (.inl fo))), (h0, .inr (6, [.ref hu, .ref hs, .ref hc, .ref hp, .ref hg, .int 0, .int 0, .int 0, .int td, .int sd]))] := hD
    have hK : va_K D vwCl [(cJ, .long)] s := hK
    clear hS1
    refine vx_catch (name := "java/lang/IndexOutOfBoundsException") hown [] ⟨0, 9, 12, 23⟩ [⟨0, 9, 15, 15⟩] (htb.trans rfl) (fun z hz => nomatch hz) (by decide) (by decide) (hts _ zw_520) (hts _ zw_531) hce_1 hcv_1 hcl_1 ?_
    refine lv_astore_n (lv' := [(3, .ref q9_1), (0, .ref h0), (1, .int a0), (2, .ref ho)]) hx hb dL_begin_12 rfl hl (by decide) rfl (fun ls hl => ?_)
    refine lv_iconst (v := 1) hx hb dL_begin_13 (by decide) ?_
    exact vx_ret (W.iret (v := 1) hx hb hr (fun t ht hW => ⟨⟨1, (), rfl, rfl, z_end hP hK hD [1, 0] rfl rfl [0] rfl ht hW.alike⟩, hS.F ht⟩) hS.2.2 dL_begin_14)
  · exact hw_1.elim
theorem dL_find_0 : decode cL_find 0 = .ok (.aload_n 3, 1) := by decide +kernel
theorem dL_find_1 : decode cL_find 1 = .ok (.iconst 0, 1) := by decide +kernel
theorem dL_find_2 : decode cL_find 2 = .ok (.aload_n 0, 1) := by decide +kernel
theorem dL_find_3 : decode cL_find 3 = .ok (.iload_n 1, 1) := by decide +kernel
theorem dL_find_4 : decode cL_find 4 = .ok (.iload_n 2, 1) := by decide +kernel
theorem dL_find_5 : decode cL_find 5 = .ok (.invokevirtual 50, 3) := by decide +kernel
theorem zw_649 : Cond.methodLink RL 50 yX4_find ∈ z_Ts := z_m 649 (by decide +kernel) (by decide +kernel)
theorem zw_650 : Cond.instanceMethod yX4_find ∈ z_Ts := z_m 650 (by decide +kernel) (by decide +kernel)
theorem zw_651 : Cond.selects RX4 yX4_find yX4_find ∈ z_Ts := z_m 651 (by decide +kernel) (by decide +kernel)
theorem zw_652 : Cond.code yX4_find cX4_find 3 (some .int) ∈ z_Ts := z_m 652 (by decide +kernel) (by decide +kernel)
theorem dL_find_13 : decode cL_find 13 = .ok (.astore 4, 2) := by decide +kernel
theorem dL_find_15 : decode cL_find 15 = .ok (.iconst 1, 1) := by decide +kernel
theorem dL_find_16 : decode cL_find 16 = .ok (.ireturn, 1) := by decide +kernel
set_option maxHeartbeats 4000000 in
set_option maxRecDepth 100000 in
theorem f_L_find (l : Launch) (hst : l.stackTraces = false) (D : va_G) (h0 : Nat) (hu : Nat) (hs : Nat) (hc : Nat) (hp : Nat) (hg : Nat) (td : Int32) (sd : Int32) (a0 : Int32) (a1 : Int32) (ho : Nat) (fo : Nat → Int64) (cJ : ClassId) (sz : Nat)  : vx_Met l yL_find [Cond.codeWith yL_find cL_find 5 (some .int) [(0, 10, 13, 23), (0, 10, 17, 13), (0, 10, 21, 15)]] ({ frames := 8, cells := 1, slots := 6, locals := 170 }) (z_Pc D [.ref h0, .int a0, .int a1, .ref ho] [(h0, .inr (6, [.ref hu, .ref hs, .ref hc, .ref hp, .ref hg, .int 0, .int 0, .int 0, .int td, .int sd])), (ho, .inl (cJ, 1, .inr (.inl fo)))] [(cJ, .long)] sz) (va_Qi (fun (r : Int32) (_ : Unit) => r = 1) (fun _ t => z_W D [(h0, .inr (6, [.ref hu, .ref hs, .ref hc, .ref hp, .ref hg, .int 0, .int 0, .int 0, .int td, .int sd])), (ho, .inl (cJ, 1, .inr (.inl fo)))] [(cJ, .long)] (va_A [(h0, .inr (6, [.ref hu, .ref hs, .ref hc, .ref hp, .ref hg, .int 0, .int 0, .int 0, .int td, .int sd])), (ho, .inl (cJ, 1, .inr (.inl fo)))] sz) t) (va_A [(h0, .inr (6, [.ref hu, .ref hs, .ref hc, .ref hp, .ref hg, .int 0, .int 0, .int 0, .int td, .int sd])), (ho, .inl (cJ, 1, .inr (.inl fo)))] sz)) (z_T (False) "none" D [(h0, .inr (6, [.ref hu, .ref hs, .ref hc, .ref hp, .ref hg, .int 0, .int 0, .int 0, .int td, .int sd])), (ho, .inl (cJ, 1, .inr (.inl fo)))] [(cJ, .long)] sz) 1 6 (va_A [(h0, .inr (6, [.ref hu, .ref hs, .ref hc, .ref hp, .ref hg, .int 0, .int 0, .int 0, .int td, .int sd])), (ho, .inl (cJ, 1, .inr (.inl fo)))] sz) := by
  refine vx_ofWH (cc := cL_find) (maxL := 5) (ret := (some .int)) (hh := [(0, 10, 13, 23), (0, 10, 17, 13), (0, 10, 21, 15)]) (by decide +kernel) rfl ?_
  intro p e s m args below meth c s₁ B hml hv
  obtain ⟨rfl, hsz, hP, hK, hD0, hE, hX0⟩ := hv
  have hx := B.exec
  have hb := B.bytes
  have hr := B.returns
  have hts := z_E.ts (args := [.ref h0, .int a0, .int a1, .ref ho].toArray) hE
  have hown : s.vm.findClass RL = some m.cls := findClass_of_methodNamed B.named
  have hlocks := B.notSynchronized
  have htb := vx_table (x := yL_find) B (atoms_spec (ws := [Cond.codeWith yL_find cL_find 5 (some .int) [(0, 10, 13, 23), (0, 10, 17, 13), (0, 10, 21, 15)]]) B.pre _ List.mem_cons_self)
  subst hsz
  have hD := hD0.self (sz := s.heap.size)
  generalize hAe : va_A [(h0, .inr (6, [.ref hu, .ref hs, .ref hc, .ref hp, .ref hg, .int 0, .int 0, .int 0, .int td, .int sd])), (ho, .inl (cJ, 1, .inr (.inl fo)))] s.heap.size = A at hD hX0 ⊢
  have hX : z_X A s s.heap := hX0
  have hA : ∀ q : Nat, s.heap.size ≤ q → A q := fun q h => by rw [← hAe]; exact Or.inr h
  have hS : va_S A s.heap s.heap [] := va_S.rf
  have hP : va_P D vwCl [(h0, .inr (6, [.ref hu, .ref hs, .ref hc, .ref hp, .ref hg, .int 0, .int 0, .int 0, .int td, .int sd])), (ho, .inl (cJ, 1, .inr (.inl fo)))] s.heap := hP
  have hl := lv_entry ([.ref h0, .int a0, .int a1, .ref ho]) (n := 5) (Nat.le_of_ble_eq_true rfl)
  rw [lg_entry_eq]
  generalize (lg_sl ([.ref h0, .int a0, .int a1, .ref ho]) ++ List.replicate (5 - (lg_sl ([.ref h0, .int a0, .int a1, .ref ho])).length) Slot.unset).toArray = ls at hl ⊢
  have hl : lv_has ls 5 [(0, .ref h0), (1, .int a0), (2, .int a1), (3, .ref ho)] := hl
  skip
  refine lv_aload_n hx hb dL_find_0 rfl (lv_at hl 3 rfl) ?_
  refine lv_iconst (v := 0) hx hb dL_find_1 (by decide) ?_
  refine lv_aload_n hx hb dL_find_2 rfl (lv_at hl 0 rfl) ?_
  refine lv_iload_n hx hb dL_find_3 rfl (lv_at hl 1 rfl) ?_
  refine lv_iload_n hx hb dL_find_4 rfl (lv_at hl 2 rfl) ?_
  obtain ⟨hb_1, hc_1⟩ := z_call (wc := [(h0, .inr (6, [.ref hu, .ref hs, .ref hc, .ref hp, .ref hg, .int 0, .int 0, .int 0, .int td, .int sd]))]) (tc := []) ([.ref h0, .int a0, .int a1]) hP hK hD hS hA hE hX [0] rfl rfl [] rfl
  have hF_1 := va_free (wc := [(h0, .inr (6, [.ref hu, .ref hs, .ref hc, .ref hp, .ref hg, .int 0, .int 0, .int 0, .int td, .int sd]))]) hD hS hA [0] rfl
  refine vx_calli (vx_runV (As := [.int a0, .int a1]) (rest := [.int 0, .ref ho]) ⟨hx, hb, hml, hown, hts⟩ (f_X4_find l hst D h0 hu hs hc hp hg td sd a0 a1 _ ) (z_cV 2 hE zw_649 zw_650 zw_651 zw_91 zw_652 rfl rfl rfl (by decide +kernel) ⟨(Nat.le_of_ble_eq_true rfl), (Nat.le_of_ble_eq_true rfl)⟩) ⟨hb_1, va_recv hK hP (ci := 6) (q0 := 0) rfl rfl, hc_1⟩ rfl rfl hl.1 rfl (lv_room (Nat.le_of_ble_eq_true rfl)) dL_find_5 ⟨(Nat.le_of_ble_eq_true rfl), (Nat.le_of_ble_eq_true rfl)⟩) hS (fun q _ h => hF_1 q h) hF_1 (fun q _ h => hF_1 q h) (fun E_1 ce_1 q9_1 u_1 t_1 H1 locs ht_1 hvm_1 hw_1 hB_1 hz_1 hk_1 hS1 hce_1 hcv_1 hcl_1 => ?_) (fun r_1 u_1 t_1 H1 locs ht_1 hvm_1 hw_1 hB_1 hz_1 hk_1 hS1 => ?_)
  · obtain ⟨rfl, hB_1⟩ := hB_1
    obtain ⟨hP, hK, hD⟩ := z_back (wc := [(h0, .inr (6, [.ref hu, .ref hs, .ref hc, .ref hp, .ref hg, .int 0, .int 0, .int 0, .int td, .int sd]))]) (wr := [(ho, .inl (cJ, 1, .inr (.inl fo)))]) (w1 := [(h0, .inr (6, [.ref hu, .ref hs, .ref hc, .ref hp, .ref hg, .int 0, .int 0, .int 0, .int td, .int sd]))]) (tr := [(cJ, .long)]) hP hK hD [0] [1] rfl rfl rfl (by decide) ht_1 hvm_1 hk_1 hF_1 [0] rfl hB_1
    have hS := hS1
    have hP : va_P D vwCl [(ho, .inl (cJ, 1, .inr (.inl fo))), (h0, .inr (6, [.ref hu, .ref hs, .ref hc, .ref hp, .ref hg, .int 0, .int 0, .int 0, .int td, .int sd]))] H1 := hP
    have hD : va_D A [(ho, .inl (cJ, 1, .inr (.inl fo))), (h0, .inr (6, [.ref hu, .ref hs, .ref hc, .ref hp, .ref hg, .int 0, .int 0, .int 0, .int td, .int sd]))] := hD
    have hK : va_K D vwCl [(cJ, .long)] s := hK
    clear hS1
    refine vx_catch (name := "java/lang/IndexOutOfBoundsException") hown [] ⟨0, 10, 13, 23⟩ [⟨0, 10, 17, 13⟩, ⟨0, 10, 21, 15⟩] (htb.trans rfl) (fun z hz => nomatch hz) (by decide) (by decide) (hts _ zw_520) (hts _ zw_531) hce_1 hcv_1 hcl_1 ?_
    refine lv_astore (lv' := [(4, .ref q9_1), (0, .ref h0), (1, .int a0), (2, .int a1), (3, .ref ho)]) hx hb dL_find_13 hl (by decide) rfl (fun ls hl => ?_)
    refine lv_iconst (v := 1) hx hb dL_find_15 (by decide) ?_
    exact vx_ret (W.iret (v := 1) hx hb hr (fun t ht hW => ⟨⟨1, (), rfl, rfl, z_end hP hK hD [1, 0] rfl rfl [0] rfl ht hW.alike⟩, hS.F ht⟩) hS.2.2 dL_find_16)
  · exact hw_1.elim
theorem dL_addShop_0 : decode cL_addShop 0 = .ok (.aload 7, 2) := by decide +kernel
theorem dL_addShop_2 : decode cL_addShop 2 = .ok (.iconst 0, 1) := by decide +kernel
theorem dL_addShop_3 : decode cL_addShop 3 = .ok (.aload_n 0, 1) := by decide +kernel
theorem dL_addShop_4 : decode cL_addShop 4 = .ok (.iload_n 1, 1) := by decide +kernel
theorem dL_addShop_5 : decode cL_addShop 5 = .ok (.iload_n 2, 1) := by decide +kernel
theorem dL_addShop_6 : decode cL_addShop 6 = .ok (.iload_n 3, 1) := by decide +kernel
theorem dL_addShop_7 : decode cL_addShop 7 = .ok (.iload 4, 2) := by decide +kernel
theorem dL_addShop_9 : decode cL_addShop 9 = .ok (.iload 5, 2) := by decide +kernel
theorem dL_addShop_11 : decode cL_addShop 11 = .ok (.iload 6, 2) := by decide +kernel
theorem dL_addShop_13 : decode cL_addShop 13 = .ok (.invokevirtual 53, 3) := by decide +kernel
theorem zw_657 : Cond.methodLink RL 53 yX4_addShop ∈ z_Ts := z_m 657 (by decide +kernel) (by decide +kernel)
theorem zw_658 : Cond.instanceMethod yX4_addShop ∈ z_Ts := z_m 658 (by decide +kernel) (by decide +kernel)
theorem zw_659 : Cond.selects RX4 yX4_addShop yX4_addShop ∈ z_Ts := z_m 659 (by decide +kernel) (by decide +kernel)
theorem zw_660 : Cond.code yX4_addShop cX4_addShop 8 (some .int) ∈ z_Ts := z_m 660 (by decide +kernel) (by decide +kernel)
theorem dL_addShop_21 : decode cL_addShop 21 = .ok (.astore 8, 2) := by decide +kernel
theorem dL_addShop_23 : decode cL_addShop 23 = .ok (.iconst 1, 1) := by decide +kernel
theorem dL_addShop_24 : decode cL_addShop 24 = .ok (.ireturn, 1) := by decide +kernel
set_option maxHeartbeats 4000000 in
set_option maxRecDepth 100000 in
theorem f_L_addShop (l : Launch) (hst : l.stackTraces = false) (D : va_G) (h0 : Nat) (hu : Nat) (hs : Nat) (hc : Nat) (hp : Nat) (hg : Nat) (td : Int32) (sd : Int32) (a0 : Int32) (a1 : Int32) (a2 : Int32) (a3 : Int32) (a4 : Int32) (a5 : Int32) (ho : Nat) (fo : Nat → Int64) (cJ : ClassId) (sz : Nat)  : vx_Met l yL_addShop [Cond.codeWith yL_addShop cL_addShop 9 (some .int) [(0, 18, 21, 23), (0, 18, 25, 13), (0, 18, 29, 15), (0, 18, 33, 17)]] ({ frames := 8, cells := 1, slots := 6, locals := 170 }) (z_Pc D [.ref h0, .int a0, .int a1, .int a2, .int a3, .int a4, .int a5, .ref ho] [(h0, .inr (6, [.ref hu, .ref hs, .ref hc, .ref hp, .ref hg, .int 0, .int 0, .int 0, .int td, .int sd])), (ho, .inl (cJ, 1, .inr (.inl fo)))] [(cJ, .long)] sz) (va_Qi (fun (r : Int32) (_ : Unit) => r = 1) (fun _ t => z_W D [(h0, .inr (6, [.ref hu, .ref hs, .ref hc, .ref hp, .ref hg, .int 0, .int 0, .int 0, .int td, .int sd])), (ho, .inl (cJ, 1, .inr (.inl fo)))] [(cJ, .long)] (va_A [(h0, .inr (6, [.ref hu, .ref hs, .ref hc, .ref hp, .ref hg, .int 0, .int 0, .int 0, .int td, .int sd])), (ho, .inl (cJ, 1, .inr (.inl fo)))] sz) t) (va_A [(h0, .inr (6, [.ref hu, .ref hs, .ref hc, .ref hp, .ref hg, .int 0, .int 0, .int 0, .int td, .int sd])), (ho, .inl (cJ, 1, .inr (.inl fo)))] sz)) (z_T (False) "none" D [(h0, .inr (6, [.ref hu, .ref hs, .ref hc, .ref hp, .ref hg, .int 0, .int 0, .int 0, .int td, .int sd])), (ho, .inl (cJ, 1, .inr (.inl fo)))] [(cJ, .long)] sz) 1 6 (va_A [(h0, .inr (6, [.ref hu, .ref hs, .ref hc, .ref hp, .ref hg, .int 0, .int 0, .int 0, .int td, .int sd])), (ho, .inl (cJ, 1, .inr (.inl fo)))] sz) := by
  refine vx_ofWH (cc := cL_addShop) (maxL := 9) (ret := (some .int)) (hh := [(0, 18, 21, 23), (0, 18, 25, 13), (0, 18, 29, 15), (0, 18, 33, 17)]) (by decide +kernel) rfl ?_
  intro p e s m args below meth c s₁ B hml hv
  obtain ⟨rfl, hsz, hP, hK, hD0, hE, hX0⟩ := hv
  have hx := B.exec
  have hb := B.bytes
  have hr := B.returns
  have hts := z_E.ts (args := [.ref h0, .int a0, .int a1, .int a2, .int a3, .int a4, .int a5, .ref ho].toArray) hE
  have hown : s.vm.findClass RL = some m.cls := findClass_of_methodNamed B.named
  have hlocks := B.notSynchronized
  have htb := vx_table (x := yL_addShop) B (atoms_spec (ws := [Cond.codeWith yL_addShop cL_addShop 9 (some .int) [(0, 18, 21, 23), (0, 18, 25, 13), (0, 18, 29, 15), (0, 18, 33, 17)]]) B.pre _ List.mem_cons_self)
  subst hsz
  have hD := hD0.self (sz := s.heap.size)
  generalize hAe : va_A [(h0, .inr (6, [.ref hu, .ref hs, .ref hc, .ref hp, .ref hg, .int 0, .int 0, .int 0, .int td, .int sd])), (ho, .inl (cJ, 1, .inr (.inl fo)))] s.heap.size = A at hD hX0 ⊢
  have hX : z_X A s s.heap := hX0
  have hA : ∀ q : Nat, s.heap.size ≤ q → A q := fun q h => by rw [← hAe]; exact Or.inr h
  have hS : va_S A s.heap s.heap [] := va_S.rf
  have hP : va_P D vwCl [(h0, .inr (6, [.ref hu, .ref hs, .ref hc, .ref hp, .ref hg, .int 0, .int 0, .int 0, .int td, .int sd])), (ho, .inl (cJ, 1, .inr (.inl fo)))] s.heap := hP
  have hl := lv_entry ([.ref h0, .int a0, .int a1, .int a2, .int a3, .int a4, .int a5, .ref ho]) (n := 9) (Nat.le_of_ble_eq_true rfl)
  rw [lg_entry_eq]
  generalize (lg_sl ([.ref h0, .int a0, .int a1, .int a2, .int a3, .int a4, .int a5, .ref ho]) ++ List.replicate (9 - (lg_sl ([.ref h0, .int a0, .int a1, .int a2, .int a3, .int a4, .int a5, .ref ho])).length) Slot.unset).toArray = ls at hl ⊢
  have hl : lv_has ls 9 [(0, .ref h0), (1, .int a0), (2, .int a1), (3, .int a2), (4, .int a3), (5, .int a4), (6, .int a5), (7, .ref ho)] := hl
  skip
  refine lv_aload hx hb dL_addShop_0 (lv_at hl 7 rfl) ?_
  refine lv_iconst (v := 0) hx hb dL_addShop_2 (by decide) ?_
  refine lv_aload_n hx hb dL_addShop_3 rfl (lv_at hl 0 rfl) ?_
  refine lv_iload_n hx hb dL_addShop_4 rfl (lv_at hl 1 rfl) ?_
  refine lv_iload_n hx hb dL_addShop_5 rfl (lv_at hl 2 rfl) ?_
  refine lv_iload_n hx hb dL_addShop_6 rfl (lv_at hl 3 rfl) ?_
  refine lv_iload hx hb dL_addShop_7 (lv_at hl 4 rfl) ?_
  refine lv_iload hx hb dL_addShop_9 (lv_at hl 5 rfl) ?_
  refine lv_iload hx hb dL_addShop_11 (lv_at hl 6 rfl) ?_
  obtain ⟨hb_1, hc_1⟩ := z_call (wc := [(h0, .inr (6, [.ref hu, .ref hs, .ref hc, .ref hp, .ref hg, .int 0, .int 0, .int 0, .int td, .int sd]))]) (tc := []) ([.ref h0, .int a0, .int a1, .int a2, .int a3, .int a4, .int a5]) hP hK hD hS hA hE hX [0] rfl rfl [] rfl
  have hF_1 := va_free (wc := [(h0, .inr (6, [.ref hu, .ref hs, .ref hc, .ref hp, .ref hg, .int 0, .int 0, .int 0, .int td, .int sd]))]) hD hS hA [0] rfl
  refine vx_calli (vx_runV (As := [.int a0, .int a1, .int a2, .int a3, .int a4, .int a5]) (rest := [.int 0, .ref ho]) ⟨hx, hb, hml, hown, hts⟩ (f_X4_addShop l hst D h0 hu hs hc hp hg td sd a0 a1 a2 a3 a4 a5 _ ) (z_cV 6 hE zw_657 zw_658 zw_659 zw_91 zw_660 rfl rfl rfl (by decide +kernel) ⟨(Nat.le_of_ble_eq_true rfl), (Nat.le_of_ble_eq_true rfl)⟩) ⟨hb_1, va_recv hK hP (ci := 6) (q0 := 0) rfl rfl, hc_1⟩ rfl rfl hl.1 rfl (lv_room (Nat.le_of_ble_eq_true rfl)) dL_addShop_13 ⟨(Nat.le_of_ble_eq_true rfl), (Nat.le_of_ble_eq_true rfl)⟩) hS (fun q _ h => hF_1 q h) hF_1 (fun q _ h => hF_1 q h) (fun E_1 ce_1 q9_1 u_1 t_1 H1 locs ht_1 hvm_1 hw_1 hB_1 hz_1 hk_1 hS1 hce_1 hcv_1 hcl_1 => ?_) (fun r_1 u_1 t_1 H1 locs ht_1 hvm_1 hw_1 hB_1 hz_1 hk_1 hS1 => ?_)
  · obtain ⟨rfl, hB_1⟩ := hB_1
    obtain ⟨hP, hK, hD⟩ := z_back (wc := [(h0, .inr (6, [.ref hu, .ref hs, .ref hc, .ref hp, .ref hg, .int 0, .int 0, .int 0, .int td, .int sd]))]) (wr := [(ho, .inl (cJ, 1, .inr (.inl fo)))]) (w1 := [(h0, .inr (6, [.ref hu, .ref hs, .ref hc, .ref hp, .ref hg, .int 0, .int 0, .int 0, .int td, .int sd]))]) (tr := [(cJ, .long)]) hP hK hD [0] [1] rfl rfl rfl (by decide) ht_1 hvm_1 hk_1 hF_1 [0] rfl hB_1
    have hS := hS1
    have hP : va_P D vwCl [(ho, .inl (cJ, 1, .inr (.inl fo))), (h0, .inr (6, [.ref hu, .ref hs, .ref hc, .ref hp, .ref hg, .int 0, .int 0, .int 0, .int td, .int sd]))] H1 := hP
    have hD : va_D A [(ho, .inl (cJ, 1, .inr (.inl fo))), (h0, .inr (6, [.ref hu, .ref hs, .ref hc, .ref hp, .ref hg, .int 0, .int 0, .int 0, .int td, .int sd]))] := hD
    have hK : va_K D vwCl [(cJ, .long)] s := hK
    clear hS1
    refine vx_catch (name := "java/lang/IndexOutOfBoundsException") hown [] ⟨0, 18, 21, 23⟩ [⟨0, 18, 25, 13⟩, ⟨0, 18, 29, 15⟩, ⟨0, 18, 33, 17⟩] (htb.trans rfl) (fun z hz => nomatch hz) (by decide) (by decide) (hts _ zw_520) (hts _ zw_531) hce_1 hcv_1 hcl_1 ?_
    refine lv_astore (lv' := [(8, .ref q9_1), (0, .ref h0), (1, .int a0), (2, .int a1), (3, .int a2), (4, .int a3), (5, .int a4), (6, .int a5), (7, .ref ho)]) hx hb dL_addShop_21 hl (by decide) rfl (fun ls hl => ?_)
    refine lv_iconst (v := 1) hx hb dL_addShop_23 (by decide) ?_
    exact vx_ret (W.iret (v := 1) hx hb hr (fun t ht hW => ⟨⟨1, (), rfl, rfl, z_end hP hK hD [1, 0] rfl rfl [0] rfl ht hW.alike⟩, hS.F ht⟩) hS.2.2 dL_addShop_24)
  · exact hw_1.elim
theorem dL_flow_0 : decode cL_flow 0 = .ok (.aload_n 2, 1) := by decide +kernel
theorem dL_flow_1 : decode cL_flow 1 = .ok (.iconst 0, 1) := by decide +kernel
theorem dL_flow_2 : decode cL_flow 2 = .ok (.aload_n 0, 1) := by decide +kernel
theorem dL_flow_3 : decode cL_flow 3 = .ok (.iload_n 1, 1) := by decide +kernel
theorem dL_flow_4 : decode cL_flow 4 = .ok (.invokevirtual 91, 3) := by decide +kernel
theorem zw_801 : Cond.methodLink RL 91 yX4_flow ∈ z_Ts := z_m 801 (by decide +kernel) (by decide +kernel)
theorem zw_802 : Cond.instanceMethod yX4_flow ∈ z_Ts := z_m 802 (by decide +kernel) (by decide +kernel)
theorem zw_803 : Cond.selects RX4 yX4_flow yX4_flow ∈ z_Ts := z_m 803 (by decide +kernel) (by decide +kernel)
theorem zw_804 : Cond.code yX4_flow cX4_flow 2 (some .int) ∈ z_Ts := z_m 804 (by decide +kernel) (by decide +kernel)
theorem dL_flow_12 : decode cL_flow 12 = .ok (.astore_n 3, 1) := by decide +kernel
theorem dL_flow_13 : decode cL_flow 13 = .ok (.iconst 1, 1) := by decide +kernel
theorem dL_flow_14 : decode cL_flow 14 = .ok (.ireturn, 1) := by decide +kernel
set_option maxHeartbeats 4000000 in
set_option maxRecDepth 100000 in
theorem f_L_flow (l : Launch) (hst : l.stackTraces = false) (D : va_G) (h0 : Nat) (hu : Nat) (hs : Nat) (hc : Nat) (hp : Nat) (hg : Nat) (td : Int32) (sd : Int32) (a0 : Int32) (ho : Nat) (fo : Nat → Int64) (cJ : ClassId) (sz : Nat)  : vx_Met l yL_flow [Cond.codeWith yL_flow cL_flow 4 (some .int) [(0, 9, 12, 23)]] ({ frames := 8, cells := 1, slots := 6, locals := 170 }) (z_Pc D [.ref h0, .int a0, .ref ho] [(h0, .inr (6, [.ref hu, .ref hs, .ref hc, .ref hp, .ref hg, .int 0, .int 0, .int 0, .int td, .int sd])), (ho, .inl (cJ, 1, .inr (.inl fo)))] [(cJ, .long)] sz) (va_Qi (fun (r : Int32) (_ : Unit) => r = 1) (fun _ t => z_W D [(h0, .inr (6, [.ref hu, .ref hs, .ref hc, .ref hp, .ref hg, .int 0, .int 0, .int 0, .int td, .int sd])), (ho, .inl (cJ, 1, .inr (.inl fo)))] [(cJ, .long)] (va_A [(h0, .inr (6, [.ref hu, .ref hs, .ref hc, .ref hp, .ref hg, .int 0, .int 0, .int 0, .int td, .int sd])), (ho, .inl (cJ, 1, .inr (.inl fo)))] sz) t) (va_A [(h0, .inr (6, [.ref hu, .ref hs, .ref hc, .ref hp, .ref hg, .int 0, .int 0, .int 0, .int td, .int sd])), (ho, .inl (cJ, 1, .inr (.inl fo)))] sz)) (z_T (False) "none" D [(h0, .inr (6, [.ref hu, .ref hs, .ref hc, .ref hp, .ref hg, .int 0, .int 0, .int 0, .int td, .int sd])), (ho, .inl (cJ, 1, .inr (.inl fo)))] [(cJ, .long)] sz) 1 6 (va_A [(h0, .inr (6, [.ref hu, .ref hs, .ref hc, .ref hp, .ref hg, .int 0, .int 0, .int 0, .int td, .int sd])), (ho, .inl (cJ, 1, .inr (.inl fo)))] sz) := by
  refine vx_ofWH (cc := cL_flow) (maxL := 4) (ret := (some .int)) (hh := [(0, 9, 12, 23)]) (by decide +kernel) rfl ?_
  intro p e s m args below meth c s₁ B hml hv
  obtain ⟨rfl, hsz, hP, hK, hD0, hE, hX0⟩ := hv
  have hx := B.exec
  have hb := B.bytes
  have hr := B.returns
  have hts := z_E.ts (args := [.ref h0, .int a0, .ref ho].toArray) hE
  have hown : s.vm.findClass RL = some m.cls := findClass_of_methodNamed B.named
  have hlocks := B.notSynchronized
  have htb := vx_table (x := yL_flow) B (atoms_spec (ws := [Cond.codeWith yL_flow cL_flow 4 (some .int) [(0, 9, 12, 23)]]) B.pre _ List.mem_cons_self)
  subst hsz
  have hD := hD0.self (sz := s.heap.size)
  generalize hAe : va_A [(h0, .inr (6, [.ref hu, .ref hs, .ref hc, .ref hp, .ref hg, .int 0, .int 0, .int 0, .int td, .int sd])), (ho, .inl (cJ, 1, .inr (.inl fo)))] s.heap.size = A at hD hX0 ⊢
  have hX : z_X A s s.heap := hX0
  have hA : ∀ q : Nat, s.heap.size ≤ q → A q := fun q h => by rw [← hAe]; exact Or.inr h
  have hS : va_S A s.heap s.heap [] := va_S.rf
  have hP : va_P D vwCl [(h0, .inr (6, [.ref hu, .ref hs, .ref hc, .ref hp, .ref hg, .int 0, .int 0, .int 0, .int td, .int sd])), (ho, .inl (cJ, 1, .inr (.inl fo)))] s.heap := hP
  have hl := lv_entry ([.ref h0, .int a0, .ref ho]) (n := 4) (Nat.le_of_ble_eq_true rfl)
  rw [lg_entry_eq]
  generalize (lg_sl ([.ref h0, .int a0, .ref ho]) ++ List.replicate (4 - (lg_sl ([.ref h0, .int a0, .ref ho])).length) Slot.unset).toArray = ls at hl ⊢
  have hl : lv_has ls 4 [(0, .ref h0), (1, .int a0), (2, .ref ho)] := hl
  skip
  refine lv_aload_n hx hb dL_flow_0 rfl (lv_at hl 2 rfl) ?_
  refine lv_iconst (v := 0) hx hb dL_flow_1 (by decide) ?_
  refine lv_aload_n hx hb dL_flow_2 rfl (lv_at hl 0 rfl) ?_
  refine lv_iload_n hx hb dL_flow_3 rfl (lv_at hl 1 rfl) ?_
  obtain ⟨hb_1, hc_1⟩ := z_call (wc := [(h0, .inr (6, [.ref hu, .ref hs, .ref hc, .ref hp, .ref hg, .int 0, .int 0, .int 0, .int td, .int sd]))]) (tc := []) ([.ref h0, .int a0]) hP hK hD hS hA hE hX [0] rfl rfl [] rfl
  have hF_1 := va_free (wc := [(h0, .inr (6, [.ref hu, .ref hs, .ref hc, .ref hp, .ref hg, .int 0, .int 0, .int 0, .int td, .int sd]))]) hD hS hA [0] rfl
  refine vx_calli (vx_runV (As := [.int a0]) (rest := [.int 0, .ref ho]) ⟨hx, hb, hml, hown, hts⟩ (f_X4_flow l hst D h0 hu hs hc hp hg td sd a0 _ ) (z_cV 1 hE zw_801 zw_802 zw_803 zw_91 zw_804 rfl rfl rfl (by decide +kernel) ⟨(Nat.le_of_ble_eq_true rfl), (Nat.le_of_ble_eq_true rfl)⟩) ⟨hb_1, va_recv hK hP (ci := 6) (q0 := 0) rfl rfl, hc_1⟩ rfl rfl hl.1 rfl (lv_room (Nat.le_of_ble_eq_true rfl)) dL_flow_4 ⟨(Nat.le_of_ble_eq_true rfl), (Nat.le_of_ble_eq_true rfl)⟩) hS (fun q _ h => hF_1 q h) hF_1 (fun q _ h => hF_1 q h) (fun E_1 ce_1 q9_1 u_1 t_1 H1 locs ht_1 hvm_1 hw_1 hB_1 hz_1 hk_1 hS1 hce_1 hcv_1 hcl_1 => ?_) (fun r_1 u_1 t_1 H1 locs ht_1 hvm_1 hw_1 hB_1 hz_1 hk_1 hS1 => ?_)
  · obtain ⟨rfl, hB_1⟩ := hB_1
    obtain ⟨hP, hK, hD⟩ := z_back (wc := [(h0, .inr (6, [.ref hu, .ref hs, .ref hc, .ref hp, .ref hg, .int 0, .int 0, .int 0, .int td, .int sd]))]) (wr := [(ho, .inl (cJ, 1, .inr (.inl fo)))]) (w1 := [(h0, .inr (6, [.ref hu, .ref hs, .ref hc, .ref hp, .ref hg, .int 0, .int 0, .int 0, .int td, .int sd]))]) (tr := [(cJ, .long)]) hP hK hD [0] [1] rfl rfl rfl (by decide) ht_1 hvm_1 hk_1 hF_1 [0] rfl hB_1
    have hS := hS1
    have hP : va_P D vwCl [(ho, .inl (cJ, 1, .inr (.inl fo))), (h0, .inr (6, [.ref hu, .ref hs, .ref hc, .ref hp, .ref hg, .int 0, .int 0, .int 0, .int td, .int sd]))] H1 := hP
    have hD : va_D A [(ho, .inl (cJ, 1, .inr (.inl fo))), (h0, .inr (6, [.ref hu, .ref hs, .ref hc, .ref hp, .ref hg, .int 0, .int 0, .int 0, .int td, .int sd]))] := hD
    have hK : va_K D vwCl [(cJ, .long)] s := hK
    clear hS1
    refine vx_catch (name := "java/lang/IndexOutOfBoundsException") hown [] ⟨0, 9, 12, 23⟩ [] (htb.trans rfl) (fun z hz => nomatch hz) (by decide) (by decide) (hts _ zw_520) (hts _ zw_531) hce_1 hcv_1 hcl_1 ?_
    refine lv_astore_n (lv' := [(3, .ref q9_1), (0, .ref h0), (1, .int a0), (2, .ref ho)]) hx hb dL_flow_12 rfl hl (by decide) rfl (fun ls hl => ?_)
    refine lv_iconst (v := 1) hx hb dL_flow_13 (by decide) ?_
    exact vx_ret (W.iret (v := 1) hx hb hr (fun t ht hW => ⟨⟨1, (), rfl, rfl, z_end hP hK hD [1, 0] rfl rfl [0] rfl ht hW.alike⟩, hS.F ht⟩) hS.2.2 dL_flow_14)
  · exact hw_1.elim
theorem dL_room_0 : decode cL_room 0 = .ok (.aload_n 2, 1) := by decide +kernel
theorem dL_room_1 : decode cL_room 1 = .ok (.iconst 0, 1) := by decide +kernel
theorem dL_room_2 : decode cL_room 2 = .ok (.aload_n 0, 1) := by decide +kernel
theorem dL_room_3 : decode cL_room 3 = .ok (.iload_n 1, 1) := by decide +kernel
theorem dL_room_4 : decode cL_room 4 = .ok (.invokevirtual 94, 3) := by decide +kernel
theorem zw_808 : Cond.methodLink RL 94 yX4_room ∈ z_Ts := z_m 808 (by decide +kernel) (by decide +kernel)
theorem zw_809 : Cond.instanceMethod yX4_room ∈ z_Ts := z_m 809 (by decide +kernel) (by decide +kernel)
theorem zw_810 : Cond.selects RX4 yX4_room yX4_room ∈ z_Ts := z_m 810 (by decide +kernel) (by decide +kernel)
theorem zw_811 : Cond.code yX4_room cX4_room 2 (some .int) ∈ z_Ts := z_m 811 (by decide +kernel) (by decide +kernel)
theorem dL_room_12 : decode cL_room 12 = .ok (.astore_n 3, 1) := by decide +kernel
theorem dL_room_13 : decode cL_room 13 = .ok (.iconst 1, 1) := by decide +kernel
theorem dL_room_14 : decode cL_room 14 = .ok (.ireturn, 1) := by decide +kernel
set_option maxHeartbeats 4000000 in
set_option maxRecDepth 100000 in
theorem f_L_room (l : Launch) (hst : l.stackTraces = false) (D : va_G) (h0 : Nat) (hu : Nat) (hs : Nat) (hc : Nat) (hp : Nat) (hg : Nat) (td : Int32) (sd : Int32) (a0 : Int32) (ho : Nat) (fo : Nat → Int64) (cJ : ClassId) (sz : Nat)  : vx_Met l yL_room [Cond.codeWith yL_room cL_room 4 (some .int) [(0, 9, 12, 23)]] ({ frames := 8, cells := 1, slots := 6, locals := 170 }) (z_Pc D [.ref h0, .int a0, .ref ho] [(h0, .inr (6, [.ref hu, .ref hs, .ref hc, .ref hp, .ref hg, .int 0, .int 0, .int 0, .int td, .int sd])), (ho, .inl (cJ, 1, .inr (.inl fo)))] [(cJ, .long)] sz) (va_Qi (fun (r : Int32) (_ : Unit) => r = 1) (fun _ t => z_W D [(h0, .inr (6, [.ref hu, .ref hs, .ref hc, .ref hp, .ref hg, .int 0, .int 0, .int 0, .int td, .int sd])), (ho, .inl (cJ, 1, .inr (.inl fo)))] [(cJ, .long)] (va_A [(h0, .inr (6, [.ref hu, .ref hs, .ref hc, .ref hp, .ref hg, .int 0, .int 0, .int 0, .int td, .int sd])), (ho, .inl (cJ, 1, .inr (.inl fo)))] sz) t) (va_A [(h0, .inr (6, [.ref hu, .ref hs, .ref hc, .ref hp, .ref hg, .int 0, .int 0, .int 0, .int td, .int sd])), (ho, .inl (cJ, 1, .inr (.inl fo)))] sz)) (z_T (False) "none" D [(h0, .inr (6, [.ref hu, .ref hs, .ref hc, .ref hp, .ref hg, .int 0, .int 0, .int 0, .int td, .int sd])), (ho, .inl (cJ, 1, .inr (.inl fo)))] [(cJ, .long)] sz) 1 6 (va_A [(h0, .inr (6, [.ref hu, .ref hs, .ref hc, .ref hp, .ref hg, .int 0, .int 0, .int 0, .int td, .int sd])), (ho, .inl (cJ, 1, .inr (.inl fo)))] sz) := by
  refine vx_ofWH (cc := cL_room) (maxL := 4) (ret := (some .int)) (hh := [(0, 9, 12, 23)]) (by decide +kernel) rfl ?_
  intro p e s m args below meth c s₁ B hml hv
  obtain ⟨rfl, hsz, hP, hK, hD0, hE, hX0⟩ := hv
  have hx := B.exec
  have hb := B.bytes
  have hr := B.returns
  have hts := z_E.ts (args := [.ref h0, .int a0, .ref ho].toArray) hE
  have hown : s.vm.findClass RL = some m.cls := findClass_of_methodNamed B.named
  have hlocks := B.notSynchronized
  have htb := vx_table (x := yL_room) B (atoms_spec (ws := [Cond.codeWith yL_room cL_room 4 (some .int) [(0, 9, 12, 23)]]) B.pre _ List.mem_cons_self)
  subst hsz
  have hD := hD0.self (sz := s.heap.size)
  generalize hAe : va_A [(h0, .inr (6, [.ref hu, .ref hs, .ref hc, .ref hp, .ref hg, .int 0, .int 0, .int 0, .int td, .int sd])), (ho, .inl (cJ, 1, .inr (.inl fo)))] s.heap.size = A at hD hX0 ⊢
  have hX : z_X A s s.heap := hX0
  have hA : ∀ q : Nat, s.heap.size ≤ q → A q := fun q h => by rw [← hAe]; exact Or.inr h
  have hS : va_S A s.heap s.heap [] := va_S.rf
  have hP : va_P D vwCl [(h0, .inr (6, [.ref hu, .ref hs, .ref hc, .ref hp, .ref hg, .int 0, .int 0, .int 0, .int td, .int sd])), (ho, .inl (cJ, 1, .inr (.inl fo)))] s.heap := hP
  have hl := lv_entry ([.ref h0, .int a0, .ref ho]) (n := 4) (Nat.le_of_ble_eq_true rfl)
  rw [lg_entry_eq]
  generalize (lg_sl ([.ref h0, .int a0, .ref ho]) ++ List.replicate (4 - (lg_sl ([.ref h0, .int a0, .ref ho])).length) Slot.unset).toArray = ls at hl ⊢
  have hl : lv_has ls 4 [(0, .ref h0), (1, .int a0), (2, .ref ho)] := hl
  skip
  refine lv_aload_n hx hb dL_room_0 rfl (lv_at hl 2 rfl) ?_
  refine lv_iconst (v := 0) hx hb dL_room_1 (by decide) ?_
  refine lv_aload_n hx hb dL_room_2 rfl (lv_at hl 0 rfl) ?_
  refine lv_iload_n hx hb dL_room_3 rfl (lv_at hl 1 rfl) ?_
  obtain ⟨hb_1, hc_1⟩ := z_call (wc := [(h0, .inr (6, [.ref hu, .ref hs, .ref hc, .ref hp, .ref hg, .int 0, .int 0, .int 0, .int td, .int sd]))]) (tc := []) ([.ref h0, .int a0]) hP hK hD hS hA hE hX [0] rfl rfl [] rfl
  have hF_1 := va_free (wc := [(h0, .inr (6, [.ref hu, .ref hs, .ref hc, .ref hp, .ref hg, .int 0, .int 0, .int 0, .int td, .int sd]))]) hD hS hA [0] rfl
  refine vx_calli (vx_runV (As := [.int a0]) (rest := [.int 0, .ref ho]) ⟨hx, hb, hml, hown, hts⟩ (f_X4_room l hst D h0 hu hs hc hp hg td sd a0 _ ) (z_cV 1 hE zw_808 zw_809 zw_810 zw_91 zw_811 rfl rfl rfl (by decide +kernel) ⟨(Nat.le_of_ble_eq_true rfl), (Nat.le_of_ble_eq_true rfl)⟩) ⟨hb_1, va_recv hK hP (ci := 6) (q0 := 0) rfl rfl, hc_1⟩ rfl rfl hl.1 rfl (lv_room (Nat.le_of_ble_eq_true rfl)) dL_room_4 ⟨(Nat.le_of_ble_eq_true rfl), (Nat.le_of_ble_eq_true rfl)⟩) hS (fun q _ h => hF_1 q h) hF_1 (fun q _ h => hF_1 q h) (fun E_1 ce_1 q9_1 u_1 t_1 H1 locs ht_1 hvm_1 hw_1 hB_1 hz_1 hk_1 hS1 hce_1 hcv_1 hcl_1 => ?_) (fun r_1 u_1 t_1 H1 locs ht_1 hvm_1 hw_1 hB_1 hz_1 hk_1 hS1 => ?_)
  · obtain ⟨rfl, hB_1⟩ := hB_1
    obtain ⟨hP, hK, hD⟩ := z_back (wc := [(h0, .inr (6, [.ref hu, .ref hs, .ref hc, .ref hp, .ref hg, .int 0, .int 0, .int 0, .int td, .int sd]))]) (wr := [(ho, .inl (cJ, 1, .inr (.inl fo)))]) (w1 := [(h0, .inr (6, [.ref hu, .ref hs, .ref hc, .ref hp, .ref hg, .int 0, .int 0, .int 0, .int td, .int sd]))]) (tr := [(cJ, .long)]) hP hK hD [0] [1] rfl rfl rfl (by decide) ht_1 hvm_1 hk_1 hF_1 [0] rfl hB_1
    have hS := hS1
    have hP : va_P D vwCl [(ho, .inl (cJ, 1, .inr (.inl fo))), (h0, .inr (6, [.ref hu, .ref hs, .ref hc, .ref hp, .ref hg, .int 0, .int 0, .int 0, .int td, .int sd]))] H1 := hP
    have hD : va_D A [(ho, .inl (cJ, 1, .inr (.inl fo))), (h0, .inr (6, [.ref hu, .ref hs, .ref hc, .ref hp, .ref hg, .int 0, .int 0, .int 0, .int td, .int sd]))] := hD
    have hK : va_K D vwCl [(cJ, .long)] s := hK
    clear hS1
    refine vx_catch (name := "java/lang/IndexOutOfBoundsException") hown [] ⟨0, 9, 12, 23⟩ [] (htb.trans rfl) (fun z hz => nomatch hz) (by decide) (by decide) (hts _ zw_520) (hts _ zw_531) hce_1 hcv_1 hcl_1 ?_
    refine lv_astore_n (lv' := [(3, .ref q9_1), (0, .ref h0), (1, .int a0), (2, .ref ho)]) hx hb dL_room_12 rfl hl (by decide) rfl (fun ls hl => ?_)
    refine lv_iconst (v := 1) hx hb dL_room_13 (by decide) ?_
    exact vx_ret (W.iret (v := 1) hx hb hr (fun t ht hW => ⟨⟨1, (), rfl, rfl, z_end hP hK hD [1, 0] rfl rfl [0] rfl ht hW.alike⟩, hS.F ht⟩) hS.2.2 dL_room_14)
  · exact hw_1.elim
theorem dL_lostDays_0 : decode cL_lostDays 0 = .ok (.aload_n 3, 1) := by decide +kernel
theorem dL_lostDays_1 : decode cL_lostDays 1 = .ok (.iconst 0, 1) := by decide +kernel
theorem dL_lostDays_2 : decode cL_lostDays 2 = .ok (.aload_n 0, 1) := by decide +kernel
theorem dL_lostDays_3 : decode cL_lostDays 3 = .ok (.iload_n 1, 1) := by decide +kernel
theorem dL_lostDays_4 : decode cL_lostDays 4 = .ok (.iload_n 2, 1) := by decide +kernel
theorem dL_lostDays_5 : decode cL_lostDays 5 = .ok (.invokevirtual 116, 3) := by decide +kernel
theorem zw_915 : Cond.methodLink RL 116 yX4_lostDays ∈ z_Ts := z_m 915 (by decide +kernel) (by decide +kernel)
theorem zw_916 : Cond.instanceMethod yX4_lostDays ∈ z_Ts := z_m 916 (by decide +kernel) (by decide +kernel)
theorem zw_917 : Cond.selects RX4 yX4_lostDays yX4_lostDays ∈ z_Ts := z_m 917 (by decide +kernel) (by decide +kernel)
theorem zw_918 : Cond.code yX4_lostDays cX4_lostDays 4 (some .int) ∈ z_Ts := z_m 918 (by decide +kernel) (by decide +kernel)
theorem dL_lostDays_13 : decode cL_lostDays 13 = .ok (.astore 4, 2) := by decide +kernel
theorem dL_lostDays_15 : decode cL_lostDays 15 = .ok (.iconst 1, 1) := by decide +kernel
theorem dL_lostDays_16 : decode cL_lostDays 16 = .ok (.ireturn, 1) := by decide +kernel
set_option maxHeartbeats 4000000 in
set_option maxRecDepth 100000 in
theorem f_L_lostDays (l : Launch) (hst : l.stackTraces = false) (D : va_G) (h0 : Nat) (hu : Nat) (hs : Nat) (hc : Nat) (hp : Nat) (hg : Nat) (td : Int32) (sd : Int32) (a0 : Int32) (a1 : Int32) (ho : Nat) (fo : Nat → Int64) (cJ : ClassId) (sz : Nat)  : vx_Met l yL_lostDays [Cond.codeWith yL_lostDays cL_lostDays 5 (some .int) [(0, 10, 13, 23), (0, 10, 17, 13)]] ({ frames := 8, cells := 1, slots := 6, locals := 170 }) (z_Pc D [.ref h0, .int a0, .int a1, .ref ho] [(h0, .inr (6, [.ref hu, .ref hs, .ref hc, .ref hp, .ref hg, .int 0, .int 0, .int 0, .int td, .int sd])), (ho, .inl (cJ, 1, .inr (.inl fo)))] [(cJ, .long)] sz) (va_Qi (fun (r : Int32) (_ : Unit) => r = 1) (fun _ t => z_W D [(h0, .inr (6, [.ref hu, .ref hs, .ref hc, .ref hp, .ref hg, .int 0, .int 0, .int 0, .int td, .int sd])), (ho, .inl (cJ, 1, .inr (.inl fo)))] [(cJ, .long)] (va_A [(h0, .inr (6, [.ref hu, .ref hs, .ref hc, .ref hp, .ref hg, .int 0, .int 0, .int 0, .int td, .int sd])), (ho, .inl (cJ, 1, .inr (.inl fo)))] sz) t) (va_A [(h0, .inr (6, [.ref hu, .ref hs, .ref hc, .ref hp, .ref hg, .int 0, .int 0, .int 0, .int td, .int sd])), (ho, .inl (cJ, 1, .inr (.inl fo)))] sz)) (z_T (False) "none" D [(h0, .inr (6, [.ref hu, .ref hs, .ref hc, .ref hp, .ref hg, .int 0, .int 0, .int 0, .int td, .int sd])), (ho, .inl (cJ, 1, .inr (.inl fo)))] [(cJ, .long)] sz) 1 6 (va_A [(h0, .inr (6, [.ref hu, .ref hs, .ref hc, .ref hp, .ref hg, .int 0, .int 0, .int 0, .int td, .int sd])), (ho, .inl (cJ, 1, .inr (.inl fo)))] sz) := by
  refine vx_ofWH (cc := cL_lostDays) (maxL := 5) (ret := (some .int)) (hh := [(0, 10, 13, 23), (0, 10, 17, 13)]) (by decide +kernel) rfl ?_
  intro p e s m args below meth c s₁ B hml hv
  obtain ⟨rfl, hsz, hP, hK, hD0, hE, hX0⟩ := hv
  have hx := B.exec
  have hb := B.bytes
  have hr := B.returns
  have hts := z_E.ts (args := [.ref h0, .int a0, .int a1, .ref ho].toArray) hE
  have hown : s.vm.findClass RL = some m.cls := findClass_of_methodNamed B.named
  have hlocks := B.notSynchronized
  have htb := vx_table (x := yL_lostDays) B (atoms_spec (ws := [Cond.codeWith yL_lostDays cL_lostDays 5 (some .int) [(0, 10, 13, 23), (0, 10, 17, 13)]]) B.pre _ List.mem_cons_self)
  subst hsz
  have hD := hD0.self (sz := s.heap.size)
  generalize hAe : va_A [(h0, .inr (6, [.ref hu, .ref hs, .ref hc, .ref hp, .ref hg, .int 0, .int 0, .int 0, .int td, .int sd])), (ho, .inl (cJ, 1, .inr (.inl fo)))] s.heap.size = A at hD hX0 ⊢
  have hX : z_X A s s.heap := hX0
  have hA : ∀ q : Nat, s.heap.size ≤ q → A q := fun q h => by rw [← hAe]; exact Or.inr h
  have hS : va_S A s.heap s.heap [] := va_S.rf
  have hP : va_P D vwCl [(h0, .inr (6, [.ref hu, .ref hs, .ref hc, .ref hp, .ref hg, .int 0, .int 0, .int 0, .int td, .int sd])), (ho, .inl (cJ, 1, .inr (.inl fo)))] s.heap := hP
  have hl := lv_entry ([.ref h0, .int a0, .int a1, .ref ho]) (n := 5) (Nat.le_of_ble_eq_true rfl)
  rw [lg_entry_eq]
  generalize (lg_sl ([.ref h0, .int a0, .int a1, .ref ho]) ++ List.replicate (5 - (lg_sl ([.ref h0, .int a0, .int a1, .ref ho])).length) Slot.unset).toArray = ls at hl ⊢
  have hl : lv_has ls 5 [(0, .ref h0), (1, .int a0), (2, .int a1), (3, .ref ho)] := hl
  skip
  refine lv_aload_n hx hb dL_lostDays_0 rfl (lv_at hl 3 rfl) ?_
  refine lv_iconst (v := 0) hx hb dL_lostDays_1 (by decide) ?_
  refine lv_aload_n hx hb dL_lostDays_2 rfl (lv_at hl 0 rfl) ?_
  refine lv_iload_n hx hb dL_lostDays_3 rfl (lv_at hl 1 rfl) ?_
  refine lv_iload_n hx hb dL_lostDays_4 rfl (lv_at hl 2 rfl) ?_
  obtain ⟨hb_1, hc_1⟩ := z_call (wc := [(h0, .inr (6, [.ref hu, .ref hs, .ref hc, .ref hp, .ref hg, .int 0, .int 0, .int 0, .int td, .int sd]))]) (tc := []) ([.ref h0, .int a0, .int a1]) hP hK hD hS hA hE hX [0] rfl rfl [] rfl
  have hF_1 := va_free (wc := [(h0, .inr (6, [.ref hu, .ref hs, .ref hc, .ref hp, .ref hg, .int 0, .int 0, .int 0, .int td, .int sd]))]) hD hS hA [0] rfl
  refine vx_calli (vx_runV (As := [.int a0, .int a1]) (rest := [.int 0, .ref ho]) ⟨hx, hb, hml, hown, hts⟩ (f_X4_lostDays l hst D h0 hu hs hc hp hg td sd a0 a1 _ ) (z_cV 2 hE zw_915 zw_916 zw_917 zw_91 zw_918 rfl rfl rfl (by decide +kernel) ⟨(Nat.le_of_ble_eq_true rfl), (Nat.le_of_ble_eq_true rfl)⟩) ⟨hb_1, va_recv hK hP (ci := 6) (q0 := 0) rfl rfl, hc_1⟩ rfl rfl hl.1 rfl (lv_room (Nat.le_of_ble_eq_true rfl)) dL_lostDays_5 ⟨(Nat.le_of_ble_eq_true rfl), (Nat.le_of_ble_eq_true rfl)⟩) hS (fun q _ h => hF_1 q h) hF_1 (fun q _ h => hF_1 q h) (fun E_1 ce_1 q9_1 u_1 t_1 H1 locs ht_1 hvm_1 hw_1 hB_1 hz_1 hk_1 hS1 hce_1 hcv_1 hcl_1 => ?_) (fun r_1 u_1 t_1 H1 locs ht_1 hvm_1 hw_1 hB_1 hz_1 hk_1 hS1 => ?_)
  · obtain ⟨rfl, hB_1⟩ := hB_1
    obtain ⟨hP, hK, hD⟩ := z_back (wc := [(h0, .inr (6, [.ref hu, .ref hs, .ref hc, .ref hp, .ref hg, .int 0, .int 0, .int 0, .int td, .int sd]))]) (wr := [(ho, .inl (cJ, 1, .inr (.inl fo)))]) (w1 := [(h0, .inr (6, [.ref hu, .ref hs, .ref hc, .ref hp, .ref hg, .int 0, .int 0, .int 0, .int td, .int sd]))]) (tr := [(cJ, .long)]) hP hK hD [0] [1] rfl rfl rfl (by decide) ht_1 hvm_1 hk_1 hF_1 [0] rfl hB_1
    have hS := hS1
    have hP : va_P D vwCl [(ho, .inl (cJ, 1, .inr (.inl fo))), (h0, .inr (6, [.ref hu, .ref hs, .ref hc, .ref hp, .ref hg, .int 0, .int 0, .int 0, .int td, .int sd]))] H1 := hP
    have hD : va_D A [(ho, .inl (cJ, 1, .inr (.inl fo))), (h0, .inr (6, [.ref hu, .ref hs, .ref hc, .ref hp, .ref hg, .int 0, .int 0, .int 0, .int td, .int sd]))] := hD
    have hK : va_K D vwCl [(cJ, .long)] s := hK
    clear hS1
    refine vx_catch (name := "java/lang/IndexOutOfBoundsException") hown [] ⟨0, 10, 13, 23⟩ [⟨0, 10, 17, 13⟩] (htb.trans rfl) (fun z hz => nomatch hz) (by decide) (by decide) (hts _ zw_520) (hts _ zw_531) hce_1 hcv_1 hcl_1 ?_
    refine lv_astore (lv' := [(4, .ref q9_1), (0, .ref h0), (1, .int a0), (2, .int a1), (3, .ref ho)]) hx hb dL_lostDays_13 hl (by decide) rfl (fun ls hl => ?_)
    refine lv_iconst (v := 1) hx hb dL_lostDays_15 (by decide) ?_
    exact vx_ret (W.iret (v := 1) hx hb hr (fun t ht hW => ⟨⟨1, (), rfl, rfl, z_end hP hK hD [1, 0] rfl rfl [0] rfl ht hW.alike⟩, hS.F ht⟩) hS.2.2 dL_lostDays_16)
  · exact hw_1.elim
theorem dL_startIn_0 : decode cL_startIn 0 = .ok (.aload_n 2, 1) := by decide +kernel
theorem dL_startIn_1 : decode cL_startIn 1 = .ok (.iconst 0, 1) := by decide +kernel
theorem dL_startIn_2 : decode cL_startIn 2 = .ok (.aload_n 0, 1) := by decide +kernel
theorem dL_startIn_3 : decode cL_startIn 3 = .ok (.iload_n 1, 1) := by decide +kernel
theorem dL_startIn_4 : decode cL_startIn 4 = .ok (.invokevirtual 124, 3) := by decide +kernel
theorem zw_996 : Cond.methodLink RL 124 yX4_startIn ∈ z_Ts := z_m 996 (by decide +kernel) (by decide +kernel)
theorem zw_997 : Cond.instanceMethod yX4_startIn ∈ z_Ts := z_m 997 (by decide +kernel) (by decide +kernel)
theorem zw_998 : Cond.selects RX4 yX4_startIn yX4_startIn ∈ z_Ts := z_m 998 (by decide +kernel) (by decide +kernel)
theorem zw_999 : Cond.code yX4_startIn cX4_startIn 2 (some .int) ∈ z_Ts := z_m 999 (by decide +kernel) (by decide +kernel)
theorem dL_startIn_12 : decode cL_startIn 12 = .ok (.astore_n 3, 1) := by decide +kernel
theorem dL_startIn_13 : decode cL_startIn 13 = .ok (.iconst 1, 1) := by decide +kernel
theorem dL_startIn_14 : decode cL_startIn 14 = .ok (.ireturn, 1) := by decide +kernel
set_option maxHeartbeats 4000000 in
set_option maxRecDepth 100000 in
theorem f_L_startIn (l : Launch) (hst : l.stackTraces = false) (D : va_G) (h0 : Nat) (hu : Nat) (hs : Nat) (hc : Nat) (hp : Nat) (hg : Nat) (td : Int32) (sd : Int32) (a0 : Int32) (ho : Nat) (fo : Nat → Int64) (cJ : ClassId) (sz : Nat)  : vx_Met l yL_startIn [Cond.codeWith yL_startIn cL_startIn 4 (some .int) [(0, 9, 12, 23), (0, 9, 15, 15), (0, 9, 18, 39)]] ({ frames := 8, cells := 1, slots := 6, locals := 170 }) (z_Pc D [.ref h0, .int a0, .ref ho] [(h0, .inr (6, [.ref hu, .ref hs, .ref hc, .ref hp, .ref hg, .int 0, .int 0, .int 0, .int td, .int sd])), (ho, .inl (cJ, 1, .inr (.inl fo)))] [(cJ, .long)] sz) (va_Qi (fun (r : Int32) (_ : Unit) => r = 1) (fun _ t => z_W D [(h0, .inr (6, [.ref hu, .ref hs, .ref hc, .ref hp, .ref hg, .int 0, .int 0, .int 0, .int td, .int sd])), (ho, .inl (cJ, 1, .inr (.inl fo)))] [(cJ, .long)] (va_A [(h0, .inr (6, [.ref hu, .ref hs, .ref hc, .ref hp, .ref hg, .int 0, .int 0, .int 0, .int td, .int sd])), (ho, .inl (cJ, 1, .inr (.inl fo)))] sz) t) (va_A [(h0, .inr (6, [.ref hu, .ref hs, .ref hc, .ref hp, .ref hg, .int 0, .int 0, .int 0, .int td, .int sd])), (ho, .inl (cJ, 1, .inr (.inl fo)))] sz)) (z_T (False) "none" D [(h0, .inr (6, [.ref hu, .ref hs, .ref hc, .ref hp, .ref hg, .int 0, .int 0, .int 0, .int td, .int sd])), (ho, .inl (cJ, 1, .inr (.inl fo)))] [(cJ, .long)] sz) 1 6 (va_A [(h0, .inr (6, [.ref hu, .ref hs, .ref hc, .ref hp, .ref hg, .int 0, .int 0, .int 0, .int td, .int sd])), (ho, .inl (cJ, 1, .inr (.inl fo)))] sz) := by
  refine vx_ofWH (cc := cL_startIn) (maxL := 4) (ret := (some .int)) (hh := [(0, 9, 12, 23), (0, 9, 15, 15), (0, 9, 18, 39)]) (by decide +kernel) rfl ?_
  intro p e s m args below meth c s₁ B hml hv
  obtain ⟨rfl, hsz, hP, hK, hD0, hE, hX0⟩ := hv
  have hx := B.exec
  have hb := B.bytes
  have hr := B.returns
  have hts := z_E.ts (args := [.ref h0, .int a0, .ref ho].toArray) hE
  have hown : s.vm.findClass RL = some m.cls := findClass_of_methodNamed B.named
  have hlocks := B.notSynchronized
  have htb := vx_table (x := yL_startIn) B (atoms_spec (ws := [Cond.codeWith yL_startIn cL_startIn 4 (some .int) [(0, 9, 12, 23), (0, 9, 15, 15), (0, 9, 18, 39)]]) B.pre _ List.mem_cons_self)
  subst hsz
  have hD := hD0.self (sz := s.heap.size)
  generalize hAe : va_A [(h0, .inr (6, [.ref hu, .ref hs, .ref hc, .ref hp, .ref hg, .int 0, .int 0, .int 0, .int td, .int sd])), (ho, .inl (cJ, 1, .inr (.inl fo)))] s.heap.size = A at hD hX0 ⊢
  have hX : z_X A s s.heap := hX0
  have hA : ∀ q : Nat, s.heap.size ≤ q → A q := fun q h => by rw [← hAe]; exact Or.inr h
  have hS : va_S A s.heap s.heap [] := va_S.rf
  have hP : va_P D vwCl [(h0, .inr (6, [.ref hu, .ref hs, .ref hc, .ref hp, .ref hg, .int 0, .int 0, .int 0, .int td, .int sd])), (ho, .inl (cJ, 1, .inr (.inl fo)))] s.heap := hP
  have hl := lv_entry ([.ref h0, .int a0, .ref ho]) (n := 4) (Nat.le_of_ble_eq_true rfl)
  rw [lg_entry_eq]
  generalize (lg_sl ([.ref h0, .int a0, .ref ho]) ++ List.replicate (4 - (lg_sl ([.ref h0, .int a0, .ref ho])).length) Slot.unset).toArray = ls at hl ⊢
  have hl : lv_has ls 4 [(0, .ref h0), (1, .int a0), (2, .ref ho)] := hl
  skip
  refine lv_aload_n hx hb dL_startIn_0 rfl (lv_at hl 2 rfl) ?_
  refine lv_iconst (v := 0) hx hb dL_startIn_1 (by decide) ?_
  refine lv_aload_n hx hb dL_startIn_2 rfl (lv_at hl 0 rfl) ?_
  refine lv_iload_n hx hb dL_startIn_3 rfl (lv_at hl 1 rfl) ?_
  obtain ⟨hb_1, hc_1⟩ := z_call (wc := [(h0, .inr (6, [.ref hu, .ref hs, .ref hc, .ref hp, .ref hg, .int 0, .int 0, .int 0, .int td, .int sd]))]) (tc := []) ([.ref h0, .int a0]) hP hK hD hS hA hE hX [0] rfl rfl [] rfl
  have hF_1 := va_free (wc := [(h0, .inr (6, [.ref hu, .ref hs, .ref hc, .ref hp, .ref hg, .int 0, .int 0, .int 0, .int td, .int sd]))]) hD hS hA [0] rfl
  refine vx_calli (vx_runV (As := [.int a0]) (rest := [.int 0, .ref ho]) ⟨hx, hb, hml, hown, hts⟩ (f_X4_startIn l hst D h0 hu hs hc hp hg td sd a0 _ ) (z_cV 1 hE zw_996 zw_997 zw_998 zw_91 zw_999 rfl rfl rfl (by decide +kernel) ⟨(Nat.le_of_ble_eq_true rfl), (Nat.le_of_ble_eq_true rfl)⟩) ⟨hb_1, va_recv hK hP (ci := 6) (q0 := 0) rfl rfl, hc_1⟩ rfl rfl hl.1 rfl (lv_room (Nat.le_of_ble_eq_true rfl)) dL_startIn_4 ⟨(Nat.le_of_ble_eq_true rfl), (Nat.le_of_ble_eq_true rfl)⟩) hS (fun q _ h => hF_1 q h) hF_1 (fun q _ h => hF_1 q h) (fun E_1 ce_1 q9_1 u_1 t_1 H1 locs ht_1 hvm_1 hw_1 hB_1 hz_1 hk_1 hS1 hce_1 hcv_1 hcl_1 => ?_) (fun r_1 u_1 t_1 H1 locs ht_1 hvm_1 hw_1 hB_1 hz_1 hk_1 hS1 => ?_)
  · obtain ⟨rfl, hB_1⟩ := hB_1
    obtain ⟨hP, hK, hD⟩ := z_back (wc := [(h0, .inr (6, [.ref hu, .ref hs, .ref hc, .ref hp, .ref hg, .int 0, .int 0, .int 0, .int td, .int sd]))]) (wr := [(ho, .inl (cJ, 1, .inr (.inl fo)))]) (w1 := [(h0, .inr (6, [.ref hu, .ref hs, .ref hc, .ref hp, .ref hg, .int 0, .int 0, .int 0, .int td, .int sd]))]) (tr := [(cJ, .long)]) hP hK hD [0] [1] rfl rfl rfl (by decide) ht_1 hvm_1 hk_1 hF_1 [0] rfl hB_1
    have hS := hS1
    have hP : va_P D vwCl [(ho, .inl (cJ, 1, .inr (.inl fo))), (h0, .inr (6, [.ref hu, .ref hs, .ref hc, .ref hp, .ref hg, .int 0, .int 0, .int 0, .int td, .int sd]))] H1 := hP
    have hD : va_D A [(ho, .inl (cJ, 1, .inr (.inl fo))), (h0, .inr (6, [.ref hu, .ref hs, .ref hc, .ref hp, .ref hg, .int 0, .int 0, .int 0, .int td, .int sd]))] := hD
    have hK : va_K D vwCl [(cJ, .long)] s := hK
    clear hS1
    refine vx_catch (name := "java/lang/IndexOutOfBoundsException") hown [] ⟨0, 9, 12, 23⟩ [⟨0, 9, 15, 15⟩, ⟨0, 9, 18, 39⟩] (htb.trans rfl) (fun z hz => nomatch hz) (by decide) (by decide) (hts _ zw_520) (hts _ zw_531) hce_1 hcv_1 hcl_1 ?_
    refine lv_astore_n (lv' := [(3, .ref q9_1), (0, .ref h0), (1, .int a0), (2, .ref ho)]) hx hb dL_startIn_12 rfl hl (by decide) rfl (fun ls hl => ?_)
    refine lv_iconst (v := 1) hx hb dL_startIn_13 (by decide) ?_
    exact vx_ret (W.iret (v := 1) hx hb hr (fun t ht hW => ⟨⟨1, (), rfl, rfl, z_end hP hK hD [1, 0] rfl rfl [0] rfl ht hW.alike⟩, hS.F ht⟩) hS.2.2 dL_startIn_14)
  · exact hw_1.elim
theorem dL_state_0 : decode cL_state 0 = .ok (.aload_n 2, 1) := by decide +kernel
theorem dL_state_1 : decode cL_state 1 = .ok (.iconst 0, 1) := by decide +kernel
theorem dL_state_2 : decode cL_state 2 = .ok (.aload_n 0, 1) := by decide +kernel
theorem dL_state_3 : decode cL_state 3 = .ok (.iload_n 1, 1) := by decide +kernel
theorem dL_state_4 : decode cL_state 4 = .ok (.invokevirtual 57, 3) := by decide +kernel
theorem zw_674 : Cond.methodLink RL 57 yX4_state ∈ z_Ts := z_m 674 (by decide +kernel) (by decide +kernel)
theorem zw_675 : Cond.instanceMethod yX4_state ∈ z_Ts := z_m 675 (by decide +kernel) (by decide +kernel)
theorem zw_676 : Cond.selects RX4 yX4_state yX4_state ∈ z_Ts := z_m 676 (by decide +kernel) (by decide +kernel)
theorem zw_677 : Cond.code yX4_state cX4_state 2 (some .char) ∈ z_Ts := z_m 677 (by decide +kernel) (by decide +kernel)
theorem dL_state_12 : decode cL_state 12 = .ok (.astore_n 3, 1) := by decide +kernel
theorem dL_state_13 : decode cL_state 13 = .ok (.iconst 1, 1) := by decide +kernel
theorem dL_state_14 : decode cL_state 14 = .ok (.ireturn, 1) := by decide +kernel
set_option maxHeartbeats 4000000 in
set_option maxRecDepth 100000 in
theorem f_L_state (l : Launch) (hst : l.stackTraces = false) (D : va_G) (h0 : Nat) (hu : Nat) (hs : Nat) (hc : Nat) (hp : Nat) (hg : Nat) (td : Int32) (sd : Int32) (a0 : Int32) (ho : Nat) (fo : Nat → Int64) (cJ : ClassId) (sz : Nat)  : vx_Met l yL_state [Cond.codeWith yL_state cL_state 4 (some .int) [(0, 9, 12, 23)]] ({ frames := 8, cells := 1, slots := 6, locals := 170 }) (z_Pc D [.ref h0, .int a0, .ref ho] [(h0, .inr (6, [.ref hu, .ref hs, .ref hc, .ref hp, .ref hg, .int 0, .int 0, .int 0, .int td, .int sd])), (ho, .inl (cJ, 1, .inr (.inl fo)))] [(cJ, .long)] sz) (va_Qi (fun (r : Int32) (_ : Unit) => r = 1) (fun _ t => z_W D [(h0, .inr (6, [.ref hu, .ref hs, .ref hc, .ref hp, .ref hg, .int 0, .int 0, .int 0, .int td, .int sd])), (ho, .inl (cJ, 1, .inr (.inl fo)))] [(cJ, .long)] (va_A [(h0, .inr (6, [.ref hu, .ref hs, .ref hc, .ref hp, .ref hg, .int 0, .int 0, .int 0, .int td, .int sd])), (ho, .inl (cJ, 1, .inr (.inl fo)))] sz) t) (va_A [(h0, .inr (6, [.ref hu, .ref hs, .ref hc, .ref hp, .ref hg, .int 0, .int 0, .int 0, .int td, .int sd])), (ho, .inl (cJ, 1, .inr (.inl fo)))] sz)) (z_T (False) "none" D [(h0, .inr (6, [.ref hu, .ref hs, .ref hc, .ref hp, .ref hg, .int 0, .int 0, .int 0, .int td, .int sd])), (ho, .inl (cJ, 1, .inr (.inl fo)))] [(cJ, .long)] sz) 1 6 (va_A [(h0, .inr (6, [.ref hu, .ref hs, .ref hc, .ref hp, .ref hg, .int 0, .int 0, .int 0, .int td, .int sd])), (ho, .inl (cJ, 1, .inr (.inl fo)))] sz) := by
  refine vx_ofWH (cc := cL_state) (maxL := 4) (ret := (some .int)) (hh := [(0, 9, 12, 23)]) (by decide +kernel) rfl ?_
  intro p e s m args below meth c s₁ B hml hv
  obtain ⟨rfl, hsz, hP, hK, hD0, hE, hX0⟩ := hv
  have hx := B.exec
  have hb := B.bytes
  have hr := B.returns
  have hts := z_E.ts (args := [.ref h0, .int a0, .ref ho].toArray) hE
  have hown : s.vm.findClass RL = some m.cls := findClass_of_methodNamed B.named
  have hlocks := B.notSynchronized
  have htb := vx_table (x := yL_state) B (atoms_spec (ws := [Cond.codeWith yL_state cL_state 4 (some .int) [(0, 9, 12, 23)]]) B.pre _ List.mem_cons_self)
  subst hsz
  have hD := hD0.self (sz := s.heap.size)
  generalize hAe : va_A [(h0, .inr (6, [.ref hu, .ref hs, .ref hc, .ref hp, .ref hg, .int 0, .int 0, .int 0, .int td, .int sd])), (ho, .inl (cJ, 1, .inr (.inl fo)))] s.heap.size = A at hD hX0 ⊢
  have hX : z_X A s s.heap := hX0
  have hA : ∀ q : Nat, s.heap.size ≤ q → A q := fun q h => by rw [← hAe]; exact Or.inr h
  have hS : va_S A s.heap s.heap [] := va_S.rf
  have hP : va_P D vwCl [(h0, .inr (6, [.ref hu, .ref hs, .ref hc, .ref hp, .ref hg, .int 0, .int 0, .int 0, .int td, .int sd])), (ho, .inl (cJ, 1, .inr (.inl fo)))] s.heap := hP
  have hl := lv_entry ([.ref h0, .int a0, .ref ho]) (n := 4) (Nat.le_of_ble_eq_true rfl)
  rw [lg_entry_eq]
  generalize (lg_sl ([.ref h0, .int a0, .ref ho]) ++ List.replicate (4 - (lg_sl ([.ref h0, .int a0, .ref ho])).length) Slot.unset).toArray = ls at hl ⊢
  have hl : lv_has ls 4 [(0, .ref h0), (1, .int a0), (2, .ref ho)] := hl
  skip
  refine lv_aload_n hx hb dL_state_0 rfl (lv_at hl 2 rfl) ?_
  refine lv_iconst (v := 0) hx hb dL_state_1 (by decide) ?_
  refine lv_aload_n hx hb dL_state_2 rfl (lv_at hl 0 rfl) ?_
  refine lv_iload_n hx hb dL_state_3 rfl (lv_at hl 1 rfl) ?_
  obtain ⟨hb_1, hc_1⟩ := z_call (wc := [(h0, .inr (6, [.ref hu, .ref hs, .ref hc, .ref hp, .ref hg, .int 0, .int 0, .int 0, .int td, .int sd]))]) (tc := []) ([.ref h0, .int a0]) hP hK hD hS hA hE hX [0] rfl rfl [] rfl
  have hF_1 := va_free (wc := [(h0, .inr (6, [.ref hu, .ref hs, .ref hc, .ref hp, .ref hg, .int 0, .int 0, .int 0, .int td, .int sd]))]) hD hS hA [0] rfl
  refine vx_calli (vx_runV (As := [.int a0]) (rest := [.int 0, .ref ho]) ⟨hx, hb, hml, hown, hts⟩ (f_X4_state l hst D h0 hu hs hc hp hg td sd a0 _ ) (z_cV 1 hE zw_674 zw_675 zw_676 zw_91 zw_677 rfl rfl rfl (by decide +kernel) ⟨(Nat.le_of_ble_eq_true rfl), (Nat.le_of_ble_eq_true rfl)⟩) ⟨hb_1, va_recv hK hP (ci := 6) (q0 := 0) rfl rfl, hc_1⟩ rfl rfl hl.1 rfl (lv_room (Nat.le_of_ble_eq_true rfl)) dL_state_4 ⟨(Nat.le_of_ble_eq_true rfl), (Nat.le_of_ble_eq_true rfl)⟩) hS (fun q _ h => hF_1 q h) hF_1 (fun q _ h => hF_1 q h) (fun E_1 ce_1 q9_1 u_1 t_1 H1 locs ht_1 hvm_1 hw_1 hB_1 hz_1 hk_1 hS1 hce_1 hcv_1 hcl_1 => ?_) (fun r_1 u_1 t_1 H1 locs ht_1 hvm_1 hw_1 hB_1 hz_1 hk_1 hS1 => ?_)
  · obtain ⟨rfl, hB_1⟩ := hB_1
    obtain ⟨hP, hK, hD⟩ := z_back (wc := [(h0, .inr (6, [.ref hu, .ref hs, .ref hc, .ref hp, .ref hg, .int 0, .int 0, .int 0, .int td, .int sd]))]) (wr := [(ho, .inl (cJ, 1, .inr (.inl fo)))]) (w1 := [(h0, .inr (6, [.ref hu, .ref hs, .ref hc, .ref hp, .ref hg, .int 0, .int 0, .int 0, .int td, .int sd]))]) (tr := [(cJ, .long)]) hP hK hD [0] [1] rfl rfl rfl (by decide) ht_1 hvm_1 hk_1 hF_1 [0] rfl hB_1
    have hS := hS1
    have hP : va_P D vwCl [(ho, .inl (cJ, 1, .inr (.inl fo))), (h0, .inr (6, [.ref hu, .ref hs, .ref hc, .ref hp, .ref hg, .int 0, .int 0, .int 0, .int td, .int sd]))] H1 := hP
    have hD : va_D A [(ho, .inl (cJ, 1, .inr (.inl fo))), (h0, .inr (6, [.ref hu, .ref hs, .ref hc, .ref hp, .ref hg, .int 0, .int 0, .int 0, .int td, .int sd]))] := hD
    have hK : va_K D vwCl [(cJ, .long)] s := hK
    clear hS1
    refine vx_catch (name := "java/lang/IndexOutOfBoundsException") hown [] ⟨0, 9, 12, 23⟩ [] (htb.trans rfl) (fun z hz => nomatch hz) (by decide) (by decide) (hts _ zw_520) (hts _ zw_531) hce_1 hcv_1 hcl_1 ?_
    refine lv_astore_n (lv' := [(3, .ref q9_1), (0, .ref h0), (1, .int a0), (2, .ref ho)]) hx hb dL_state_12 rfl hl (by decide) rfl (fun ls hl => ?_)
    refine lv_iconst (v := 1) hx hb dL_state_13 (by decide) ?_
    exact vx_ret (W.iret (v := 1) hx hb hr (fun t ht hW => ⟨⟨1, (), rfl, rfl, z_end hP hK hD [1, 0] rfl rfl [0] rfl ht hW.alike⟩, hS.F ht⟩) hS.2.2 dL_state_14)
  · exact hw_1.elim
theorem dL_unitOf_0 : decode cL_unitOf 0 = .ok (.aload_n 2, 1) := by decide +kernel
theorem dL_unitOf_1 : decode cL_unitOf 1 = .ok (.iconst 0, 1) := by decide +kernel
theorem dL_unitOf_2 : decode cL_unitOf 2 = .ok (.aload_n 0, 1) := by decide +kernel
theorem dL_unitOf_3 : decode cL_unitOf 3 = .ok (.iload_n 1, 1) := by decide +kernel
theorem dL_unitOf_4 : decode cL_unitOf 4 = .ok (.invokevirtual 60, 3) := by decide +kernel
theorem zw_686 : Cond.methodLink RL 60 yX4_unitOf ∈ z_Ts := z_m 686 (by decide +kernel) (by decide +kernel)
theorem zw_687 : Cond.instanceMethod yX4_unitOf ∈ z_Ts := z_m 687 (by decide +kernel) (by decide +kernel)
theorem zw_688 : Cond.selects RX4 yX4_unitOf yX4_unitOf ∈ z_Ts := z_m 688 (by decide +kernel) (by decide +kernel)
theorem zw_689 : Cond.code yX4_unitOf cX4_unitOf 2 (some .int) ∈ z_Ts := z_m 689 (by decide +kernel) (by decide +kernel)
theorem dL_unitOf_12 : decode cL_unitOf 12 = .ok (.astore_n 3, 1) := by decide +kernel
theorem dL_unitOf_13 : decode cL_unitOf 13 = .ok (.iconst 1, 1) := by decide +kernel
theorem dL_unitOf_14 : decode cL_unitOf 14 = .ok (.ireturn, 1) := by decide +kernel
set_option maxHeartbeats 4000000 in
set_option maxRecDepth 100000 in
theorem f_L_unitOf (l : Launch) (hst : l.stackTraces = false) (D : va_G) (h0 : Nat) (hu : Nat) (hs : Nat) (hc : Nat) (hp : Nat) (hg : Nat) (td : Int32) (sd : Int32) (a0 : Int32) (ho : Nat) (fo : Nat → Int64) (cJ : ClassId) (sz : Nat)  : vx_Met l yL_unitOf [Cond.codeWith yL_unitOf cL_unitOf 4 (some .int) [(0, 9, 12, 23), (0, 9, 15, 39)]] ({ frames := 8, cells := 1, slots := 6, locals := 170 }) (z_Pc D [.ref h0, .int a0, .ref ho] [(h0, .inr (6, [.ref hu, .ref hs, .ref hc, .ref hp, .ref hg, .int 0, .int 0, .int 0, .int td, .int sd])), (ho, .inl (cJ, 1, .inr (.inl fo)))] [(cJ, .long)] sz) (va_Qi (fun (r : Int32) (_ : Unit) => r = 1) (fun _ t => z_W D [(h0, .inr (6, [.ref hu, .ref hs, .ref hc, .ref hp, .ref hg, .int 0, .int 0, .int 0, .int td, .int sd])), (ho, .inl (cJ, 1, .inr (.inl fo)))] [(cJ, .long)] (va_A [(h0, .inr (6, [.ref hu, .ref hs, .ref hc, .ref hp, .ref hg, .int 0, .int 0, .int 0, .int td, .int sd])), (ho, .inl (cJ, 1, .inr (.inl fo)))] sz) t) (va_A [(h0, .inr (6, [.ref hu, .ref hs, .ref hc, .ref hp, .ref hg, .int 0, .int 0, .int 0, .int td, .int sd])), (ho, .inl (cJ, 1, .inr (.inl fo)))] sz)) (z_T (False) "none" D [(h0, .inr (6, [.ref hu, .ref hs, .ref hc, .ref hp, .ref hg, .int 0, .int 0, .int 0, .int td, .int sd])), (ho, .inl (cJ, 1, .inr (.inl fo)))] [(cJ, .long)] sz) 1 6 (va_A [(h0, .inr (6, [.ref hu, .ref hs, .ref hc, .ref hp, .ref hg, .int 0, .int 0, .int 0, .int td, .int sd])), (ho, .inl (cJ, 1, .inr (.inl fo)))] sz) := by
  refine vx_ofWH (cc := cL_unitOf) (maxL := 4) (ret := (some .int)) (hh := [(0, 9, 12, 23), (0, 9, 15, 39)]) (by decide +kernel) rfl ?_
  intro p e s m args below meth c s₁ B hml hv
  obtain ⟨rfl, hsz, hP, hK, hD0, hE, hX0⟩ := hv
  have hx := B.exec
  have hb := B.bytes
  have hr := B.returns
  have hts := z_E.ts (args := [.ref h0, .int a0, .ref ho].toArray) hE
  have hown : s.vm.findClass RL = some m.cls := findClass_of_methodNamed B.named
  have hlocks := B.notSynchronized
  have htb := vx_table (x := yL_unitOf) B (atoms_spec (ws := [Cond.codeWith yL_unitOf cL_unitOf 4 (some .int) [(0, 9, 12, 23), (0, 9, 15, 39)]]) B.pre _ List.mem_cons_self)
  subst hsz
  have hD := hD0.self (sz := s.heap.size)
  generalize hAe : va_A [(h0, .inr (6, [.ref hu, .ref hs, .ref hc, .ref hp, .ref hg, .int 0, .int 0, .int 0, .int td, .int sd])), (ho, .inl (cJ, 1, .inr (.inl fo)))] s.heap.size = A at hD hX0 ⊢
  have hX : z_X A s s.heap := hX0
  have hA : ∀ q : Nat, s.heap.size ≤ q → A q := fun q h => by rw [← hAe]; exact Or.inr h
  have hS : va_S A s.heap s.heap [] := va_S.rf
  have hP : va_P D vwCl [(h0, .inr (6, [.ref hu, .ref hs, .ref hc, .ref hp, .ref hg, .int 0, .int 0, .int 0, .int td, .int sd])), (ho, .inl (cJ, 1, .inr (.inl fo)))] s.heap := hP
  have hl := lv_entry ([.ref h0, .int a0, .ref ho]) (n := 4) (Nat.le_of_ble_eq_true rfl)
  rw [lg_entry_eq]
  generalize (lg_sl ([.ref h0, .int a0, .ref ho]) ++ List.replicate (4 - (lg_sl ([.ref h0, .int a0, .ref ho])).length) Slot.unset).toArray = ls at hl ⊢
  have hl : lv_has ls 4 [(0, .ref h0), (1, .int a0), (2, .ref ho)] := hl
  skip
  refine lv_aload_n hx hb dL_unitOf_0 rfl (lv_at hl 2 rfl) ?_
  refine lv_iconst (v := 0) hx hb dL_unitOf_1 (by decide) ?_
  refine lv_aload_n hx hb dL_unitOf_2 rfl (lv_at hl 0 rfl) ?_
  refine lv_iload_n hx hb dL_unitOf_3 rfl (lv_at hl 1 rfl) ?_
  obtain ⟨hb_1, hc_1⟩ := z_call (wc := [(h0, .inr (6, [.ref hu, .ref hs, .ref hc, .ref hp, .ref hg, .int 0, .int 0, .int 0, .int td, .int sd]))]) (tc := []) ([.ref h0, .int a0]) hP hK hD hS hA hE hX [0] rfl rfl [] rfl
  have hF_1 := va_free (wc := [(h0, .inr (6, [.ref hu, .ref hs, .ref hc, .ref hp, .ref hg, .int 0, .int 0, .int 0, .int td, .int sd]))]) hD hS hA [0] rfl
  refine vx_calli (vx_runV (As := [.int a0]) (rest := [.int 0, .ref ho]) ⟨hx, hb, hml, hown, hts⟩ (f_X4_unitOf l hst D h0 hu hs hc hp hg td sd a0 _ ) (z_cV 1 hE zw_686 zw_687 zw_688 zw_91 zw_689 rfl rfl rfl (by decide +kernel) ⟨(Nat.le_of_ble_eq_true rfl), (Nat.le_of_ble_eq_true rfl)⟩) ⟨hb_1, va_recv hK hP (ci := 6) (q0 := 0) rfl rfl, hc_1⟩ rfl rfl hl.1 rfl (lv_room (Nat.le_of_ble_eq_true rfl)) dL_unitOf_4 ⟨(Nat.le_of_ble_eq_true rfl), (Nat.le_of_ble_eq_true rfl)⟩) hS (fun q _ h => hF_1 q h) hF_1 (fun q _ h => hF_1 q h) (fun E_1 ce_1 q9_1 u_1 t_1 H1 locs ht_1 hvm_1 hw_1 hB_1 hz_1 hk_1 hS1 hce_1 hcv_1 hcl_1 => ?_) (fun r_1 u_1 t_1 H1 locs ht_1 hvm_1 hw_1 hB_1 hz_1 hk_1 hS1 => ?_)
  · obtain ⟨rfl, hB_1⟩ := hB_1
    obtain ⟨hP, hK, hD⟩ := z_back (wc := [(h0, .inr (6, [.ref hu, .ref hs, .ref hc, .ref hp, .ref hg, .int 0, .int 0, .int 0, .int td, .int sd]))]) (wr := [(ho, .inl (cJ, 1, .inr (.inl fo)))]) (w1 := [(h0, .inr (6, [.ref hu, .ref hs, .ref hc, .ref hp, .ref hg, .int 0, .int 0, .int 0, .int td, .int sd]))]) (tr := [(cJ, .long)]) hP hK hD [0] [1] rfl rfl rfl (by decide) ht_1 hvm_1 hk_1 hF_1 [0] rfl hB_1
    have hS := hS1
    have hP : va_P D vwCl [(ho, .inl (cJ, 1, .inr (.inl fo))), (h0, .inr (6, [.ref hu, .ref hs, .ref hc, .ref hp, .ref hg, .int 0, .int 0, .int 0, .int td, .int sd]))] H1 := hP
    have hD : va_D A [(ho, .inl (cJ, 1, .inr (.inl fo))), (h0, .inr (6, [.ref hu, .ref hs, .ref hc, .ref hp, .ref hg, .int 0, .int 0, .int 0, .int td, .int sd]))] := hD
    have hK : va_K D vwCl [(cJ, .long)] s := hK
    clear hS1
    refine vx_catch (name := "java/lang/IndexOutOfBoundsException") hown [] ⟨0, 9, 12, 23⟩ [⟨0, 9, 15, 39⟩] (htb.trans rfl) (fun z hz => nomatch hz) (by decide) (by decide) (hts _ zw_520) (hts _ zw_531) hce_1 hcv_1 hcl_1 ?_
    refine lv_astore_n (lv' := [(3, .ref q9_1), (0, .ref h0), (1, .int a0), (2, .ref ho)]) hx hb dL_unitOf_12 rfl hl (by decide) rfl (fun ls hl => ?_)
    refine lv_iconst (v := 1) hx hb dL_unitOf_13 (by decide) ?_
    exact vx_ret (W.iret (v := 1) hx hb hr (fun t ht hW => ⟨⟨1, (), rfl, rfl, z_end hP hK hD [1, 0] rfl rfl [0] rfl ht hW.alike⟩, hS.F ht⟩) hS.2.2 dL_unitOf_14)
  · exact hw_1.elim
theorem dL_homeOf_0 : decode cL_homeOf 0 = .ok (.aload_n 2, 1) := by decide +kernel
theorem dL_homeOf_1 : decode cL_homeOf 1 = .ok (.iconst 0, 1) := by decide +kernel
theorem dL_homeOf_2 : decode cL_homeOf 2 = .ok (.aload_n 0, 1) := by decide +kernel
theorem dL_homeOf_3 : decode cL_homeOf 3 = .ok (.iload_n 1, 1) := by decide +kernel
theorem dL_homeOf_4 : decode cL_homeOf 4 = .ok (.invokevirtual 63, 3) := by decide +kernel
theorem zw_694 : Cond.methodLink RL 63 yX4_homeOf ∈ z_Ts := z_m 694 (by decide +kernel) (by decide +kernel)
theorem zw_695 : Cond.instanceMethod yX4_homeOf ∈ z_Ts := z_m 695 (by decide +kernel) (by decide +kernel)
theorem zw_696 : Cond.selects RX4 yX4_homeOf yX4_homeOf ∈ z_Ts := z_m 696 (by decide +kernel) (by decide +kernel)
theorem zw_697 : Cond.code yX4_homeOf cX4_homeOf 2 (some .int) ∈ z_Ts := z_m 697 (by decide +kernel) (by decide +kernel)
theorem dL_homeOf_12 : decode cL_homeOf 12 = .ok (.astore_n 3, 1) := by decide +kernel
theorem dL_homeOf_13 : decode cL_homeOf 13 = .ok (.iconst 1, 1) := by decide +kernel
theorem dL_homeOf_14 : decode cL_homeOf 14 = .ok (.ireturn, 1) := by decide +kernel
set_option maxHeartbeats 4000000 in
set_option maxRecDepth 100000 in
theorem f_L_homeOf (l : Launch) (hst : l.stackTraces = false) (D : va_G) (h0 : Nat) (hu : Nat) (hs : Nat) (hc : Nat) (hp : Nat) (hg : Nat) (td : Int32) (sd : Int32) (a0 : Int32) (ho : Nat) (fo : Nat → Int64) (cJ : ClassId) (sz : Nat)  : vx_Met l yL_homeOf [Cond.codeWith yL_homeOf cL_homeOf 4 (some .int) [(0, 9, 12, 23)]] ({ frames := 8, cells := 1, slots := 6, locals := 170 }) (z_Pc D [.ref h0, .int a0, .ref ho] [(h0, .inr (6, [.ref hu, .ref hs, .ref hc, .ref hp, .ref hg, .int 0, .int 0, .int 0, .int td, .int sd])), (ho, .inl (cJ, 1, .inr (.inl fo)))] [(cJ, .long)] sz) (va_Qi (fun (r : Int32) (_ : Unit) => r = 1) (fun _ t => z_W D [(h0, .inr (6, [.ref hu, .ref hs, .ref hc, .ref hp, .ref hg, .int 0, .int 0, .int 0, .int td, .int sd])), (ho, .inl (cJ, 1, .inr (.inl fo)))] [(cJ, .long)] (va_A [(h0, .inr (6, [.ref hu, .ref hs, .ref hc, .ref hp, .ref hg, .int 0, .int 0, .int 0, .int td, .int sd])), (ho, .inl (cJ, 1, .inr (.inl fo)))] sz) t) (va_A [(h0, .inr (6, [.ref hu, .ref hs, .ref hc, .ref hp, .ref hg, .int 0, .int 0, .int 0, .int td, .int sd])), (ho, .inl (cJ, 1, .inr (.inl fo)))] sz)) (z_T (False) "none" D [(h0, .inr (6, [.ref hu, .ref hs, .ref hc, .ref hp, .ref hg, .int 0, .int 0, .int 0, .int td, .int sd])), (ho, .inl (cJ, 1, .inr (.inl fo)))] [(cJ, .long)] sz) 1 6 (va_A [(h0, .inr (6, [.ref hu, .ref hs, .ref hc, .ref hp, .ref hg, .int 0, .int 0, .int 0, .int td, .int sd])), (ho, .inl (cJ, 1, .inr (.inl fo)))] sz) := by
  refine vx_ofWH (cc := cL_homeOf) (maxL := 4) (ret := (some .int)) (hh := [(0, 9, 12, 23)]) (by decide +kernel) rfl ?_
  intro p e s m args below meth c s₁ B hml hv
  obtain ⟨rfl, hsz, hP, hK, hD0, hE, hX0⟩ := hv
  have hx := B.exec
  have hb := B.bytes
  have hr := B.returns
  have hts := z_E.ts (args := [.ref h0, .int a0, .ref ho].toArray) hE
  have hown : s.vm.findClass RL = some m.cls := findClass_of_methodNamed B.named
  have hlocks := B.notSynchronized
  have htb := vx_table (x := yL_homeOf) B (atoms_spec (ws := [Cond.codeWith yL_homeOf cL_homeOf 4 (some .int) [(0, 9, 12, 23)]]) B.pre _ List.mem_cons_self)
  subst hsz
  have hD := hD0.self (sz := s.heap.size)
  generalize hAe : va_A [(h0, .inr (6, [.ref hu, .ref hs, .ref hc, .ref hp, .ref hg, .int 0, .int 0, .int 0, .int td, .int sd])), (ho, .inl (cJ, 1, .inr (.inl fo)))] s.heap.size = A at hD hX0 ⊢
  have hX : z_X A s s.heap := hX0
  have hA : ∀ q : Nat, s.heap.size ≤ q → A q := fun q h => by rw [← hAe]; exact Or.inr h
  have hS : va_S A s.heap s.heap [] := va_S.rf
  have hP : va_P D vwCl [(h0, .inr (6, [.ref hu, .ref hs, .ref hc, .ref hp, .ref hg, .int 0, .int 0, .int 0, .int td, .int sd])), (ho, .inl (cJ, 1, .inr (.inl fo)))] s.heap := hP
  have hl := lv_entry ([.ref h0, .int a0, .ref ho]) (n := 4) (Nat.le_of_ble_eq_true rfl)
  rw [lg_entry_eq]
  generalize (lg_sl ([.ref h0, .int a0, .ref ho]) ++ List.replicate (4 - (lg_sl ([.ref h0, .int a0, .ref ho])).length) Slot.unset).toArray = ls at hl ⊢
  have hl : lv_has ls 4 [(0, .ref h0), (1, .int a0), (2, .ref ho)] := hl
  skip
  refine lv_aload_n hx hb dL_homeOf_0 rfl (lv_at hl 2 rfl) ?_
  refine lv_iconst (v := 0) hx hb dL_homeOf_1 (by decide) ?_
  refine lv_aload_n hx hb dL_homeOf_2 rfl (lv_at hl 0 rfl) ?_
  refine lv_iload_n hx hb dL_homeOf_3 rfl (lv_at hl 1 rfl) ?_
  obtain ⟨hb_1, hc_1⟩ := z_call (wc := [(h0, .inr (6, [.ref hu, .ref hs, .ref hc, .ref hp, .ref hg, .int 0, .int 0, .int 0, .int td, .int sd]))]) (tc := []) ([.ref h0, .int a0]) hP hK hD hS hA hE hX [0] rfl rfl [] rfl
  have hF_1 := va_free (wc := [(h0, .inr (6, [.ref hu, .ref hs, .ref hc, .ref hp, .ref hg, .int 0, .int 0, .int 0, .int td, .int sd]))]) hD hS hA [0] rfl
  refine vx_calli (vx_runV (As := [.int a0]) (rest := [.int 0, .ref ho]) ⟨hx, hb, hml, hown, hts⟩ (f_X4_homeOf l hst D h0 hu hs hc hp hg td sd a0 _ ) (z_cV 1 hE zw_694 zw_695 zw_696 zw_91 zw_697 rfl rfl rfl (by decide +kernel) ⟨(Nat.le_of_ble_eq_true rfl), (Nat.le_of_ble_eq_true rfl)⟩) ⟨hb_1, va_recv hK hP (ci := 6) (q0 := 0) rfl rfl, hc_1⟩ rfl rfl hl.1 rfl (lv_room (Nat.le_of_ble_eq_true rfl)) dL_homeOf_4 ⟨(Nat.le_of_ble_eq_true rfl), (Nat.le_of_ble_eq_true rfl)⟩) hS (fun q _ h => hF_1 q h) hF_1 (fun q _ h => hF_1 q h) (fun E_1 ce_1 q9_1 u_1 t_1 H1 locs ht_1 hvm_1 hw_1 hB_1 hz_1 hk_1 hS1 hce_1 hcv_1 hcl_1 => ?_) (fun r_1 u_1 t_1 H1 locs ht_1 hvm_1 hw_1 hB_1 hz_1 hk_1 hS1 => ?_)
  · obtain ⟨rfl, hB_1⟩ := hB_1
    obtain ⟨hP, hK, hD⟩ := z_back (wc := [(h0, .inr (6, [.ref hu, .ref hs, .ref hc, .ref hp, .ref hg, .int 0, .int 0, .int 0, .int td, .int sd]))]) (wr := [(ho, .inl (cJ, 1, .inr (.inl fo)))]) (w1 := [(h0, .inr (6, [.ref hu, .ref hs, .ref hc, .ref hp, .ref hg, .int 0, .int 0, .int 0, .int td, .int sd]))]) (tr := [(cJ, .long)]) hP hK hD [0] [1] rfl rfl rfl (by decide) ht_1 hvm_1 hk_1 hF_1 [0] rfl hB_1
    have hS := hS1
    have hP : va_P D vwCl [(ho, .inl (cJ, 1, .inr (.inl fo))), (h0, .inr (6, [.ref hu, .ref hs, .ref hc, .ref hp, .ref hg, .int 0, .int 0, .int 0, .int td, .int sd]))] H1 := hP
    have hD : va_D A [(ho, .inl (cJ, 1, .inr (.inl fo))), (h0, .inr (6, [.ref hu, .ref hs, .ref hc, .ref hp, .ref hg, .int 0, .int 0, .int 0, .int td, .int sd]))] := hD
    have hK : va_K D vwCl [(cJ, .long)] s := hK
    clear hS1
    refine vx_catch (name := "java/lang/IndexOutOfBoundsException") hown [] ⟨0, 9, 12, 23⟩ [] (htb.trans rfl) (fun z hz => nomatch hz) (by decide) (by decide) (hts _ zw_520) (hts _ zw_531) hce_1 hcv_1 hcl_1 ?_
    refine lv_astore_n (lv' := [(3, .ref q9_1), (0, .ref h0), (1, .int a0), (2, .ref ho)]) hx hb dL_homeOf_12 rfl hl (by decide) rfl (fun ls hl => ?_)
    refine lv_iconst (v := 1) hx hb dL_homeOf_13 (by decide) ?_
    exact vx_ret (W.iret (v := 1) hx hb hr (fun t ht hW => ⟨⟨1, (), rfl, rfl, z_end hP hK hD [1, 0] rfl rfl [0] rfl ht hW.alike⟩, hS.F ht⟩) hS.2.2 dL_homeOf_14)
  · exact hw_1.elim
theorem dL_move_0 : decode cL_move 0 = .ok (.aload_n 3, 1) := by decide +kernel
theorem dL_move_1 : decode cL_move 1 = .ok (.iconst 0, 1) := by decide +kernel
theorem dL_move_2 : decode cL_move 2 = .ok (.aload_n 0, 1) := by decide +kernel
theorem dL_move_3 : decode cL_move 3 = .ok (.iload_n 1, 1) := by decide +kernel
theorem dL_move_4 : decode cL_move 4 = .ok (.iload_n 2, 1) := by decide +kernel
theorem dL_move_5 : decode cL_move 5 = .ok (.invokevirtual 66, 3) := by decide +kernel
theorem zw_701 : Cond.methodLink RL 66 yX4_move ∈ z_Ts := z_m 701 (by decide +kernel) (by decide +kernel)
theorem zw_702 : Cond.instanceMethod yX4_move ∈ z_Ts := z_m 702 (by decide +kernel) (by decide +kernel)
theorem zw_703 : Cond.selects RX4 yX4_move yX4_move ∈ z_Ts := z_m 703 (by decide +kernel) (by decide +kernel)
theorem zw_704 : Cond.code yX4_move cX4_move 3 (some .int) ∈ z_Ts := z_m 704 (by decide +kernel) (by decide +kernel)
theorem dL_move_13 : decode cL_move 13 = .ok (.astore 4, 2) := by decide +kernel
theorem dL_move_15 : decode cL_move 15 = .ok (.iconst 1, 1) := by decide +kernel
theorem dL_move_16 : decode cL_move 16 = .ok (.ireturn, 1) := by decide +kernel
set_option maxHeartbeats 4000000 in
set_option maxRecDepth 100000 in
theorem f_L_move (l : Launch) (hst : l.stackTraces = false) (D : va_G) (h0 : Nat) (hu : Nat) (hs : Nat) (hc : Nat) (hp : Nat) (hg : Nat) (td : Int32) (sd : Int32) (a0 : Int32) (a1 : Int32) (ho : Nat) (fo : Nat → Int64) (cJ : ClassId) (sz : Nat)  : vx_Met l yL_move [Cond.codeWith yL_move cL_move 5 (some .int) [(0, 10, 13, 23), (0, 10, 17, 15)]] ({ frames := 8, cells := 1, slots := 6, locals := 170 }) (z_Pc D [.ref h0, .int a0, .int a1, .ref ho] [(h0, .inr (6, [.ref hu, .ref hs, .ref hc, .ref hp, .ref hg, .int 0, .int 0, .int 0, .int td, .int sd])), (ho, .inl (cJ, 1, .inr (.inl fo)))] [(cJ, .long)] sz) (va_Qi (fun (r : Int32) (_ : Unit) => r = 1) (fun _ t => z_W D [(h0, .inr (6, [.ref hu, .ref hs, .ref hc, .ref hp, .ref hg, .int 0, .int 0, .int 0, .int td, .int sd])), (ho, .inl (cJ, 1, .inr (.inl fo)))] [(cJ, .long)] (va_A [(h0, .inr (6, [.ref hu, .ref hs, .ref hc, .ref hp, .ref hg, .int 0, .int 0, .int 0, .int td, .int sd])), (ho, .inl (cJ, 1, .inr (.inl fo)))] sz) t) (va_A [(h0, .inr (6, [.ref hu, .ref hs, .ref hc, .ref hp, .ref hg, .int 0, .int 0, .int 0, .int td, .int sd])), (ho, .inl (cJ, 1, .inr (.inl fo)))] sz)) (z_T (False) "none" D [(h0, .inr (6, [.ref hu, .ref hs, .ref hc, .ref hp, .ref hg, .int 0, .int 0, .int 0, .int td, .int sd])), (ho, .inl (cJ, 1, .inr (.inl fo)))] [(cJ, .long)] sz) 1 6 (va_A [(h0, .inr (6, [.ref hu, .ref hs, .ref hc, .ref hp, .ref hg, .int 0, .int 0, .int 0, .int td, .int sd])), (ho, .inl (cJ, 1, .inr (.inl fo)))] sz) := by
  refine vx_ofWH (cc := cL_move) (maxL := 5) (ret := (some .int)) (hh := [(0, 10, 13, 23), (0, 10, 17, 15)]) (by decide +kernel) rfl ?_
  intro p e s m args below meth c s₁ B hml hv
  obtain ⟨rfl, hsz, hP, hK, hD0, hE, hX0⟩ := hv
  have hx := B.exec
  have hb := B.bytes
  have hr := B.returns
  have hts := z_E.ts (args := [.ref h0, .int a0, .int a1, .ref ho].toArray) hE
  have hown : s.vm.findClass RL = some m.cls := findClass_of_methodNamed B.named
  have hlocks := B.notSynchronized
  have htb := vx_table (x := yL_move) B (atoms_spec (ws := [Cond.codeWith yL_move cL_move 5 (some .int) [(0, 10, 13, 23), (0, 10, 17, 15)]]) B.pre _ List.mem_cons_self)
  subst hsz
  have hD := hD0.self (sz := s.heap.size)
  generalize hAe : va_A [(h0, .inr (6, [.ref hu, .ref hs, .ref hc, .ref hp, .ref hg, .int 0, .int 0, .int 0, .int td, .int sd])), (ho, .inl (cJ, 1, .inr (.inl fo)))] s.heap.size = A at hD hX0 ⊢
  have hX : z_X A s s.heap := hX0
  have hA : ∀ q : Nat, s.heap.size ≤ q → A q := fun q h => by rw [← hAe]; exact Or.inr h
  have hS : va_S A s.heap s.heap [] := va_S.rf
  have hP : va_P D vwCl [(h0, .inr (6, [.ref hu, .ref hs, .ref hc, .ref hp, .ref hg, .int 0, .int 0, .int 0, .int td, .int sd])), (ho, .inl (cJ, 1, .inr (.inl fo)))] s.heap := hP
  have hl := lv_entry ([.ref h0, .int a0, .int a1, .ref ho]) (n := 5) (Nat.le_of_ble_eq_true rfl)
  rw [lg_entry_eq]
  generalize (lg_sl ([.ref h0, .int a0, .int a1, .ref ho]) ++ List.replicate (5 - (lg_sl ([.ref h0, .int a0, .int a1, .ref ho])).length) Slot.unset).toArray = ls at hl ⊢
  have hl : lv_has ls 5 [(0, .ref h0), (1, .int a0), (2, .int a1), (3, .ref ho)] := hl
  skip
  refine lv_aload_n hx hb dL_move_0 rfl (lv_at hl 3 rfl) ?_
  refine lv_iconst (v := 0) hx hb dL_move_1 (by decide) ?_
  refine lv_aload_n hx hb dL_move_2 rfl (lv_at hl 0 rfl) ?_
  refine lv_iload_n hx hb dL_move_3 rfl (lv_at hl 1 rfl) ?_
  refine lv_iload_n hx hb dL_move_4 rfl (lv_at hl 2 rfl) ?_
  obtain ⟨hb_1, hc_1⟩ := z_call (wc := [(h0, .inr (6, [.ref hu, .ref hs, .ref hc, .ref hp, .ref hg, .int 0, .int 0, .int 0, .int td, .int sd]))]) (tc := []) ([.ref h0, .int a0, .int a1]) hP hK hD hS hA hE hX [0] rfl rfl [] rfl
  have hF_1 := va_free (wc := [(h0, .inr (6, [.ref hu, .ref hs, .ref hc, .ref hp, .ref hg, .int 0, .int 0, .int 0, .int td, .int sd]))]) hD hS hA [0] rfl
  refine vx_calli (vx_runV (As := [.int a0, .int a1]) (rest := [.int 0, .ref ho]) ⟨hx, hb, hml, hown, hts⟩ (f_X4_move l hst D h0 hu hs hc hp hg td sd a0 a1 _ ) (z_cV 2 hE zw_701 zw_702 zw_703 zw_91 zw_704 rfl rfl rfl (by decide +kernel) ⟨(Nat.le_of_ble_eq_true rfl), (Nat.le_of_ble_eq_true rfl)⟩) ⟨hb_1, va_recv hK hP (ci := 6) (q0 := 0) rfl rfl, hc_1⟩ rfl rfl hl.1 rfl (lv_room (Nat.le_of_ble_eq_true rfl)) dL_move_5 ⟨(Nat.le_of_ble_eq_true rfl), (Nat.le_of_ble_eq_true rfl)⟩) hS (fun q _ h => hF_1 q h) hF_1 (fun q _ h => hF_1 q h) (fun E_1 ce_1 q9_1 u_1 t_1 H1 locs ht_1 hvm_1 hw_1 hB_1 hz_1 hk_1 hS1 hce_1 hcv_1 hcl_1 => ?_) (fun r_1 u_1 t_1 H1 locs ht_1 hvm_1 hw_1 hB_1 hz_1 hk_1 hS1 => ?_)
  · obtain ⟨rfl, hB_1⟩ := hB_1
    obtain ⟨hP, hK, hD⟩ := z_back (wc := [(h0, .inr (6, [.ref hu, .ref hs, .ref hc, .ref hp, .ref hg, .int 0, .int 0, .int 0, .int td, .int sd]))]) (wr := [(ho, .inl (cJ, 1, .inr (.inl fo)))]) (w1 := [(h0, .inr (6, [.ref hu, .ref hs, .ref hc, .ref hp, .ref hg, .int 0, .int 0, .int 0, .int td, .int sd]))]) (tr := [(cJ, .long)]) hP hK hD [0] [1] rfl rfl rfl (by decide) ht_1 hvm_1 hk_1 hF_1 [0] rfl hB_1
    have hS := hS1
    have hP : va_P D vwCl [(ho, .inl (cJ, 1, .inr (.inl fo))), (h0, .inr (6, [.ref hu, .ref hs, .ref hc, .ref hp, .ref hg, .int 0, .int 0, .int 0, .int td, .int sd]))] H1 := hP
    have hD : va_D A [(ho, .inl (cJ, 1, .inr (.inl fo))), (h0, .inr (6, [.ref hu, .ref hs, .ref hc, .ref hp, .ref hg, .int 0, .int 0, .int 0, .int td, .int sd]))] := hD
    have hK : va_K D vwCl [(cJ, .long)] s := hK
    clear hS1
    refine vx_catch (name := "java/lang/IndexOutOfBoundsException") hown [] ⟨0, 10, 13, 23⟩ [⟨0, 10, 17, 15⟩] (htb.trans rfl) (fun z hz => nomatch hz) (by decide) (by decide) (hts _ zw_520) (hts _ zw_531) hce_1 hcv_1 hcl_1 ?_
    refine lv_astore (lv' := [(4, .ref q9_1), (0, .ref h0), (1, .int a0), (2, .int a1), (3, .ref ho)]) hx hb dL_move_13 hl (by decide) rfl (fun ls hl => ?_)
    refine lv_iconst (v := 1) hx hb dL_move_15 (by decide) ?_
    exact vx_ret (W.iret (v := 1) hx hb hr (fun t ht hW => ⟨⟨1, (), rfl, rfl, z_end hP hK hD [1, 0] rfl rfl [0] rfl ht hW.alike⟩, hS.F ht⟩) hS.2.2 dL_move_16)
  · exact hw_1.elim
theorem dL_toStall_0 : decode cL_toStall 0 = .ok (.aload_n 2, 1) := by decide +kernel
theorem dL_toStall_1 : decode cL_toStall 1 = .ok (.iconst 0, 1) := by decide +kernel
theorem dL_toStall_2 : decode cL_toStall 2 = .ok (.aload_n 0, 1) := by decide +kernel
theorem dL_toStall_3 : decode cL_toStall 3 = .ok (.iload_n 1, 1) := by decide +kernel
theorem dL_toStall_4 : decode cL_toStall 4 = .ok (.invokevirtual 69, 3) := by decide +kernel
theorem zw_724 : Cond.methodLink RL 69 yX4_toStall ∈ z_Ts := z_m 724 (by decide +kernel) (by decide +kernel)
theorem zw_725 : Cond.instanceMethod yX4_toStall ∈ z_Ts := z_m 725 (by decide +kernel) (by decide +kernel)
theorem zw_726 : Cond.selects RX4 yX4_toStall yX4_toStall ∈ z_Ts := z_m 726 (by decide +kernel) (by decide +kernel)
theorem zw_727 : Cond.code yX4_toStall cX4_toStall 2 (some .int) ∈ z_Ts := z_m 727 (by decide +kernel) (by decide +kernel)
theorem dL_toStall_12 : decode cL_toStall 12 = .ok (.astore_n 3, 1) := by decide +kernel
theorem dL_toStall_13 : decode cL_toStall 13 = .ok (.iconst 1, 1) := by decide +kernel
theorem dL_toStall_14 : decode cL_toStall 14 = .ok (.ireturn, 1) := by decide +kernel
set_option maxHeartbeats 4000000 in
set_option maxRecDepth 100000 in
theorem f_L_toStall (l : Launch) (hst : l.stackTraces = false) (D : va_G) (h0 : Nat) (hu : Nat) (hs : Nat) (hc : Nat) (hp : Nat) (hg : Nat) (td : Int32) (sd : Int32) (a0 : Int32) (ho : Nat) (fo : Nat → Int64) (cJ : ClassId) (sz : Nat)  : vx_Met l yL_toStall [Cond.codeWith yL_toStall cL_toStall 4 (some .int) [(0, 9, 12, 23), (0, 9, 15, 15)]] ({ frames := 8, cells := 1, slots := 6, locals := 170 }) (z_Pc D [.ref h0, .int a0, .ref ho] [(h0, .inr (6, [.ref hu, .ref hs, .ref hc, .ref hp, .ref hg, .int 0, .int 0, .int 0, .int td, .int sd])), (ho, .inl (cJ, 1, .inr (.inl fo)))] [(cJ, .long)] sz) (va_Qi (fun (r : Int32) (_ : Unit) => r = 1) (fun _ t => z_W D [(h0, .inr (6, [.ref hu, .ref hs, .ref hc, .ref hp, .ref hg, .int 0, .int 0, .int 0, .int td, .int sd])), (ho, .inl (cJ, 1, .inr (.inl fo)))] [(cJ, .long)] (va_A [(h0, .inr (6, [.ref hu, .ref hs, .ref hc, .ref hp, .ref hg, .int 0, .int 0, .int 0, .int td, .int sd])), (ho, .inl (cJ, 1, .inr (.inl fo)))] sz) t) (va_A [(h0, .inr (6, [.ref hu, .ref hs, .ref hc, .ref hp, .ref hg, .int 0, .int 0, .int 0, .int td, .int sd])), (ho, .inl (cJ, 1, .inr (.inl fo)))] sz)) (z_T (False) "none" D [(h0, .inr (6, [.ref hu, .ref hs, .ref hc, .ref hp, .ref hg, .int 0, .int 0, .int 0, .int td, .int sd])), (ho, .inl (cJ, 1, .inr (.inl fo)))] [(cJ, .long)] sz) 1 6 (va_A [(h0, .inr (6, [.ref hu, .ref hs, .ref hc, .ref hp, .ref hg, .int 0, .int 0, .int 0, .int td, .int sd])), (ho, .inl (cJ, 1, .inr (.inl fo)))] sz) := by
  refine vx_ofWH (cc := cL_toStall) (maxL := 4) (ret := (some .int)) (hh := [(0, 9, 12, 23), (0, 9, 15, 15)]) (by decide +kernel) rfl ?_
  intro p e s m args below meth c s₁ B hml hv
  obtain ⟨rfl, hsz, hP, hK, hD0, hE, hX0⟩ := hv
  have hx := B.exec
  have hb := B.bytes
  have hr := B.returns
  have hts := z_E.ts (args := [.ref h0, .int a0, .ref ho].toArray) hE
  have hown : s.vm.findClass RL = some m.cls := findClass_of_methodNamed B.named
  have hlocks := B.notSynchronized
  have htb := vx_table (x := yL_toStall) B (atoms_spec (ws := [Cond.codeWith yL_toStall cL_toStall 4 (some .int) [(0, 9, 12, 23), (0, 9, 15, 15)]]) B.pre _ List.mem_cons_self)
  subst hsz
  have hD := hD0.self (sz := s.heap.size)
  generalize hAe : va_A [(h0, .inr (6, [.ref hu, .ref hs, .ref hc, .ref hp, .ref hg, .int 0, .int 0, .int 0, .int td, .int sd])), (ho, .inl (cJ, 1, .inr (.inl fo)))] s.heap.size = A at hD hX0 ⊢
  have hX : z_X A s s.heap := hX0
  have hA : ∀ q : Nat, s.heap.size ≤ q → A q := fun q h => by rw [← hAe]; exact Or.inr h
  have hS : va_S A s.heap s.heap [] := va_S.rf
  have hP : va_P D vwCl [(h0, .inr (6, [.ref hu, .ref hs, .ref hc, .ref hp, .ref hg, .int 0, .int 0, .int 0, .int td, .int sd])), (ho, .inl (cJ, 1, .inr (.inl fo)))] s.heap := hP
  have hl := lv_entry ([.ref h0, .int a0, .ref ho]) (n := 4) (Nat.le_of_ble_eq_true rfl)
  rw [lg_entry_eq]
  generalize (lg_sl ([.ref h0, .int a0, .ref ho]) ++ List.replicate (4 - (lg_sl ([.ref h0, .int a0, .ref ho])).length) Slot.unset).toArray = ls at hl ⊢
  have hl : lv_has ls 4 [(0, .ref h0), (1, .int a0), (2, .ref ho)] := hl
  skip
  refine lv_aload_n hx hb dL_toStall_0 rfl (lv_at hl 2 rfl) ?_
  refine lv_iconst (v := 0) hx hb dL_toStall_1 (by decide) ?_
  refine lv_aload_n hx hb dL_toStall_2 rfl (lv_at hl 0 rfl) ?_
  refine lv_iload_n hx hb dL_toStall_3 rfl (lv_at hl 1 rfl) ?_
  obtain ⟨hb_1, hc_1⟩ := z_call (wc := [(h0, .inr (6, [.ref hu, .ref hs, .ref hc, .ref hp, .ref hg, .int 0, .int 0, .int 0, .int td, .int sd]))]) (tc := []) ([.ref h0, .int a0]) hP hK hD hS hA hE hX [0] rfl rfl [] rfl
  have hF_1 := va_free (wc := [(h0, .inr (6, [.ref hu, .ref hs, .ref hc, .ref hp, .ref hg, .int 0, .int 0, .int 0, .int td, .int sd]))]) hD hS hA [0] rfl
  refine vx_calli (vx_runV (As := [.int a0]) (rest := [.int 0, .ref ho]) ⟨hx, hb, hml, hown, hts⟩ (f_X4_toStall l hst D h0 hu hs hc hp hg td sd a0 _ ) (z_cV 1 hE zw_724 zw_725 zw_726 zw_91 zw_727 rfl rfl rfl (by decide +kernel) ⟨(Nat.le_of_ble_eq_true rfl), (Nat.le_of_ble_eq_true rfl)⟩) ⟨hb_1, va_recv hK hP (ci := 6) (q0 := 0) rfl rfl, hc_1⟩ rfl rfl hl.1 rfl (lv_room (Nat.le_of_ble_eq_true rfl)) dL_toStall_4 ⟨(Nat.le_of_ble_eq_true rfl), (Nat.le_of_ble_eq_true rfl)⟩) hS (fun q _ h => hF_1 q h) hF_1 (fun q _ h => hF_1 q h) (fun E_1 ce_1 q9_1 u_1 t_1 H1 locs ht_1 hvm_1 hw_1 hB_1 hz_1 hk_1 hS1 hce_1 hcv_1 hcl_1 => ?_) (fun r_1 u_1 t_1 H1 locs ht_1 hvm_1 hw_1 hB_1 hz_1 hk_1 hS1 => ?_)
  · obtain ⟨rfl, hB_1⟩ := hB_1
    obtain ⟨hP, hK, hD⟩ := z_back (wc := [(h0, .inr (6, [.ref hu, .ref hs, .ref hc, .ref hp, .ref hg, .int 0, .int 0, .int 0, .int td, .int sd]))]) (wr := [(ho, .inl (cJ, 1, .inr (.inl fo)))]) (w1 := [(h0, .inr (6, [.ref hu, .ref hs, .ref hc, .ref hp, .ref hg, .int 0, .int 0, .int 0, .int td, .int sd]))]) (tr := [(cJ, .long)]) hP hK hD [0] [1] rfl rfl rfl (by decide) ht_1 hvm_1 hk_1 hF_1 [0] rfl hB_1
    have hS := hS1
    have hP : va_P D vwCl [(ho, .inl (cJ, 1, .inr (.inl fo))), (h0, .inr (6, [.ref hu, .ref hs, .ref hc, .ref hp, .ref hg, .int 0, .int 0, .int 0, .int td, .int sd]))] H1 := hP
    have hD : va_D A [(ho, .inl (cJ, 1, .inr (.inl fo))), (h0, .inr (6, [.ref hu, .ref hs, .ref hc, .ref hp, .ref hg, .int 0, .int 0, .int 0, .int td, .int sd]))] := hD
    have hK : va_K D vwCl [(cJ, .long)] s := hK
    clear hS1
    refine vx_catch (name := "java/lang/IndexOutOfBoundsException") hown [] ⟨0, 9, 12, 23⟩ [⟨0, 9, 15, 15⟩] (htb.trans rfl) (fun z hz => nomatch hz) (by decide) (by decide) (hts _ zw_520) (hts _ zw_531) hce_1 hcv_1 hcl_1 ?_
    refine lv_astore_n (lv' := [(3, .ref q9_1), (0, .ref h0), (1, .int a0), (2, .ref ho)]) hx hb dL_toStall_12 rfl hl (by decide) rfl (fun ls hl => ?_)
    refine lv_iconst (v := 1) hx hb dL_toStall_13 (by decide) ?_
    exact vx_ret (W.iret (v := 1) hx hb hr (fun t ht hW => ⟨⟨1, (), rfl, rfl, z_end hP hK hD [1, 0] rfl rfl [0] rfl ht hW.alike⟩, hS.F ht⟩) hS.2.2 dL_toStall_14)
  · exact hw_1.elim
theorem dL_store_0 : decode cL_store 0 = .ok (.aload_n 2, 1) := by decide +kernel
theorem dL_store_1 : decode cL_store 1 = .ok (.iconst 0, 1) := by decide +kernel
theorem dL_store_2 : decode cL_store 2 = .ok (.aload_n 0, 1) := by decide +kernel
theorem dL_store_3 : decode cL_store 3 = .ok (.iload_n 1, 1) := by decide +kernel
theorem dL_store_4 : decode cL_store 4 = .ok (.invokevirtual 72, 3) := by decide +kernel
theorem zw_736 : Cond.methodLink RL 72 yX4_store ∈ z_Ts := z_m 736 (by decide +kernel) (by decide +kernel)
theorem zw_737 : Cond.instanceMethod yX4_store ∈ z_Ts := z_m 737 (by decide +kernel) (by decide +kernel)
theorem zw_738 : Cond.selects RX4 yX4_store yX4_store ∈ z_Ts := z_m 738 (by decide +kernel) (by decide +kernel)
theorem zw_739 : Cond.code yX4_store cX4_store 2 (some .int) ∈ z_Ts := z_m 739 (by decide +kernel) (by decide +kernel)
theorem dL_store_12 : decode cL_store 12 = .ok (.astore_n 3, 1) := by decide +kernel
theorem dL_store_13 : decode cL_store 13 = .ok (.iconst 1, 1) := by decide +kernel
theorem dL_store_14 : decode cL_store 14 = .ok (.ireturn, 1) := by decide +kernel
set_option maxHeartbeats 4000000 in
set_option maxRecDepth 100000 in
theorem f_L_store (l : Launch) (hst : l.stackTraces = false) (D : va_G) (h0 : Nat) (hu : Nat) (hs : Nat) (hc : Nat) (hp : Nat) (hg : Nat) (td : Int32) (sd : Int32) (a0 : Int32) (ho : Nat) (fo : Nat → Int64) (cJ : ClassId) (sz : Nat)  : vx_Met l yL_store [Cond.codeWith yL_store cL_store 4 (some .int) [(0, 9, 12, 23), (0, 9, 15, 15)]] ({ frames := 8, cells := 1, slots := 6, locals := 170 }) (z_Pc D [.ref h0, .int a0, .ref ho] [(h0, .inr (6, [.ref hu, .ref hs, .ref hc, .ref hp, .ref hg, .int 0, .int 0, .int 0, .int td, .int sd])), (ho, .inl (cJ, 1, .inr (.inl fo)))] [(cJ, .long)] sz) (va_Qi (fun (r : Int32) (_ : Unit) => r = 1) (fun _ t => z_W D [(h0, .inr (6, [.ref hu, .ref hs, .ref hc, .ref hp, .ref hg, .int 0, .int 0, .int 0, .int td, .int sd])), (ho, .inl (cJ, 1, .inr (.inl fo)))] [(cJ, .long)] (va_A [(h0, .inr (6, [.ref hu, .ref hs, .ref hc, .ref hp, .ref hg, .int 0, .int 0, .int 0, .int td, .int sd])), (ho, .inl (cJ, 1, .inr (.inl fo)))] sz) t) (va_A [(h0, .inr (6, [.ref hu, .ref hs, .ref hc, .ref hp, .ref hg, .int 0, .int 0, .int 0, .int td, .int sd])), (ho, .inl (cJ, 1, .inr (.inl fo)))] sz)) (z_T (False) "none" D [(h0, .inr (6, [.ref hu, .ref hs, .ref hc, .ref hp, .ref hg, .int 0, .int 0, .int 0, .int td, .int sd])), (ho, .inl (cJ, 1, .inr (.inl fo)))] [(cJ, .long)] sz) 1 6 (va_A [(h0, .inr (6, [.ref hu, .ref hs, .ref hc, .ref hp, .ref hg, .int 0, .int 0, .int 0, .int td, .int sd])), (ho, .inl (cJ, 1, .inr (.inl fo)))] sz) := by
  refine vx_ofWH (cc := cL_store) (maxL := 4) (ret := (some .int)) (hh := [(0, 9, 12, 23), (0, 9, 15, 15)]) (by decide +kernel) rfl ?_
  intro p e s m args below meth c s₁ B hml hv
  obtain ⟨rfl, hsz, hP, hK, hD0, hE, hX0⟩ := hv
  have hx := B.exec
  have hb := B.bytes
  have hr := B.returns
  have hts := z_E.ts (args := [.ref h0, .int a0, .ref ho].toArray) hE
  have hown : s.vm.findClass RL = some m.cls := findClass_of_methodNamed B.named
  have hlocks := B.notSynchronized
  have htb := vx_table (x := yL_store) B (atoms_spec (ws := [Cond.codeWith yL_store cL_store 4 (some .int) [(0, 9, 12, 23), (0, 9, 15, 15)]]) B.pre _ List.mem_cons_self)
  subst hsz
  have hD := hD0.self (sz := s.heap.size)
  generalize hAe : va_A [(h0, .inr (6, [.ref hu, .ref hs, .ref hc, .ref hp, .ref hg, .int 0, .int 0, .int 0, .int td, .int sd])), (ho, .inl (cJ, 1, .inr (.inl fo)))] s.heap.size = A at hD hX0 ⊢
  have hX : z_X A s s.heap := hX0
  have hA : ∀ q : Nat, s.heap.size ≤ q → A q := fun q h => by rw [← hAe]; exact Or.inr h
  have hS : va_S A s.heap s.heap [] := va_S.rf
  have hP : va_P D vwCl [(h0, .inr (6, [.ref hu, .ref hs, .ref hc, .ref hp, .ref hg, .int 0, .int 0, .int 0, .int td, .int sd])), (ho, .inl (cJ, 1, .inr (.inl fo)))] s.heap := hP
  have hl := lv_entry ([.ref h0, .int a0, .ref ho]) (n := 4) (Nat.le_of_ble_eq_true rfl)
  rw [lg_entry_eq]
  generalize (lg_sl ([.ref h0, .int a0, .ref ho]) ++ List.replicate (4 - (lg_sl ([.ref h0, .int a0, .ref ho])).length) Slot.unset).toArray = ls at hl ⊢
  have hl : lv_has ls 4 [(0, .ref h0), (1, .int a0), (2, .ref ho)] := hl
  skip
  refine lv_aload_n hx hb dL_store_0 rfl (lv_at hl 2 rfl) ?_
  refine lv_iconst (v := 0) hx hb dL_store_1 (by decide) ?_
  refine lv_aload_n hx hb dL_store_2 rfl (lv_at hl 0 rfl) ?_
  refine lv_iload_n hx hb dL_store_3 rfl (lv_at hl 1 rfl) ?_
  obtain ⟨hb_1, hc_1⟩ := z_call (wc := [(h0, .inr (6, [.ref hu, .ref hs, .ref hc, .ref hp, .ref hg, .int 0, .int 0, .int 0, .int td, .int sd]))]) (tc := []) ([.ref h0, .int a0]) hP hK hD hS hA hE hX [0] rfl rfl [] rfl
  have hF_1 := va_free (wc := [(h0, .inr (6, [.ref hu, .ref hs, .ref hc, .ref hp, .ref hg, .int 0, .int 0, .int 0, .int td, .int sd]))]) hD hS hA [0] rfl
  refine vx_calli (vx_runV (As := [.int a0]) (rest := [.int 0, .ref ho]) ⟨hx, hb, hml, hown, hts⟩ (f_X4_store l hst D h0 hu hs hc hp hg td sd a0 _ ) (z_cV 1 hE zw_736 zw_737 zw_738 zw_91 zw_739 rfl rfl rfl (by decide +kernel) ⟨(Nat.le_of_ble_eq_true rfl), (Nat.le_of_ble_eq_true rfl)⟩) ⟨hb_1, va_recv hK hP (ci := 6) (q0 := 0) rfl rfl, hc_1⟩ rfl rfl hl.1 rfl (lv_room (Nat.le_of_ble_eq_true rfl)) dL_store_4 ⟨(Nat.le_of_ble_eq_true rfl), (Nat.le_of_ble_eq_true rfl)⟩) hS (fun q _ h => hF_1 q h) hF_1 (fun q _ h => hF_1 q h) (fun E_1 ce_1 q9_1 u_1 t_1 H1 locs ht_1 hvm_1 hw_1 hB_1 hz_1 hk_1 hS1 hce_1 hcv_1 hcl_1 => ?_) (fun r_1 u_1 t_1 H1 locs ht_1 hvm_1 hw_1 hB_1 hz_1 hk_1 hS1 => ?_)
  · obtain ⟨rfl, hB_1⟩ := hB_1
    obtain ⟨hP, hK, hD⟩ := z_back (wc := [(h0, .inr (6, [.ref hu, .ref hs, .ref hc, .ref hp, .ref hg, .int 0, .int 0, .int 0, .int td, .int sd]))]) (wr := [(ho, .inl (cJ, 1, .inr (.inl fo)))]) (w1 := [(h0, .inr (6, [.ref hu, .ref hs, .ref hc, .ref hp, .ref hg, .int 0, .int 0, .int 0, .int td, .int sd]))]) (tr := [(cJ, .long)]) hP hK hD [0] [1] rfl rfl rfl (by decide) ht_1 hvm_1 hk_1 hF_1 [0] rfl hB_1
    have hS := hS1
    have hP : va_P D vwCl [(ho, .inl (cJ, 1, .inr (.inl fo))), (h0, .inr (6, [.ref hu, .ref hs, .ref hc, .ref hp, .ref hg, .int 0, .int 0, .int 0, .int td, .int sd]))] H1 := hP
    have hD : va_D A [(ho, .inl (cJ, 1, .inr (.inl fo))), (h0, .inr (6, [.ref hu, .ref hs, .ref hc, .ref hp, .ref hg, .int 0, .int 0, .int 0, .int td, .int sd]))] := hD
    have hK : va_K D vwCl [(cJ, .long)] s := hK
    clear hS1
    refine vx_catch (name := "java/lang/IndexOutOfBoundsException") hown [] ⟨0, 9, 12, 23⟩ [⟨0, 9, 15, 15⟩] (htb.trans rfl) (fun z hz => nomatch hz) (by decide) (by decide) (hts _ zw_520) (hts _ zw_531) hce_1 hcv_1 hcl_1 ?_
    refine lv_astore_n (lv' := [(3, .ref q9_1), (0, .ref h0), (1, .int a0), (2, .ref ho)]) hx hb dL_store_12 rfl hl (by decide) rfl (fun ls hl => ?_)
    refine lv_iconst (v := 1) hx hb dL_store_13 (by decide) ?_
    exact vx_ret (W.iret (v := 1) hx hb hr (fun t ht hW => ⟨⟨1, (), rfl, rfl, z_end hP hK hD [1, 0] rfl rfl [0] rfl ht hW.alike⟩, hS.F ht⟩) hS.2.2 dL_store_14)
  · exact hw_1.elim
theorem dL_comes_0 : decode cL_comes 0 = .ok (.aload_n 2, 1) := by decide +kernel
theorem dL_comes_1 : decode cL_comes 1 = .ok (.iconst 0, 1) := by decide +kernel
theorem dL_comes_2 : decode cL_comes 2 = .ok (.aload_n 0, 1) := by decide +kernel
theorem dL_comes_3 : decode cL_comes 3 = .ok (.iload_n 1, 1) := by decide +kernel
theorem dL_comes_4 : decode cL_comes 4 = .ok (.invokevirtual 75, 3) := by decide +kernel
theorem zw_748 : Cond.methodLink RL 75 yX4_comes ∈ z_Ts := z_m 748 (by decide +kernel) (by decide +kernel)
theorem zw_749 : Cond.instanceMethod yX4_comes ∈ z_Ts := z_m 749 (by decide +kernel) (by decide +kernel)
theorem zw_750 : Cond.selects RX4 yX4_comes yX4_comes ∈ z_Ts := z_m 750 (by decide +kernel) (by decide +kernel)
theorem zw_751 : Cond.code yX4_comes cX4_comes 2 (some .boolean) ∈ z_Ts := z_m 751 (by decide +kernel) (by decide +kernel)
theorem dL_comes_19 : decode cL_comes 19 = .ok (.astore_n 3, 1) := by decide +kernel
theorem dL_comes_20 : decode cL_comes 20 = .ok (.iconst 1, 1) := by decide +kernel
theorem dL_comes_21 : decode cL_comes 21 = .ok (.ireturn, 1) := by decide +kernel
set_option maxHeartbeats 4000000 in
set_option maxRecDepth 100000 in
theorem f_L_comes (l : Launch) (hst : l.stackTraces = false) (D : va_G) (h0 : Nat) (hu : Nat) (hs : Nat) (hc : Nat) (hp : Nat) (hg : Nat) (td : Int32) (sd : Int32) (a0 : Int32) (ho : Nat) (fo : Nat → Int64) (cJ : ClassId) (sz : Nat)  : vx_Met l yL_comes [Cond.codeWith yL_comes cL_comes 4 (some .int) [(0, 16, 19, 23)]] ({ frames := 8, cells := 1, slots := 6, locals := 170 }) (z_Pc D [.ref h0, .int a0, .ref ho] [(h0, .inr (6, [.ref hu, .ref hs, .ref hc, .ref hp, .ref hg, .int 0, .int 0, .int 0, .int td, .int sd])), (ho, .inl (cJ, 1, .inr (.inl fo)))] [(cJ, .long)] sz) (va_Qi (fun (r : Int32) (_ : Unit) => r = 1) (fun _ t => z_W D [(h0, .inr (6, [.ref hu, .ref hs, .ref hc, .ref hp, .ref hg, .int 0, .int 0, .int 0, .int td, .int sd])), (ho, .inl (cJ, 1, .inr (.inl fo)))] [(cJ, .long)] (va_A [(h0, .inr (6, [.ref hu, .ref hs, .ref hc, .ref hp, .ref hg, .int 0, .int 0, .int 0, .int td, .int sd])), (ho, .inl (cJ, 1, .inr (.inl fo)))] sz) t) (va_A [(h0, .inr (6, [.ref hu, .ref hs, .ref hc, .ref hp, .ref hg, .int 0, .int 0, .int 0, .int td, .int sd])), (ho, .inl (cJ, 1, .inr (.inl fo)))] sz)) (z_T (False) "none" D [(h0, .inr (6, [.ref hu, .ref hs, .ref hc, .ref hp, .ref hg, .int 0, .int 0, .int 0, .int td, .int sd])), (ho, .inl (cJ, 1, .inr (.inl fo)))] [(cJ, .long)] sz) 1 6 (va_A [(h0, .inr (6, [.ref hu, .ref hs, .ref hc, .ref hp, .ref hg, .int 0, .int 0, .int 0, .int td, .int sd])), (ho, .inl (cJ, 1, .inr (.inl fo)))] sz) := by
  refine vx_ofWH (cc := cL_comes) (maxL := 4) (ret := (some .int)) (hh := [(0, 16, 19, 23)]) (by decide +kernel) rfl ?_
  intro p e s m args below meth c s₁ B hml hv
  obtain ⟨rfl, hsz, hP, hK, hD0, hE, hX0⟩ := hv
  have hx := B.exec
  have hb := B.bytes
  have hr := B.returns
  have hts := z_E.ts (args := [.ref h0, .int a0, .ref ho].toArray) hE
  have hown : s.vm.findClass RL = some m.cls := findClass_of_methodNamed B.named
  have hlocks := B.notSynchronized
  have htb := vx_table (x := yL_comes) B (atoms_spec (ws := [Cond.codeWith yL_comes cL_comes 4 (some .int) [(0, 16, 19, 23)]]) B.pre _ List.mem_cons_self)
  subst hsz
  have hD := hD0.self (sz := s.heap.size)
  generalize hAe : va_A [(h0, .inr (6, [.ref hu, .ref hs, .ref hc, .ref hp, .ref hg, .int 0, .int 0, .int 0, .int td, .int sd])), (ho, .inl (cJ, 1, .inr (.inl fo)))] s.heap.size = A at hD hX0 ⊢
  have hX : z_X A s s.heap := hX0
  have hA : ∀ q : Nat, s.heap.size ≤ q → A q := fun q h => by rw [← hAe]; exact Or.inr h
  have hS : va_S A s.heap s.heap [] := va_S.rf
  have hP : va_P D vwCl [(h0, .inr (6, [.ref hu, .ref hs, .ref hc, .ref hp, .ref hg, .int 0, .int 0, .int 0, .int td, .int sd])), (ho, .inl (cJ, 1, .inr (.inl fo)))] s.heap := hP
  have hl := lv_entry ([.ref h0, .int a0, .ref ho]) (n := 4) (Nat.le_of_ble_eq_true rfl)
  rw [lg_entry_eq]
  generalize (lg_sl ([.ref h0, .int a0, .ref ho]) ++ List.replicate (4 - (lg_sl ([.ref h0, .int a0, .ref ho])).length) Slot.unset).toArray = ls at hl ⊢
  have hl : lv_has ls 4 [(0, .ref h0), (1, .int a0), (2, .ref ho)] := hl
  skip
  refine lv_aload_n hx hb dL_comes_0 rfl (lv_at hl 2 rfl) ?_
  refine lv_iconst (v := 0) hx hb dL_comes_1 (by decide) ?_
  refine lv_aload_n hx hb dL_comes_2 rfl (lv_at hl 0 rfl) ?_
  refine lv_iload_n hx hb dL_comes_3 rfl (lv_at hl 1 rfl) ?_
  obtain ⟨hb_1, hc_1⟩ := z_call (wc := [(h0, .inr (6, [.ref hu, .ref hs, .ref hc, .ref hp, .ref hg, .int 0, .int 0, .int 0, .int td, .int sd]))]) (tc := []) ([.ref h0, .int a0]) hP hK hD hS hA hE hX [0] rfl rfl [] rfl
  have hF_1 := va_free (wc := [(h0, .inr (6, [.ref hu, .ref hs, .ref hc, .ref hp, .ref hg, .int 0, .int 0, .int 0, .int td, .int sd]))]) hD hS hA [0] rfl
  refine vx_calli (vx_runV (As := [.int a0]) (rest := [.int 0, .ref ho]) ⟨hx, hb, hml, hown, hts⟩ (f_X4_comes l hst D h0 hu hs hc hp hg td sd a0 _ ) (z_cV 1 hE zw_748 zw_749 zw_750 zw_91 zw_751 rfl rfl rfl (by decide +kernel) ⟨(Nat.le_of_ble_eq_true rfl), (Nat.le_of_ble_eq_true rfl)⟩) ⟨hb_1, va_recv hK hP (ci := 6) (q0 := 0) rfl rfl, hc_1⟩ rfl rfl hl.1 rfl (lv_room (Nat.le_of_ble_eq_true rfl)) dL_comes_4 ⟨(Nat.le_of_ble_eq_true rfl), (Nat.le_of_ble_eq_true rfl)⟩) hS (fun q _ h => hF_1 q h) hF_1 (fun q _ h => hF_1 q h) (fun E_1 ce_1 q9_1 u_1 t_1 H1 locs ht_1 hvm_1 hw_1 hB_1 hz_1 hk_1 hS1 hce_1 hcv_1 hcl_1 => ?_) (fun r_1 u_1 t_1 H1 locs ht_1 hvm_1 hw_1 hB_1 hz_1 hk_1 hS1 => ?_)
  · obtain ⟨rfl, hB_1⟩ := hB_1
    obtain ⟨hP, hK, hD⟩ := z_back (wc := [(h0, .inr (6, [.ref hu, .ref hs, .ref hc, .ref hp, .ref hg, .int 0, .int 0, .int 0, .int td, .int sd]))]) (wr := [(ho, .inl (cJ, 1, .inr (.inl fo)))]) (w1 := [(h0, .inr (6, [.ref hu, .ref hs, .ref hc, .ref hp, .ref hg, .int 0, .int 0, .int 0, .int td, .int sd]))]) (tr := [(cJ, .long)]) hP hK hD [0] [1] rfl rfl rfl (by decide) ht_1 hvm_1 hk_1 hF_1 [0] rfl hB_1
    have hS := hS1
    have hP : va_P D vwCl [(ho, .inl (cJ, 1, .inr (.inl fo))), (h0, .inr (6, [.ref hu, .ref hs, .ref hc, .ref hp, .ref hg, .int 0, .int 0, .int 0, .int td, .int sd]))] H1 := hP
    have hD : va_D A [(ho, .inl (cJ, 1, .inr (.inl fo))), (h0, .inr (6, [.ref hu, .ref hs, .ref hc, .ref hp, .ref hg, .int 0, .int 0, .int 0, .int td, .int sd]))] := hD
    have hK : va_K D vwCl [(cJ, .long)] s := hK
    clear hS1
    refine vx_catch (name := "java/lang/IndexOutOfBoundsException") hown [] ⟨0, 16, 19, 23⟩ [] (htb.trans rfl) (fun z hz => nomatch hz) (by decide) (by decide) (hts _ zw_520) (hts _ zw_531) hce_1 hcv_1 hcl_1 ?_
    refine lv_astore_n (lv' := [(3, .ref q9_1), (0, .ref h0), (1, .int a0), (2, .ref ho)]) hx hb dL_comes_19 rfl hl (by decide) rfl (fun ls hl => ?_)
    refine lv_iconst (v := 1) hx hb dL_comes_20 (by decide) ?_
    exact vx_ret (W.iret (v := 1) hx hb hr (fun t ht hW => ⟨⟨1, (), rfl, rfl, z_end hP hK hD [1, 0] rfl rfl [0] rfl ht hW.alike⟩, hS.F ht⟩) hS.2.2 dL_comes_21)
  · exact hw_1.elim
theorem dL_mayBeShut_0 : decode cL_mayBeShut 0 = .ok (.aload_n 2, 1) := by decide +kernel
theorem dL_mayBeShut_1 : decode cL_mayBeShut 1 = .ok (.iconst 0, 1) := by decide +kernel
theorem dL_mayBeShut_2 : decode cL_mayBeShut 2 = .ok (.aload_n 0, 1) := by decide +kernel
theorem dL_mayBeShut_3 : decode cL_mayBeShut 3 = .ok (.iload_n 1, 1) := by decide +kernel
theorem dL_mayBeShut_4 : decode cL_mayBeShut 4 = .ok (.invokevirtual 79, 3) := by decide +kernel
theorem zw_755 : Cond.methodLink RL 79 yX4_mayBeShut ∈ z_Ts := z_m 755 (by decide +kernel) (by decide +kernel)
theorem zw_756 : Cond.instanceMethod yX4_mayBeShut ∈ z_Ts := z_m 756 (by decide +kernel) (by decide +kernel)
theorem zw_757 : Cond.selects RX4 yX4_mayBeShut yX4_mayBeShut ∈ z_Ts := z_m 757 (by decide +kernel) (by decide +kernel)
theorem zw_758 : Cond.code yX4_mayBeShut cX4_mayBeShut 2 (some .int) ∈ z_Ts := z_m 758 (by decide +kernel) (by decide +kernel)
theorem dL_mayBeShut_12 : decode cL_mayBeShut 12 = .ok (.astore_n 3, 1) := by decide +kernel
theorem dL_mayBeShut_13 : decode cL_mayBeShut 13 = .ok (.iconst 1, 1) := by decide +kernel
theorem dL_mayBeShut_14 : decode cL_mayBeShut 14 = .ok (.ireturn, 1) := by decide +kernel
set_option maxHeartbeats 4000000 in
set_option maxRecDepth 100000 in
theorem f_L_mayBeShut (l : Launch) (hst : l.stackTraces = false) (D : va_G) (h0 : Nat) (hu : Nat) (hs : Nat) (hc : Nat) (hp : Nat) (hg : Nat) (td : Int32) (sd : Int32) (a0 : Int32) (ho : Nat) (fo : Nat → Int64) (cJ : ClassId) (sz : Nat)  : vx_Met l yL_mayBeShut [Cond.codeWith yL_mayBeShut cL_mayBeShut 4 (some .int) [(0, 9, 12, 23)]] ({ frames := 8, cells := 1, slots := 6, locals := 170 }) (z_Pc D [.ref h0, .int a0, .ref ho] [(h0, .inr (6, [.ref hu, .ref hs, .ref hc, .ref hp, .ref hg, .int 0, .int 0, .int 0, .int td, .int sd])), (ho, .inl (cJ, 1, .inr (.inl fo)))] [(cJ, .long)] sz) (va_Qi (fun (r : Int32) (_ : Unit) => r = 1) (fun _ t => z_W D [(h0, .inr (6, [.ref hu, .ref hs, .ref hc, .ref hp, .ref hg, .int 0, .int 0, .int 0, .int td, .int sd])), (ho, .inl (cJ, 1, .inr (.inl fo)))] [(cJ, .long)] (va_A [(h0, .inr (6, [.ref hu, .ref hs, .ref hc, .ref hp, .ref hg, .int 0, .int 0, .int 0, .int td, .int sd])), (ho, .inl (cJ, 1, .inr (.inl fo)))] sz) t) (va_A [(h0, .inr (6, [.ref hu, .ref hs, .ref hc, .ref hp, .ref hg, .int 0, .int 0, .int 0, .int td, .int sd])), (ho, .inl (cJ, 1, .inr (.inl fo)))] sz)) (z_T (False) "none" D [(h0, .inr (6, [.ref hu, .ref hs, .ref hc, .ref hp, .ref hg, .int 0, .int 0, .int 0, .int td, .int sd])), (ho, .inl (cJ, 1, .inr (.inl fo)))] [(cJ, .long)] sz) 1 6 (va_A [(h0, .inr (6, [.ref hu, .ref hs, .ref hc, .ref hp, .ref hg, .int 0, .int 0, .int 0, .int td, .int sd])), (ho, .inl (cJ, 1, .inr (.inl fo)))] sz) := by
  refine vx_ofWH (cc := cL_mayBeShut) (maxL := 4) (ret := (some .int)) (hh := [(0, 9, 12, 23)]) (by decide +kernel) rfl ?_
  intro p e s m args below meth c s₁ B hml hv
  obtain ⟨rfl, hsz, hP, hK, hD0, hE, hX0⟩ := hv
  have hx := B.exec
  have hb := B.bytes
  have hr := B.returns
  have hts := z_E.ts (args := [.ref h0, .int a0, .ref ho].toArray) hE
  have hown : s.vm.findClass RL = some m.cls := findClass_of_methodNamed B.named
  have hlocks := B.notSynchronized
  have htb := vx_table (x := yL_mayBeShut) B (atoms_spec (ws := [Cond.codeWith yL_mayBeShut cL_mayBeShut 4 (some .int) [(0, 9, 12, 23)]]) B.pre _ List.mem_cons_self)
  subst hsz
  have hD := hD0.self (sz := s.heap.size)
  generalize hAe : va_A [(h0, .inr (6, [.ref hu, .ref hs, .ref hc, .ref hp, .ref hg, .int 0, .int 0, .int 0, .int td, .int sd])), (ho, .inl (cJ, 1, .inr (.inl fo)))] s.heap.size = A at hD hX0 ⊢
  have hX : z_X A s s.heap := hX0
  have hA : ∀ q : Nat, s.heap.size ≤ q → A q := fun q h => by rw [← hAe]; exact Or.inr h
  have hS : va_S A s.heap s.heap [] := va_S.rf
  have hP : va_P D vwCl [(h0, .inr (6, [.ref hu, .ref hs, .ref hc, .ref hp, .ref hg, .int 0, .int 0, .int 0, .int td, .int sd])), (ho, .inl (cJ, 1, .inr (.inl fo)))] s.heap := hP
  have hl := lv_entry ([.ref h0, .int a0, .ref ho]) (n := 4) (Nat.le_of_ble_eq_true rfl)
  rw [lg_entry_eq]
  generalize (lg_sl ([.ref h0, .int a0, .ref ho]) ++ List.replicate (4 - (lg_sl ([.ref h0, .int a0, .ref ho])).length) Slot.unset).toArray = ls at hl ⊢
  have hl : lv_has ls 4 [(0, .ref h0), (1, .int a0), (2, .ref ho)] := hl
  skip
  refine lv_aload_n hx hb dL_mayBeShut_0 rfl (lv_at hl 2 rfl) ?_
  refine lv_iconst (v := 0) hx hb dL_mayBeShut_1 (by decide) ?_
  refine lv_aload_n hx hb dL_mayBeShut_2 rfl (lv_at hl 0 rfl) ?_
  refine lv_iload_n hx hb dL_mayBeShut_3 rfl (lv_at hl 1 rfl) ?_
  obtain ⟨hb_1, hc_1⟩ := z_call (wc := [(h0, .inr (6, [.ref hu, .ref hs, .ref hc, .ref hp, .ref hg, .int 0, .int 0, .int 0, .int td, .int sd]))]) (tc := []) ([.ref h0, .int a0]) hP hK hD hS hA hE hX [0] rfl rfl [] rfl
  have hF_1 := va_free (wc := [(h0, .inr (6, [.ref hu, .ref hs, .ref hc, .ref hp, .ref hg, .int 0, .int 0, .int 0, .int td, .int sd]))]) hD hS hA [0] rfl
  refine vx_calli (vx_runV (As := [.int a0]) (rest := [.int 0, .ref ho]) ⟨hx, hb, hml, hown, hts⟩ (f_X4_mayBeShut l hst D h0 hu hs hc hp hg td sd a0 _ ) (z_cV 1 hE zw_755 zw_756 zw_757 zw_91 zw_758 rfl rfl rfl (by decide +kernel) ⟨(Nat.le_of_ble_eq_true rfl), (Nat.le_of_ble_eq_true rfl)⟩) ⟨hb_1, va_recv hK hP (ci := 6) (q0 := 0) rfl rfl, hc_1⟩ rfl rfl hl.1 rfl (lv_room (Nat.le_of_ble_eq_true rfl)) dL_mayBeShut_4 ⟨(Nat.le_of_ble_eq_true rfl), (Nat.le_of_ble_eq_true rfl)⟩) hS (fun q _ h => hF_1 q h) hF_1 (fun q _ h => hF_1 q h) (fun E_1 ce_1 q9_1 u_1 t_1 H1 locs ht_1 hvm_1 hw_1 hB_1 hz_1 hk_1 hS1 hce_1 hcv_1 hcl_1 => ?_) (fun r_1 u_1 t_1 H1 locs ht_1 hvm_1 hw_1 hB_1 hz_1 hk_1 hS1 => ?_)
  · obtain ⟨rfl, hB_1⟩ := hB_1
    obtain ⟨hP, hK, hD⟩ := z_back (wc := [(h0, .inr (6, [.ref hu, .ref hs, .ref hc, .ref hp, .ref hg, .int 0, .int 0, .int 0, .int td, .int sd]))]) (wr := [(ho, .inl (cJ, 1, .inr (.inl fo)))]) (w1 := [(h0, .inr (6, [.ref hu, .ref hs, .ref hc, .ref hp, .ref hg, .int 0, .int 0, .int 0, .int td, .int sd]))]) (tr := [(cJ, .long)]) hP hK hD [0] [1] rfl rfl rfl (by decide) ht_1 hvm_1 hk_1 hF_1 [0] rfl hB_1
    have hS := hS1
    have hP : va_P D vwCl [(ho, .inl (cJ, 1, .inr (.inl fo))), (h0, .inr (6, [.ref hu, .ref hs, .ref hc, .ref hp, .ref hg, .int 0, .int 0, .int 0, .int td, .int sd]))] H1 := hP
    have hD : va_D A [(ho, .inl (cJ, 1, .inr (.inl fo))), (h0, .inr (6, [.ref hu, .ref hs, .ref hc, .ref hp, .ref hg, .int 0, .int 0, .int 0, .int td, .int sd]))] := hD
    have hK : va_K D vwCl [(cJ, .long)] s := hK
    clear hS1
    refine vx_catch (name := "java/lang/IndexOutOfBoundsException") hown [] ⟨0, 9, 12, 23⟩ [] (htb.trans rfl) (fun z hz => nomatch hz) (by decide) (by decide) (hts _ zw_520) (hts _ zw_531) hce_1 hcv_1 hcl_1 ?_
    refine lv_astore_n (lv' := [(3, .ref q9_1), (0, .ref h0), (1, .int a0), (2, .ref ho)]) hx hb dL_mayBeShut_12 rfl hl (by decide) rfl (fun ls hl => ?_)
    refine lv_iconst (v := 1) hx hb dL_mayBeShut_13 (by decide) ?_
    exact vx_ret (W.iret (v := 1) hx hb hr (fun t ht hW => ⟨⟨1, (), rfl, rfl, z_end hP hK hD [1, 0] rfl rfl [0] rfl ht hW.alike⟩, hS.F ht⟩) hS.2.2 dL_mayBeShut_14)
  · exact hw_1.elim
theorem dL_seen_0 : decode cL_seen 0 = .ok (.aload_n 2, 1) := by decide +kernel
theorem dL_seen_1 : decode cL_seen 1 = .ok (.iconst 0, 1) := by decide +kernel
theorem dL_seen_2 : decode cL_seen 2 = .ok (.aload_n 0, 1) := by decide +kernel
theorem dL_seen_3 : decode cL_seen 3 = .ok (.iload_n 1, 1) := by decide +kernel
theorem dL_seen_4 : decode cL_seen 4 = .ok (.invokevirtual 82, 3) := by decide +kernel
theorem zw_762 : Cond.methodLink RL 82 yX4_seen ∈ z_Ts := z_m 762 (by decide +kernel) (by decide +kernel)
theorem zw_763 : Cond.instanceMethod yX4_seen ∈ z_Ts := z_m 763 (by decide +kernel) (by decide +kernel)
theorem zw_764 : Cond.selects RX4 yX4_seen yX4_seen ∈ z_Ts := z_m 764 (by decide +kernel) (by decide +kernel)
theorem zw_765 : Cond.code yX4_seen cX4_seen 2 (some .int) ∈ z_Ts := z_m 765 (by decide +kernel) (by decide +kernel)
theorem dL_seen_12 : decode cL_seen 12 = .ok (.astore_n 3, 1) := by decide +kernel
theorem dL_seen_13 : decode cL_seen 13 = .ok (.iconst 1, 1) := by decide +kernel
theorem dL_seen_14 : decode cL_seen 14 = .ok (.ireturn, 1) := by decide +kernel
set_option maxHeartbeats 4000000 in
set_option maxRecDepth 100000 in
theorem f_L_seen (l : Launch) (hst : l.stackTraces = false) (D : va_G) (h0 : Nat) (hu : Nat) (hs : Nat) (hc : Nat) (hp : Nat) (hg : Nat) (td : Int32) (sd : Int32) (a0 : Int32) (ho : Nat) (fo : Nat → Int64) (cJ : ClassId) (sz : Nat)  : vx_Met l yL_seen [Cond.codeWith yL_seen cL_seen 4 (some .int) [(0, 9, 12, 23)]] ({ frames := 8, cells := 1, slots := 6, locals := 170 }) (z_Pc D [.ref h0, .int a0, .ref ho] [(h0, .inr (6, [.ref hu, .ref hs, .ref hc, .ref hp, .ref hg, .int 0, .int 0, .int 0, .int td, .int sd])), (ho, .inl (cJ, 1, .inr (.inl fo)))] [(cJ, .long)] sz) (va_Qi (fun (r : Int32) (_ : Unit) => r = 1) (fun _ t => z_W D [(h0, .inr (6, [.ref hu, .ref hs, .ref hc, .ref hp, .ref hg, .int 0, .int 0, .int 0, .int td, .int sd])), (ho, .inl (cJ, 1, .inr (.inl fo)))] [(cJ, .long)] (va_A [(h0, .inr (6, [.ref hu, .ref hs, .ref hc, .ref hp, .ref hg, .int 0, .int 0, .int 0, .int td, .int sd])), (ho, .inl (cJ, 1, .inr (.inl fo)))] sz) t) (va_A [(h0, .inr (6, [.ref hu, .ref hs, .ref hc, .ref hp, .ref hg, .int 0, .int 0, .int 0, .int td, .int sd])), (ho, .inl (cJ, 1, .inr (.inl fo)))] sz)) (z_T (False) "none" D [(h0, .inr (6, [.ref hu, .ref hs, .ref hc, .ref hp, .ref hg, .int 0, .int 0, .int 0, .int td, .int sd])), (ho, .inl (cJ, 1, .inr (.inl fo)))] [(cJ, .long)] sz) 1 6 (va_A [(h0, .inr (6, [.ref hu, .ref hs, .ref hc, .ref hp, .ref hg, .int 0, .int 0, .int 0, .int td, .int sd])), (ho, .inl (cJ, 1, .inr (.inl fo)))] sz) := by
  refine vx_ofWH (cc := cL_seen) (maxL := 4) (ret := (some .int)) (hh := [(0, 9, 12, 23)]) (by decide +kernel) rfl ?_
  intro p e s m args below meth c s₁ B hml hv
  obtain ⟨rfl, hsz, hP, hK, hD0, hE, hX0⟩ := hv
  have hx := B.exec
  have hb := B.bytes
  have hr := B.returns
  have hts := z_E.ts (args := [.ref h0, .int a0, .ref ho].toArray) hE
  have hown : s.vm.findClass RL = some m.cls := findClass_of_methodNamed B.named
  have hlocks := B.notSynchronized
  have htb := vx_table (x := yL_seen) B (atoms_spec (ws := [Cond.codeWith yL_seen cL_seen 4 (some .int) [(0, 9, 12, 23)]]) B.pre _ List.mem_cons_self)
  subst hsz
  have hD := hD0.self (sz := s.heap.size)
  generalize hAe : va_A [(h0, .inr (6, [.ref hu, .ref hs, .ref hc, .ref hp, .ref hg, .int 0, .int 0, .int 0, .int td, .int sd])), (ho, .inl (cJ, 1, .inr (.inl fo)))] s.heap.size = A at hD hX0 ⊢
  have hX : z_X A s s.heap := hX0
  have hA : ∀ q : Nat, s.heap.size ≤ q → A q := fun q h => by rw [← hAe]; exact Or.inr h
  have hS : va_S A s.heap s.heap [] := va_S.rf
  have hP : va_P D vwCl [(h0, .inr (6, [.ref hu, .ref hs, .ref hc, .ref hp, .ref hg, .int 0, .int 0, .int 0, .int td, .int sd])), (ho, .inl (cJ, 1, .inr (.inl fo)))] s.heap := hP
  have hl := lv_entry ([.ref h0, .int a0, .ref ho]) (n := 4) (Nat.le_of_ble_eq_true rfl)
  rw [lg_entry_eq]
  generalize (lg_sl ([.ref h0, .int a0, .ref ho]) ++ List.replicate (4 - (lg_sl ([.ref h0, .int a0, .ref ho])).length) Slot.unset).toArray = ls at hl ⊢
  have hl : lv_has ls 4 [(0, .ref h0), (1, .int a0), (2, .ref ho)] := hl
  skip
  refine lv_aload_n hx hb dL_seen_0 rfl (lv_at hl 2 rfl) ?_
  refine lv_iconst (v := 0) hx hb dL_seen_1 (by decide) ?_
  refine lv_aload_n hx hb dL_seen_2 rfl (lv_at hl 0 rfl) ?_
  refine lv_iload_n hx hb dL_seen_3 rfl (lv_at hl 1 rfl) ?_
  obtain ⟨hb_1, hc_1⟩ := z_call (wc := [(h0, .inr (6, [.ref hu, .ref hs, .ref hc, .ref hp, .ref hg, .int 0, .int 0, .int 0, .int td, .int sd]))]) (tc := []) ([.ref h0, .int a0]) hP hK hD hS hA hE hX [0] rfl rfl [] rfl
  have hF_1 := va_free (wc := [(h0, .inr (6, [.ref hu, .ref hs, .ref hc, .ref hp, .ref hg, .int 0, .int 0, .int 0, .int td, .int sd]))]) hD hS hA [0] rfl
  refine vx_calli (vx_runV (As := [.int a0]) (rest := [.int 0, .ref ho]) ⟨hx, hb, hml, hown, hts⟩ (f_X4_seen l hst D h0 hu hs hc hp hg td sd a0 _ ) (z_cV 1 hE zw_762 zw_763 zw_764 zw_91 zw_765 rfl rfl rfl (by decide +kernel) ⟨(Nat.le_of_ble_eq_true rfl), (Nat.le_of_ble_eq_true rfl)⟩) ⟨hb_1, va_recv hK hP (ci := 6) (q0 := 0) rfl rfl, hc_1⟩ rfl rfl hl.1 rfl (lv_room (Nat.le_of_ble_eq_true rfl)) dL_seen_4 ⟨(Nat.le_of_ble_eq_true rfl), (Nat.le_of_ble_eq_true rfl)⟩) hS (fun q _ h => hF_1 q h) hF_1 (fun q _ h => hF_1 q h) (fun E_1 ce_1 q9_1 u_1 t_1 H1 locs ht_1 hvm_1 hw_1 hB_1 hz_1 hk_1 hS1 hce_1 hcv_1 hcl_1 => ?_) (fun r_1 u_1 t_1 H1 locs ht_1 hvm_1 hw_1 hB_1 hz_1 hk_1 hS1 => ?_)
  · obtain ⟨rfl, hB_1⟩ := hB_1
    obtain ⟨hP, hK, hD⟩ := z_back (wc := [(h0, .inr (6, [.ref hu, .ref hs, .ref hc, .ref hp, .ref hg, .int 0, .int 0, .int 0, .int td, .int sd]))]) (wr := [(ho, .inl (cJ, 1, .inr (.inl fo)))]) (w1 := [(h0, .inr (6, [.ref hu, .ref hs, .ref hc, .ref hp, .ref hg, .int 0, .int 0, .int 0, .int td, .int sd]))]) (tr := [(cJ, .long)]) hP hK hD [0] [1] rfl rfl rfl (by decide) ht_1 hvm_1 hk_1 hF_1 [0] rfl hB_1
    have hS := hS1
    have hP : va_P D vwCl [(ho, .inl (cJ, 1, .inr (.inl fo))), (h0, .inr (6, [.ref hu, .ref hs, .ref hc, .ref hp, .ref hg, .int 0, .int 0, .int 0, .int td, .int sd]))] H1 := hP
    have hD : va_D A [(ho, .inl (cJ, 1, .inr (.inl fo))), (h0, .inr (6, [.ref hu, .ref hs, .ref hc, .ref hp, .ref hg, .int 0, .int 0, .int 0, .int td, .int sd]))] := hD
    have hK : va_K D vwCl [(cJ, .long)] s := hK
    clear hS1
    refine vx_catch (name := "java/lang/IndexOutOfBoundsException") hown [] ⟨0, 9, 12, 23⟩ [] (htb.trans rfl) (fun z hz => nomatch hz) (by decide) (by decide) (hts _ zw_520) (hts _ zw_531) hce_1 hcv_1 hcl_1 ?_
    refine lv_astore_n (lv' := [(3, .ref q9_1), (0, .ref h0), (1, .int a0), (2, .ref ho)]) hx hb dL_seen_12 rfl hl (by decide) rfl (fun ls hl => ?_)
    refine lv_iconst (v := 1) hx hb dL_seen_13 (by decide) ?_
    exact vx_ret (W.iret (v := 1) hx hb hr (fun t ht hW => ⟨⟨1, (), rfl, rfl, z_end hP hK hD [1, 0] rfl rfl [0] rfl ht hW.alike⟩, hS.F ht⟩) hS.2.2 dL_seen_14)
  · exact hw_1.elim
theorem dL_known_0 : decode cL_known 0 = .ok (.aload_n 2, 1) := by decide +kernel
theorem dL_known_1 : decode cL_known 1 = .ok (.iconst 0, 1) := by decide +kernel
theorem dL_known_2 : decode cL_known 2 = .ok (.aload_n 0, 1) := by decide +kernel
theorem dL_known_3 : decode cL_known 3 = .ok (.iload_n 1, 1) := by decide +kernel
theorem dL_known_4 : decode cL_known 4 = .ok (.invokevirtual 85, 3) := by decide +kernel
theorem zw_779 : Cond.methodLink RL 85 yX4_known ∈ z_Ts := z_m 779 (by decide +kernel) (by decide +kernel)
theorem zw_780 : Cond.instanceMethod yX4_known ∈ z_Ts := z_m 780 (by decide +kernel) (by decide +kernel)
theorem zw_781 : Cond.selects RX4 yX4_known yX4_known ∈ z_Ts := z_m 781 (by decide +kernel) (by decide +kernel)
theorem zw_782 : Cond.code yX4_known cX4_known 2 (some .int) ∈ z_Ts := z_m 782 (by decide +kernel) (by decide +kernel)
theorem dL_known_12 : decode cL_known 12 = .ok (.astore_n 3, 1) := by decide +kernel
theorem dL_known_13 : decode cL_known 13 = .ok (.iconst 1, 1) := by decide +kernel
theorem dL_known_14 : decode cL_known 14 = .ok (.ireturn, 1) := by decide +kernel
set_option maxHeartbeats 4000000 in
set_option maxRecDepth 100000 in
theorem f_L_known (l : Launch) (hst : l.stackTraces = false) (D : va_G) (h0 : Nat) (hu : Nat) (hs : Nat) (hc : Nat) (hp : Nat) (hg : Nat) (td : Int32) (sd : Int32) (a0 : Int32) (ho : Nat) (fo : Nat → Int64) (cJ : ClassId) (sz : Nat)  : vx_Met l yL_known [Cond.codeWith yL_known cL_known 4 (some .int) [(0, 9, 12, 23)]] ({ frames := 8, cells := 1, slots := 6, locals := 170 }) (z_Pc D [.ref h0, .int a0, .ref ho] [(h0, .inr (6, [.ref hu, .ref hs, .ref hc, .ref hp, .ref hg, .int 0, .int 0, .int 0, .int td, .int sd])), (ho, .inl (cJ, 1, .inr (.inl fo)))] [(cJ, .long)] sz) (va_Qi (fun (r : Int32) (_ : Unit) => r = 1) (fun _ t => z_W D [(h0, .inr (6, [.ref hu, .ref hs, .ref hc, .ref hp, .ref hg, .int 0, .int 0, .int 0, .int td, .int sd])), (ho, .inl (cJ, 1, .inr (.inl fo)))] [(cJ, .long)] (va_A [(h0, .inr (6, [.ref hu, .ref hs, .ref hc, .ref hp, .ref hg, .int 0, .int 0, .int 0, .int td, .int sd])), (ho, .inl (cJ, 1, .inr (.inl fo)))] sz) t) (va_A [(h0, .inr (6, [.ref hu, .ref hs, .ref hc, .ref hp, .ref hg, .int 0, .int 0, .int 0, .int td, .int sd])), (ho, .inl (cJ, 1, .inr (.inl fo)))] sz)) (z_T (False) "none" D [(h0, .inr (6, [.ref hu, .ref hs, .ref hc, .ref hp, .ref hg, .int 0, .int 0, .int 0, .int td, .int sd])), (ho, .inl (cJ, 1, .inr (.inl fo)))] [(cJ, .long)] sz) 1 6 (va_A [(h0, .inr (6, [.ref hu, .ref hs, .ref hc, .ref hp, .ref hg, .int 0, .int 0, .int 0, .int td, .int sd])), (ho, .inl (cJ, 1, .inr (.inl fo)))] sz) := by
  refine vx_ofWH (cc := cL_known) (maxL := 4) (ret := (some .int)) (hh := [(0, 9, 12, 23)]) (by decide +kernel) rfl ?_
  intro p e s m args below meth c s₁ B hml hv
  obtain ⟨rfl, hsz, hP, hK, hD0, hE, hX0⟩ := hv
  have hx := B.exec
  have hb := B.bytes
  have hr := B.returns
  have hts := z_E.ts (args := [.ref h0, .int a0, .ref ho].toArray) hE
  have hown : s.vm.findClass RL = some m.cls := findClass_of_methodNamed B.named
  have hlocks := B.notSynchronized
  have htb := vx_table (x := yL_known) B (atoms_spec (ws := [Cond.codeWith yL_known cL_known 4 (some .int) [(0, 9, 12, 23)]]) B.pre _ List.mem_cons_self)
  subst hsz
  have hD := hD0.self (sz := s.heap.size)
  generalize hAe : va_A [(h0, .inr (6, [.ref hu, .ref hs, .ref hc, .ref hp, .ref hg, .int 0, .int 0, .int 0, .int td, .int sd])), (ho, .inl (cJ, 1, .inr (.inl fo)))] s.heap.size = A at hD hX0 ⊢
  have hX : z_X A s s.heap := hX0
  have hA : ∀ q : Nat, s.heap.size ≤ q → A q := fun q h => by rw [← hAe]; exact Or.inr h
  have hS : va_S A s.heap s.heap [] := va_S.rf
  have hP : va_P D vwCl [(h0, .inr (6, [.ref hu, .ref hs, .ref hc, .ref hp, .ref hg, .int 0, .int 0, .int 0, .int td, .int sd])), (ho, .inl (cJ, 1, .inr (.inl fo)))] s.heap := hP
  have hl := lv_entry ([.ref h0, .int a0, .ref ho]) (n := 4) (Nat.le_of_ble_eq_true rfl)
  rw [lg_entry_eq]
  generalize (lg_sl ([.ref h0, .int a0, .ref ho]) ++ List.replicate (4 - (lg_sl ([.ref h0, .int a0, .ref ho])).length) Slot.unset).toArray = ls at hl ⊢
  have hl : lv_has ls 4 [(0, .ref h0), (1, .int a0), (2, .ref ho)] := hl
  skip
  refine lv_aload_n hx hb dL_known_0 rfl (lv_at hl 2 rfl) ?_
  refine lv_iconst (v := 0) hx hb dL_known_1 (by decide) ?_
  refine lv_aload_n hx hb dL_known_2 rfl (lv_at hl 0 rfl) ?_
  refine lv_iload_n hx hb dL_known_3 rfl (lv_at hl 1 rfl) ?_
  obtain ⟨hb_1, hc_1⟩ := z_call (wc := [(h0, .inr (6, [.ref hu, .ref hs, .ref hc, .ref hp, .ref hg, .int 0, .int 0, .int 0, .int td, .int sd]))]) (tc := []) ([.ref h0, .int a0]) hP hK hD hS hA hE hX [0] rfl rfl [] rfl
  have hF_1 := va_free (wc := [(h0, .inr (6, [.ref hu, .ref hs, .ref hc, .ref hp, .ref hg, .int 0, .int 0, .int 0, .int td, .int sd]))]) hD hS hA [0] rfl
  refine vx_calli (vx_runV (As := [.int a0]) (rest := [.int 0, .ref ho]) ⟨hx, hb, hml, hown, hts⟩ (f_X4_known l hst D h0 hu hs hc hp hg td sd a0 _ ) (z_cV 1 hE zw_779 zw_780 zw_781 zw_91 zw_782 rfl rfl rfl (by decide +kernel) ⟨(Nat.le_of_ble_eq_true rfl), (Nat.le_of_ble_eq_true rfl)⟩) ⟨hb_1, va_recv hK hP (ci := 6) (q0 := 0) rfl rfl, hc_1⟩ rfl rfl hl.1 rfl (lv_room (Nat.le_of_ble_eq_true rfl)) dL_known_4 ⟨(Nat.le_of_ble_eq_true rfl), (Nat.le_of_ble_eq_true rfl)⟩) hS (fun q _ h => hF_1 q h) hF_1 (fun q _ h => hF_1 q h) (fun E_1 ce_1 q9_1 u_1 t_1 H1 locs ht_1 hvm_1 hw_1 hB_1 hz_1 hk_1 hS1 hce_1 hcv_1 hcl_1 => ?_) (fun r_1 u_1 t_1 H1 locs ht_1 hvm_1 hw_1 hB_1 hz_1 hk_1 hS1 => ?_)
  · obtain ⟨rfl, hB_1⟩ := hB_1
    obtain ⟨hP, hK, hD⟩ := z_back (wc := [(h0, .inr (6, [.ref hu, .ref hs, .ref hc, .ref hp, .ref hg, .int 0, .int 0, .int 0, .int td, .int sd]))]) (wr := [(ho, .inl (cJ, 1, .inr (.inl fo)))]) (w1 := [(h0, .inr (6, [.ref hu, .ref hs, .ref hc, .ref hp, .ref hg, .int 0, .int 0, .int 0, .int td, .int sd]))]) (tr := [(cJ, .long)]) hP hK hD [0] [1] rfl rfl rfl (by decide) ht_1 hvm_1 hk_1 hF_1 [0] rfl hB_1
    have hS := hS1
    have hP : va_P D vwCl [(ho, .inl (cJ, 1, .inr (.inl fo))), (h0, .inr (6, [.ref hu, .ref hs, .ref hc, .ref hp, .ref hg, .int 0, .int 0, .int 0, .int td, .int sd]))] H1 := hP
    have hD : va_D A [(ho, .inl (cJ, 1, .inr (.inl fo))), (h0, .inr (6, [.ref hu, .ref hs, .ref hc, .ref hp, .ref hg, .int 0, .int 0, .int 0, .int td, .int sd]))] := hD
    have hK : va_K D vwCl [(cJ, .long)] s := hK
    clear hS1
    refine vx_catch (name := "java/lang/IndexOutOfBoundsException") hown [] ⟨0, 9, 12, 23⟩ [] (htb.trans rfl) (fun z hz => nomatch hz) (by decide) (by decide) (hts _ zw_520) (hts _ zw_531) hce_1 hcv_1 hcl_1 ?_
    refine lv_astore_n (lv' := [(3, .ref q9_1), (0, .ref h0), (1, .int a0), (2, .ref ho)]) hx hb dL_known_12 rfl hl (by decide) rfl (fun ls hl => ?_)
    refine lv_iconst (v := 1) hx hb dL_known_13 (by decide) ?_
    exact vx_ret (W.iret (v := 1) hx hb hr (fun t ht hW => ⟨⟨1, (), rfl, rfl, z_end hP hK hD [1, 0] rfl rfl [0] rfl ht hW.alike⟩, hS.F ht⟩) hS.2.2 dL_known_14)
  · exact hw_1.elim
theorem dL_isDusty_0 : decode cL_isDusty 0 = .ok (.aload_n 2, 1) := by decide +kernel
theorem dL_isDusty_1 : decode cL_isDusty 1 = .ok (.iconst 0, 1) := by decide +kernel
theorem dL_isDusty_2 : decode cL_isDusty 2 = .ok (.aload_n 0, 1) := by decide +kernel
theorem dL_isDusty_3 : decode cL_isDusty 3 = .ok (.iload_n 1, 1) := by decide +kernel
theorem dL_isDusty_4 : decode cL_isDusty 4 = .ok (.invokevirtual 88, 3) := by decide +kernel
theorem zw_786 : Cond.methodLink RL 88 yX4_isDusty ∈ z_Ts := z_m 786 (by decide +kernel) (by decide +kernel)
theorem zw_787 : Cond.instanceMethod yX4_isDusty ∈ z_Ts := z_m 787 (by decide +kernel) (by decide +kernel)
theorem zw_788 : Cond.selects RX4 yX4_isDusty yX4_isDusty ∈ z_Ts := z_m 788 (by decide +kernel) (by decide +kernel)
theorem zw_789 : Cond.code yX4_isDusty cX4_isDusty 2 (some .boolean) ∈ z_Ts := z_m 789 (by decide +kernel) (by decide +kernel)
theorem dL_isDusty_19 : decode cL_isDusty 19 = .ok (.astore_n 3, 1) := by decide +kernel
theorem dL_isDusty_20 : decode cL_isDusty 20 = .ok (.iconst 1, 1) := by decide +kernel
theorem dL_isDusty_21 : decode cL_isDusty 21 = .ok (.ireturn, 1) := by decide +kernel
set_option maxHeartbeats 4000000 in
set_option maxRecDepth 100000 in
theorem f_L_isDusty (l : Launch) (hst : l.stackTraces = false) (D : va_G) (h0 : Nat) (hu : Nat) (hs : Nat) (hc : Nat) (hp : Nat) (hg : Nat) (td : Int32) (sd : Int32) (a0 : Int32) (ho : Nat) (fo : Nat → Int64) (cJ : ClassId) (sz : Nat)  : vx_Met l yL_isDusty [Cond.codeWith yL_isDusty cL_isDusty 4 (some .int) [(0, 16, 19, 23)]] ({ frames := 8, cells := 1, slots := 6, locals := 170 }) (z_Pc D [.ref h0, .int a0, .ref ho] [(h0, .inr (6, [.ref hu, .ref hs, .ref hc, .ref hp, .ref hg, .int 0, .int 0, .int 0, .int td, .int sd])), (ho, .inl (cJ, 1, .inr (.inl fo)))] [(cJ, .long)] sz) (va_Qi (fun (r : Int32) (_ : Unit) => r = 1) (fun _ t => z_W D [(h0, .inr (6, [.ref hu, .ref hs, .ref hc, .ref hp, .ref hg, .int 0, .int 0, .int 0, .int td, .int sd])), (ho, .inl (cJ, 1, .inr (.inl fo)))] [(cJ, .long)] (va_A [(h0, .inr (6, [.ref hu, .ref hs, .ref hc, .ref hp, .ref hg, .int 0, .int 0, .int 0, .int td, .int sd])), (ho, .inl (cJ, 1, .inr (.inl fo)))] sz) t) (va_A [(h0, .inr (6, [.ref hu, .ref hs, .ref hc, .ref hp, .ref hg, .int 0, .int 0, .int 0, .int td, .int sd])), (ho, .inl (cJ, 1, .inr (.inl fo)))] sz)) (z_T (False) "none" D [(h0, .inr (6, [.ref hu, .ref hs, .ref hc, .ref hp, .ref hg, .int 0, .int 0, .int 0, .int td, .int sd])), (ho, .inl (cJ, 1, .inr (.inl fo)))] [(cJ, .long)] sz) 1 6 (va_A [(h0, .inr (6, [.ref hu, .ref hs, .ref hc, .ref hp, .ref hg, .int 0, .int 0, .int 0, .int td, .int sd])), (ho, .inl (cJ, 1, .inr (.inl fo)))] sz) := by
  refine vx_ofWH (cc := cL_isDusty) (maxL := 4) (ret := (some .int)) (hh := [(0, 16, 19, 23)]) (by decide +kernel) rfl ?_
  intro p e s m args below meth c s₁ B hml hv
  obtain ⟨rfl, hsz, hP, hK, hD0, hE, hX0⟩ := hv
  have hx := B.exec
  have hb := B.bytes
  have hr := B.returns
  have hts := z_E.ts (args := [.ref h0, .int a0, .ref ho].toArray) hE
  have hown : s.vm.findClass RL = some m.cls := findClass_of_methodNamed B.named
  have hlocks := B.notSynchronized
  have htb := vx_table (x := yL_isDusty) B (atoms_spec (ws := [Cond.codeWith yL_isDusty cL_isDusty 4 (some .int) [(0, 16, 19, 23)]]) B.pre _ List.mem_cons_self)
  subst hsz
  have hD := hD0.self (sz := s.heap.size)
  generalize hAe : va_A [(h0, .inr (6, [.ref hu, .ref hs, .ref hc, .ref hp, .ref hg, .int 0, .int 0, .int 0, .int td, .int sd])), (ho, .inl (cJ, 1, .inr (.inl fo)))] s.heap.size = A at hD hX0 ⊢
  have hX : z_X A s s.heap := hX0
  have hA : ∀ q : Nat, s.heap.size ≤ q → A q := fun q h => by rw [← hAe]; exact Or.inr h
  have hS : va_S A s.heap s.heap [] := va_S.rf
  have hP : va_P D vwCl [(h0, .inr (6, [.ref hu, .ref hs, .ref hc, .ref hp, .ref hg, .int 0, .int 0, .int 0, .int td, .int sd])), (ho, .inl (cJ, 1, .inr (.inl fo)))] s.heap := hP
  have hl := lv_entry ([.ref h0, .int a0, .ref ho]) (n := 4) (Nat.le_of_ble_eq_true rfl)
  rw [lg_entry_eq]
  generalize (lg_sl ([.ref h0, .int a0, .ref ho]) ++ List.replicate (4 - (lg_sl ([.ref h0, .int a0, .ref ho])).length) Slot.unset).toArray = ls at hl ⊢
  have hl : lv_has ls 4 [(0, .ref h0), (1, .int a0), (2, .ref ho)] := hl
  skip
  refine lv_aload_n hx hb dL_isDusty_0 rfl (lv_at hl 2 rfl) ?_
  refine lv_iconst (v := 0) hx hb dL_isDusty_1 (by decide) ?_
  refine lv_aload_n hx hb dL_isDusty_2 rfl (lv_at hl 0 rfl) ?_
  refine lv_iload_n hx hb dL_isDusty_3 rfl (lv_at hl 1 rfl) ?_
  obtain ⟨hb_1, hc_1⟩ := z_call (wc := [(h0, .inr (6, [.ref hu, .ref hs, .ref hc, .ref hp, .ref hg, .int 0, .int 0, .int 0, .int td, .int sd]))]) (tc := []) ([.ref h0, .int a0]) hP hK hD hS hA hE hX [0] rfl rfl [] rfl
  have hF_1 := va_free (wc := [(h0, .inr (6, [.ref hu, .ref hs, .ref hc, .ref hp, .ref hg, .int 0, .int 0, .int 0, .int td, .int sd]))]) hD hS hA [0] rfl
  refine vx_calli (vx_runV (As := [.int a0]) (rest := [.int 0, .ref ho]) ⟨hx, hb, hml, hown, hts⟩ (f_X4_isDusty l hst D h0 hu hs hc hp hg td sd a0 _ ) (z_cV 1 hE zw_786 zw_787 zw_788 zw_91 zw_789 rfl rfl rfl (by decide +kernel) ⟨(Nat.le_of_ble_eq_true rfl), (Nat.le_of_ble_eq_true rfl)⟩) ⟨hb_1, va_recv hK hP (ci := 6) (q0 := 0) rfl rfl, hc_1⟩ rfl rfl hl.1 rfl (lv_room (Nat.le_of_ble_eq_true rfl)) dL_isDusty_4 ⟨(Nat.le_of_ble_eq_true rfl), (Nat.le_of_ble_eq_true rfl)⟩) hS (fun q _ h => hF_1 q h) hF_1 (fun q _ h => hF_1 q h) (fun E_1 ce_1 q9_1 u_1 t_1 H1 locs ht_1 hvm_1 hw_1 hB_1 hz_1 hk_1 hS1 hce_1 hcv_1 hcl_1 => ?_) (fun r_1 u_1 t_1 H1 locs ht_1 hvm_1 hw_1 hB_1 hz_1 hk_1 hS1 => ?_)
  · obtain ⟨rfl, hB_1⟩ := hB_1
    obtain ⟨hP, hK, hD⟩ := z_back (wc := [(h0, .inr (6, [.ref hu, .ref hs, .ref hc, .ref hp, .ref hg, .int 0, .int 0, .int 0, .int td, .int sd]))]) (wr := [(ho, .inl (cJ, 1, .inr (.inl fo)))]) (w1 := [(h0, .inr (6, [.ref hu, .ref hs, .ref hc, .ref hp, .ref hg, .int 0, .int 0, .int 0, .int td, .int sd]))]) (tr := [(cJ, .long)]) hP hK hD [0] [1] rfl rfl rfl (by decide) ht_1 hvm_1 hk_1 hF_1 [0] rfl hB_1
    have hS := hS1
    have hP : va_P D vwCl [(ho, .inl (cJ, 1, .inr (.inl fo))), (h0, .inr (6, [.ref hu, .ref hs, .ref hc, .ref hp, .ref hg, .int 0, .int 0, .int 0, .int td, .int sd]))] H1 := hP
    have hD : va_D A [(ho, .inl (cJ, 1, .inr (.inl fo))), (h0, .inr (6, [.ref hu, .ref hs, .ref hc, .ref hp, .ref hg, .int 0, .int 0, .int 0, .int td, .int sd]))] := hD
    have hK : va_K D vwCl [(cJ, .long)] s := hK
    clear hS1
    refine vx_catch (name := "java/lang/IndexOutOfBoundsException") hown [] ⟨0, 16, 19, 23⟩ [] (htb.trans rfl) (fun z hz => nomatch hz) (by decide) (by decide) (hts _ zw_520) (hts _ zw_531) hce_1 hcv_1 hcl_1 ?_
    refine lv_astore_n (lv' := [(3, .ref q9_1), (0, .ref h0), (1, .int a0), (2, .ref ho)]) hx hb dL_isDusty_19 rfl hl (by decide) rfl (fun ls hl => ?_)
    refine lv_iconst (v := 1) hx hb dL_isDusty_20 (by decide) ?_
    exact vx_ret (W.iret (v := 1) hx hb hr (fun t ht hW => ⟨⟨1, (), rfl, rfl, z_end hP hK hD [1, 0] rfl rfl [0] rfl ht hW.alike⟩, hS.F ht⟩) hS.2.2 dL_isDusty_21)
  · exact hw_1.elim
theorem dL_took_0 : decode cL_took 0 = .ok (.aload_n 2, 1) := by decide +kernel
theorem dL_took_1 : decode cL_took 1 = .ok (.iconst 0, 1) := by decide +kernel
theorem dL_took_2 : decode cL_took 2 = .ok (.aload_n 0, 1) := by decide +kernel
theorem dL_took_3 : decode cL_took 3 = .ok (.iload_n 1, 1) := by decide +kernel
theorem dL_took_4 : decode cL_took 4 = .ok (.invokevirtual 127, 3) := by decide +kernel
theorem zw_1004 : Cond.methodLink RL 127 yX4_took ∈ z_Ts := z_m 1004 (by decide +kernel) (by decide +kernel)
theorem zw_1005 : Cond.instanceMethod yX4_took ∈ z_Ts := z_m 1005 (by decide +kernel) (by decide +kernel)
theorem zw_1006 : Cond.selects RX4 yX4_took yX4_took ∈ z_Ts := z_m 1006 (by decide +kernel) (by decide +kernel)
theorem zw_1007 : Cond.code yX4_took cX4_took 2 (some .long) ∈ z_Ts := z_m 1007 (by decide +kernel) (by decide +kernel)
theorem dL_took_11 : decode cL_took 11 = .ok (.astore_n 3, 1) := by decide +kernel
theorem dL_took_12 : decode cL_took 12 = .ok (.iconst 1, 1) := by decide +kernel
theorem dL_took_13 : decode cL_took 13 = .ok (.ireturn, 1) := by decide +kernel
set_option maxHeartbeats 4000000 in
set_option maxRecDepth 100000 in
theorem f_L_took (l : Launch) (hst : l.stackTraces = false) (D : va_G) (h0 : Nat) (hu : Nat) (hs : Nat) (hc : Nat) (hp : Nat) (hg : Nat) (td : Int32) (sd : Int32) (a0 : Int32) (ho : Nat) (fo : Nat → Int64) (cJ : ClassId) (sz : Nat)  : vx_Met l yL_took [Cond.codeWith yL_took cL_took 4 (some .int) [(0, 8, 11, 23)]] ({ frames := 8, cells := 1, slots := 6, locals := 170 }) (z_Pc D [.ref h0, .int a0, .ref ho] [(h0, .inr (6, [.ref hu, .ref hs, .ref hc, .ref hp, .ref hg, .int 0, .int 0, .int 0, .int td, .int sd])), (ho, .inl (cJ, 1, .inr (.inl fo)))] [(cJ, .long)] sz) (va_Qi (fun (r : Int32) (_ : Unit) => r = 1) (fun _ t => z_W D [(h0, .inr (6, [.ref hu, .ref hs, .ref hc, .ref hp, .ref hg, .int 0, .int 0, .int 0, .int td, .int sd])), (ho, .inl (cJ, 1, .inr (.inl fo)))] [(cJ, .long)] (va_A [(h0, .inr (6, [.ref hu, .ref hs, .ref hc, .ref hp, .ref hg, .int 0, .int 0, .int 0, .int td, .int sd])), (ho, .inl (cJ, 1, .inr (.inl fo)))] sz) t) (va_A [(h0, .inr (6, [.ref hu, .ref hs, .ref hc, .ref hp, .ref hg, .int 0, .int 0, .int 0, .int td, .int sd])), (ho, .inl (cJ, 1, .inr (.inl fo)))] sz)) (z_T (False) "none" D [(h0, .inr (6, [.ref hu, .ref hs, .ref hc, .ref hp, .ref hg, .int 0, .int 0, .int 0, .int td, .int sd])), (ho, .inl (cJ, 1, .inr (.inl fo)))] [(cJ, .long)] sz) 1 6 (va_A [(h0, .inr (6, [.ref hu, .ref hs, .ref hc, .ref hp, .ref hg, .int 0, .int 0, .int 0, .int td, .int sd])), (ho, .inl (cJ, 1, .inr (.inl fo)))] sz) := by
  refine vx_ofWH (cc := cL_took) (maxL := 4) (ret := (some .int)) (hh := [(0, 8, 11, 23)]) (by decide +kernel) rfl ?_
  intro p e s m args below meth c s₁ B hml hv
  obtain ⟨rfl, hsz, hP, hK, hD0, hE, hX0⟩ := hv
  have hx := B.exec
  have hb := B.bytes
  have hr := B.returns
  have hts := z_E.ts (args := [.ref h0, .int a0, .ref ho].toArray) hE
  have hown : s.vm.findClass RL = some m.cls := findClass_of_methodNamed B.named
  have hlocks := B.notSynchronized
  have htb := vx_table (x := yL_took) B (atoms_spec (ws := [Cond.codeWith yL_took cL_took 4 (some .int) [(0, 8, 11, 23)]]) B.pre _ List.mem_cons_self)
  subst hsz
  have hD := hD0.self (sz := s.heap.size)
  generalize hAe : va_A [(h0, .inr (6, [.ref hu, .ref hs, .ref hc, .ref hp, .ref hg, .int 0, .int 0, .int 0, .int td, .int sd])), (ho, .inl (cJ, 1, .inr (.inl fo)))] s.heap.size = A at hD hX0 ⊢
  have hX : z_X A s s.heap := hX0
  have hA : ∀ q : Nat, s.heap.size ≤ q → A q := fun q h => by rw [← hAe]; exact Or.inr h
  have hS : va_S A s.heap s.heap [] := va_S.rf
  have hP : va_P D vwCl [(h0, .inr (6, [.ref hu, .ref hs, .ref hc, .ref hp, .ref hg, .int 0, .int 0, .int 0, .int td, .int sd])), (ho, .inl (cJ, 1, .inr (.inl fo)))] s.heap := hP
  have hl := lv_entry ([.ref h0, .int a0, .ref ho]) (n := 4) (Nat.le_of_ble_eq_true rfl)
  rw [lg_entry_eq]
  generalize (lg_sl ([.ref h0, .int a0, .ref ho]) ++ List.replicate (4 - (lg_sl ([.ref h0, .int a0, .ref ho])).length) Slot.unset).toArray = ls at hl ⊢
  have hl : lv_has ls 4 [(0, .ref h0), (1, .int a0), (2, .ref ho)] := hl
  skip
  refine lv_aload_n hx hb dL_took_0 rfl (lv_at hl 2 rfl) ?_
  refine lv_iconst (v := 0) hx hb dL_took_1 (by decide) ?_
  refine lv_aload_n hx hb dL_took_2 rfl (lv_at hl 0 rfl) ?_
  refine lv_iload_n hx hb dL_took_3 rfl (lv_at hl 1 rfl) ?_
  obtain ⟨hb_1, hc_1⟩ := z_call (wc := [(h0, .inr (6, [.ref hu, .ref hs, .ref hc, .ref hp, .ref hg, .int 0, .int 0, .int 0, .int td, .int sd]))]) (tc := []) ([.ref h0, .int a0]) hP hK hD hS hA hE hX [0] rfl rfl [] rfl
  have hF_1 := va_free (wc := [(h0, .inr (6, [.ref hu, .ref hs, .ref hc, .ref hp, .ref hg, .int 0, .int 0, .int 0, .int td, .int sd]))]) hD hS hA [0] rfl
  refine vx_calll (vx_runV (As := [.int a0]) (rest := [.int 0, .ref ho]) ⟨hx, hb, hml, hown, hts⟩ (f_X4_took l hst D h0 hu hs hc hp hg td sd a0 _ ) (z_cV 1 hE zw_1004 zw_1005 zw_1006 zw_91 zw_1007 rfl rfl rfl (by decide +kernel) ⟨(Nat.le_of_ble_eq_true rfl), (Nat.le_of_ble_eq_true rfl)⟩) ⟨hb_1, va_recv hK hP (ci := 6) (q0 := 0) rfl rfl, hc_1⟩ rfl rfl hl.1 rfl (lv_room (Nat.le_of_ble_eq_true rfl)) dL_took_4 ⟨(Nat.le_of_ble_eq_true rfl), (Nat.le_of_ble_eq_true rfl)⟩) hS (fun q _ h => hF_1 q h) hF_1 (fun q _ h => hF_1 q h) (fun E_1 ce_1 q9_1 u_1 t_1 H1 locs ht_1 hvm_1 hw_1 hB_1 hz_1 hk_1 hS1 hce_1 hcv_1 hcl_1 => ?_) (fun r_1 u_1 t_1 H1 locs ht_1 hvm_1 hw_1 hB_1 hz_1 hk_1 hS1 => ?_)
  · obtain ⟨rfl, hB_1⟩ := hB_1
    obtain ⟨hP, hK, hD⟩ := z_back (wc := [(h0, .inr (6, [.ref hu, .ref hs, .ref hc, .ref hp, .ref hg, .int 0, .int 0, .int 0, .int td, .int sd]))]) (wr := [(ho, .inl (cJ, 1, .inr (.inl fo)))]) (w1 := [(h0, .inr (6, [.ref hu, .ref hs, .ref hc, .ref hp, .ref hg, .int 0, .int 0, .int 0, .int td, .int sd]))]) (tr := [(cJ, .long)]) hP hK hD [0] [1] rfl rfl rfl (by decide) ht_1 hvm_1 hk_1 hF_1 [0] rfl hB_1
    have hS := hS1
    have hP : va_P D vwCl [(ho, .inl (cJ, 1, .inr (.inl fo))), (h0, .inr (6, [.ref hu, .ref hs, .ref hc, .ref hp, .ref hg, .int 0, .int 0, .int 0, .int td, .int sd]))] H1 := hP
    have hD : va_D A [(ho, .inl (cJ, 1, .inr (.inl fo))), (h0, .inr (6, [.ref hu, .ref hs, .ref hc, .ref hp, .ref hg, .int 0, .int 0, .int 0, .int td, .int sd]))] := hD
    have hK : va_K D vwCl [(cJ, .long)] s := hK
    clear hS1
    refine vx_catch (name := "java/lang/IndexOutOfBoundsException") hown [] ⟨0, 8, 11, 23⟩ [] (htb.trans rfl) (fun z hz => nomatch hz) (by decide) (by decide) (hts _ zw_520) (hts _ zw_531) hce_1 hcv_1 hcl_1 ?_
    refine lv_astore_n (lv' := [(3, .ref q9_1), (0, .ref h0), (1, .int a0), (2, .ref ho)]) hx hb dL_took_11 rfl hl (by decide) rfl (fun ls hl => ?_)
    refine lv_iconst (v := 1) hx hb dL_took_12 (by decide) ?_
    exact vx_ret (W.iret (v := 1) hx hb hr (fun t ht hW => ⟨⟨1, (), rfl, rfl, z_end hP hK hD [1, 0] rfl rfl [0] rfl ht hW.alike⟩, hS.F ht⟩) hS.2.2 dL_took_13)
  · exact hw_1.elim
theorem dL_lost_0 : decode cL_lost 0 = .ok (.aload_n 3, 1) := by decide +kernel
theorem dL_lost_1 : decode cL_lost 1 = .ok (.iconst 0, 1) := by decide +kernel
theorem dL_lost_2 : decode cL_lost 2 = .ok (.aload_n 0, 1) := by decide +kernel
theorem dL_lost_3 : decode cL_lost 3 = .ok (.iload_n 1, 1) := by decide +kernel
theorem dL_lost_4 : decode cL_lost 4 = .ok (.iload_n 2, 1) := by decide +kernel
theorem dL_lost_5 : decode cL_lost 5 = .ok (.invokevirtual 131, 3) := by decide +kernel
theorem zw_1011 : Cond.methodLink RL 131 yX4_lost ∈ z_Ts := z_m 1011 (by decide +kernel) (by decide +kernel)
theorem zw_1012 : Cond.instanceMethod yX4_lost ∈ z_Ts := z_m 1012 (by decide +kernel) (by decide +kernel)
theorem zw_1013 : Cond.selects RX4 yX4_lost yX4_lost ∈ z_Ts := z_m 1013 (by decide +kernel) (by decide +kernel)
theorem zw_1014 : Cond.code yX4_lost cX4_lost 4 (some .long) ∈ z_Ts := z_m 1014 (by decide +kernel) (by decide +kernel)
theorem dL_lost_12 : decode cL_lost 12 = .ok (.astore 4, 2) := by decide +kernel
theorem dL_lost_14 : decode cL_lost 14 = .ok (.iconst 1, 1) := by decide +kernel
theorem dL_lost_15 : decode cL_lost 15 = .ok (.ireturn, 1) := by decide +kernel
set_option maxHeartbeats 4000000 in
set_option maxRecDepth 100000 in
theorem f_L_lost (l : Launch) (hst : l.stackTraces = false) (D : va_G) (h0 : Nat) (hu : Nat) (hs : Nat) (hc : Nat) (hp : Nat) (hg : Nat) (td : Int32) (sd : Int32) (a0 : Int32) (a1 : Int32) (ho : Nat) (fo : Nat → Int64) (cJ : ClassId) (sz : Nat)  : vx_Met l yL_lost [Cond.codeWith yL_lost cL_lost 5 (some .int) [(0, 9, 12, 23), (0, 9, 16, 13)]] ({ frames := 8, cells := 1, slots := 6, locals := 170 }) (z_Pc D [.ref h0, .int a0, .int a1, .ref ho] [(h0, .inr (6, [.ref hu, .ref hs, .ref hc, .ref hp, .ref hg, .int 0, .int 0, .int 0, .int td, .int sd])), (ho, .inl (cJ, 1, .inr (.inl fo)))] [(cJ, .long)] sz) (va_Qi (fun (r : Int32) (_ : Unit) => r = 1) (fun _ t => z_W D [(h0, .inr (6, [.ref hu, .ref hs, .ref hc, .ref hp, .ref hg, .int 0, .int 0, .int 0, .int td, .int sd])), (ho, .inl (cJ, 1, .inr (.inl fo)))] [(cJ, .long)] (va_A [(h0, .inr (6, [.ref hu, .ref hs, .ref hc, .ref hp, .ref hg, .int 0, .int 0, .int 0, .int td, .int sd])), (ho, .inl (cJ, 1, .inr (.inl fo)))] sz) t) (va_A [(h0, .inr (6, [.ref hu, .ref hs, .ref hc, .ref hp, .ref hg, .int 0, .int 0, .int 0, .int td, .int sd])), (ho, .inl (cJ, 1, .inr (.inl fo)))] sz)) (z_T (False) "none" D [(h0, .inr (6, [.ref hu, .ref hs, .ref hc, .ref hp, .ref hg, .int 0, .int 0, .int 0, .int td, .int sd])), (ho, .inl (cJ, 1, .inr (.inl fo)))] [(cJ, .long)] sz) 1 6 (va_A [(h0, .inr (6, [.ref hu, .ref hs, .ref hc, .ref hp, .ref hg, .int 0, .int 0, .int 0, .int td, .int sd])), (ho, .inl (cJ, 1, .inr (.inl fo)))] sz) := by
  refine vx_ofWH (cc := cL_lost) (maxL := 5) (ret := (some .int)) (hh := [(0, 9, 12, 23), (0, 9, 16, 13)]) (by decide +kernel) rfl ?_
  intro p e s m args below meth c s₁ B hml hv
  obtain ⟨rfl, hsz, hP, hK, hD0, hE, hX0⟩ := hv
  have hx := B.exec
  have hb := B.bytes
  have hr := B.returns
  have hts := z_E.ts (args := [.ref h0, .int a0, .int a1, .ref ho].toArray) hE
  have hown : s.vm.findClass RL = some m.cls := findClass_of_methodNamed B.named
  have hlocks := B.notSynchronized
  have htb := vx_table (x := yL_lost) B (atoms_spec (ws := [Cond.codeWith yL_lost cL_lost 5 (some .int) [(0, 9, 12, 23), (0, 9, 16, 13)]]) B.pre _ List.mem_cons_self)
  subst hsz
  have hD := hD0.self (sz := s.heap.size)
  generalize hAe : va_A [(h0, .inr (6, [.ref hu, .ref hs, .ref hc, .ref hp, .ref hg, .int 0, .int 0, .int 0, .int td, .int sd])), (ho, .inl (cJ, 1, .inr (.inl fo)))] s.heap.size = A at hD hX0 ⊢
  have hX : z_X A s s.heap := hX0
  have hA : ∀ q : Nat, s.heap.size ≤ q → A q := fun q h => by rw [← hAe]; exact Or.inr h
  have hS : va_S A s.heap s.heap [] := va_S.rf
  have hP : va_P D vwCl [(h0, .inr (6, [.ref hu, .ref hs, .ref hc, .ref hp, .ref hg, .int 0, .int 0, .int 0, .int td, .int sd])), (ho, .inl (cJ, 1, .inr (.inl fo)))] s.heap := hP
  have hl := lv_entry ([.ref h0, .int a0, .int a1, .ref ho]) (n := 5) (Nat.le_of_ble_eq_true rfl)
  rw [lg_entry_eq]
  generalize (lg_sl ([.ref h0, .int a0, .int a1, .ref ho]) ++ List.replicate (5 - (lg_sl ([.ref h0, .int a0, .int a1, .ref ho])).length) Slot.unset).toArray = ls at hl ⊢
  have hl : lv_has ls 5 [(0, .ref h0), (1, .int a0), (2, .int a1), (3, .ref ho)] := hl
  skip
  refine lv_aload_n hx hb dL_lost_0 rfl (lv_at hl 3 rfl) ?_
  refine lv_iconst (v := 0) hx hb dL_lost_1 (by decide) ?_
  refine lv_aload_n hx hb dL_lost_2 rfl (lv_at hl 0 rfl) ?_
  refine lv_iload_n hx hb dL_lost_3 rfl (lv_at hl 1 rfl) ?_
  refine lv_iload_n hx hb dL_lost_4 rfl (lv_at hl 2 rfl) ?_
  obtain ⟨hb_1, hc_1⟩ := z_call (wc := [(h0, .inr (6, [.ref hu, .ref hs, .ref hc, .ref hp, .ref hg, .int 0, .int 0, .int 0, .int td, .int sd]))]) (tc := []) ([.ref h0, .int a0, .int a1]) hP hK hD hS hA hE hX [0] rfl rfl [] rfl
  have hF_1 := va_free (wc := [(h0, .inr (6, [.ref hu, .ref hs, .ref hc, .ref hp, .ref hg, .int 0, .int 0, .int 0, .int td, .int sd]))]) hD hS hA [0] rfl
  refine vx_calll (vx_runV (As := [.int a0, .int a1]) (rest := [.int 0, .ref ho]) ⟨hx, hb, hml, hown, hts⟩ (f_X4_lost l hst D h0 hu hs hc hp hg td sd a0 a1 _ ) (z_cV 2 hE zw_1011 zw_1012 zw_1013 zw_91 zw_1014 rfl rfl rfl (by decide +kernel) ⟨(Nat.le_of_ble_eq_true rfl), (Nat.le_of_ble_eq_true rfl)⟩) ⟨hb_1, va_recv hK hP (ci := 6) (q0 := 0) rfl rfl, hc_1⟩ rfl rfl hl.1 rfl (lv_room (Nat.le_of_ble_eq_true rfl)) dL_lost_5 ⟨(Nat.le_of_ble_eq_true rfl), (Nat.le_of_ble_eq_true rfl)⟩) hS (fun q _ h => hF_1 q h) hF_1 (fun q _ h => hF_1 q h) (fun E_1 ce_1 q9_1 u_1 t_1 H1 locs ht_1 hvm_1 hw_1 hB_1 hz_1 hk_1 hS1 hce_1 hcv_1 hcl_1 => ?_) (fun r_1 u_1 t_1 H1 locs ht_1 hvm_1 hw_1 hB_1 hz_1 hk_1 hS1 => ?_)
  · obtain ⟨rfl, hB_1⟩ := hB_1
    obtain ⟨hP, hK, hD⟩ := z_back (wc := [(h0, .inr (6, [.ref hu, .ref hs, .ref hc, .ref hp, .ref hg, .int 0, .int 0, .int 0, .int td, .int sd]))]) (wr := [(ho, .inl (cJ, 1, .inr (.inl fo)))]) (w1 := [(h0, .inr (6, [.ref hu, .ref hs, .ref hc, .ref hp, .ref hg, .int 0, .int 0, .int 0, .int td, .int sd]))]) (tr := [(cJ, .long)]) hP hK hD [0] [1] rfl rfl rfl (by decide) ht_1 hvm_1 hk_1 hF_1 [0] rfl hB_1
    have hS := hS1
    have hP : va_P D vwCl [(ho, .inl (cJ, 1, .inr (.inl fo))), (h0, .inr (6, [.ref hu, .ref hs, .ref hc, .ref hp, .ref hg, .int 0, .int 0, .int 0, .int td, .int sd]))] H1 := hP
    have hD : va_D A [(ho, .inl (cJ, 1, .inr (.inl fo))), (h0, .inr (6, [.ref hu, .ref hs, .ref hc, .ref hp, .ref hg, .int 0, .int 0, .int 0, .int td, .int sd]))] := hD
    have hK : va_K D vwCl [(cJ, .long)] s := hK
    clear hS1
    refine vx_catch (name := "java/lang/IndexOutOfBoundsException") hown [] ⟨0, 9, 12, 23⟩ [⟨0, 9, 16, 13⟩] (htb.trans rfl) (fun z hz => nomatch hz) (by decide) (by decide) (hts _ zw_520) (hts _ zw_531) hce_1 hcv_1 hcl_1 ?_
    refine lv_astore (lv' := [(4, .ref q9_1), (0, .ref h0), (1, .int a0), (2, .int a1), (3, .ref ho)]) hx hb dL_lost_12 hl (by decide) rfl (fun ls hl => ?_)
    refine lv_iconst (v := 1) hx hb dL_lost_14 (by decide) ?_
    exact vx_ret (W.iret (v := 1) hx hb hr (fun t ht hW => ⟨⟨1, (), rfl, rfl, z_end hP hK hD [1, 0] rfl rfl [0] rfl ht hW.alike⟩, hS.F ht⟩) hS.2.2 dL_lost_15)
  · exact hw_1.elim
theorem dL_rent_0 : decode cL_rent 0 = .ok (.aload_n 2, 1) := by decide +kernel
theorem dL_rent_1 : decode cL_rent 1 = .ok (.iconst 0, 1) := by decide +kernel
theorem dL_rent_2 : decode cL_rent 2 = .ok (.aload_n 0, 1) := by decide +kernel
theorem dL_rent_3 : decode cL_rent 3 = .ok (.iload_n 1, 1) := by decide +kernel
theorem dL_rent_4 : decode cL_rent 4 = .ok (.invokevirtual 135, 3) := by decide +kernel
theorem zw_1021 : Cond.methodLink RL 135 yX4_rent ∈ z_Ts := z_m 1021 (by decide +kernel) (by decide +kernel)
theorem zw_1022 : Cond.instanceMethod yX4_rent ∈ z_Ts := z_m 1022 (by decide +kernel) (by decide +kernel)
theorem zw_1023 : Cond.selects RX4 yX4_rent yX4_rent ∈ z_Ts := z_m 1023 (by decide +kernel) (by decide +kernel)
theorem zw_1024 : Cond.code yX4_rent cX4_rent 2 (some .long) ∈ z_Ts := z_m 1024 (by decide +kernel) (by decide +kernel)
theorem dL_rent_11 : decode cL_rent 11 = .ok (.astore_n 3, 1) := by decide +kernel
theorem dL_rent_12 : decode cL_rent 12 = .ok (.iconst 1, 1) := by decide +kernel
theorem dL_rent_13 : decode cL_rent 13 = .ok (.ireturn, 1) := by decide +kernel
set_option maxHeartbeats 4000000 in
set_option maxRecDepth 100000 in
theorem f_L_rent (l : Launch) (hst : l.stackTraces = false) (D : va_G) (h0 : Nat) (hu : Nat) (hs : Nat) (hc : Nat) (hp : Nat) (hg : Nat) (td : Int32) (sd : Int32) (a0 : Int32) (ho : Nat) (fo : Nat → Int64) (cJ : ClassId) (sz : Nat)  : vx_Met l yL_rent [Cond.codeWith yL_rent cL_rent 4 (some .int) [(0, 8, 11, 23)]] ({ frames := 8, cells := 1, slots := 6, locals := 170 }) (z_Pc D [.ref h0, .int a0, .ref ho] [(h0, .inr (6, [.ref hu, .ref hs, .ref hc, .ref hp, .ref hg, .int 0, .int 0, .int 0, .int td, .int sd])), (ho, .inl (cJ, 1, .inr (.inl fo)))] [(cJ, .long)] sz) (va_Qi (fun (r : Int32) (_ : Unit) => r = 1) (fun _ t => z_W D [(h0, .inr (6, [.ref hu, .ref hs, .ref hc, .ref hp, .ref hg, .int 0, .int 0, .int 0, .int td, .int sd])), (ho, .inl (cJ, 1, .inr (.inl fo)))] [(cJ, .long)] (va_A [(h0, .inr (6, [.ref hu, .ref hs, .ref hc, .ref hp, .ref hg, .int 0, .int 0, .int 0, .int td, .int sd])), (ho, .inl (cJ, 1, .inr (.inl fo)))] sz) t) (va_A [(h0, .inr (6, [.ref hu, .ref hs, .ref hc, .ref hp, .ref hg, .int 0, .int 0, .int 0, .int td, .int sd])), (ho, .inl (cJ, 1, .inr (.inl fo)))] sz)) (z_T (False) "none" D [(h0, .inr (6, [.ref hu, .ref hs, .ref hc, .ref hp, .ref hg, .int 0, .int 0, .int 0, .int td, .int sd])), (ho, .inl (cJ, 1, .inr (.inl fo)))] [(cJ, .long)] sz) 1 6 (va_A [(h0, .inr (6, [.ref hu, .ref hs, .ref hc, .ref hp, .ref hg, .int 0, .int 0, .int 0, .int td, .int sd])), (ho, .inl (cJ, 1, .inr (.inl fo)))] sz) := by
  refine vx_ofWH (cc := cL_rent) (maxL := 4) (ret := (some .int)) (hh := [(0, 8, 11, 23)]) (by decide +kernel) rfl ?_
  intro p e s m args below meth c s₁ B hml hv
  obtain ⟨rfl, hsz, hP, hK, hD0, hE, hX0⟩ := hv
  have hx := B.exec
  have hb := B.bytes
  have hr := B.returns
  have hts := z_E.ts (args := [.ref h0, .int a0, .ref ho].toArray) hE
  have hown : s.vm.findClass RL = some m.cls := findClass_of_methodNamed B.named
  have hlocks := B.notSynchronized
  have htb := vx_table (x := yL_rent) B (atoms_spec (ws := [Cond.codeWith yL_rent cL_rent 4 (some .int) [(0, 8, 11, 23)]]) B.pre _ List.mem_cons_self)
  subst hsz
  have hD := hD0.self (sz := s.heap.size)
  generalize hAe : va_A [(h0, .inr (6, [.ref hu, .ref hs, .ref hc, .ref hp, .ref hg, .int 0, .int 0, .int 0, .int td, .int sd])), (ho, .inl (cJ, 1, .inr (.inl fo)))] s.heap.size = A at hD hX0 ⊢
  have hX : z_X A s s.heap := hX0
  have hA : ∀ q : Nat, s.heap.size ≤ q → A q := fun q h => by rw [← hAe]; exact Or.inr h
  have hS : va_S A s.heap s.heap [] := va_S.rf
  have hP : va_P D vwCl [(h0, .inr (6, [.ref hu, .ref hs, .ref hc, .ref hp, .ref hg, .int 0, .int 0, .int 0, .int td, .int sd])), (ho, .inl (cJ, 1, .inr (.inl fo)))] s.heap := hP
  have hl := lv_entry ([.ref h0, .int a0, .ref ho]) (n := 4) (Nat.le_of_ble_eq_true rfl)
  rw [lg_entry_eq]
  generalize (lg_sl ([.ref h0, .int a0, .ref ho]) ++ List.replicate (4 - (lg_sl ([.ref h0, .int a0, .ref ho])).length) Slot.unset).toArray = ls at hl ⊢
  have hl : lv_has ls 4 [(0, .ref h0), (1, .int a0), (2, .ref ho)] := hl
  skip
  refine lv_aload_n hx hb dL_rent_0 rfl (lv_at hl 2 rfl) ?_
  refine lv_iconst (v := 0) hx hb dL_rent_1 (by decide) ?_
  refine lv_aload_n hx hb dL_rent_2 rfl (lv_at hl 0 rfl) ?_
  refine lv_iload_n hx hb dL_rent_3 rfl (lv_at hl 1 rfl) ?_
  obtain ⟨hb_1, hc_1⟩ := z_call (wc := [(h0, .inr (6, [.ref hu, .ref hs, .ref hc, .ref hp, .ref hg, .int 0, .int 0, .int 0, .int td, .int sd]))]) (tc := []) ([.ref h0, .int a0]) hP hK hD hS hA hE hX [0] rfl rfl [] rfl
  have hF_1 := va_free (wc := [(h0, .inr (6, [.ref hu, .ref hs, .ref hc, .ref hp, .ref hg, .int 0, .int 0, .int 0, .int td, .int sd]))]) hD hS hA [0] rfl
  refine vx_calll (vx_runV (As := [.int a0]) (rest := [.int 0, .ref ho]) ⟨hx, hb, hml, hown, hts⟩ (f_X4_rent l hst D h0 hu hs hc hp hg td sd a0 _ ) (z_cV 1 hE zw_1021 zw_1022 zw_1023 zw_91 zw_1024 rfl rfl rfl (by decide +kernel) ⟨(Nat.le_of_ble_eq_true rfl), (Nat.le_of_ble_eq_true rfl)⟩) ⟨hb_1, va_recv hK hP (ci := 6) (q0 := 0) rfl rfl, hc_1⟩ rfl rfl hl.1 rfl (lv_room (Nat.le_of_ble_eq_true rfl)) dL_rent_4 ⟨(Nat.le_of_ble_eq_true rfl), (Nat.le_of_ble_eq_true rfl)⟩) hS (fun q _ h => hF_1 q h) hF_1 (fun q _ h => hF_1 q h) (fun E_1 ce_1 q9_1 u_1 t_1 H1 locs ht_1 hvm_1 hw_1 hB_1 hz_1 hk_1 hS1 hce_1 hcv_1 hcl_1 => ?_) (fun r_1 u_1 t_1 H1 locs ht_1 hvm_1 hw_1 hB_1 hz_1 hk_1 hS1 => ?_)
  · obtain ⟨rfl, hB_1⟩ := hB_1
    obtain ⟨hP, hK, hD⟩ := z_back (wc := [(h0, .inr (6, [.ref hu, .ref hs, .ref hc, .ref hp, .ref hg, .int 0, .int 0, .int 0, .int td, .int sd]))]) (wr := [(ho, .inl (cJ, 1, .inr (.inl fo)))]) (w1 := [(h0, .inr (6, [.ref hu, .ref hs, .ref hc, .ref hp, .ref hg, .int 0, .int 0, .int 0, .int td, .int sd]))]) (tr := [(cJ, .long)]) hP hK hD [0] [1] rfl rfl rfl (by decide) ht_1 hvm_1 hk_1 hF_1 [0] rfl hB_1
    have hS := hS1
    have hP : va_P D vwCl [(ho, .inl (cJ, 1, .inr (.inl fo))), (h0, .inr (6, [.ref hu, .ref hs, .ref hc, .ref hp, .ref hg, .int 0, .int 0, .int 0, .int td, .int sd]))] H1 := hP
    have hD : va_D A [(ho, .inl (cJ, 1, .inr (.inl fo))), (h0, .inr (6, [.ref hu, .ref hs, .ref hc, .ref hp, .ref hg, .int 0, .int 0, .int 0, .int td, .int sd]))] := hD
    have hK : va_K D vwCl [(cJ, .long)] s := hK
    clear hS1
    refine vx_catch (name := "java/lang/IndexOutOfBoundsException") hown [] ⟨0, 8, 11, 23⟩ [] (htb.trans rfl) (fun z hz => nomatch hz) (by decide) (by decide) (hts _ zw_520) (hts _ zw_531) hce_1 hcv_1 hcl_1 ?_
    refine lv_astore_n (lv' := [(3, .ref q9_1), (0, .ref h0), (1, .int a0), (2, .ref ho)]) hx hb dL_rent_11 rfl hl (by decide) rfl (fun ls hl => ?_)
    refine lv_iconst (v := 1) hx hb dL_rent_12 (by decide) ?_
    exact vx_ret (W.iret (v := 1) hx hb hr (fun t ht hW => ⟨⟨1, (), rfl, rfl, z_end hP hK hD [1, 0] rfl rfl [0] rfl ht hW.alike⟩, hS.F ht⟩) hS.2.2 dL_rent_13)
  · exact hw_1.elim
theorem dL_send_0 : decode cL_send 0 = .ok (.aload_n 3, 1) := by decide +kernel
theorem dL_send_1 : decode cL_send 1 = .ok (.iconst 0, 1) := by decide +kernel
theorem dL_send_2 : decode cL_send 2 = .ok (.aload_n 0, 1) := by decide +kernel
theorem dL_send_3 : decode cL_send 3 = .ok (.iload_n 1, 1) := by decide +kernel
theorem dL_send_4 : decode cL_send 4 = .ok (.iload_n 2, 1) := by decide +kernel
theorem dL_send_5 : decode cL_send 5 = .ok (.invokevirtual 107, 3) := by decide +kernel
theorem zw_889 : Cond.methodLink RL 107 yX4_send ∈ z_Ts := z_m 889 (by decide +kernel) (by decide +kernel)
theorem zw_890 : Cond.instanceMethod yX4_send ∈ z_Ts := z_m 890 (by decide +kernel) (by decide +kernel)
theorem zw_891 : Cond.selects RX4 yX4_send yX4_send ∈ z_Ts := z_m 891 (by decide +kernel) (by decide +kernel)
theorem zw_892 : Cond.code yX4_send cX4_send 4 (some .int) ∈ z_Ts := z_m 892 (by decide +kernel) (by decide +kernel)
theorem dL_send_13 : decode cL_send 13 = .ok (.astore 4, 2) := by decide +kernel
theorem dL_send_15 : decode cL_send 15 = .ok (.iconst 1, 1) := by decide +kernel
theorem dL_send_16 : decode cL_send 16 = .ok (.ireturn, 1) := by decide +kernel
set_option maxHeartbeats 4000000 in
set_option maxRecDepth 100000 in
theorem f_L_send (l : Launch) (hst : l.stackTraces = false) (D : va_G) (h0 : Nat) (hu : Nat) (hs : Nat) (hc : Nat) (hp : Nat) (hg : Nat) (td : Int32) (sd : Int32) (a0 : Int32) (a1 : Int32) (ho : Nat) (fo : Nat → Int64) (cJ : ClassId) (sz : Nat)  : vx_Met l yL_send [Cond.codeWith yL_send cL_send 5 (some .int) [(0, 10, 13, 23)]] ({ frames := 8, cells := 1, slots := 6, locals := 170 }) (z_Pc D [.ref h0, .int a0, .int a1, .ref ho] [(h0, .inr (6, [.ref hu, .ref hs, .ref hc, .ref hp, .ref hg, .int 0, .int 0, .int 0, .int td, .int sd])), (ho, .inl (cJ, 1, .inr (.inl fo)))] [(cJ, .long)] sz) (va_Qi (fun (r : Int32) (_ : Unit) => r = 1) (fun _ t => z_W D [(h0, .inr (6, [.ref hu, .ref hs, .ref hc, .ref hp, .ref hg, .int 0, .int 0, .int 0, .int td, .int sd])), (ho, .inl (cJ, 1, .inr (.inl fo)))] [(cJ, .long)] (va_A [(h0, .inr (6, [.ref hu, .ref hs, .ref hc, .ref hp, .ref hg, .int 0, .int 0, .int 0, .int td, .int sd])), (ho, .inl (cJ, 1, .inr (.inl fo)))] sz) t) (va_A [(h0, .inr (6, [.ref hu, .ref hs, .ref hc, .ref hp, .ref hg, .int 0, .int 0, .int 0, .int td, .int sd])), (ho, .inl (cJ, 1, .inr (.inl fo)))] sz)) (z_T (False) "none" D [(h0, .inr (6, [.ref hu, .ref hs, .ref hc, .ref hp, .ref hg, .int 0, .int 0, .int 0, .int td, .int sd])), (ho, .inl (cJ, 1, .inr (.inl fo)))] [(cJ, .long)] sz) 1 6 (va_A [(h0, .inr (6, [.ref hu, .ref hs, .ref hc, .ref hp, .ref hg, .int 0, .int 0, .int 0, .int td, .int sd])), (ho, .inl (cJ, 1, .inr (.inl fo)))] sz) := by
  refine vx_ofWH (cc := cL_send) (maxL := 5) (ret := (some .int)) (hh := [(0, 10, 13, 23)]) (by decide +kernel) rfl ?_
  intro p e s m args below meth c s₁ B hml hv
  obtain ⟨rfl, hsz, hP, hK, hD0, hE, hX0⟩ := hv
  have hx := B.exec
  have hb := B.bytes
  have hr := B.returns
  have hts := z_E.ts (args := [.ref h0, .int a0, .int a1, .ref ho].toArray) hE
  have hown : s.vm.findClass RL = some m.cls := findClass_of_methodNamed B.named
  have hlocks := B.notSynchronized
  have htb := vx_table (x := yL_send) B (atoms_spec (ws := [Cond.codeWith yL_send cL_send 5 (some .int) [(0, 10, 13, 23)]]) B.pre _ List.mem_cons_self)
  subst hsz
  have hD := hD0.self (sz := s.heap.size)
  generalize hAe : va_A [(h0, .inr (6, [.ref hu, .ref hs, .ref hc, .ref hp, .ref hg, .int 0, .int 0, .int 0, .int td, .int sd])), (ho, .inl (cJ, 1, .inr (.inl fo)))] s.heap.size = A at hD hX0 ⊢
  have hX : z_X A s s.heap := hX0
  have hA : ∀ q : Nat, s.heap.size ≤ q → A q := fun q h => by rw [← hAe]; exact Or.inr h
  have hS : va_S A s.heap s.heap [] := va_S.rf
  have hP : va_P D vwCl [(h0, .inr (6, [.ref hu, .ref hs, .ref hc, .ref hp, .ref hg, .int 0, .int 0, .int 0, .int td, .int sd])), (ho, .inl (cJ, 1, .inr (.inl fo)))] s.heap := hP
  have hl := lv_entry ([.ref h0, .int a0, .int a1, .ref ho]) (n := 5) (Nat.le_of_ble_eq_true rfl)
  rw [lg_entry_eq]
  generalize (lg_sl ([.ref h0, .int a0, .int a1, .ref ho]) ++ List.replicate (5 - (lg_sl ([.ref h0, .int a0, .int a1, .ref ho])).length) Slot.unset).toArray = ls at hl ⊢
  have hl : lv_has ls 5 [(0, .ref h0), (1, .int a0), (2, .int a1), (3, .ref ho)] := hl
  skip
  refine lv_aload_n hx hb dL_send_0 rfl (lv_at hl 3 rfl) ?_
  refine lv_iconst (v := 0) hx hb dL_send_1 (by decide) ?_
  refine lv_aload_n hx hb dL_send_2 rfl (lv_at hl 0 rfl) ?_
  refine lv_iload_n hx hb dL_send_3 rfl (lv_at hl 1 rfl) ?_
  refine lv_iload_n hx hb dL_send_4 rfl (lv_at hl 2 rfl) ?_
  obtain ⟨hb_1, hc_1⟩ := z_call (wc := [(h0, .inr (6, [.ref hu, .ref hs, .ref hc, .ref hp, .ref hg, .int 0, .int 0, .int 0, .int td, .int sd]))]) (tc := []) ([.ref h0, .int a0, .int a1]) hP hK hD hS hA hE hX [0] rfl rfl [] rfl
  have hF_1 := va_free (wc := [(h0, .inr (6, [.ref hu, .ref hs, .ref hc, .ref hp, .ref hg, .int 0, .int 0, .int 0, .int td, .int sd]))]) hD hS hA [0] rfl
  refine vx_calli (vx_runV (As := [.int a0, .int a1]) (rest := [.int 0, .ref ho]) ⟨hx, hb, hml, hown, hts⟩ (f_X4_send l hst D h0 hu hs hc hp hg td sd a0 a1 _ ) (z_cV 2 hE zw_889 zw_890 zw_891 zw_91 zw_892 rfl rfl rfl (by decide +kernel) ⟨(Nat.le_of_ble_eq_true rfl), (Nat.le_of_ble_eq_true rfl)⟩) ⟨hb_1, va_recv hK hP (ci := 6) (q0 := 0) rfl rfl, hc_1⟩ rfl rfl hl.1 rfl (lv_room (Nat.le_of_ble_eq_true rfl)) dL_send_5 ⟨(Nat.le_of_ble_eq_true rfl), (Nat.le_of_ble_eq_true rfl)⟩) hS (fun q _ h => hF_1 q h) hF_1 (fun q _ h => hF_1 q h) (fun E_1 ce_1 q9_1 u_1 t_1 H1 locs ht_1 hvm_1 hw_1 hB_1 hz_1 hk_1 hS1 hce_1 hcv_1 hcl_1 => ?_) (fun r_1 u_1 t_1 H1 locs ht_1 hvm_1 hw_1 hB_1 hz_1 hk_1 hS1 => ?_)
  · obtain ⟨rfl, hB_1⟩ := hB_1
    obtain ⟨hP, hK, hD⟩ := z_back (wc := [(h0, .inr (6, [.ref hu, .ref hs, .ref hc, .ref hp, .ref hg, .int 0, .int 0, .int 0, .int td, .int sd]))]) (wr := [(ho, .inl (cJ, 1, .inr (.inl fo)))]) (w1 := [(h0, .inr (6, [.ref hu, .ref hs, .ref hc, .ref hp, .ref hg, .int 0, .int 0, .int 0, .int td, .int sd]))]) (tr := [(cJ, .long)]) hP hK hD [0] [1] rfl rfl rfl (by decide) ht_1 hvm_1 hk_1 hF_1 [0] rfl hB_1
    have hS := hS1
    have hP : va_P D vwCl [(ho, .inl (cJ, 1, .inr (.inl fo))), (h0, .inr (6, [.ref hu, .ref hs, .ref hc, .ref hp, .ref hg, .int 0, .int 0, .int 0, .int td, .int sd]))] H1 := hP
    have hD : va_D A [(ho, .inl (cJ, 1, .inr (.inl fo))), (h0, .inr (6, [.ref hu, .ref hs, .ref hc, .ref hp, .ref hg, .int 0, .int 0, .int 0, .int td, .int sd]))] := hD
    have hK : va_K D vwCl [(cJ, .long)] s := hK
    clear hS1
    refine vx_catch (name := "java/lang/IndexOutOfBoundsException") hown [] ⟨0, 10, 13, 23⟩ [] (htb.trans rfl) (fun z hz => nomatch hz) (by decide) (by decide) (hts _ zw_520) (hts _ zw_531) hce_1 hcv_1 hcl_1 ?_
    refine lv_astore (lv' := [(4, .ref q9_1), (0, .ref h0), (1, .int a0), (2, .int a1), (3, .ref ho)]) hx hb dL_send_13 hl (by decide) rfl (fun ls hl => ?_)
    refine lv_iconst (v := 1) hx hb dL_send_15 (by decide) ?_
    exact vx_ret (W.iret (v := 1) hx hb hr (fun t ht hW => ⟨⟨1, (), rfl, rfl, z_end hP hK hD [1, 0] rfl rfl [0] rfl ht hW.alike⟩, hS.F ht⟩) hS.2.2 dL_send_16)
  · exact hw_1.elim
theorem dL_canWork_0 : decode cL_canWork 0 = .ok (.aload_n 2, 1) := by decide +kernel
theorem dL_canWork_1 : decode cL_canWork 1 = .ok (.iconst 0, 1) := by decide +kernel
theorem dL_canWork_2 : decode cL_canWork 2 = .ok (.aload_n 0, 1) := by decide +kernel
theorem dL_canWork_3 : decode cL_canWork 3 = .ok (.iload_n 1, 1) := by decide +kernel
theorem dL_canWork_4 : decode cL_canWork 4 = .ok (.invokevirtual 110, 3) := by decide +kernel
theorem zw_901 : Cond.methodLink RL 110 yX4_canWork ∈ z_Ts := z_m 901 (by decide +kernel) (by decide +kernel)
theorem zw_902 : Cond.instanceMethod yX4_canWork ∈ z_Ts := z_m 902 (by decide +kernel) (by decide +kernel)
theorem zw_903 : Cond.selects RX4 yX4_canWork yX4_canWork ∈ z_Ts := z_m 903 (by decide +kernel) (by decide +kernel)
theorem zw_904 : Cond.code yX4_canWork cX4_canWork 2 (some .boolean) ∈ z_Ts := z_m 904 (by decide +kernel) (by decide +kernel)
theorem dL_canWork_19 : decode cL_canWork 19 = .ok (.astore_n 3, 1) := by decide +kernel
theorem dL_canWork_20 : decode cL_canWork 20 = .ok (.iconst 1, 1) := by decide +kernel
theorem dL_canWork_21 : decode cL_canWork 21 = .ok (.ireturn, 1) := by decide +kernel
set_option maxHeartbeats 4000000 in
set_option maxRecDepth 100000 in
theorem f_L_canWork (l : Launch) (hst : l.stackTraces = false) (D : va_G) (h0 : Nat) (hu : Nat) (hs : Nat) (hc : Nat) (hp : Nat) (hg : Nat) (td : Int32) (sd : Int32) (a0 : Int32) (ho : Nat) (fo : Nat → Int64) (cJ : ClassId) (sz : Nat)  : vx_Met l yL_canWork [Cond.codeWith yL_canWork cL_canWork 4 (some .int) [(0, 16, 19, 23)]] ({ frames := 8, cells := 1, slots := 6, locals := 170 }) (z_Pc D [.ref h0, .int a0, .ref ho] [(h0, .inr (6, [.ref hu, .ref hs, .ref hc, .ref hp, .ref hg, .int 0, .int 0, .int 0, .int td, .int sd])), (ho, .inl (cJ, 1, .inr (.inl fo)))] [(cJ, .long)] sz) (va_Qi (fun (r : Int32) (_ : Unit) => r = 1) (fun _ t => z_W D [(h0, .inr (6, [.ref hu, .ref hs, .ref hc, .ref hp, .ref hg, .int 0, .int 0, .int 0, .int td, .int sd])), (ho, .inl (cJ, 1, .inr (.inl fo)))] [(cJ, .long)] (va_A [(h0, .inr (6, [.ref hu, .ref hs, .ref hc, .ref hp, .ref hg, .int 0, .int 0, .int 0, .int td, .int sd])), (ho, .inl (cJ, 1, .inr (.inl fo)))] sz) t) (va_A [(h0, .inr (6, [.ref hu, .ref hs, .ref hc, .ref hp, .ref hg, .int 0, .int 0, .int 0, .int td, .int sd])), (ho, .inl (cJ, 1, .inr (.inl fo)))] sz)) (z_T (False) "none" D [(h0, .inr (6, [.ref hu, .ref hs, .ref hc, .ref hp, .ref hg, .int 0, .int 0, .int 0, .int td, .int sd])), (ho, .inl (cJ, 1, .inr (.inl fo)))] [(cJ, .long)] sz) 1 6 (va_A [(h0, .inr (6, [.ref hu, .ref hs, .ref hc, .ref hp, .ref hg, .int 0, .int 0, .int 0, .int td, .int sd])), (ho, .inl (cJ, 1, .inr (.inl fo)))] sz) := by
  refine vx_ofWH (cc := cL_canWork) (maxL := 4) (ret := (some .int)) (hh := [(0, 16, 19, 23)]) (by decide +kernel) rfl ?_
  intro p e s m args below meth c s₁ B hml hv
  obtain ⟨rfl, hsz, hP, hK, hD0, hE, hX0⟩ := hv
  have hx := B.exec
  have hb := B.bytes
  have hr := B.returns
  have hts := z_E.ts (args := [.ref h0, .int a0, .ref ho].toArray) hE
  have hown : s.vm.findClass RL = some m.cls := findClass_of_methodNamed B.named
  have hlocks := B.notSynchronized
  have htb := vx_table (x := yL_canWork) B (atoms_spec (ws := [Cond.codeWith yL_canWork cL_canWork 4 (some .int) [(0, 16, 19, 23)]]) B.pre _ List.mem_cons_self)
  subst hsz
  have hD := hD0.self (sz := s.heap.size)
  generalize hAe : va_A [(h0, .inr (6, [.ref hu, .ref hs, .ref hc, .ref hp, .ref hg, .int 0, .int 0, .int 0, .int td, .int sd])), (ho, .inl (cJ, 1, .inr (.inl fo)))] s.heap.size = A at hD hX0 ⊢
  have hX : z_X A s s.heap := hX0
  have hA : ∀ q : Nat, s.heap.size ≤ q → A q := fun q h => by rw [← hAe]; exact Or.inr h
  have hS : va_S A s.heap s.heap [] := va_S.rf
  have hP : va_P D vwCl [(h0, .inr (6, [.ref hu, .ref hs, .ref hc, .ref hp, .ref hg, .int 0, .int 0, .int 0, .int td, .int sd])), (ho, .inl (cJ, 1, .inr (.inl fo)))] s.heap := hP
  have hl := lv_entry ([.ref h0, .int a0, .ref ho]) (n := 4) (Nat.le_of_ble_eq_true rfl)
  rw [lg_entry_eq]
  generalize (lg_sl ([.ref h0, .int a0, .ref ho]) ++ List.replicate (4 - (lg_sl ([.ref h0, .int a0, .ref ho])).length) Slot.unset).toArray = ls at hl ⊢
  have hl : lv_has ls 4 [(0, .ref h0), (1, .int a0), (2, .ref ho)] := hl
  skip
  refine lv_aload_n hx hb dL_canWork_0 rfl (lv_at hl 2 rfl) ?_
  refine lv_iconst (v := 0) hx hb dL_canWork_1 (by decide) ?_
  refine lv_aload_n hx hb dL_canWork_2 rfl (lv_at hl 0 rfl) ?_
  refine lv_iload_n hx hb dL_canWork_3 rfl (lv_at hl 1 rfl) ?_
  obtain ⟨hb_1, hc_1⟩ := z_call (wc := [(h0, .inr (6, [.ref hu, .ref hs, .ref hc, .ref hp, .ref hg, .int 0, .int 0, .int 0, .int td, .int sd]))]) (tc := []) ([.ref h0, .int a0]) hP hK hD hS hA hE hX [0] rfl rfl [] rfl
  have hF_1 := va_free (wc := [(h0, .inr (6, [.ref hu, .ref hs, .ref hc, .ref hp, .ref hg, .int 0, .int 0, .int 0, .int td, .int sd]))]) hD hS hA [0] rfl
  refine vx_calli (vx_runV (As := [.int a0]) (rest := [.int 0, .ref ho]) ⟨hx, hb, hml, hown, hts⟩ (f_X4_canWork l hst D h0 hu hs hc hp hg td sd a0 _ ) (z_cV 1 hE zw_901 zw_902 zw_903 zw_91 zw_904 rfl rfl rfl (by decide +kernel) ⟨(Nat.le_of_ble_eq_true rfl), (Nat.le_of_ble_eq_true rfl)⟩) ⟨hb_1, va_recv hK hP (ci := 6) (q0 := 0) rfl rfl, hc_1⟩ rfl rfl hl.1 rfl (lv_room (Nat.le_of_ble_eq_true rfl)) dL_canWork_4 ⟨(Nat.le_of_ble_eq_true rfl), (Nat.le_of_ble_eq_true rfl)⟩) hS (fun q _ h => hF_1 q h) hF_1 (fun q _ h => hF_1 q h) (fun E_1 ce_1 q9_1 u_1 t_1 H1 locs ht_1 hvm_1 hw_1 hB_1 hz_1 hk_1 hS1 hce_1 hcv_1 hcl_1 => ?_) (fun r_1 u_1 t_1 H1 locs ht_1 hvm_1 hw_1 hB_1 hz_1 hk_1 hS1 => ?_)
  · obtain ⟨rfl, hB_1⟩ := hB_1
    obtain ⟨hP, hK, hD⟩ := z_back (wc := [(h0, .inr (6, [.ref hu, .ref hs, .ref hc, .ref hp, .ref hg, .int 0, .int 0, .int 0, .int td, .int sd]))]) (wr := [(ho, .inl (cJ, 1, .inr (.inl fo)))]) (w1 := [(h0, .inr (6, [.ref hu, .ref hs, .ref hc, .ref hp, .ref hg, .int 0, .int 0, .int 0, .int td, .int sd]))]) (tr := [(cJ, .long)]) hP hK hD [0] [1] rfl rfl rfl (by decide) ht_1 hvm_1 hk_1 hF_1 [0] rfl hB_1
    have hS := hS1
    have hP : va_P D vwCl [(ho, .inl (cJ, 1, .inr (.inl fo))), (h0, .inr (6, [.ref hu, .ref hs, .ref hc, .ref hp, .ref hg, .int 0, .int 0, .int 0, .int td, .int sd]))] H1 := hP
    have hD : va_D A [(ho, .inl (cJ, 1, .inr (.inl fo))), (h0, .inr (6, [.ref hu, .ref hs, .ref hc, .ref hp, .ref hg, .int 0, .int 0, .int 0, .int td, .int sd]))] := hD
    have hK : va_K D vwCl [(cJ, .long)] s := hK
    clear hS1
    refine vx_catch (name := "java/lang/IndexOutOfBoundsException") hown [] ⟨0, 16, 19, 23⟩ [] (htb.trans rfl) (fun z hz => nomatch hz) (by decide) (by decide) (hts _ zw_520) (hts _ zw_531) hce_1 hcv_1 hcl_1 ?_
    refine lv_astore_n (lv' := [(3, .ref q9_1), (0, .ref h0), (1, .int a0), (2, .ref ho)]) hx hb dL_canWork_19 rfl hl (by decide) rfl (fun ls hl => ?_)
    refine lv_iconst (v := 1) hx hb dL_canWork_20 (by decide) ?_
    exact vx_ret (W.iret (v := 1) hx hb hr (fun t ht hW => ⟨⟨1, (), rfl, rfl, z_end hP hK hD [1, 0] rfl rfl [0] rfl ht hW.alike⟩, hS.F ht⟩) hS.2.2 dL_canWork_21)
  · exact hw_1.elim
end
section
theorem z_in0 {r : Int32} {v : Int64} (h : (r = 1 ∧ 0 ≤ v ∧ v ≤ -1) ∨ (r = 0 ∧ ¬ (0 ≤ v ∧ v ≤ -1))) : r = 0 := by
  rcases h with ⟨-, h1, h2⟩ | ⟨h, -⟩
  · rw [Int64.le_iff_toInt_le] at h1 h2
    have e1 : (0 : Int64).toInt = 0 := by decide
    have e2 : (-1 : Int64).toInt = -1 := by decide
    rw [e1] at h1
    rw [e2] at h2
    omega
  · exact h
theorem dJx4a65c_size_8abf5_0 : decode cJx4a65c_size_8abf5 0 = .ok (.aload_n 0, 1) := by decide +kernel
theorem dJx4a65c_size_8abf5_1 : decode cJx4a65c_size_8abf5 1 = .ok (.getfield 48, 3) := by decide +kernel
theorem zw_1068 : Cond.fieldLink RJx4a65c 48 "java/util/ArrayList" "size" "I" ∈ z_Ts := z_m 1068 (by decide +kernel) (by decide +kernel)
set_option maxRecDepth 20000 in
theorem zin_Jx4a65c : ∀ w ∈ u_ws RJx4a65c TJx4a65c 3, w ∈ z_Ts := z_ins (by decide +kernel) (by decide +kernel)
theorem dJx4a65c_size_8abf5_4 : decode cJx4a65c_size_8abf5 4 = .ok (.ireturn, 1) := by decide +kernel
set_option maxHeartbeats 4000000 in
set_option maxRecDepth 100000 in
theorem c_J_size (l : Launch) (D : va_G) (q : Nat) (mc : Int32) (ed : Nat) (n : Int32) (sz : Nat)  : Met l yJx4a65c_size_8abf5 [Cond.code yJx4a65c_size_8abf5 cJx4a65c_size_8abf5 1 (some .int)] ({ frames := 0, cells := 0, slots := 0, locals := 0 }) (z_Pc D [.ref q] [(q, .inr (1, [.int mc, .ref ed, .int n]))] [] sz) (va_Qi (fun (r : Int32) (_ : Unit) => r = n) (fun _ t => z_W D [(q, .inr (1, [.int mc, .ref ed, .int n]))] [] (va_A [(q, .inr (1, [.int mc, .ref ed, .int n]))] sz) t) (va_A [(q, .inr (1, [.int mc, .ref ed, .int n]))] sz)) 0 0 (va_A [(q, .inr (1, [.int mc, .ref ed, .int n]))] sz) := by
  refine Met.ofW (cc := cJx4a65c_size_8abf5) (maxL := 1) (ret := (some .int)) (by decide +kernel) rfl ?_
  intro p e s m args below meth c s₁ B hml hv
  obtain ⟨rfl, hsz, hP, hK, hD0, hE, hX0⟩ := hv
  have hx := B.exec
  have hb := B.bytes
  have hr := B.returns
  have hts := z_E.ts (args := [.ref q].toArray) hE
  have hown : s.vm.findClass RJx4a65c = some m.cls := findClass_of_methodNamed B.named
  have hlocks := B.notSynchronized
  subst hsz
  have hD := hD0.self (sz := s.heap.size)
  generalize hAe : va_A [(q, .inr (1, [.int mc, .ref ed, .int n]))] s.heap.size = A at hD hX0 ⊢
  have hX : z_X A s s.heap := hX0
  have hA : ∀ q : Nat, s.heap.size ≤ q → A q := fun q h => by rw [← hAe]; exact Or.inr h
  have hS : va_S A s.heap s.heap [] := va_S.rf
  have hP : va_P D vwCl [(q, .inr (1, [.int mc, .ref ed, .int n]))] s.heap := hP
  have hl := lv_entry ([.ref q]) (n := 1) (Nat.le_of_ble_eq_true rfl)
  rw [lg_entry_eq]
  generalize (lg_sl ([.ref q]) ++ List.replicate (1 - (lg_sl ([.ref q])).length) Slot.unset).toArray = ls at hl ⊢
  have hl : lv_has ls 1 [(0, .ref q)] := hl
  skip
  refine lv_aload_n hx hb dJx4a65c_size_8abf5_0 rfl (lv_at hl 0 rfl) ?_
  refine va_get (D := D) (ci := 1) (v := .int n) (C := RJx4a65c) (T := TJx4a65c) (N := 3) hx hb hts zin_Jx4a65c hown hK hP 0 rfl rfl 2 (by decide) (hts _ zw_1068) (fun _ h9 => h9) rfl dJx4a65c_size_8abf5_1 ?_
  exact W.iret (v := n) hx hb hr (fun t ht hW => ⟨⟨n, (), rfl, rfl, z_end hP hK hD [0] rfl rfl [] rfl ht hW.alike⟩, hS.F ht⟩) hS.2.2 dJx4a65c_size_8abf5_4
theorem dX8_in_0 : decode cX8_in 0 = .ok (.lload_n 0, 1) := by decide +kernel
theorem dX8_in_1 : decode cX8_in 1 = .ok (.lload_n 2, 1) := by decide +kernel
theorem dX8_in_2 : decode cX8_in 2 = .ok (.lcmp, 1) := by decide +kernel
theorem dX8_in_3 : decode cX8_in 3 = .ok (.ifCond .lt 14, 3) := by decide +kernel
theorem dX8_in_17 : decode cX8_in 17 = .ok (.iconst 0, 1) := by decide +kernel
theorem dX8_in_18 : decode cX8_in 18 = .ok (.ireturn, 1) := by decide +kernel
theorem dX8_in_6 : decode cX8_in 6 = .ok (.lload_n 0, 1) := by decide +kernel
theorem dX8_in_7 : decode cX8_in 7 = .ok (.lload 4, 2) := by decide +kernel
theorem dX8_in_9 : decode cX8_in 9 = .ok (.lcmp, 1) := by decide +kernel
theorem dX8_in_10 : decode cX8_in 10 = .ok (.ifCond .gt 7, 3) := by decide +kernel
theorem dX8_in_13 : decode cX8_in 13 = .ok (.iconst 1, 1) := by decide +kernel
theorem dX8_in_14 : decode cX8_in 14 = .ok (.goto 4, 3) := by decide +kernel
set_option maxHeartbeats 4000000 in
set_option maxRecDepth 100000 in
theorem c_X8_in (l : Launch) (D : va_G) (v : Int64) (lo : Int64) (hi : Int64) (sz : Nat)  : Met l yX8_in [Cond.code yX8_in cX8_in 6 (some .boolean)] ({ frames := 0, cells := 0, slots := 0, locals := 0 }) (z_Pc D [.long v, .long lo, .long hi] [] [] sz) (va_Qi (fun (r : Int32) (_ : Unit) => (r = 1 ∧ lo ≤ v ∧ v ≤ hi) ∨ (r = 0 ∧ ¬ (lo ≤ v ∧ v ≤ hi))) (fun _ t => z_W D [] [] (va_A [] sz) t) (va_A [] sz)) 0 0 (va_A [] sz) := by
  refine Met.ofW (cc := cX8_in) (maxL := 6) (ret := (some .boolean)) (by decide +kernel) rfl ?_
  intro p e s m args below meth c s₁ B hml hv
  obtain ⟨rfl, hsz, hP, hK, hD0, hE, hX0⟩ := hv
  have hx := B.exec
  have hb := B.bytes
  have hr := B.returns
  have hts := z_E.ts (args := [.long v, .long lo, .long hi].toArray) hE
  have hown : s.vm.findClass RX8 = some m.cls := findClass_of_methodNamed B.named
  have hlocks := B.notSynchronized
  subst hsz
  have hD := hD0.self (sz := s.heap.size)
  generalize hAe : va_A [] s.heap.size = A at hD hX0 ⊢
  have hX : z_X A s s.heap := hX0
  have hA : ∀ q : Nat, s.heap.size ≤ q → A q := fun q h => by rw [← hAe]; exact Or.inr h
  have hS : va_S A s.heap s.heap [] := va_S.rf
  have hP : va_P D vwCl [] s.heap := hP
  have hl := lv_entry ([.long v, .long lo, .long hi]) (n := 6) (Nat.le_of_ble_eq_true rfl)
  rw [lg_entry_eq]
  generalize (lg_sl ([.long v, .long lo, .long hi]) ++ List.replicate (6 - (lg_sl ([.long v, .long lo, .long hi])).length) Slot.unset).toArray = ls at hl ⊢
  have hl : lv_has ls 6 [(0, .long v), (2, .long lo), (4, .long hi)] := hl
  skip
  refine lv_lload_n hx hb dX8_in_0 rfl (lv_at hl 0 rfl) ?_
  refine lv_lload_n hx hb dX8_in_1 rfl (lv_at hl 1 rfl) ?_
  refine W.lcmp hx hb dX8_in_2 ?_
  refine lv_if_lt (tgt := 17) hx hb dX8_in_3 (by decide) (fun c_1 => ?_) (fun c_1 => ?_)
  · refine lv_iconst (v := 0) hx hb dX8_in_17 (by decide) ?_
    exact W.zret (v := 0) hx hb hr (by first | rfl | decide) (fun t ht hW => ⟨⟨0, (), rfl, Or.inr ⟨rfl, fun h => Int64.not_le.mpr ((lg_cmp_lt _ _).mp c_1) h.1⟩, z_end hP hK hD [] rfl rfl [] rfl ht hW.alike⟩, hS.F ht⟩) hS.2.2 dX8_in_18
  · refine lv_lload_n hx hb dX8_in_6 rfl (lv_at hl 0 rfl) ?_
    refine lv_lload hx hb dX8_in_7 (lv_at hl 2 rfl) ?_
    refine W.lcmp hx hb dX8_in_9 ?_
    refine lv_if_gt (tgt := 17) hx hb dX8_in_10 (by decide) (fun c_2 => ?_) (fun c_2 => ?_)
    · refine lv_iconst (v := 0) hx hb dX8_in_17 (by decide) ?_
      exact W.zret (v := 0) hx hb hr (by first | rfl | decide) (fun t ht hW => ⟨⟨0, (), rfl, Or.inr ⟨rfl, fun h => Int64.not_le.mpr ((lg_cmp_gt _ _).mp c_2) h.2⟩, z_end hP hK hD [] rfl rfl [] rfl ht hW.alike⟩, hS.F ht⟩) hS.2.2 dX8_in_18
    · refine lv_iconst (v := 1) hx hb dX8_in_13 (by decide) ?_
      refine lv_goto (tgt := 18) hx hb dX8_in_14 (by decide) ?_
      exact W.zret (v := 1) hx hb hr (by first | rfl | decide) (fun t ht hW => ⟨⟨1, (), rfl, Or.inl ⟨rfl, Int64.not_lt.mp (fun h => c_1 ((lg_cmp_lt _ _).mpr h)), Int64.not_lt.mp (fun h => c_2 ((lg_cmp_gt _ _).mpr h))⟩, z_end hP hK hD [] rfl rfl [] rfl ht hW.alike⟩, hS.F ht⟩) hS.2.2 dX8_in_18
theorem dX8_isUnit_0 : decode cX8_isUnit 0 = .ok (.iload_n 1, 1) := by decide +kernel
theorem dX8_isUnit_1 : decode cX8_isUnit 1 = .ok (.i2l, 1) := by decide +kernel
theorem dX8_isUnit_2 : decode cX8_isUnit 2 = .ok (.lconst 0, 1) := by decide +kernel
theorem dX8_isUnit_3 : decode cX8_isUnit 3 = .ok (.aload_n 0, 1) := by decide +kernel
theorem dX8_isUnit_4 : decode cX8_isUnit 4 = .ok (.getfield 10, 3) := by decide +kernel
theorem zw_1081 : Cond.fieldLink RX8 10 "TwofrontArcadeModel" "units" "Ljava/util/ArrayList;" ∈ z_Ts := z_m 1081 (by decide +kernel) (by decide +kernel)
set_option maxRecDepth 20000 in
theorem zin_X8 : ∀ w ∈ u_ws RX8 TX8 9, w ∈ z_Ts := z_ins (by decide +kernel) (by decide +kernel)
theorem dX8_isUnit_7 : decode cX8_isUnit 7 = .ok (.invokevirtual 33, 3) := by decide +kernel
theorem zw_1125 : Cond.methodLink RX8 33 yJx4a65c_size_8abf5 ∈ z_Ts := z_m 1125 (by decide +kernel) (by decide +kernel)
theorem zw_1126 : Cond.instanceMethod yJx4a65c_size_8abf5 ∈ z_Ts := z_m 1126 (by decide +kernel) (by decide +kernel)
theorem zw_1127 : Cond.selects RJx4a65c yJx4a65c_size_8abf5 yJx4a65c_size_8abf5 ∈ z_Ts := z_m 1127 (by decide +kernel) (by decide +kernel)
theorem zw_99 : Cond.initialized RJx4a65c ∈ z_Ts := z_m 99 (by decide +kernel) (by decide +kernel)
theorem zw_1128 : Cond.code yJx4a65c_size_8abf5 cJx4a65c_size_8abf5 1 (some .int) ∈ z_Ts := z_m 1128 (by decide +kernel) (by decide +kernel)
theorem dX8_isUnit_10 : decode cX8_isUnit 10 = .ok (.iconst 1, 1) := by decide +kernel
theorem dX8_isUnit_11 : decode cX8_isUnit 11 = .ok (.isub, 1) := by decide +kernel
theorem dX8_isUnit_12 : decode cX8_isUnit 12 = .ok (.i2l, 1) := by decide +kernel
theorem dX8_isUnit_13 : decode cX8_isUnit 13 = .ok (.invokestatic 37, 3) := by decide +kernel
theorem zw_1118 : Cond.methodLink RX8 37 yX8_in ∈ z_Ts := z_m 1118 (by decide +kernel) (by decide +kernel)
theorem zw_96 : Cond.initialized RX8 ∈ z_Ts := z_m 96 (by decide +kernel) (by decide +kernel)
theorem zw_1120 : Cond.code yX8_in cX8_in 6 (some .boolean) ∈ z_Ts := z_m 1120 (by decide +kernel) (by decide +kernel)
theorem zw_1119 : Cond.static yX8_in ∈ z_Ts := z_m 1119 (by decide +kernel) (by decide +kernel)
theorem dX8_isUnit_16 : decode cX8_isUnit 16 = .ok (.ireturn, 1) := by decide +kernel
set_option maxHeartbeats 4000000 in
set_option maxRecDepth 100000 in
theorem f_X8_isUnit (l : Launch) (D : va_G) (m0 : Nat) (qu : Nat) (qs : Nat) (qc : Nat) (qp : Nat) (th : Int32) (eu : Nat) (a0 : Int32) (sz : Nat)  : Met l yX8_isUnit [Cond.code yX8_isUnit cX8_isUnit 2 (some .boolean)] ({ frames := 2, cells := 0, slots := 0, locals := 60 }) (z_Pc D [.ref m0, .int a0] [(m0, .inr (10, [.int th, .ref qu, .ref qs, .ref qc, .ref qp, .int 0, .int (-1), .int 0, .null])), (qu, .inr (1, [.int 0, .ref eu, .int 0]))] [] sz) (va_Qi (fun (r : Int32) (_ : Unit) => r = 0) (fun _ t => z_W D [(m0, .inr (10, [.int th, .ref qu, .ref qs, .ref qc, .ref qp, .int 0, .int (-1), .int 0, .null])), (qu, .inr (1, [.int 0, .ref eu, .int 0]))] [] (va_A [(m0, .inr (10, [.int th, .ref qu, .ref qs, .ref qc, .ref qp, .int 0, .int (-1), .int 0, .null])), (qu, .inr (1, [.int 0, .ref eu, .int 0]))] sz) t) (va_A [(m0, .inr (10, [.int th, .ref qu, .ref qs, .ref qc, .ref qp, .int 0, .int (-1), .int 0, .null])), (qu, .inr (1, [.int 0, .ref eu, .int 0]))] sz)) 0 0 (va_A [(m0, .inr (10, [.int th, .ref qu, .ref qs, .ref qc, .ref qp, .int 0, .int (-1), .int 0, .null])), (qu, .inr (1, [.int 0, .ref eu, .int 0]))] sz) := by
  refine Met.ofW (cc := cX8_isUnit) (maxL := 2) (ret := (some .boolean)) (by decide +kernel) rfl ?_
  intro p e s m args below meth c s₁ B hml hv
  obtain ⟨rfl, hsz, hP, hK, hD0, hE, hX0⟩ := hv
  have hx := B.exec
  have hb := B.bytes
  have hr := B.returns
  have hts := z_E.ts (args := [.ref m0, .int a0].toArray) hE
  have hown : s.vm.findClass RX8 = some m.cls := findClass_of_methodNamed B.named
  have hlocks := B.notSynchronized
  subst hsz
  have hD := hD0.self (sz := s.heap.size)
  generalize hAe : va_A [(m0, .inr (10, [.int th, .ref qu, .ref qs, .ref qc, .ref qp, .int 0, .int (-1), .int 0, .null])), (qu, .inr (1, [.int 0, .ref eu, .int 0]))] s.heap.size = A at hD hX0 ⊢
  have hX : z_X A s s.heap := hX0
  have hA : ∀ q : Nat, s.heap.size ≤ q → A q := fun q h => by rw [← hAe]; exact Or.inr h
  have hS : va_S A s.heap s.heap [] := va_S.rf
  have hP : va_P D vwCl [(m0, .inr (10, [.int th, .ref qu, .ref qs, .ref qc, .ref qp, .int 0, .int (-1), .int 0, .null])), (qu, .inr (1, [.int 0, .ref eu, .int 0]))] s.heap := hP
  have hl := lv_entry ([.ref m0, .int a0]) (n := 2) (Nat.le_of_ble_eq_true rfl)
  rw [lg_entry_eq]
  generalize (lg_sl ([.ref m0, .int a0]) ++ List.replicate (2 - (lg_sl ([.ref m0, .int a0])).length) Slot.unset).toArray = ls at hl ⊢
  have hl : lv_has ls 2 [(0, .ref m0), (1, .int a0)] := hl
  skip
  refine lv_iload_n hx hb dX8_isUnit_0 rfl (lv_at hl 1 rfl) ?_
  refine lv_i2l hx hb dX8_isUnit_1 rfl ?_
  refine lv_lconst (v := 0) hx hb dX8_isUnit_2 (by decide) ?_
  refine lv_aload_n hx hb dX8_isUnit_3 rfl (lv_at hl 0 rfl) ?_
  refine va_get (D := D) (ci := 10) (v := .ref qu) (C := RX8) (T := TX8) (N := 9) hx hb hts zin_X8 hown hK hP 0 rfl rfl 1 (by decide) (hts _ zw_1081) (fun _ h9 => h9) rfl dX8_isUnit_4 ?_
  obtain ⟨hb_1, hc_1⟩ := z_call (wc := [(qu, .inr (1, [.int 0, .ref eu, .int 0]))]) (tc := []) ([.ref qu]) hP hK hD hS hA hE hX [1] rfl rfl [] rfl
  have hF_1 := va_free (wc := [(qu, .inr (1, [.int 0, .ref eu, .int 0]))]) hD hS hA [1] rfl
  refine va_calli (va_runV (As := []) (rest := [.long 0, .long (a0).toInt64]) ⟨hx, hb, hml, hown, hts⟩ (c_J_size l D qu 0 eu 0 _ ) (z_cV 0 hE zw_1125 zw_1126 zw_1127 zw_99 zw_1128 rfl rfl rfl (by decide +kernel) ⟨(Nat.le_of_ble_eq_true rfl), (Nat.le_of_ble_eq_true rfl)⟩) ⟨hb_1, va_recv hK hP (ci := 1) (q0 := 1) rfl rfl, hc_1⟩ rfl rfl hl.1 rfl (lv_room (Nat.le_of_ble_eq_true rfl)) dX8_isUnit_7 ⟨(Nat.le_of_ble_eq_true rfl), (Nat.le_of_ble_eq_true rfl)⟩) hS (fun q _ h => hF_1 q h) hF_1 (fun r_1 u_1 t_1 H1 locs ht_1 hvm_1 hw_1 hB_1 hz_1 hk_1 hS1 => ?_)
  obtain ⟨hP, hK, hD⟩ := z_back (wc := [(qu, .inr (1, [.int 0, .ref eu, .int 0]))]) (wr := [(m0, .inr (10, [.int th, .ref qu, .ref qs, .ref qc, .ref qp, .int 0, .int (-1), .int 0, .null]))]) (w1 := [(qu, .inr (1, [.int 0, .ref eu, .int 0]))]) (tr := []) hP hK hD [1] [0] rfl rfl rfl (by decide) ht_1 hvm_1 hk_1 hF_1 [] rfl hB_1
  have hS := hS1
  have hP : va_P D vwCl [(m0, .inr (10, [.int th, .ref qu, .ref qs, .ref qc, .ref qp, .int 0, .int (-1), .int 0, .null])), (qu, .inr (1, [.int 0, .ref eu, .int 0]))] H1 := hP
  have hD : va_D A [(m0, .inr (10, [.int th, .ref qu, .ref qs, .ref qc, .ref qp, .int 0, .int (-1), .int 0, .null])), (qu, .inr (1, [.int 0, .ref eu, .int 0]))] := hD
  have hK : va_K D vwCl [] s := hK
  clear hS1
  obtain rfl : r_1 = 0 := hw_1
  refine lv_iconst (v := 1) hx hb dX8_isUnit_10 (by decide) ?_
  refine lv_isub hx hb dX8_isUnit_11 ?_
  refine lv_topi (fun x_2 ex_2 => ?_)
  obtain rfl : x_2 = (-1) := ex_2.trans (by first | rfl | decide | simp)
  refine lv_i2l (v := (-1)) hx hb dX8_isUnit_12 (by decide) ?_
  obtain ⟨hb_3, hc_3⟩ := z_call (wc := []) (tc := []) ([.long (a0).toInt64, .long 0, .long (-1)]) hP hK hD hS hA hE hX [] rfl rfl [] rfl
  have hF_3 := va_free (wc := []) hD hS hA [] rfl
  refine va_calli (va_runS (As := [.long (a0).toInt64, .long 0, .long (-1)]) (rest := []) ⟨hx, hb, hml, hown, hts⟩ (c_X8_in l D ((a0).toInt64) 0 (-1) _ ) (⟨z_cB 3 hE zw_1118 zw_96 zw_1120 rfl rfl rfl (by decide +kernel) ⟨(Nat.le_of_ble_eq_true rfl), (Nat.le_of_ble_eq_true rfl)⟩, hE.ts _ zw_1119⟩) ⟨hb_3, hc_3⟩ rfl rfl hl.1 rfl (lv_room (Nat.le_of_ble_eq_true rfl)) dX8_isUnit_13 ⟨(Nat.le_of_ble_eq_true rfl), (Nat.le_of_ble_eq_true rfl)⟩) hS (fun q _ h => hF_3 q h) hF_3 (fun r_3 u_3 t_3 H1 locs ht_3 hvm_3 hw_3 hB_3 hz_3 hk_3 hS1 => ?_)
  obtain ⟨hP, hK, hD⟩ := z_back (wc := []) (wr := [(m0, .inr (10, [.int th, .ref qu, .ref qs, .ref qc, .ref qp, .int 0, .int (-1), .int 0, .null])), (qu, .inr (1, [.int 0, .ref eu, .int 0]))]) (w1 := []) (tr := []) hP hK hD [] [0, 1] rfl rfl rfl (by decide) ht_3 hvm_3 hk_3 hF_3 [] rfl hB_3
  have hS := hS1
  have hP : va_P D vwCl [(m0, .inr (10, [.int th, .ref qu, .ref qs, .ref qc, .ref qp, .int 0, .int (-1), .int 0, .null])), (qu, .inr (1, [.int 0, .ref eu, .int 0]))] H1 := hP
  have hD : va_D A [(m0, .inr (10, [.int th, .ref qu, .ref qs, .ref qc, .ref qp, .int 0, .int (-1), .int 0, .null])), (qu, .inr (1, [.int 0, .ref eu, .int 0]))] := hD
  have hK : va_K D vwCl [] s := hK
  clear hS1
  obtain rfl : r_3 = 0 := z_in0 hw_3
  exact W.zret (v := 0) hx hb hr (by first | rfl | decide) (fun t ht hW => ⟨⟨0, (), rfl, rfl, z_end hP hK hD [0, 1] rfl rfl [] rfl ht hW.alike⟩, hS.F ht⟩) hS.2.2 dX8_isUnit_16
theorem dX8_noUnit_0 : decode cX8_noUnit 0 = .ok (.aload_n 0, 1) := by decide +kernel
theorem dX8_noUnit_1 : decode cX8_noUnit 1 = .ok (.aload_n 0, 1) := by decide +kernel
theorem dX8_noUnit_2 : decode cX8_noUnit 2 = .ok (.iload_n 1, 1) := by decide +kernel
theorem dX8_noUnit_3 : decode cX8_noUnit 3 = .ok (.invokevirtual 41, 3) := by decide +kernel
theorem zw_1225 : Cond.methodLink RX8 41 yX8_isUnit ∈ z_Ts := z_m 1225 (by decide +kernel) (by decide +kernel)
theorem zw_1227 : Cond.instanceMethod yX8_isUnit ∈ z_Ts := z_m 1227 (by decide +kernel) (by decide +kernel)
theorem zw_62 : Cond.selects RX8 yX8_isUnit yX8_isUnit ∈ z_Ts := z_m 62 (by decide +kernel) (by decide +kernel)
theorem zw_1228 : Cond.code yX8_isUnit cX8_isUnit 2 (some .boolean) ∈ z_Ts := z_m 1228 (by decide +kernel) (by decide +kernel)
theorem dX8_noUnit_6 : decode cX8_noUnit 6 = .ok (.ifCond .eq 7, 3) := by decide +kernel
theorem dX8_noUnit_13 : decode cX8_noUnit 13 = .ok (.iconst 1, 1) := by decide +kernel
theorem dX8_noUnit_14 : decode cX8_noUnit 14 = .ok (.putfield 30, 3) := by decide +kernel
theorem zw_1080 : Cond.fieldLink RX8 30 "TwofrontArcadeModel" "thrown" "I" ∈ z_Ts := z_m 1080 (by decide +kernel) (by decide +kernel)
theorem dX8_noUnit_17 : decode cX8_noUnit 17 = .ok (.aload_n 0, 1) := by decide +kernel
theorem dX8_noUnit_18 : decode cX8_noUnit 18 = .ok (.getfield 30, 3) := by decide +kernel
theorem dX8_noUnit_21 : decode cX8_noUnit 21 = .ok (.ifCond .le 7, 3) := by decide +kernel
theorem dX8_noUnit_24 : decode cX8_noUnit 24 = .ok (.iconst 1, 1) := by decide +kernel
theorem dX8_noUnit_25 : decode cX8_noUnit 25 = .ok (.goto 4, 3) := by decide +kernel
theorem dX8_noUnit_29 : decode cX8_noUnit 29 = .ok (.ireturn, 1) := by decide +kernel
set_option maxHeartbeats 4000000 in
set_option maxRecDepth 100000 in
theorem f_X8_noUnit (l : Launch) (D : va_G) (m0 : Nat) (qu : Nat) (qs : Nat) (qc : Nat) (qp : Nat) (th : Int32) (eu : Nat) (a0 : Int32) (sz : Nat)  : Met l yX8_noUnit [Cond.code yX8_noUnit cX8_noUnit 2 (some .boolean)] ({ frames := 3, cells := 0, slots := 0, locals := 90 }) (z_Pc D [.ref m0, .int a0] [(m0, .inr (10, [.int th, .ref qu, .ref qs, .ref qc, .ref qp, .int 0, .int (-1), .int 0, .null])), (qu, .inr (1, [.int 0, .ref eu, .int 0]))] [] sz) (va_Qi (fun (r : Int32) (_ : Unit) => r = 1) (fun _ t => z_W D [(m0, .inr (10, [.int 1, .ref qu, .ref qs, .ref qc, .ref qp, .int 0, .int (-1), .int 0, .null])), (qu, .inr (1, [.int 0, .ref eu, .int 0]))] [] (va_A [(m0, .inr (10, [.int th, .ref qu, .ref qs, .ref qc, .ref qp, .int 0, .int (-1), .int 0, .null])), (qu, .inr (1, [.int 0, .ref eu, .int 0]))] sz) t) (va_A [(m0, .inr (10, [.int th, .ref qu, .ref qs, .ref qc, .ref qp, .int 0, .int (-1), .int 0, .null])), (qu, .inr (1, [.int 0, .ref eu, .int 0]))] sz)) 0 0 (va_A [(m0, .inr (10, [.int th, .ref qu, .ref qs, .ref qc, .ref qp, .int 0, .int (-1), .int 0, .null])), (qu, .inr (1, [.int 0, .ref eu, .int 0]))] sz) := by
  refine Met.ofW (cc := cX8_noUnit) (maxL := 2) (ret := (some .boolean)) (by decide +kernel) rfl ?_
  intro p e s m args below meth c s₁ B hml hv
  obtain ⟨rfl, hsz, hP, hK, hD0, hE, hX0⟩ := hv
  have hx := B.exec
  have hb := B.bytes
  have hr := B.returns
  have hts := z_E.ts (args := [.ref m0, .int a0].toArray) hE
  have hown : s.vm.findClass RX8 = some m.cls := findClass_of_methodNamed B.named
  have hlocks := B.notSynchronized
  subst hsz
  have hD := hD0.self (sz := s.heap.size)
  generalize hAe : va_A [(m0, .inr (10, [.int th, .ref qu, .ref qs, .ref qc, .ref qp, .int 0, .int (-1), .int 0, .null])), (qu, .inr (1, [.int 0, .ref eu, .int 0]))] s.heap.size = A at hD hX0 ⊢
  have hX : z_X A s s.heap := hX0
  have hA : ∀ q : Nat, s.heap.size ≤ q → A q := fun q h => by rw [← hAe]; exact Or.inr h
  have hS : va_S A s.heap s.heap [] := va_S.rf
  have hP : va_P D vwCl [(m0, .inr (10, [.int th, .ref qu, .ref qs, .ref qc, .ref qp, .int 0, .int (-1), .int 0, .null])), (qu, .inr (1, [.int 0, .ref eu, .int 0]))] s.heap := hP
  have hl := lv_entry ([.ref m0, .int a0]) (n := 2) (Nat.le_of_ble_eq_true rfl)
  rw [lg_entry_eq]
  generalize (lg_sl ([.ref m0, .int a0]) ++ List.replicate (2 - (lg_sl ([.ref m0, .int a0])).length) Slot.unset).toArray = ls at hl ⊢
  have hl : lv_has ls 2 [(0, .ref m0), (1, .int a0)] := hl
  skip
  refine lv_aload_n hx hb dX8_noUnit_0 rfl (lv_at hl 0 rfl) ?_
  refine lv_aload_n hx hb dX8_noUnit_1 rfl (lv_at hl 0 rfl) ?_
  refine lv_iload_n hx hb dX8_noUnit_2 rfl (lv_at hl 1 rfl) ?_
  obtain ⟨hb_1, hc_1⟩ := z_call (wc := [(m0, .inr (10, [.int th, .ref qu, .ref qs, .ref qc, .ref qp, .int 0, .int (-1), .int 0, .null])), (qu, .inr (1, [.int 0, .ref eu, .int 0]))]) (tc := []) ([.ref m0, .int a0]) hP hK hD hS hA hE hX [0, 1] rfl rfl [] rfl
  have hF_1 := va_free (wc := [(m0, .inr (10, [.int th, .ref qu, .ref qs, .ref qc, .ref qp, .int 0, .int (-1), .int 0, .null])), (qu, .inr (1, [.int 0, .ref eu, .int 0]))]) hD hS hA [0, 1] rfl
  refine va_calli (va_runV (As := [.int a0]) (rest := [.ref m0]) ⟨hx, hb, hml, hown, hts⟩ (f_X8_isUnit l D m0 qu qs qc qp th eu a0 _ ) (z_cV 1 hE zw_1225 zw_1227 zw_62 zw_96 zw_1228 rfl rfl rfl (by decide +kernel) ⟨(Nat.le_of_ble_eq_true rfl), (Nat.le_of_ble_eq_true rfl)⟩) ⟨hb_1, va_recv hK hP (ci := 10) (q0 := 0) rfl rfl, hc_1⟩ rfl rfl hl.1 rfl (lv_room (Nat.le_of_ble_eq_true rfl)) dX8_noUnit_3 ⟨(Nat.le_of_ble_eq_true rfl), (Nat.le_of_ble_eq_true rfl)⟩) hS (fun q _ h => hF_1 q h) hF_1 (fun r_1 u_1 t_1 H1 locs ht_1 hvm_1 hw_1 hB_1 hz_1 hk_1 hS1 => ?_)
  obtain ⟨hP, hK, hD⟩ := z_back (wc := [(m0, .inr (10, [.int th, .ref qu, .ref qs, .ref qc, .ref qp, .int 0, .int (-1), .int 0, .null])), (qu, .inr (1, [.int 0, .ref eu, .int 0]))]) (wr := []) (w1 := [(m0, .inr (10, [.int th, .ref qu, .ref qs, .ref qc, .ref qp, .int 0, .int (-1), .int 0, .null])), (qu, .inr (1, [.int 0, .ref eu, .int 0]))]) (tr := []) hP hK hD [0, 1] [] rfl rfl rfl (by decide) ht_1 hvm_1 hk_1 hF_1 [] rfl hB_1
  have hS := hS1
  have hP : va_P D vwCl [(m0, .inr (10, [.int th, .ref qu, .ref qs, .ref qc, .ref qp, .int 0, .int (-1), .int 0, .null])), (qu, .inr (1, [.int 0, .ref eu, .int 0]))] H1 := hP
  have hD : va_D A [(m0, .inr (10, [.int th, .ref qu, .ref qs, .ref qc, .ref qp, .int 0, .int (-1), .int 0, .null])), (qu, .inr (1, [.int 0, .ref eu, .int 0]))] := hD
  have hK : va_K D vwCl [] s := hK
  clear hS1
  obtain rfl : r_1 = 0 := hw_1
  refine lv_if_eq (tgt := 13) hx hb dX8_noUnit_6 (by decide) (fun c_2 => ?_) (fun c_2 => absurd (by decide) c_2)
  refine lv_iconst (v := 1) hx hb dX8_noUnit_13 (by decide) ?_
  refine va_put (D := D) (ci := 10) (v := .int 1) (ty := .int) (C := RX8) (T := TX8) (N := 9) hx hb hts zin_X8 tyX8 tyX8_ok nmX8 hown hK hP hD hS 0 rfl rfl 0 (by decide) (hts _ zw_1080) (fun _ h9 => h9) rfl (by decide +kernel) rfl rfl (Nat.le_of_ble_eq_true rfl) dX8_noUnit_14 (fun H locs hP hD hS => ?_)
  have hP : va_P D vwCl [(m0, .inr (10, [.int 1, .ref qu, .ref qs, .ref qc, .ref qp, .int 0, .int (-1), .int 0, .null])), (qu, .inr (1, [.int 0, .ref eu, .int 0]))] H := hP
  have hD : va_D A [(m0, .inr (10, [.int 1, .ref qu, .ref qs, .ref qc, .ref qp, .int 0, .int (-1), .int 0, .null])), (qu, .inr (1, [.int 0, .ref eu, .int 0]))] := hD
  refine lv_aload_n hx hb dX8_noUnit_17 rfl (lv_at hl 0 rfl) ?_
  refine va_get (D := D) (ci := 10) (v := .int 1) (C := RX8) (T := TX8) (N := 9) hx hb hts zin_X8 hown hK hP 0 rfl rfl 0 (by decide) (hts _ zw_1080) (fun _ h9 => h9) rfl dX8_noUnit_18 ?_
  refine lv_if_le (tgt := 28) hx hb dX8_noUnit_21 (by decide) (fun c_3 => absurd c_3 (by decide)) (fun c_3 => ?_)
  refine lv_iconst (v := 1) hx hb dX8_noUnit_24 (by decide) ?_
  refine lv_goto (tgt := 29) hx hb dX8_noUnit_25 (by decide) ?_
  exact W.zret (v := 1) hx hb hr (by first | rfl | decide) (fun t ht hW => ⟨⟨1, (), rfl, rfl, z_end hP hK hD [0, 1] rfl rfl [] rfl ht hW.alike⟩, hS.F ht⟩) hS.2.2 dX8_noUnit_29
theorem dX8_noShop_0 : decode cX8_noShop 0 = .ok (.aload_n 0, 1) := by decide +kernel
theorem dX8_noShop_1 : decode cX8_noShop 1 = .ok (.iload_n 1, 1) := by decide +kernel
theorem dX8_noShop_2 : decode cX8_noShop 2 = .ok (.i2l, 1) := by decide +kernel
theorem dX8_noShop_3 : decode cX8_noShop 3 = .ok (.lconst 0, 1) := by decide +kernel
theorem dX8_noShop_4 : decode cX8_noShop 4 = .ok (.aload_n 0, 1) := by decide +kernel
theorem dX8_noShop_5 : decode cX8_noShop 5 = .ok (.getfield 16, 3) := by decide +kernel
theorem zw_1082 : Cond.fieldLink RX8 16 "TwofrontArcadeModel" "shops" "Ljava/util/ArrayList;" ∈ z_Ts := z_m 1082 (by decide +kernel) (by decide +kernel)
theorem dX8_noShop_8 : decode cX8_noShop 8 = .ok (.invokevirtual 33, 3) := by decide +kernel
theorem dX8_noShop_11 : decode cX8_noShop 11 = .ok (.iconst 1, 1) := by decide +kernel
theorem dX8_noShop_12 : decode cX8_noShop 12 = .ok (.isub, 1) := by decide +kernel
theorem dX8_noShop_13 : decode cX8_noShop 13 = .ok (.i2l, 1) := by decide +kernel
theorem dX8_noShop_14 : decode cX8_noShop 14 = .ok (.invokestatic 37, 3) := by decide +kernel
theorem dX8_noShop_17 : decode cX8_noShop 17 = .ok (.ifCond .eq 7, 3) := by decide +kernel
theorem dX8_noShop_24 : decode cX8_noShop 24 = .ok (.iconst 1, 1) := by decide +kernel
theorem dX8_noShop_25 : decode cX8_noShop 25 = .ok (.putfield 30, 3) := by decide +kernel
theorem dX8_noShop_28 : decode cX8_noShop 28 = .ok (.aload_n 0, 1) := by decide +kernel
theorem dX8_noShop_29 : decode cX8_noShop 29 = .ok (.getfield 30, 3) := by decide +kernel
theorem dX8_noShop_32 : decode cX8_noShop 32 = .ok (.ifCond .le 7, 3) := by decide +kernel
theorem dX8_noShop_35 : decode cX8_noShop 35 = .ok (.iconst 1, 1) := by decide +kernel
theorem dX8_noShop_36 : decode cX8_noShop 36 = .ok (.goto 4, 3) := by decide +kernel
theorem dX8_noShop_40 : decode cX8_noShop 40 = .ok (.ireturn, 1) := by decide +kernel
set_option maxHeartbeats 4000000 in
set_option maxRecDepth 100000 in
theorem f_X8_noShop (l : Launch) (D : va_G) (m0 : Nat) (qu : Nat) (qs : Nat) (qc : Nat) (qp : Nat) (th : Int32) (es : Nat) (a0 : Int32) (sz : Nat)  : Met l yX8_noShop [Cond.code yX8_noShop cX8_noShop 2 (some .boolean)] ({ frames := 3, cells := 0, slots := 0, locals := 90 }) (z_Pc D [.ref m0, .int a0] [(m0, .inr (10, [.int th, .ref qu, .ref qs, .ref qc, .ref qp, .int 0, .int (-1), .int 0, .null])), (qs, .inr (1, [.int 0, .ref es, .int 0]))] [] sz) (va_Qi (fun (r : Int32) (_ : Unit) => r = 1) (fun _ t => z_W D [(m0, .inr (10, [.int 1, .ref qu, .ref qs, .ref qc, .ref qp, .int 0, .int (-1), .int 0, .null])), (qs, .inr (1, [.int 0, .ref es, .int 0]))] [] (va_A [(m0, .inr (10, [.int th, .ref qu, .ref qs, .ref qc, .ref qp, .int 0, .int (-1), .int 0, .null])), (qs, .inr (1, [.int 0, .ref es, .int 0]))] sz) t) (va_A [(m0, .inr (10, [.int th, .ref qu, .ref qs, .ref qc, .ref qp, .int 0, .int (-1), .int 0, .null])), (qs, .inr (1, [.int 0, .ref es, .int 0]))] sz)) 0 0 (va_A [(m0, .inr (10, [.int th, .ref qu, .ref qs, .ref qc, .ref qp, .int 0, .int (-1), .int 0, .null])), (qs, .inr (1, [.int 0, .ref es, .int 0]))] sz) := by
  refine Met.ofW (cc := cX8_noShop) (maxL := 2) (ret := (some .boolean)) (by decide +kernel) rfl ?_
  intro p e s m args below meth c s₁ B hml hv
  obtain ⟨rfl, hsz, hP, hK, hD0, hE, hX0⟩ := hv
  have hx := B.exec
  have hb := B.bytes
  have hr := B.returns
  have hts := z_E.ts (args := [.ref m0, .int a0].toArray) hE
  have hown : s.vm.findClass RX8 = some m.cls := findClass_of_methodNamed B.named
  have hlocks := B.notSynchronized
  subst hsz
  have hD := hD0.self (sz := s.heap.size)
  generalize hAe : va_A [(m0, .inr (10, [.int th, .ref qu, .ref qs, .ref qc, .ref qp, .int 0, .int (-1), .int 0, .null])), (qs, .inr (1, [.int 0, .ref es, .int 0]))] s.heap.size = A at hD hX0 ⊢
  have hX : z_X A s s.heap := hX0
  have hA : ∀ q : Nat, s.heap.size ≤ q → A q := fun q h => by rw [← hAe]; exact Or.inr h
  have hS : va_S A s.heap s.heap [] := va_S.rf
  have hP : va_P D vwCl [(m0, .inr (10, [.int th, .ref qu, .ref qs, .ref qc, .ref qp, .int 0, .int (-1), .int 0, .null])), (qs, .inr (1, [.int 0, .ref es, .int 0]))] s.heap := hP
  have hl := lv_entry ([.ref m0, .int a0]) (n := 2) (Nat.le_of_ble_eq_true rfl)
  rw [lg_entry_eq]
  generalize (lg_sl ([.ref m0, .int a0]) ++ List.replicate (2 - (lg_sl ([.ref m0, .int a0])).length) Slot.unset).toArray = ls at hl ⊢
  have hl : lv_has ls 2 [(0, .ref m0), (1, .int a0)] := hl
  skip
  refine lv_aload_n hx hb dX8_noShop_0 rfl (lv_at hl 0 rfl) ?_
  refine lv_iload_n hx hb dX8_noShop_1 rfl (lv_at hl 1 rfl) ?_
  refine lv_i2l hx hb dX8_noShop_2 rfl ?_
  refine lv_lconst (v := 0) hx hb dX8_noShop_3 (by decide) ?_
  refine lv_aload_n hx hb dX8_noShop_4 rfl (lv_at hl 0 rfl) ?_
  refine va_get (D := D) (ci := 10) (v := .ref qs) (C := RX8) (T := TX8) (N := 9) hx hb hts zin_X8 hown hK hP 0 rfl rfl 2 (by decide) (hts _ zw_1082) (fun _ h9 => h9) rfl dX8_noShop_5 ?_
  obtain ⟨hb_1, hc_1⟩ := z_call (wc := [(qs, .inr (1, [.int 0, .ref es, .int 0]))]) (tc := []) ([.ref qs]) hP hK hD hS hA hE hX [1] rfl rfl [] rfl
  have hF_1 := va_free (wc := [(qs, .inr (1, [.int 0, .ref es, .int 0]))]) hD hS hA [1] rfl
  refine va_calli (va_runV (As := []) (rest := [.long 0, .long (a0).toInt64, .ref m0]) ⟨hx, hb, hml, hown, hts⟩ (c_J_size l D qs 0 es 0 _ ) (z_cV 0 hE zw_1125 zw_1126 zw_1127 zw_99 zw_1128 rfl rfl rfl (by decide +kernel) ⟨(Nat.le_of_ble_eq_true rfl), (Nat.le_of_ble_eq_true rfl)⟩) ⟨hb_1, va_recv hK hP (ci := 1) (q0 := 1) rfl rfl, hc_1⟩ rfl rfl hl.1 rfl (lv_room (Nat.le_of_ble_eq_true rfl)) dX8_noShop_8 ⟨(Nat.le_of_ble_eq_true rfl), (Nat.le_of_ble_eq_true rfl)⟩) hS (fun q _ h => hF_1 q h) hF_1 (fun r_1 u_1 t_1 H1 locs ht_1 hvm_1 hw_1 hB_1 hz_1 hk_1 hS1 => ?_)
  obtain ⟨hP, hK, hD⟩ := z_back (wc := [(qs, .inr (1, [.int 0, .ref es, .int 0]))]) (wr := [(m0, .inr (10, [.int th, .ref qu, .ref qs, .ref qc, .ref qp, .int 0, .int (-1), .int 0, .null]))]) (w1 := [(qs, .inr (1, [.int 0, .ref es, .int 0]))]) (tr := []) hP hK hD [1] [0] rfl rfl rfl (by decide) ht_1 hvm_1 hk_1 hF_1 [] rfl hB_1
  have hS := hS1
  have hP : va_P D vwCl [(m0, .inr (10, [.int th, .ref qu, .ref qs, .ref qc, .ref qp, .int 0, .int (-1), .int 0, .null])), (qs, .inr (1, [.int 0, .ref es, .int 0]))] H1 := hP
  have hD : va_D A [(m0, .inr (10, [.int th, .ref qu, .ref qs, .ref qc, .ref qp, .int 0, .int (-1), .int 0, .null])), (qs, .inr (1, [.int 0, .ref es, .int 0]))] := hD
  have hK : va_K D vwCl [] s := hK
  clear hS1
  obtain rfl : r_1 = 0 := hw_1
  refine lv_iconst (v := 1) hx hb dX8_noShop_11 (by decide) ?_
  refine lv_isub hx hb dX8_noShop_12 ?_
  refine lv_topi (fun x_2 ex_2 => ?_)
  obtain rfl : x_2 = (-1) := ex_2.trans (by first | rfl | decide | simp)
  refine lv_i2l (v := (-1)) hx hb dX8_noShop_13 (by decide) ?_
  obtain ⟨hb_3, hc_3⟩ := z_call (wc := []) (tc := []) ([.long (a0).toInt64, .long 0, .long (-1)]) hP hK hD hS hA hE hX [] rfl rfl [] rfl
  have hF_3 := va_free (wc := []) hD hS hA [] rfl
  refine va_calli (va_runS (As := [.long (a0).toInt64, .long 0, .long (-1)]) (rest := [.ref m0]) ⟨hx, hb, hml, hown, hts⟩ (c_X8_in l D ((a0).toInt64) 0 (-1) _ ) (⟨z_cB 3 hE zw_1118 zw_96 zw_1120 rfl rfl rfl (by decide +kernel) ⟨(Nat.le_of_ble_eq_true rfl), (Nat.le_of_ble_eq_true rfl)⟩, hE.ts _ zw_1119⟩) ⟨hb_3, hc_3⟩ rfl rfl hl.1 rfl (lv_room (Nat.le_of_ble_eq_true rfl)) dX8_noShop_14 ⟨(Nat.le_of_ble_eq_true rfl), (Nat.le_of_ble_eq_true rfl)⟩) hS (fun q _ h => hF_3 q h) hF_3 (fun r_3 u_3 t_3 H1 locs ht_3 hvm_3 hw_3 hB_3 hz_3 hk_3 hS1 => ?_)
  obtain ⟨hP, hK, hD⟩ := z_back (wc := []) (wr := [(m0, .inr (10, [.int th, .ref qu, .ref qs, .ref qc, .ref qp, .int 0, .int (-1), .int 0, .null])), (qs, .inr (1, [.int 0, .ref es, .int 0]))]) (w1 := []) (tr := []) hP hK hD [] [0, 1] rfl rfl rfl (by decide) ht_3 hvm_3 hk_3 hF_3 [] rfl hB_3
  have hS := hS1
  have hP : va_P D vwCl [(m0, .inr (10, [.int th, .ref qu, .ref qs, .ref qc, .ref qp, .int 0, .int (-1), .int 0, .null])), (qs, .inr (1, [.int 0, .ref es, .int 0]))] H1 := hP
  have hD : va_D A [(m0, .inr (10, [.int th, .ref qu, .ref qs, .ref qc, .ref qp, .int 0, .int (-1), .int 0, .null])), (qs, .inr (1, [.int 0, .ref es, .int 0]))] := hD
  have hK : va_K D vwCl [] s := hK
  clear hS1
  obtain rfl : r_3 = 0 := z_in0 hw_3
  refine lv_if_eq (tgt := 24) hx hb dX8_noShop_17 (by decide) (fun c_4 => ?_) (fun c_4 => absurd (by decide) c_4)
  refine lv_iconst (v := 1) hx hb dX8_noShop_24 (by decide) ?_
  refine va_put (D := D) (ci := 10) (v := .int 1) (ty := .int) (C := RX8) (T := TX8) (N := 9) hx hb hts zin_X8 tyX8 tyX8_ok nmX8 hown hK hP hD hS 0 rfl rfl 0 (by decide) (hts _ zw_1080) (fun _ h9 => h9) rfl (by decide +kernel) rfl rfl (Nat.le_of_ble_eq_true rfl) dX8_noShop_25 (fun H locs hP hD hS => ?_)
  have hP : va_P D vwCl [(m0, .inr (10, [.int 1, .ref qu, .ref qs, .ref qc, .ref qp, .int 0, .int (-1), .int 0, .null])), (qs, .inr (1, [.int 0, .ref es, .int 0]))] H := hP
  have hD : va_D A [(m0, .inr (10, [.int 1, .ref qu, .ref qs, .ref qc, .ref qp, .int 0, .int (-1), .int 0, .null])), (qs, .inr (1, [.int 0, .ref es, .int 0]))] := hD
  refine lv_aload_n hx hb dX8_noShop_28 rfl (lv_at hl 0 rfl) ?_
  refine va_get (D := D) (ci := 10) (v := .int 1) (C := RX8) (T := TX8) (N := 9) hx hb hts zin_X8 hown hK hP 0 rfl rfl 0 (by decide) (hts _ zw_1080) (fun _ h9 => h9) rfl dX8_noShop_29 ?_
  refine lv_if_le (tgt := 39) hx hb dX8_noShop_32 (by decide) (fun c_5 => absurd c_5 (by decide)) (fun c_5 => ?_)
  refine lv_iconst (v := 1) hx hb dX8_noShop_35 (by decide) ?_
  refine lv_goto (tgt := 40) hx hb dX8_noShop_36 (by decide) ?_
  exact W.zret (v := 1) hx hb hr (by first | rfl | decide) (fun t ht hW => ⟨⟨1, (), rfl, rfl, z_end hP hK hD [0, 1] rfl rfl [] rfl ht hW.alike⟩, hS.F ht⟩) hS.2.2 dX8_noShop_40
end
section
theorem dX8_noWork_0 : decode cX8_noWork 0 = .ok (.aload_n 0, 1) := by decide +kernel
theorem dX8_noWork_1 : decode cX8_noWork 1 = .ok (.iload_n 1, 1) := by decide +kernel
theorem dX8_noWork_2 : decode cX8_noWork 2 = .ok (.invokevirtual 77, 3) := by decide +kernel
theorem zw_1251 : Cond.methodLink RX8 77 yX8_noUnit ∈ z_Ts := z_m 1251 (by decide +kernel) (by decide +kernel)
theorem zw_1253 : Cond.instanceMethod yX8_noUnit ∈ z_Ts := z_m 1253 (by decide +kernel) (by decide +kernel)
theorem zw_64 : Cond.selects RX8 yX8_noUnit yX8_noUnit ∈ z_Ts := z_m 64 (by decide +kernel) (by decide +kernel)
theorem zw_1254 : Cond.code yX8_noUnit cX8_noUnit 2 (some .boolean) ∈ z_Ts := z_m 1254 (by decide +kernel) (by decide +kernel)
theorem dX8_noWork_5 : decode cX8_noWork 5 = .ok (.ifCond .ne 31, 3) := by decide +kernel
theorem dX8_noWork_36 : decode cX8_noWork 36 = .ok (.aload_n 0, 1) := by decide +kernel
theorem dX8_noWork_37 : decode cX8_noWork 37 = .ok (.getfield 30, 3) := by decide +kernel
theorem dX8_noWork_40 : decode cX8_noWork 40 = .ok (.ifCond .le 7, 3) := by decide +kernel
theorem dX8_noWork_43 : decode cX8_noWork 43 = .ok (.iconst 1, 1) := by decide +kernel
theorem dX8_noWork_44 : decode cX8_noWork 44 = .ok (.goto 4, 3) := by decide +kernel
theorem dX8_noWork_48 : decode cX8_noWork 48 = .ok (.ireturn, 1) := by decide +kernel
set_option maxHeartbeats 4000000 in
set_option maxRecDepth 100000 in
theorem f_X8_noWork (l : Launch) (D : va_G) (m0 : Nat) (qu : Nat) (qs : Nat) (qc : Nat) (qp : Nat) (th : Int32) (eu : Nat) (a0 : Int32) (sz : Nat)  : Met l yX8_noWork [Cond.code yX8_noWork cX8_noWork 2 (some .boolean)] ({ frames := 4, cells := 0, slots := 0, locals := 120 }) (z_Pc D [.ref m0, .int a0] [(m0, .inr (10, [.int th, .ref qu, .ref qs, .ref qc, .ref qp, .int 0, .int (-1), .int 0, .null])), (qu, .inr (1, [.int 0, .ref eu, .int 0]))] [] sz) (va_Qi (fun (r : Int32) (_ : Unit) => r = 1) (fun _ t => z_W D [(m0, .inr (10, [.int 1, .ref qu, .ref qs, .ref qc, .ref qp, .int 0, .int (-1), .int 0, .null])), (qu, .inr (1, [.int 0, .ref eu, .int 0]))] [] (va_A [(m0, .inr (10, [.int th, .ref qu, .ref qs, .ref qc, .ref qp, .int 0, .int (-1), .int 0, .null])), (qu, .inr (1, [.int 0, .ref eu, .int 0]))] sz) t) (va_A [(m0, .inr (10, [.int th, .ref qu, .ref qs, .ref qc, .ref qp, .int 0, .int (-1), .int 0, .null])), (qu, .inr (1, [.int 0, .ref eu, .int 0]))] sz)) 0 0 (va_A [(m0, .inr (10, [.int th, .ref qu, .ref qs, .ref qc, .ref qp, .int 0, .int (-1), .int 0, .null])), (qu, .inr (1, [.int 0, .ref eu, .int 0]))] sz) := by
  refine Met.ofW (cc := cX8_noWork) (maxL := 2) (ret := (some .boolean)) (by decide +kernel) rfl ?_
  intro p e s m args below meth c s₁ B hml hv
  obtain ⟨rfl, hsz, hP, hK, hD0, hE, hX0⟩ := hv
  have hx := B.exec
  have hb := B.bytes
  have hr := B.returns
  have hts := z_E.ts (args := [.ref m0, .int a0].toArray) hE
  have hown : s.vm.findClass RX8 = some m.cls := findClass_of_methodNamed B.named
  have hlocks := B.notSynchronized
  subst hsz
  have hD := hD0.self (sz := s.heap.size)
  generalize hAe : va_A [(m0, .inr (10, [.int th, .ref qu, .ref qs, .ref qc, .ref qp, .int 0, .int (-1), .int 0, .null])), (qu, .inr (1, [.int 0, .ref eu, .int 0]))] s.heap.size = A at hD hX0 ⊢
  have hX : z_X A s s.heap := hX0
  have hA : ∀ q : Nat, s.heap.size ≤ q → A q := fun q h => by rw [← hAe]; exact Or.inr h
  have hS : va_S A s.heap s.heap [] := va_S.rf
  have hP : va_P D vwCl [(m0, .inr (10, [.int th, .ref qu, .ref qs, .ref qc, .ref qp, .int 0, .int (-1), .int 0, .null])), (qu, .inr (1, [.int 0, .ref eu, .int 0]))] s.heap := hP
  have hl := lv_entry ([.ref m0, .int a0]) (n := 2) (Nat.le_of_ble_eq_true rfl)
  rw [lg_entry_eq]
  generalize (lg_sl ([.ref m0, .int a0]) ++ List.replicate (2 - (lg_sl ([.ref m0, .int a0])).length) Slot.unset).toArray = ls at hl ⊢
  have hl : lv_has ls 2 [(0, .ref m0), (1, .int a0)] := hl
  skip
  refine lv_aload_n hx hb dX8_noWork_0 rfl (lv_at hl 0 rfl) ?_
  refine lv_iload_n hx hb dX8_noWork_1 rfl (lv_at hl 1 rfl) ?_
  obtain ⟨hb_1, hc_1⟩ := z_call (wc := [(m0, .inr (10, [.int th, .ref qu, .ref qs, .ref qc, .ref qp, .int 0, .int (-1), .int 0, .null])), (qu, .inr (1, [.int 0, .ref eu, .int 0]))]) (tc := []) ([.ref m0, .int a0]) hP hK hD hS hA hE hX [0, 1] rfl rfl [] rfl
  have hF_1 := va_free (wc := [(m0, .inr (10, [.int th, .ref qu, .ref qs, .ref qc, .ref qp, .int 0, .int (-1), .int 0, .null])), (qu, .inr (1, [.int 0, .ref eu, .int 0]))]) hD hS hA [0, 1] rfl
  refine va_calli (va_runV (As := [.int a0]) (rest := []) ⟨hx, hb, hml, hown, hts⟩ (f_X8_noUnit l D m0 qu qs qc qp th eu a0 _ ) (z_cV 1 hE zw_1251 zw_1253 zw_64 zw_96 zw_1254 rfl rfl rfl (by decide +kernel) ⟨(Nat.le_of_ble_eq_true rfl), (Nat.le_of_ble_eq_true rfl)⟩) ⟨hb_1, va_recv hK hP (ci := 10) (q0 := 0) rfl rfl, hc_1⟩ rfl rfl hl.1 rfl (lv_room (Nat.le_of_ble_eq_true rfl)) dX8_noWork_2 ⟨(Nat.le_of_ble_eq_true rfl), (Nat.le_of_ble_eq_true rfl)⟩) hS (fun q _ h => hF_1 q h) hF_1 (fun r_1 u_1 t_1 H1 locs ht_1 hvm_1 hw_1 hB_1 hz_1 hk_1 hS1 => ?_)
  obtain ⟨hP, hK, hD⟩ := z_back (wc := [(m0, .inr (10, [.int th, .ref qu, .ref qs, .ref qc, .ref qp, .int 0, .int (-1), .int 0, .null])), (qu, .inr (1, [.int 0, .ref eu, .int 0]))]) (wr := []) (w1 := [(m0, .inr (10, [.int 1, .ref qu, .ref qs, .ref qc, .ref qp, .int 0, .int (-1), .int 0, .null])), (qu, .inr (1, [.int 0, .ref eu, .int 0]))]) (tr := []) hP hK hD [0, 1] [] rfl rfl rfl (by decide) ht_1 hvm_1 hk_1 hF_1 [] rfl hB_1
  have hS := hS1
  have hP : va_P D vwCl [(m0, .inr (10, [.int 1, .ref qu, .ref qs, .ref qc, .ref qp, .int 0, .int (-1), .int 0, .null])), (qu, .inr (1, [.int 0, .ref eu, .int 0]))] H1 := hP
  have hD : va_D A [(m0, .inr (10, [.int 1, .ref qu, .ref qs, .ref qc, .ref qp, .int 0, .int (-1), .int 0, .null])), (qu, .inr (1, [.int 0, .ref eu, .int 0]))] := hD
  have hK : va_K D vwCl [] s := hK
  clear hS1
  obtain rfl : r_1 = 1 := hw_1
  refine lv_if_ne (tgt := 36) hx hb dX8_noWork_5 (by decide) (fun c_2 => ?_) (fun c_2 => absurd c_2 (by decide))
  refine lv_aload_n hx hb dX8_noWork_36 rfl (lv_at hl 0 rfl) ?_
  refine va_get (D := D) (ci := 10) (v := .int 1) (C := RX8) (T := TX8) (N := 9) hx hb hts zin_X8 hown hK hP 0 rfl rfl 0 (by decide) (hts _ zw_1080) (fun _ h9 => h9) rfl dX8_noWork_37 ?_
  refine lv_if_le (tgt := 47) hx hb dX8_noWork_40 (by decide) (fun c_3 => absurd c_3 (by decide)) (fun c_3 => ?_)
  refine lv_iconst (v := 1) hx hb dX8_noWork_43 (by decide) ?_
  refine lv_goto (tgt := 48) hx hb dX8_noWork_44 (by decide) ?_
  exact W.zret (v := 1) hx hb hr (by first | rfl | decide) (fun t ht hW => ⟨⟨1, (), rfl, rfl, z_end hP hK hD [0, 1] rfl rfl [] rfl ht hW.alike⟩, hS.F ht⟩) hS.2.2 dX8_noWork_48
theorem dX8_addWall_0 : decode cX8_addWall 0 = .ok (.aload_n 0, 1) := by decide +kernel
theorem dX8_addWall_1 : decode cX8_addWall 1 = .ok (.aload_n 0, 1) := by decide +kernel
theorem dX8_addWall_2 : decode cX8_addWall 2 = .ok (.iload_n 1, 1) := by decide +kernel
theorem dX8_addWall_3 : decode cX8_addWall 3 = .ok (.invokevirtual 41, 3) := by decide +kernel
theorem dX8_addWall_6 : decode cX8_addWall 6 = .ok (.ifCond .eq 11, 3) := by decide +kernel
theorem dX8_addWall_17 : decode cX8_addWall 17 = .ok (.iconst 1, 1) := by decide +kernel
theorem dX8_addWall_18 : decode cX8_addWall 18 = .ok (.goto 52, 3) := by decide +kernel
theorem dX8_addWall_70 : decode cX8_addWall 70 = .ok (.putfield 30, 3) := by decide +kernel
theorem dX8_addWall_73 : decode cX8_addWall 73 = .ok (.aload_n 0, 1) := by decide +kernel
theorem dX8_addWall_74 : decode cX8_addWall 74 = .ok (.getfield 30, 3) := by decide +kernel
theorem dX8_addWall_77 : decode cX8_addWall 77 = .ok (.ifCond .le 5, 3) := by decide +kernel
theorem dX8_addWall_80 : decode cX8_addWall 80 = .ok (.iconst 0, 1) := by decide +kernel
theorem dX8_addWall_81 : decode cX8_addWall 81 = .ok (.ireturn, 1) := by decide +kernel
set_option maxHeartbeats 4000000 in
set_option maxRecDepth 100000 in
theorem f_X8_addWall (l : Launch) (D : va_G) (m0 : Nat) (qu : Nat) (qs : Nat) (qc : Nat) (qp : Nat) (th : Int32) (eu : Nat) (a0 : Int32) (a1 : Int32) (sz : Nat)  : Met l yX8_addWall [Cond.code yX8_addWall cX8_addWall 8 (some .int)] ({ frames := 6, cells := 0, slots := 0, locals := 200 }) (z_Pc D [.ref m0, .int a0, .int a1] [(m0, .inr (10, [.int th, .ref qu, .ref qs, .ref qc, .ref qp, .int 0, .int (-1), .int 0, .null])), (qu, .inr (1, [.int 0, .ref eu, .int 0]))] [] sz) (va_Qi (fun (r : Int32) (_ : Unit) => True) (fun _ t => z_W D [(m0, .inr (10, [.int 1, .ref qu, .ref qs, .ref qc, .ref qp, .int 0, .int (-1), .int 0, .null])), (qu, .inr (1, [.int 0, .ref eu, .int 0]))] [] (va_A [(m0, .inr (10, [.int th, .ref qu, .ref qs, .ref qc, .ref qp, .int 0, .int (-1), .int 0, .null])), (qu, .inr (1, [.int 0, .ref eu, .int 0]))] sz) t) (va_A [(m0, .inr (10, [.int th, .ref qu, .ref qs, .ref qc, .ref qp, .int 0, .int (-1), .int 0, .null])), (qu, .inr (1, [.int 0, .ref eu, .int 0]))] sz)) 0 0 (va_A [(m0, .inr (10, [.int th, .ref qu, .ref qs, .ref qc, .ref qp, .int 0, .int (-1), .int 0, .null])), (qu, .inr (1, [.int 0, .ref eu, .int 0]))] sz) := by
  refine Met.ofW (cc := cX8_addWall) (maxL := 8) (ret := (some .int)) (by decide +kernel) rfl ?_
  intro p e s m args below meth c s₁ B hml hv
  obtain ⟨rfl, hsz, hP, hK, hD0, hE, hX0⟩ := hv
  have hx := B.exec
  have hb := B.bytes
  have hr := B.returns
  have hts := z_E.ts (args := [.ref m0, .int a0, .int a1].toArray) hE
  have hown : s.vm.findClass RX8 = some m.cls := findClass_of_methodNamed B.named
  have hlocks := B.notSynchronized
  subst hsz
  have hD := hD0.self (sz := s.heap.size)
  generalize hAe : va_A [(m0, .inr (10, [.int th, .ref qu, .ref qs, .ref qc, .ref qp, .int 0, .int (-1), .int 0, .null])), (qu, .inr (1, [.int 0, .ref eu, .int 0]))] s.heap.size = A at hD hX0 ⊢
  have hX : z_X A s s.heap := hX0
  have hA : ∀ q : Nat, s.heap.size ≤ q → A q := fun q h => by rw [← hAe]; exact Or.inr h
  have hS : va_S A s.heap s.heap [] := va_S.rf
  have hP : va_P D vwCl [(m0, .inr (10, [.int th, .ref qu, .ref qs, .ref qc, .ref qp, .int 0, .int (-1), .int 0, .null])), (qu, .inr (1, [.int 0, .ref eu, .int 0]))] s.heap := hP
  have hl := lv_entry ([.ref m0, .int a0, .int a1]) (n := 8) (Nat.le_of_ble_eq_true rfl)
  rw [lg_entry_eq]
  generalize (lg_sl ([.ref m0, .int a0, .int a1]) ++ List.replicate (8 - (lg_sl ([.ref m0, .int a0, .int a1])).length) Slot.unset).toArray = ls at hl ⊢
  have hl : lv_has ls 8 [(0, .ref m0), (1, .int a0), (2, .int a1)] := hl
  skip
  refine lv_aload_n hx hb dX8_addWall_0 rfl (lv_at hl 0 rfl) ?_
  refine lv_aload_n hx hb dX8_addWall_1 rfl (lv_at hl 0 rfl) ?_
  refine lv_iload_n hx hb dX8_addWall_2 rfl (lv_at hl 1 rfl) ?_
  obtain ⟨hb_1, hc_1⟩ := z_call (wc := [(m0, .inr (10, [.int th, .ref qu, .ref qs, .ref qc, .ref qp, .int 0, .int (-1), .int 0, .null])), (qu, .inr (1, [.int 0, .ref eu, .int 0]))]) (tc := []) ([.ref m0, .int a0]) hP hK hD hS hA hE hX [0, 1] rfl rfl [] rfl
  have hF_1 := va_free (wc := [(m0, .inr (10, [.int th, .ref qu, .ref qs, .ref qc, .ref qp, .int 0, .int (-1), .int 0, .null])), (qu, .inr (1, [.int 0, .ref eu, .int 0]))]) hD hS hA [0, 1] rfl
  refine va_calli (va_runV (As := [.int a0]) (rest := [.ref m0]) ⟨hx, hb, hml, hown, hts⟩ (f_X8_isUnit l D m0 qu qs qc qp th eu a0 _ ) (z_cV 1 hE zw_1225 zw_1227 zw_62 zw_96 zw_1228 rfl rfl rfl (by decide +kernel) ⟨(Nat.le_of_ble_eq_true rfl), (Nat.le_of_ble_eq_true rfl)⟩) ⟨hb_1, va_recv hK hP (ci := 10) (q0 := 0) rfl rfl, hc_1⟩ rfl rfl hl.1 rfl (lv_room (Nat.le_of_ble_eq_true rfl)) dX8_addWall_3 ⟨(Nat.le_of_ble_eq_true rfl), (Nat.le_of_ble_eq_true rfl)⟩) hS (fun q _ h => hF_1 q h) hF_1 (fun r_1 u_1 t_1 H1 locs ht_1 hvm_1 hw_1 hB_1 hz_1 hk_1 hS1 => ?_)
  obtain ⟨hP, hK, hD⟩ := z_back (wc := [(m0, .inr (10, [.int th, .ref qu, .ref qs, .ref qc, .ref qp, .int 0, .int (-1), .int 0, .null])), (qu, .inr (1, [.int 0, .ref eu, .int 0]))]) (wr := []) (w1 := [(m0, .inr (10, [.int th, .ref qu, .ref qs, .ref qc, .ref qp, .int 0, .int (-1), .int 0, .null])), (qu, .inr (1, [.int 0, .ref eu, .int 0]))]) (tr := []) hP hK hD [0, 1] [] rfl rfl rfl (by decide) ht_1 hvm_1 hk_1 hF_1 [] rfl hB_1
  have hS := hS1
  have hP : va_P D vwCl [(m0, .inr (10, [.int th, .ref qu, .ref qs, .ref qc, .ref qp, .int 0, .int (-1), .int 0, .null])), (qu, .inr (1, [.int 0, .ref eu, .int 0]))] H1 := hP
  have hD : va_D A [(m0, .inr (10, [.int th, .ref qu, .ref qs, .ref qc, .ref qp, .int 0, .int (-1), .int 0, .null])), (qu, .inr (1, [.int 0, .ref eu, .int 0]))] := hD
  have hK : va_K D vwCl [] s := hK
  clear hS1
  obtain rfl : r_1 = 0 := hw_1
  refine lv_if_eq (tgt := 17) hx hb dX8_addWall_6 (by decide) (fun c_2 => ?_) (fun c_2 => absurd (by decide) c_2)
  refine lv_iconst (v := 1) hx hb dX8_addWall_17 (by decide) ?_
  refine lv_goto (tgt := 70) hx hb dX8_addWall_18 (by decide) ?_
  refine va_put (D := D) (ci := 10) (v := .int 1) (ty := .int) (C := RX8) (T := TX8) (N := 9) hx hb hts zin_X8 tyX8 tyX8_ok nmX8 hown hK hP hD hS 0 rfl rfl 0 (by decide) (hts _ zw_1080) (fun _ h9 => h9) rfl (by decide +kernel) rfl rfl (Nat.le_of_ble_eq_true rfl) dX8_addWall_70 (fun H locs hP hD hS => ?_)
  have hP : va_P D vwCl [(m0, .inr (10, [.int 1, .ref qu, .ref qs, .ref qc, .ref qp, .int 0, .int (-1), .int 0, .null])), (qu, .inr (1, [.int 0, .ref eu, .int 0]))] H := hP
  have hD : va_D A [(m0, .inr (10, [.int 1, .ref qu, .ref qs, .ref qc, .ref qp, .int 0, .int (-1), .int 0, .null])), (qu, .inr (1, [.int 0, .ref eu, .int 0]))] := hD
  refine lv_aload_n hx hb dX8_addWall_73 rfl (lv_at hl 0 rfl) ?_
  refine va_get (D := D) (ci := 10) (v := .int 1) (C := RX8) (T := TX8) (N := 9) hx hb hts zin_X8 hown hK hP 0 rfl rfl 0 (by decide) (hts _ zw_1080) (fun _ h9 => h9) rfl dX8_addWall_74 ?_
  refine lv_if_le (tgt := 82) hx hb dX8_addWall_77 (by decide) (fun c_3 => absurd c_3 (by decide)) (fun c_3 => ?_)
  refine lv_iconst (v := 0) hx hb dX8_addWall_80 (by decide) ?_
  exact W.iret (v := 0) hx hb hr (fun t ht hW => ⟨⟨0, (), rfl, trivial, z_end hP hK hD [0, 1] rfl rfl [] rfl ht hW.alike⟩, hS.F ht⟩) hS.2.2 dX8_addWall_81
theorem dX8_plan_0 : decode cX8_plan 0 = .ok (.aload_n 0, 1) := by decide +kernel
theorem dX8_plan_1 : decode cX8_plan 1 = .ok (.iload_n 1, 1) := by decide +kernel
theorem dX8_plan_2 : decode cX8_plan 2 = .ok (.invokevirtual 77, 3) := by decide +kernel
theorem dX8_plan_5 : decode cX8_plan 5 = .ok (.ifCond .eq 5, 3) := by decide +kernel
theorem dX8_plan_8 : decode cX8_plan 8 = .ok (.iconst 0, 1) := by decide +kernel
theorem dX8_plan_9 : decode cX8_plan 9 = .ok (.ireturn, 1) := by decide +kernel
set_option maxHeartbeats 4000000 in
set_option maxRecDepth 100000 in
theorem f_X8_plan (l : Launch) (D : va_G) (m0 : Nat) (qu : Nat) (qs : Nat) (qc : Nat) (qp : Nat) (th : Int32) (eu : Nat) (a0 : Int32) (a1 : Int32) (sz : Nat)  : Met l yX8_plan [Cond.code yX8_plan cX8_plan 7 (some .int)] ({ frames := 6, cells := 0, slots := 0, locals := 200 }) (z_Pc D [.ref m0, .int a0, .int a1] [(m0, .inr (10, [.int th, .ref qu, .ref qs, .ref qc, .ref qp, .int 0, .int (-1), .int 0, .null])), (qu, .inr (1, [.int 0, .ref eu, .int 0]))] [] sz) (va_Qi (fun (r : Int32) (_ : Unit) => True) (fun _ t => z_W D [(m0, .inr (10, [.int 1, .ref qu, .ref qs, .ref qc, .ref qp, .int 0, .int (-1), .int 0, .null])), (qu, .inr (1, [.int 0, .ref eu, .int 0]))] [] (va_A [(m0, .inr (10, [.int th, .ref qu, .ref qs, .ref qc, .ref qp, .int 0, .int (-1), .int 0, .null])), (qu, .inr (1, [.int 0, .ref eu, .int 0]))] sz) t) (va_A [(m0, .inr (10, [.int th, .ref qu, .ref qs, .ref qc, .ref qp, .int 0, .int (-1), .int 0, .null])), (qu, .inr (1, [.int 0, .ref eu, .int 0]))] sz)) 0 0 (va_A [(m0, .inr (10, [.int th, .ref qu, .ref qs, .ref qc, .ref qp, .int 0, .int (-1), .int 0, .null])), (qu, .inr (1, [.int 0, .ref eu, .int 0]))] sz) := by
  refine Met.ofW (cc := cX8_plan) (maxL := 7) (ret := (some .int)) (by decide +kernel) rfl ?_
  intro p e s m args below meth c s₁ B hml hv
  obtain ⟨rfl, hsz, hP, hK, hD0, hE, hX0⟩ := hv
  have hx := B.exec
  have hb := B.bytes
  have hr := B.returns
  have hts := z_E.ts (args := [.ref m0, .int a0, .int a1].toArray) hE
  have hown : s.vm.findClass RX8 = some m.cls := findClass_of_methodNamed B.named
  have hlocks := B.notSynchronized
  subst hsz
  have hD := hD0.self (sz := s.heap.size)
  generalize hAe : va_A [(m0, .inr (10, [.int th, .ref qu, .ref qs, .ref qc, .ref qp, .int 0, .int (-1), .int 0, .null])), (qu, .inr (1, [.int 0, .ref eu, .int 0]))] s.heap.size = A at hD hX0 ⊢
  have hX : z_X A s s.heap := hX0
  have hA : ∀ q : Nat, s.heap.size ≤ q → A q := fun q h => by rw [← hAe]; exact Or.inr h
  have hS : va_S A s.heap s.heap [] := va_S.rf
  have hP : va_P D vwCl [(m0, .inr (10, [.int th, .ref qu, .ref qs, .ref qc, .ref qp, .int 0, .int (-1), .int 0, .null])), (qu, .inr (1, [.int 0, .ref eu, .int 0]))] s.heap := hP
  have hl := lv_entry ([.ref m0, .int a0, .int a1]) (n := 7) (Nat.le_of_ble_eq_true rfl)
  rw [lg_entry_eq]
  generalize (lg_sl ([.ref m0, .int a0, .int a1]) ++ List.replicate (7 - (lg_sl ([.ref m0, .int a0, .int a1])).length) Slot.unset).toArray = ls at hl ⊢
  have hl : lv_has ls 7 [(0, .ref m0), (1, .int a0), (2, .int a1)] := hl
  skip
  refine lv_aload_n hx hb dX8_plan_0 rfl (lv_at hl 0 rfl) ?_
  refine lv_iload_n hx hb dX8_plan_1 rfl (lv_at hl 1 rfl) ?_
  obtain ⟨hb_1, hc_1⟩ := z_call (wc := [(m0, .inr (10, [.int th, .ref qu, .ref qs, .ref qc, .ref qp, .int 0, .int (-1), .int 0, .null])), (qu, .inr (1, [.int 0, .ref eu, .int 0]))]) (tc := []) ([.ref m0, .int a0]) hP hK hD hS hA hE hX [0, 1] rfl rfl [] rfl
  have hF_1 := va_free (wc := [(m0, .inr (10, [.int th, .ref qu, .ref qs, .ref qc, .ref qp, .int 0, .int (-1), .int 0, .null])), (qu, .inr (1, [.int 0, .ref eu, .int 0]))]) hD hS hA [0, 1] rfl
  refine va_calli (va_runV (As := [.int a0]) (rest := []) ⟨hx, hb, hml, hown, hts⟩ (f_X8_noUnit l D m0 qu qs qc qp th eu a0 _ ) (z_cV 1 hE zw_1251 zw_1253 zw_64 zw_96 zw_1254 rfl rfl rfl (by decide +kernel) ⟨(Nat.le_of_ble_eq_true rfl), (Nat.le_of_ble_eq_true rfl)⟩) ⟨hb_1, va_recv hK hP (ci := 10) (q0 := 0) rfl rfl, hc_1⟩ rfl rfl hl.1 rfl (lv_room (Nat.le_of_ble_eq_true rfl)) dX8_plan_2 ⟨(Nat.le_of_ble_eq_true rfl), (Nat.le_of_ble_eq_true rfl)⟩) hS (fun q _ h => hF_1 q h) hF_1 (fun r_1 u_1 t_1 H1 locs ht_1 hvm_1 hw_1 hB_1 hz_1 hk_1 hS1 => ?_)
  obtain ⟨hP, hK, hD⟩ := z_back (wc := [(m0, .inr (10, [.int th, .ref qu, .ref qs, .ref qc, .ref qp, .int 0, .int (-1), .int 0, .null])), (qu, .inr (1, [.int 0, .ref eu, .int 0]))]) (wr := []) (w1 := [(m0, .inr (10, [.int 1, .ref qu, .ref qs, .ref qc, .ref qp, .int 0, .int (-1), .int 0, .null])), (qu, .inr (1, [.int 0, .ref eu, .int 0]))]) (tr := []) hP hK hD [0, 1] [] rfl rfl rfl (by decide) ht_1 hvm_1 hk_1 hF_1 [] rfl hB_1
  have hS := hS1
  have hP : va_P D vwCl [(m0, .inr (10, [.int 1, .ref qu, .ref qs, .ref qc, .ref qp, .int 0, .int (-1), .int 0, .null])), (qu, .inr (1, [.int 0, .ref eu, .int 0]))] H1 := hP
  have hD : va_D A [(m0, .inr (10, [.int 1, .ref qu, .ref qs, .ref qc, .ref qp, .int 0, .int (-1), .int 0, .null])), (qu, .inr (1, [.int 0, .ref eu, .int 0]))] := hD
  have hK : va_K D vwCl [] s := hK
  clear hS1
  obtain rfl : r_1 = 1 := hw_1
  refine lv_if_eq (tgt := 10) hx hb dX8_plan_5 (by decide) (fun c_2 => absurd c_2 (by decide)) (fun c_2 => ?_)
  refine lv_iconst (v := 0) hx hb dX8_plan_8 (by decide) ?_
  exact W.iret (v := 0) hx hb hr (fun t ht hW => ⟨⟨0, (), rfl, trivial, z_end hP hK hD [0, 1] rfl rfl [] rfl ht hW.alike⟩, hS.F ht⟩) hS.2.2 dX8_plan_9
theorem dX8_rest_0 : decode cX8_rest 0 = .ok (.aload_n 0, 1) := by decide +kernel
theorem dX8_rest_1 : decode cX8_rest 1 = .ok (.aload_n 0, 1) := by decide +kernel
theorem dX8_rest_2 : decode cX8_rest 2 = .ok (.iload_n 1, 1) := by decide +kernel
theorem dX8_rest_3 : decode cX8_rest 3 = .ok (.invokevirtual 41, 3) := by decide +kernel
theorem dX8_rest_6 : decode cX8_rest 6 = .ok (.ifCond .eq 11, 3) := by decide +kernel
theorem dX8_rest_17 : decode cX8_rest 17 = .ok (.iconst 1, 1) := by decide +kernel
theorem dX8_rest_18 : decode cX8_rest 18 = .ok (.goto 4, 3) := by decide +kernel
theorem dX8_rest_22 : decode cX8_rest 22 = .ok (.putfield 30, 3) := by decide +kernel
theorem dX8_rest_25 : decode cX8_rest 25 = .ok (.aload_n 0, 1) := by decide +kernel
theorem dX8_rest_26 : decode cX8_rest 26 = .ok (.getfield 30, 3) := by decide +kernel
theorem dX8_rest_29 : decode cX8_rest 29 = .ok (.ifCond .le 5, 3) := by decide +kernel
theorem dX8_rest_32 : decode cX8_rest 32 = .ok (.iconst 0, 1) := by decide +kernel
theorem dX8_rest_33 : decode cX8_rest 33 = .ok (.ireturn, 1) := by decide +kernel
set_option maxHeartbeats 4000000 in
set_option maxRecDepth 100000 in
theorem f_X8_rest (l : Launch) (D : va_G) (m0 : Nat) (qu : Nat) (qs : Nat) (qc : Nat) (qp : Nat) (th : Int32) (eu : Nat) (a0 : Int32) (a1 : Int32) (sz : Nat)  : Met l yX8_rest [Cond.code yX8_rest cX8_rest 5 (some .boolean)] ({ frames := 6, cells := 0, slots := 0, locals := 200 }) (z_Pc D [.ref m0, .int a0, .int a1] [(m0, .inr (10, [.int th, .ref qu, .ref qs, .ref qc, .ref qp, .int 0, .int (-1), .int 0, .null])), (qu, .inr (1, [.int 0, .ref eu, .int 0]))] [] sz) (va_Qi (fun (r : Int32) (_ : Unit) => True) (fun _ t => z_W D [(m0, .inr (10, [.int 1, .ref qu, .ref qs, .ref qc, .ref qp, .int 0, .int (-1), .int 0, .null])), (qu, .inr (1, [.int 0, .ref eu, .int 0]))] [] (va_A [(m0, .inr (10, [.int th, .ref qu, .ref qs, .ref qc, .ref qp, .int 0, .int (-1), .int 0, .null])), (qu, .inr (1, [.int 0, .ref eu, .int 0]))] sz) t) (va_A [(m0, .inr (10, [.int th, .ref qu, .ref qs, .ref qc, .ref qp, .int 0, .int (-1), .int 0, .null])), (qu, .inr (1, [.int 0, .ref eu, .int 0]))] sz)) 0 0 (va_A [(m0, .inr (10, [.int th, .ref qu, .ref qs, .ref qc, .ref qp, .int 0, .int (-1), .int 0, .null])), (qu, .inr (1, [.int 0, .ref eu, .int 0]))] sz) := by
  refine Met.ofW (cc := cX8_rest) (maxL := 5) (ret := (some .boolean)) (by decide +kernel) rfl ?_
  intro p e s m args below meth c s₁ B hml hv
  obtain ⟨rfl, hsz, hP, hK, hD0, hE, hX0⟩ := hv
  have hx := B.exec
  have hb := B.bytes
  have hr := B.returns
  have hts := z_E.ts (args := [.ref m0, .int a0, .int a1].toArray) hE
  have hown : s.vm.findClass RX8 = some m.cls := findClass_of_methodNamed B.named
  have hlocks := B.notSynchronized
  subst hsz
  have hD := hD0.self (sz := s.heap.size)
  generalize hAe : va_A [(m0, .inr (10, [.int th, .ref qu, .ref qs, .ref qc, .ref qp, .int 0, .int (-1), .int 0, .null])), (qu, .inr (1, [.int 0, .ref eu, .int 0]))] s.heap.size = A at hD hX0 ⊢
  have hX : z_X A s s.heap := hX0
  have hA : ∀ q : Nat, s.heap.size ≤ q → A q := fun q h => by rw [← hAe]; exact Or.inr h
  have hS : va_S A s.heap s.heap [] := va_S.rf
  have hP : va_P D vwCl [(m0, .inr (10, [.int th, .ref qu, .ref qs, .ref qc, .ref qp, .int 0, .int (-1), .int 0, .null])), (qu, .inr (1, [.int 0, .ref eu, .int 0]))] s.heap := hP
  have hl := lv_entry ([.ref m0, .int a0, .int a1]) (n := 5) (Nat.le_of_ble_eq_true rfl)
  rw [lg_entry_eq]
  generalize (lg_sl ([.ref m0, .int a0, .int a1]) ++ List.replicate (5 - (lg_sl ([.ref m0, .int a0, .int a1])).length) Slot.unset).toArray = ls at hl ⊢
  have hl : lv_has ls 5 [(0, .ref m0), (1, .int a0), (2, .int a1)] := hl
  skip
  refine lv_aload_n hx hb dX8_rest_0 rfl (lv_at hl 0 rfl) ?_
  refine lv_aload_n hx hb dX8_rest_1 rfl (lv_at hl 0 rfl) ?_
  refine lv_iload_n hx hb dX8_rest_2 rfl (lv_at hl 1 rfl) ?_
  obtain ⟨hb_1, hc_1⟩ := z_call (wc := [(m0, .inr (10, [.int th, .ref qu, .ref qs, .ref qc, .ref qp, .int 0, .int (-1), .int 0, .null])), (qu, .inr (1, [.int 0, .ref eu, .int 0]))]) (tc := []) ([.ref m0, .int a0]) hP hK hD hS hA hE hX [0, 1] rfl rfl [] rfl
  have hF_1 := va_free (wc := [(m0, .inr (10, [.int th, .ref qu, .ref qs, .ref qc, .ref qp, .int 0, .int (-1), .int 0, .null])), (qu, .inr (1, [.int 0, .ref eu, .int 0]))]) hD hS hA [0, 1] rfl
  refine va_calli (va_runV (As := [.int a0]) (rest := [.ref m0]) ⟨hx, hb, hml, hown, hts⟩ (f_X8_isUnit l D m0 qu qs qc qp th eu a0 _ ) (z_cV 1 hE zw_1225 zw_1227 zw_62 zw_96 zw_1228 rfl rfl rfl (by decide +kernel) ⟨(Nat.le_of_ble_eq_true rfl), (Nat.le_of_ble_eq_true rfl)⟩) ⟨hb_1, va_recv hK hP (ci := 10) (q0 := 0) rfl rfl, hc_1⟩ rfl rfl hl.1 rfl (lv_room (Nat.le_of_ble_eq_true rfl)) dX8_rest_3 ⟨(Nat.le_of_ble_eq_true rfl), (Nat.le_of_ble_eq_true rfl)⟩) hS (fun q _ h => hF_1 q h) hF_1 (fun r_1 u_1 t_1 H1 locs ht_1 hvm_1 hw_1 hB_1 hz_1 hk_1 hS1 => ?_)
  obtain ⟨hP, hK, hD⟩ := z_back (wc := [(m0, .inr (10, [.int th, .ref qu, .ref qs, .ref qc, .ref qp, .int 0, .int (-1), .int 0, .null])), (qu, .inr (1, [.int 0, .ref eu, .int 0]))]) (wr := []) (w1 := [(m0, .inr (10, [.int th, .ref qu, .ref qs, .ref qc, .ref qp, .int 0, .int (-1), .int 0, .null])), (qu, .inr (1, [.int 0, .ref eu, .int 0]))]) (tr := []) hP hK hD [0, 1] [] rfl rfl rfl (by decide) ht_1 hvm_1 hk_1 hF_1 [] rfl hB_1
  have hS := hS1
  have hP : va_P D vwCl [(m0, .inr (10, [.int th, .ref qu, .ref qs, .ref qc, .ref qp, .int 0, .int (-1), .int 0, .null])), (qu, .inr (1, [.int 0, .ref eu, .int 0]))] H1 := hP
  have hD : va_D A [(m0, .inr (10, [.int th, .ref qu, .ref qs, .ref qc, .ref qp, .int 0, .int (-1), .int 0, .null])), (qu, .inr (1, [.int 0, .ref eu, .int 0]))] := hD
  have hK : va_K D vwCl [] s := hK
  clear hS1
  obtain rfl : r_1 = 0 := hw_1
  refine lv_if_eq (tgt := 17) hx hb dX8_rest_6 (by decide) (fun c_2 => ?_) (fun c_2 => absurd (by decide) c_2)
  refine lv_iconst (v := 1) hx hb dX8_rest_17 (by decide) ?_
  refine lv_goto (tgt := 22) hx hb dX8_rest_18 (by decide) ?_
  refine va_put (D := D) (ci := 10) (v := .int 1) (ty := .int) (C := RX8) (T := TX8) (N := 9) hx hb hts zin_X8 tyX8 tyX8_ok nmX8 hown hK hP hD hS 0 rfl rfl 0 (by decide) (hts _ zw_1080) (fun _ h9 => h9) rfl (by decide +kernel) rfl rfl (Nat.le_of_ble_eq_true rfl) dX8_rest_22 (fun H locs hP hD hS => ?_)
  have hP : va_P D vwCl [(m0, .inr (10, [.int 1, .ref qu, .ref qs, .ref qc, .ref qp, .int 0, .int (-1), .int 0, .null])), (qu, .inr (1, [.int 0, .ref eu, .int 0]))] H := hP
  have hD : va_D A [(m0, .inr (10, [.int 1, .ref qu, .ref qs, .ref qc, .ref qp, .int 0, .int (-1), .int 0, .null])), (qu, .inr (1, [.int 0, .ref eu, .int 0]))] := hD
  refine lv_aload_n hx hb dX8_rest_25 rfl (lv_at hl 0 rfl) ?_
  refine va_get (D := D) (ci := 10) (v := .int 1) (C := RX8) (T := TX8) (N := 9) hx hb hts zin_X8 hown hK hP 0 rfl rfl 0 (by decide) (hts _ zw_1080) (fun _ h9 => h9) rfl dX8_rest_26 ?_
  refine lv_if_le (tgt := 34) hx hb dX8_rest_29 (by decide) (fun c_3 => absurd c_3 (by decide)) (fun c_3 => ?_)
  refine lv_iconst (v := 0) hx hb dX8_rest_32 (by decide) ?_
  exact W.zret (v := 0) hx hb hr (by first | rfl | decide) (fun t ht hW => ⟨⟨0, (), rfl, trivial, z_end hP hK hD [0, 1] rfl rfl [] rfl ht hW.alike⟩, hS.F ht⟩) hS.2.2 dX8_rest_33
theorem dX8_notice_0 : decode cX8_notice 0 = .ok (.aload_n 0, 1) := by decide +kernel
theorem dX8_notice_1 : decode cX8_notice 1 = .ok (.iload_n 1, 1) := by decide +kernel
theorem dX8_notice_2 : decode cX8_notice 2 = .ok (.invokevirtual 77, 3) := by decide +kernel
theorem dX8_notice_5 : decode cX8_notice 5 = .ok (.ifCond .eq 5, 3) := by decide +kernel
theorem dX8_notice_8 : decode cX8_notice 8 = .ok (.iconst 0, 1) := by decide +kernel
theorem dX8_notice_9 : decode cX8_notice 9 = .ok (.ireturn, 1) := by decide +kernel
set_option maxHeartbeats 4000000 in
set_option maxRecDepth 100000 in
theorem f_X8_notice (l : Launch) (D : va_G) (m0 : Nat) (qu : Nat) (qs : Nat) (qc : Nat) (qp : Nat) (th : Int32) (eu : Nat) (a0 : Int32) (a1 : Int32) (sz : Nat)  : Met l yX8_notice [Cond.code yX8_notice cX8_notice 3 (some .int)] ({ frames := 6, cells := 0, slots := 0, locals := 200 }) (z_Pc D [.ref m0, .int a0, .int a1] [(m0, .inr (10, [.int th, .ref qu, .ref qs, .ref qc, .ref qp, .int 0, .int (-1), .int 0, .null])), (qu, .inr (1, [.int 0, .ref eu, .int 0]))] [] sz) (va_Qi (fun (r : Int32) (_ : Unit) => True) (fun _ t => z_W D [(m0, .inr (10, [.int 1, .ref qu, .ref qs, .ref qc, .ref qp, .int 0, .int (-1), .int 0, .null])), (qu, .inr (1, [.int 0, .ref eu, .int 0]))] [] (va_A [(m0, .inr (10, [.int th, .ref qu, .ref qs, .ref qc, .ref qp, .int 0, .int (-1), .int 0, .null])), (qu, .inr (1, [.int 0, .ref eu, .int 0]))] sz) t) (va_A [(m0, .inr (10, [.int th, .ref qu, .ref qs, .ref qc, .ref qp, .int 0, .int (-1), .int 0, .null])), (qu, .inr (1, [.int 0, .ref eu, .int 0]))] sz)) 0 0 (va_A [(m0, .inr (10, [.int th, .ref qu, .ref qs, .ref qc, .ref qp, .int 0, .int (-1), .int 0, .null])), (qu, .inr (1, [.int 0, .ref eu, .int 0]))] sz) := by
  refine Met.ofW (cc := cX8_notice) (maxL := 3) (ret := (some .int)) (by decide +kernel) rfl ?_
  intro p e s m args below meth c s₁ B hml hv
  obtain ⟨rfl, hsz, hP, hK, hD0, hE, hX0⟩ := hv
  have hx := B.exec
  have hb := B.bytes
  have hr := B.returns
  have hts := z_E.ts (args := [.ref m0, .int a0, .int a1].toArray) hE
  have hown : s.vm.findClass RX8 = some m.cls := findClass_of_methodNamed B.named
  have hlocks := B.notSynchronized
  subst hsz
  have hD := hD0.self (sz := s.heap.size)
  generalize hAe : va_A [(m0, .inr (10, [.int th, .ref qu, .ref qs, .ref qc, .ref qp, .int 0, .int (-1), .int 0, .null])), (qu, .inr (1, [.int 0, .ref eu, .int 0]))] s.heap.size = A at hD hX0 ⊢
  have hX : z_X A s s.heap := hX0
  have hA : ∀ q : Nat, s.heap.size ≤ q → A q := fun q h => by rw [← hAe]; exact Or.inr h
  have hS : va_S A s.heap s.heap [] := va_S.rf
  have hP : va_P D vwCl [(m0, .inr (10, [.int th, .ref qu, .ref qs, .ref qc, .ref qp, .int 0, .int (-1), .int 0, .null])), (qu, .inr (1, [.int 0, .ref eu, .int 0]))] s.heap := hP
  have hl := lv_entry ([.ref m0, .int a0, .int a1]) (n := 3) (Nat.le_of_ble_eq_true rfl)
  rw [lg_entry_eq]
  generalize (lg_sl ([.ref m0, .int a0, .int a1]) ++ List.replicate (3 - (lg_sl ([.ref m0, .int a0, .int a1])).length) Slot.unset).toArray = ls at hl ⊢
  have hl : lv_has ls 3 [(0, .ref m0), (1, .int a0), (2, .int a1)] := hl
  skip
  refine lv_aload_n hx hb dX8_notice_0 rfl (lv_at hl 0 rfl) ?_
  refine lv_iload_n hx hb dX8_notice_1 rfl (lv_at hl 1 rfl) ?_
  obtain ⟨hb_1, hc_1⟩ := z_call (wc := [(m0, .inr (10, [.int th, .ref qu, .ref qs, .ref qc, .ref qp, .int 0, .int (-1), .int 0, .null])), (qu, .inr (1, [.int 0, .ref eu, .int 0]))]) (tc := []) ([.ref m0, .int a0]) hP hK hD hS hA hE hX [0, 1] rfl rfl [] rfl
  have hF_1 := va_free (wc := [(m0, .inr (10, [.int th, .ref qu, .ref qs, .ref qc, .ref qp, .int 0, .int (-1), .int 0, .null])), (qu, .inr (1, [.int 0, .ref eu, .int 0]))]) hD hS hA [0, 1] rfl
  refine va_calli (va_runV (As := [.int a0]) (rest := []) ⟨hx, hb, hml, hown, hts⟩ (f_X8_noUnit l D m0 qu qs qc qp th eu a0 _ ) (z_cV 1 hE zw_1251 zw_1253 zw_64 zw_96 zw_1254 rfl rfl rfl (by decide +kernel) ⟨(Nat.le_of_ble_eq_true rfl), (Nat.le_of_ble_eq_true rfl)⟩) ⟨hb_1, va_recv hK hP (ci := 10) (q0 := 0) rfl rfl, hc_1⟩ rfl rfl hl.1 rfl (lv_room (Nat.le_of_ble_eq_true rfl)) dX8_notice_2 ⟨(Nat.le_of_ble_eq_true rfl), (Nat.le_of_ble_eq_true rfl)⟩) hS (fun q _ h => hF_1 q h) hF_1 (fun r_1 u_1 t_1 H1 locs ht_1 hvm_1 hw_1 hB_1 hz_1 hk_1 hS1 => ?_)
  obtain ⟨hP, hK, hD⟩ := z_back (wc := [(m0, .inr (10, [.int th, .ref qu, .ref qs, .ref qc, .ref qp, .int 0, .int (-1), .int 0, .null])), (qu, .inr (1, [.int 0, .ref eu, .int 0]))]) (wr := []) (w1 := [(m0, .inr (10, [.int 1, .ref qu, .ref qs, .ref qc, .ref qp, .int 0, .int (-1), .int 0, .null])), (qu, .inr (1, [.int 0, .ref eu, .int 0]))]) (tr := []) hP hK hD [0, 1] [] rfl rfl rfl (by decide) ht_1 hvm_1 hk_1 hF_1 [] rfl hB_1
  have hS := hS1
  have hP : va_P D vwCl [(m0, .inr (10, [.int 1, .ref qu, .ref qs, .ref qc, .ref qp, .int 0, .int (-1), .int 0, .null])), (qu, .inr (1, [.int 0, .ref eu, .int 0]))] H1 := hP
  have hD : va_D A [(m0, .inr (10, [.int 1, .ref qu, .ref qs, .ref qc, .ref qp, .int 0, .int (-1), .int 0, .null])), (qu, .inr (1, [.int 0, .ref eu, .int 0]))] := hD
  have hK : va_K D vwCl [] s := hK
  clear hS1
  obtain rfl : r_1 = 1 := hw_1
  refine lv_if_eq (tgt := 10) hx hb dX8_notice_5 (by decide) (fun c_2 => absurd c_2 (by decide)) (fun c_2 => ?_)
  refine lv_iconst (v := 0) hx hb dX8_notice_8 (by decide) ?_
  exact W.iret (v := 0) hx hb hr (fun t ht hW => ⟨⟨0, (), rfl, trivial, z_end hP hK hD [0, 1] rfl rfl [] rfl ht hW.alike⟩, hS.F ht⟩) hS.2.2 dX8_notice_9
theorem dX8_work_0 : decode cX8_work 0 = .ok (.aload_n 0, 1) := by decide +kernel
theorem dX8_work_1 : decode cX8_work 1 = .ok (.iload_n 1, 1) := by decide +kernel
theorem dX8_work_2 : decode cX8_work 2 = .ok (.invokevirtual 113, 3) := by decide +kernel
theorem zw_1330 : Cond.methodLink RX8 113 yX8_noWork ∈ z_Ts := z_m 1330 (by decide +kernel) (by decide +kernel)
theorem zw_1332 : Cond.instanceMethod yX8_noWork ∈ z_Ts := z_m 1332 (by decide +kernel) (by decide +kernel)
theorem zw_66 : Cond.selects RX8 yX8_noWork yX8_noWork ∈ z_Ts := z_m 66 (by decide +kernel) (by decide +kernel)
theorem zw_1333 : Cond.code yX8_noWork cX8_noWork 2 (some .boolean) ∈ z_Ts := z_m 1333 (by decide +kernel) (by decide +kernel)
theorem dX8_work_5 : decode cX8_work 5 = .ok (.ifCond .eq 8, 3) := by decide +kernel
theorem dX8_work_8 : decode cX8_work 8 = .ok (.bipush 32, 2) := by decide +kernel
theorem dX8_work_10 : decode cX8_work 10 = .ok (.goto 17, 3) := by decide +kernel
theorem dX8_work_27 : decode cX8_work 27 = .ok (.ireturn, 1) := by decide +kernel
set_option maxHeartbeats 4000000 in
set_option maxRecDepth 100000 in
theorem f_X8_work (l : Launch) (D : va_G) (m0 : Nat) (qu : Nat) (qs : Nat) (qc : Nat) (qp : Nat) (th : Int32) (eu : Nat) (a0 : Int32) (sz : Nat)  : Met l yX8_work [Cond.code yX8_work cX8_work 2 (some .char)] ({ frames := 6, cells := 0, slots := 0, locals := 200 }) (z_Pc D [.ref m0, .int a0] [(m0, .inr (10, [.int th, .ref qu, .ref qs, .ref qc, .ref qp, .int 0, .int (-1), .int 0, .null])), (qu, .inr (1, [.int 0, .ref eu, .int 0]))] [] sz) (va_Qi (fun (r : Int32) (_ : Unit) => True) (fun _ t => z_W D [(m0, .inr (10, [.int 1, .ref qu, .ref qs, .ref qc, .ref qp, .int 0, .int (-1), .int 0, .null])), (qu, .inr (1, [.int 0, .ref eu, .int 0]))] [] (va_A [(m0, .inr (10, [.int th, .ref qu, .ref qs, .ref qc, .ref qp, .int 0, .int (-1), .int 0, .null])), (qu, .inr (1, [.int 0, .ref eu, .int 0]))] sz) t) (va_A [(m0, .inr (10, [.int th, .ref qu, .ref qs, .ref qc, .ref qp, .int 0, .int (-1), .int 0, .null])), (qu, .inr (1, [.int 0, .ref eu, .int 0]))] sz)) 0 0 (va_A [(m0, .inr (10, [.int th, .ref qu, .ref qs, .ref qc, .ref qp, .int 0, .int (-1), .int 0, .null])), (qu, .inr (1, [.int 0, .ref eu, .int 0]))] sz) := by
  refine Met.ofW (cc := cX8_work) (maxL := 2) (ret := (some .char)) (by decide +kernel) rfl ?_
  intro p e s m args below meth c s₁ B hml hv
  obtain ⟨rfl, hsz, hP, hK, hD0, hE, hX0⟩ := hv
  have hx := B.exec
  have hb := B.bytes
  have hr := B.returns
  have hts := z_E.ts (args := [.ref m0, .int a0].toArray) hE
  have hown : s.vm.findClass RX8 = some m.cls := findClass_of_methodNamed B.named
  have hlocks := B.notSynchronized
  subst hsz
  have hD := hD0.self (sz := s.heap.size)
  generalize hAe : va_A [(m0, .inr (10, [.int th, .ref qu, .ref qs, .ref qc, .ref qp, .int 0, .int (-1), .int 0, .null])), (qu, .inr (1, [.int 0, .ref eu, .int 0]))] s.heap.size = A at hD hX0 ⊢
  have hX : z_X A s s.heap := hX0
  have hA : ∀ q : Nat, s.heap.size ≤ q → A q := fun q h => by rw [← hAe]; exact Or.inr h
  have hS : va_S A s.heap s.heap [] := va_S.rf
  have hP : va_P D vwCl [(m0, .inr (10, [.int th, .ref qu, .ref qs, .ref qc, .ref qp, .int 0, .int (-1), .int 0, .null])), (qu, .inr (1, [.int 0, .ref eu, .int 0]))] s.heap := hP
  have hl := lv_entry ([.ref m0, .int a0]) (n := 2) (Nat.le_of_ble_eq_true rfl)
  rw [lg_entry_eq]
  generalize (lg_sl ([.ref m0, .int a0]) ++ List.replicate (2 - (lg_sl ([.ref m0, .int a0])).length) Slot.unset).toArray = ls at hl ⊢
  have hl : lv_has ls 2 [(0, .ref m0), (1, .int a0)] := hl
  skip
  refine lv_aload_n hx hb dX8_work_0 rfl (lv_at hl 0 rfl) ?_
  refine lv_iload_n hx hb dX8_work_1 rfl (lv_at hl 1 rfl) ?_
  obtain ⟨hb_1, hc_1⟩ := z_call (wc := [(m0, .inr (10, [.int th, .ref qu, .ref qs, .ref qc, .ref qp, .int 0, .int (-1), .int 0, .null])), (qu, .inr (1, [.int 0, .ref eu, .int 0]))]) (tc := []) ([.ref m0, .int a0]) hP hK hD hS hA hE hX [0, 1] rfl rfl [] rfl
  have hF_1 := va_free (wc := [(m0, .inr (10, [.int th, .ref qu, .ref qs, .ref qc, .ref qp, .int 0, .int (-1), .int 0, .null])), (qu, .inr (1, [.int 0, .ref eu, .int 0]))]) hD hS hA [0, 1] rfl
  refine va_calli (va_runV (As := [.int a0]) (rest := []) ⟨hx, hb, hml, hown, hts⟩ (f_X8_noWork l D m0 qu qs qc qp th eu a0 _ ) (z_cV 1 hE zw_1330 zw_1332 zw_66 zw_96 zw_1333 rfl rfl rfl (by decide +kernel) ⟨(Nat.le_of_ble_eq_true rfl), (Nat.le_of_ble_eq_true rfl)⟩) ⟨hb_1, va_recv hK hP (ci := 10) (q0 := 0) rfl rfl, hc_1⟩ rfl rfl hl.1 rfl (lv_room (Nat.le_of_ble_eq_true rfl)) dX8_work_2 ⟨(Nat.le_of_ble_eq_true rfl), (Nat.le_of_ble_eq_true rfl)⟩) hS (fun q _ h => hF_1 q h) hF_1 (fun r_1 u_1 t_1 H1 locs ht_1 hvm_1 hw_1 hB_1 hz_1 hk_1 hS1 => ?_)
  obtain ⟨hP, hK, hD⟩ := z_back (wc := [(m0, .inr (10, [.int th, .ref qu, .ref qs, .ref qc, .ref qp, .int 0, .int (-1), .int 0, .null])), (qu, .inr (1, [.int 0, .ref eu, .int 0]))]) (wr := []) (w1 := [(m0, .inr (10, [.int 1, .ref qu, .ref qs, .ref qc, .ref qp, .int 0, .int (-1), .int 0, .null])), (qu, .inr (1, [.int 0, .ref eu, .int 0]))]) (tr := []) hP hK hD [0, 1] [] rfl rfl rfl (by decide) ht_1 hvm_1 hk_1 hF_1 [] rfl hB_1
  have hS := hS1
  have hP : va_P D vwCl [(m0, .inr (10, [.int 1, .ref qu, .ref qs, .ref qc, .ref qp, .int 0, .int (-1), .int 0, .null])), (qu, .inr (1, [.int 0, .ref eu, .int 0]))] H1 := hP
  have hD : va_D A [(m0, .inr (10, [.int 1, .ref qu, .ref qs, .ref qc, .ref qp, .int 0, .int (-1), .int 0, .null])), (qu, .inr (1, [.int 0, .ref eu, .int 0]))] := hD
  have hK : va_K D vwCl [] s := hK
  clear hS1
  obtain rfl : r_1 = 1 := hw_1
  refine lv_if_eq (tgt := 13) hx hb dX8_work_5 (by decide) (fun c_2 => absurd c_2 (by decide)) (fun c_2 => ?_)
  refine lv_bipush (v := 32) hx hb dX8_work_8 (by decide) ?_
  refine lv_goto (tgt := 27) hx hb dX8_work_10 (by decide) ?_
  exact W.zret (v := 32) hx hb hr (by first | rfl | decide) (fun t ht hW => ⟨⟨32, (), rfl, trivial, z_end hP hK hD [0, 1] rfl rfl [] rfl ht hW.alike⟩, hS.F ht⟩) hS.2.2 dX8_work_27
theorem dX8_left_0 : decode cX8_left 0 = .ok (.aload_n 0, 1) := by decide +kernel
theorem dX8_left_1 : decode cX8_left 1 = .ok (.iload_n 1, 1) := by decide +kernel
theorem dX8_left_2 : decode cX8_left 2 = .ok (.invokevirtual 113, 3) := by decide +kernel
theorem dX8_left_5 : decode cX8_left 5 = .ok (.ifCond .eq 7, 3) := by decide +kernel
theorem dX8_left_8 : decode cX8_left 8 = .ok (.iconst 0, 1) := by decide +kernel
theorem dX8_left_9 : decode cX8_left 9 = .ok (.goto 17, 3) := by decide +kernel
theorem dX8_left_26 : decode cX8_left 26 = .ok (.ireturn, 1) := by decide +kernel
set_option maxHeartbeats 4000000 in
set_option maxRecDepth 100000 in
theorem f_X8_left (l : Launch) (D : va_G) (m0 : Nat) (qu : Nat) (qs : Nat) (qc : Nat) (qp : Nat) (th : Int32) (eu : Nat) (a0 : Int32) (sz : Nat)  : Met l yX8_left [Cond.code yX8_left cX8_left 2 (some .int)] ({ frames := 6, cells := 0, slots := 0, locals := 200 }) (z_Pc D [.ref m0, .int a0] [(m0, .inr (10, [.int th, .ref qu, .ref qs, .ref qc, .ref qp, .int 0, .int (-1), .int 0, .null])), (qu, .inr (1, [.int 0, .ref eu, .int 0]))] [] sz) (va_Qi (fun (r : Int32) (_ : Unit) => True) (fun _ t => z_W D [(m0, .inr (10, [.int 1, .ref qu, .ref qs, .ref qc, .ref qp, .int 0, .int (-1), .int 0, .null])), (qu, .inr (1, [.int 0, .ref eu, .int 0]))] [] (va_A [(m0, .inr (10, [.int th, .ref qu, .ref qs, .ref qc, .ref qp, .int 0, .int (-1), .int 0, .null])), (qu, .inr (1, [.int 0, .ref eu, .int 0]))] sz) t) (va_A [(m0, .inr (10, [.int th, .ref qu, .ref qs, .ref qc, .ref qp, .int 0, .int (-1), .int 0, .null])), (qu, .inr (1, [.int 0, .ref eu, .int 0]))] sz)) 0 0 (va_A [(m0, .inr (10, [.int th, .ref qu, .ref qs, .ref qc, .ref qp, .int 0, .int (-1), .int 0, .null])), (qu, .inr (1, [.int 0, .ref eu, .int 0]))] sz) := by
  refine Met.ofW (cc := cX8_left) (maxL := 2) (ret := (some .int)) (by decide +kernel) rfl ?_
  intro p e s m args below meth c s₁ B hml hv
  obtain ⟨rfl, hsz, hP, hK, hD0, hE, hX0⟩ := hv
  have hx := B.exec
  have hb := B.bytes
  have hr := B.returns
  have hts := z_E.ts (args := [.ref m0, .int a0].toArray) hE
  have hown : s.vm.findClass RX8 = some m.cls := findClass_of_methodNamed B.named
  have hlocks := B.notSynchronized
  subst hsz
  have hD := hD0.self (sz := s.heap.size)
  generalize hAe : va_A [(m0, .inr (10, [.int th, .ref qu, .ref qs, .ref qc, .ref qp, .int 0, .int (-1), .int 0, .null])), (qu, .inr (1, [.int 0, .ref eu, .int 0]))] s.heap.size = A at hD hX0 ⊢
  have hX : z_X A s s.heap := hX0
  have hA : ∀ q : Nat, s.heap.size ≤ q → A q := fun q h => by rw [← hAe]; exact Or.inr h
  have hS : va_S A s.heap s.heap [] := va_S.rf
  have hP : va_P D vwCl [(m0, .inr (10, [.int th, .ref qu, .ref qs, .ref qc, .ref qp, .int 0, .int (-1), .int 0, .null])), (qu, .inr (1, [.int 0, .ref eu, .int 0]))] s.heap := hP
  have hl := lv_entry ([.ref m0, .int a0]) (n := 2) (Nat.le_of_ble_eq_true rfl)
  rw [lg_entry_eq]
  generalize (lg_sl ([.ref m0, .int a0]) ++ List.replicate (2 - (lg_sl ([.ref m0, .int a0])).length) Slot.unset).toArray = ls at hl ⊢
  have hl : lv_has ls 2 [(0, .ref m0), (1, .int a0)] := hl
  skip
  refine lv_aload_n hx hb dX8_left_0 rfl (lv_at hl 0 rfl) ?_
  refine lv_iload_n hx hb dX8_left_1 rfl (lv_at hl 1 rfl) ?_
  obtain ⟨hb_1, hc_1⟩ := z_call (wc := [(m0, .inr (10, [.int th, .ref qu, .ref qs, .ref qc, .ref qp, .int 0, .int (-1), .int 0, .null])), (qu, .inr (1, [.int 0, .ref eu, .int 0]))]) (tc := []) ([.ref m0, .int a0]) hP hK hD hS hA hE hX [0, 1] rfl rfl [] rfl
  have hF_1 := va_free (wc := [(m0, .inr (10, [.int th, .ref qu, .ref qs, .ref qc, .ref qp, .int 0, .int (-1), .int 0, .null])), (qu, .inr (1, [.int 0, .ref eu, .int 0]))]) hD hS hA [0, 1] rfl
  refine va_calli (va_runV (As := [.int a0]) (rest := []) ⟨hx, hb, hml, hown, hts⟩ (f_X8_noWork l D m0 qu qs qc qp th eu a0 _ ) (z_cV 1 hE zw_1330 zw_1332 zw_66 zw_96 zw_1333 rfl rfl rfl (by decide +kernel) ⟨(Nat.le_of_ble_eq_true rfl), (Nat.le_of_ble_eq_true rfl)⟩) ⟨hb_1, va_recv hK hP (ci := 10) (q0 := 0) rfl rfl, hc_1⟩ rfl rfl hl.1 rfl (lv_room (Nat.le_of_ble_eq_true rfl)) dX8_left_2 ⟨(Nat.le_of_ble_eq_true rfl), (Nat.le_of_ble_eq_true rfl)⟩) hS (fun q _ h => hF_1 q h) hF_1 (fun r_1 u_1 t_1 H1 locs ht_1 hvm_1 hw_1 hB_1 hz_1 hk_1 hS1 => ?_)
  obtain ⟨hP, hK, hD⟩ := z_back (wc := [(m0, .inr (10, [.int th, .ref qu, .ref qs, .ref qc, .ref qp, .int 0, .int (-1), .int 0, .null])), (qu, .inr (1, [.int 0, .ref eu, .int 0]))]) (wr := []) (w1 := [(m0, .inr (10, [.int 1, .ref qu, .ref qs, .ref qc, .ref qp, .int 0, .int (-1), .int 0, .null])), (qu, .inr (1, [.int 0, .ref eu, .int 0]))]) (tr := []) hP hK hD [0, 1] [] rfl rfl rfl (by decide) ht_1 hvm_1 hk_1 hF_1 [] rfl hB_1
  have hS := hS1
  have hP : va_P D vwCl [(m0, .inr (10, [.int 1, .ref qu, .ref qs, .ref qc, .ref qp, .int 0, .int (-1), .int 0, .null])), (qu, .inr (1, [.int 0, .ref eu, .int 0]))] H1 := hP
  have hD : va_D A [(m0, .inr (10, [.int 1, .ref qu, .ref qs, .ref qc, .ref qp, .int 0, .int (-1), .int 0, .null])), (qu, .inr (1, [.int 0, .ref eu, .int 0]))] := hD
  have hK : va_K D vwCl [] s := hK
  clear hS1
  obtain rfl : r_1 = 1 := hw_1
  refine lv_if_eq (tgt := 12) hx hb dX8_left_5 (by decide) (fun c_2 => absurd c_2 (by decide)) (fun c_2 => ?_)
  refine lv_iconst (v := 0) hx hb dX8_left_8 (by decide) ?_
  refine lv_goto (tgt := 26) hx hb dX8_left_9 (by decide) ?_
  exact W.iret (v := 0) hx hb hr (fun t ht hW => ⟨⟨0, (), rfl, trivial, z_end hP hK hD [0, 1] rfl rfl [] rfl ht hW.alike⟩, hS.F ht⟩) hS.2.2 dX8_left_26
theorem dX8_whyNot_0 : decode cX8_whyNot 0 = .ok (.aload_n 0, 1) := by decide +kernel
theorem dX8_whyNot_1 : decode cX8_whyNot 1 = .ok (.iload_n 1, 1) := by decide +kernel
theorem dX8_whyNot_2 : decode cX8_whyNot 2 = .ok (.invokevirtual 113, 3) := by decide +kernel
theorem dX8_whyNot_5 : decode cX8_whyNot 5 = .ok (.ifCond .eq 8, 3) := by decide +kernel
theorem dX8_whyNot_8 : decode cX8_whyNot 8 = .ok (.bipush 32, 2) := by decide +kernel
theorem dX8_whyNot_10 : decode cX8_whyNot 10 = .ok (.goto 8, 3) := by decide +kernel
theorem dX8_whyNot_18 : decode cX8_whyNot 18 = .ok (.ireturn, 1) := by decide +kernel
set_option maxHeartbeats 4000000 in
set_option maxRecDepth 100000 in
theorem f_X8_whyNot (l : Launch) (D : va_G) (m0 : Nat) (qu : Nat) (qs : Nat) (qc : Nat) (qp : Nat) (th : Int32) (eu : Nat) (a0 : Int32) (sz : Nat)  : Met l yX8_whyNot [Cond.code yX8_whyNot cX8_whyNot 2 (some .char)] ({ frames := 6, cells := 0, slots := 0, locals := 200 }) (z_Pc D [.ref m0, .int a0] [(m0, .inr (10, [.int th, .ref qu, .ref qs, .ref qc, .ref qp, .int 0, .int (-1), .int 0, .null])), (qu, .inr (1, [.int 0, .ref eu, .int 0]))] [] sz) (va_Qi (fun (r : Int32) (_ : Unit) => True) (fun _ t => z_W D [(m0, .inr (10, [.int 1, .ref qu, .ref qs, .ref qc, .ref qp, .int 0, .int (-1), .int 0, .null])), (qu, .inr (1, [.int 0, .ref eu, .int 0]))] [] (va_A [(m0, .inr (10, [.int th, .ref qu, .ref qs, .ref qc, .ref qp, .int 0, .int (-1), .int 0, .null])), (qu, .inr (1, [.int 0, .ref eu, .int 0]))] sz) t) (va_A [(m0, .inr (10, [.int th, .ref qu, .ref qs, .ref qc, .ref qp, .int 0, .int (-1), .int 0, .null])), (qu, .inr (1, [.int 0, .ref eu, .int 0]))] sz)) 0 0 (va_A [(m0, .inr (10, [.int th, .ref qu, .ref qs, .ref qc, .ref qp, .int 0, .int (-1), .int 0, .null])), (qu, .inr (1, [.int 0, .ref eu, .int 0]))] sz) := by
  refine Met.ofW (cc := cX8_whyNot) (maxL := 2) (ret := (some .char)) (by decide +kernel) rfl ?_
  intro p e s m args below meth c s₁ B hml hv
  obtain ⟨rfl, hsz, hP, hK, hD0, hE, hX0⟩ := hv
  have hx := B.exec
  have hb := B.bytes
  have hr := B.returns
  have hts := z_E.ts (args := [.ref m0, .int a0].toArray) hE
  have hown : s.vm.findClass RX8 = some m.cls := findClass_of_methodNamed B.named
  have hlocks := B.notSynchronized
  subst hsz
  have hD := hD0.self (sz := s.heap.size)
  generalize hAe : va_A [(m0, .inr (10, [.int th, .ref qu, .ref qs, .ref qc, .ref qp, .int 0, .int (-1), .int 0, .null])), (qu, .inr (1, [.int 0, .ref eu, .int 0]))] s.heap.size = A at hD hX0 ⊢
  have hX : z_X A s s.heap := hX0
  have hA : ∀ q : Nat, s.heap.size ≤ q → A q := fun q h => by rw [← hAe]; exact Or.inr h
  have hS : va_S A s.heap s.heap [] := va_S.rf
  have hP : va_P D vwCl [(m0, .inr (10, [.int th, .ref qu, .ref qs, .ref qc, .ref qp, .int 0, .int (-1), .int 0, .null])), (qu, .inr (1, [.int 0, .ref eu, .int 0]))] s.heap := hP
  have hl := lv_entry ([.ref m0, .int a0]) (n := 2) (Nat.le_of_ble_eq_true rfl)
  rw [lg_entry_eq]
  generalize (lg_sl ([.ref m0, .int a0]) ++ List.replicate (2 - (lg_sl ([.ref m0, .int a0])).length) Slot.unset).toArray = ls at hl ⊢
  have hl : lv_has ls 2 [(0, .ref m0), (1, .int a0)] := hl
  skip
  refine lv_aload_n hx hb dX8_whyNot_0 rfl (lv_at hl 0 rfl) ?_
  refine lv_iload_n hx hb dX8_whyNot_1 rfl (lv_at hl 1 rfl) ?_
  obtain ⟨hb_1, hc_1⟩ := z_call (wc := [(m0, .inr (10, [.int th, .ref qu, .ref qs, .ref qc, .ref qp, .int 0, .int (-1), .int 0, .null])), (qu, .inr (1, [.int 0, .ref eu, .int 0]))]) (tc := []) ([.ref m0, .int a0]) hP hK hD hS hA hE hX [0, 1] rfl rfl [] rfl
  have hF_1 := va_free (wc := [(m0, .inr (10, [.int th, .ref qu, .ref qs, .ref qc, .ref qp, .int 0, .int (-1), .int 0, .null])), (qu, .inr (1, [.int 0, .ref eu, .int 0]))]) hD hS hA [0, 1] rfl
  refine va_calli (va_runV (As := [.int a0]) (rest := []) ⟨hx, hb, hml, hown, hts⟩ (f_X8_noWork l D m0 qu qs qc qp th eu a0 _ ) (z_cV 1 hE zw_1330 zw_1332 zw_66 zw_96 zw_1333 rfl rfl rfl (by decide +kernel) ⟨(Nat.le_of_ble_eq_true rfl), (Nat.le_of_ble_eq_true rfl)⟩) ⟨hb_1, va_recv hK hP (ci := 10) (q0 := 0) rfl rfl, hc_1⟩ rfl rfl hl.1 rfl (lv_room (Nat.le_of_ble_eq_true rfl)) dX8_whyNot_2 ⟨(Nat.le_of_ble_eq_true rfl), (Nat.le_of_ble_eq_true rfl)⟩) hS (fun q _ h => hF_1 q h) hF_1 (fun r_1 u_1 t_1 H1 locs ht_1 hvm_1 hw_1 hB_1 hz_1 hk_1 hS1 => ?_)
  obtain ⟨hP, hK, hD⟩ := z_back (wc := [(m0, .inr (10, [.int th, .ref qu, .ref qs, .ref qc, .ref qp, .int 0, .int (-1), .int 0, .null])), (qu, .inr (1, [.int 0, .ref eu, .int 0]))]) (wr := []) (w1 := [(m0, .inr (10, [.int 1, .ref qu, .ref qs, .ref qc, .ref qp, .int 0, .int (-1), .int 0, .null])), (qu, .inr (1, [.int 0, .ref eu, .int 0]))]) (tr := []) hP hK hD [0, 1] [] rfl rfl rfl (by decide) ht_1 hvm_1 hk_1 hF_1 [] rfl hB_1
  have hS := hS1
  have hP : va_P D vwCl [(m0, .inr (10, [.int 1, .ref qu, .ref qs, .ref qc, .ref qp, .int 0, .int (-1), .int 0, .null])), (qu, .inr (1, [.int 0, .ref eu, .int 0]))] H1 := hP
  have hD : va_D A [(m0, .inr (10, [.int 1, .ref qu, .ref qs, .ref qc, .ref qp, .int 0, .int (-1), .int 0, .null])), (qu, .inr (1, [.int 0, .ref eu, .int 0]))] := hD
  have hK : va_K D vwCl [] s := hK
  clear hS1
  obtain rfl : r_1 = 1 := hw_1
  refine lv_if_eq (tgt := 13) hx hb dX8_whyNot_5 (by decide) (fun c_2 => absurd c_2 (by decide)) (fun c_2 => ?_)
  refine lv_bipush (v := 32) hx hb dX8_whyNot_8 (by decide) ?_
  refine lv_goto (tgt := 18) hx hb dX8_whyNot_10 (by decide) ?_
  exact W.zret (v := 32) hx hb hr (by first | rfl | decide) (fun t ht hW => ⟨⟨32, (), rfl, trivial, z_end hP hK hD [0, 1] rfl rfl [] rfl ht hW.alike⟩, hS.F ht⟩) hS.2.2 dX8_whyNot_18
theorem dX8_begin_0 : decode cX8_begin 0 = .ok (.aload_n 0, 1) := by decide +kernel
theorem dX8_begin_1 : decode cX8_begin 1 = .ok (.iload_n 1, 1) := by decide +kernel
theorem dX8_begin_2 : decode cX8_begin 2 = .ok (.invokevirtual 77, 3) := by decide +kernel
theorem dX8_begin_5 : decode cX8_begin 5 = .ok (.ifCond .eq 5, 3) := by decide +kernel
theorem dX8_begin_8 : decode cX8_begin 8 = .ok (.iconst 0, 1) := by decide +kernel
theorem dX8_begin_9 : decode cX8_begin 9 = .ok (.ireturn, 1) := by decide +kernel
set_option maxHeartbeats 4000000 in
set_option maxRecDepth 100000 in
theorem f_X8_begin (l : Launch) (D : va_G) (m0 : Nat) (qu : Nat) (qs : Nat) (qc : Nat) (qp : Nat) (th : Int32) (eu : Nat) (a0 : Int32) (sz : Nat)  : Met l yX8_begin [Cond.code yX8_begin cX8_begin 4 (some .int)] ({ frames := 6, cells := 0, slots := 0, locals := 200 }) (z_Pc D [.ref m0, .int a0] [(m0, .inr (10, [.int th, .ref qu, .ref qs, .ref qc, .ref qp, .int 0, .int (-1), .int 0, .null])), (qu, .inr (1, [.int 0, .ref eu, .int 0]))] [] sz) (va_Qi (fun (r : Int32) (_ : Unit) => True) (fun _ t => z_W D [(m0, .inr (10, [.int 1, .ref qu, .ref qs, .ref qc, .ref qp, .int 0, .int (-1), .int 0, .null])), (qu, .inr (1, [.int 0, .ref eu, .int 0]))] [] (va_A [(m0, .inr (10, [.int th, .ref qu, .ref qs, .ref qc, .ref qp, .int 0, .int (-1), .int 0, .null])), (qu, .inr (1, [.int 0, .ref eu, .int 0]))] sz) t) (va_A [(m0, .inr (10, [.int th, .ref qu, .ref qs, .ref qc, .ref qp, .int 0, .int (-1), .int 0, .null])), (qu, .inr (1, [.int 0, .ref eu, .int 0]))] sz)) 0 0 (va_A [(m0, .inr (10, [.int th, .ref qu, .ref qs, .ref qc, .ref qp, .int 0, .int (-1), .int 0, .null])), (qu, .inr (1, [.int 0, .ref eu, .int 0]))] sz) := by
  refine Met.ofW (cc := cX8_begin) (maxL := 4) (ret := (some .int)) (by decide +kernel) rfl ?_
  intro p e s m args below meth c s₁ B hml hv
  obtain ⟨rfl, hsz, hP, hK, hD0, hE, hX0⟩ := hv
  have hx := B.exec
  have hb := B.bytes
  have hr := B.returns
  have hts := z_E.ts (args := [.ref m0, .int a0].toArray) hE
  have hown : s.vm.findClass RX8 = some m.cls := findClass_of_methodNamed B.named
  have hlocks := B.notSynchronized
  subst hsz
  have hD := hD0.self (sz := s.heap.size)
  generalize hAe : va_A [(m0, .inr (10, [.int th, .ref qu, .ref qs, .ref qc, .ref qp, .int 0, .int (-1), .int 0, .null])), (qu, .inr (1, [.int 0, .ref eu, .int 0]))] s.heap.size = A at hD hX0 ⊢
  have hX : z_X A s s.heap := hX0
  have hA : ∀ q : Nat, s.heap.size ≤ q → A q := fun q h => by rw [← hAe]; exact Or.inr h
  have hS : va_S A s.heap s.heap [] := va_S.rf
  have hP : va_P D vwCl [(m0, .inr (10, [.int th, .ref qu, .ref qs, .ref qc, .ref qp, .int 0, .int (-1), .int 0, .null])), (qu, .inr (1, [.int 0, .ref eu, .int 0]))] s.heap := hP
  have hl := lv_entry ([.ref m0, .int a0]) (n := 4) (Nat.le_of_ble_eq_true rfl)
  rw [lg_entry_eq]
  generalize (lg_sl ([.ref m0, .int a0]) ++ List.replicate (4 - (lg_sl ([.ref m0, .int a0])).length) Slot.unset).toArray = ls at hl ⊢
  have hl : lv_has ls 4 [(0, .ref m0), (1, .int a0)] := hl
  skip
  refine lv_aload_n hx hb dX8_begin_0 rfl (lv_at hl 0 rfl) ?_
  refine lv_iload_n hx hb dX8_begin_1 rfl (lv_at hl 1 rfl) ?_
  obtain ⟨hb_1, hc_1⟩ := z_call (wc := [(m0, .inr (10, [.int th, .ref qu, .ref qs, .ref qc, .ref qp, .int 0, .int (-1), .int 0, .null])), (qu, .inr (1, [.int 0, .ref eu, .int 0]))]) (tc := []) ([.ref m0, .int a0]) hP hK hD hS hA hE hX [0, 1] rfl rfl [] rfl
  have hF_1 := va_free (wc := [(m0, .inr (10, [.int th, .ref qu, .ref qs, .ref qc, .ref qp, .int 0, .int (-1), .int 0, .null])), (qu, .inr (1, [.int 0, .ref eu, .int 0]))]) hD hS hA [0, 1] rfl
  refine va_calli (va_runV (As := [.int a0]) (rest := []) ⟨hx, hb, hml, hown, hts⟩ (f_X8_noUnit l D m0 qu qs qc qp th eu a0 _ ) (z_cV 1 hE zw_1251 zw_1253 zw_64 zw_96 zw_1254 rfl rfl rfl (by decide +kernel) ⟨(Nat.le_of_ble_eq_true rfl), (Nat.le_of_ble_eq_true rfl)⟩) ⟨hb_1, va_recv hK hP (ci := 10) (q0 := 0) rfl rfl, hc_1⟩ rfl rfl hl.1 rfl (lv_room (Nat.le_of_ble_eq_true rfl)) dX8_begin_2 ⟨(Nat.le_of_ble_eq_true rfl), (Nat.le_of_ble_eq_true rfl)⟩) hS (fun q _ h => hF_1 q h) hF_1 (fun r_1 u_1 t_1 H1 locs ht_1 hvm_1 hw_1 hB_1 hz_1 hk_1 hS1 => ?_)
  obtain ⟨hP, hK, hD⟩ := z_back (wc := [(m0, .inr (10, [.int th, .ref qu, .ref qs, .ref qc, .ref qp, .int 0, .int (-1), .int 0, .null])), (qu, .inr (1, [.int 0, .ref eu, .int 0]))]) (wr := []) (w1 := [(m0, .inr (10, [.int 1, .ref qu, .ref qs, .ref qc, .ref qp, .int 0, .int (-1), .int 0, .null])), (qu, .inr (1, [.int 0, .ref eu, .int 0]))]) (tr := []) hP hK hD [0, 1] [] rfl rfl rfl (by decide) ht_1 hvm_1 hk_1 hF_1 [] rfl hB_1
  have hS := hS1
  have hP : va_P D vwCl [(m0, .inr (10, [.int 1, .ref qu, .ref qs, .ref qc, .ref qp, .int 0, .int (-1), .int 0, .null])), (qu, .inr (1, [.int 0, .ref eu, .int 0]))] H1 := hP
  have hD : va_D A [(m0, .inr (10, [.int 1, .ref qu, .ref qs, .ref qc, .ref qp, .int 0, .int (-1), .int 0, .null])), (qu, .inr (1, [.int 0, .ref eu, .int 0]))] := hD
  have hK : va_K D vwCl [] s := hK
  clear hS1
  obtain rfl : r_1 = 1 := hw_1
  refine lv_if_eq (tgt := 10) hx hb dX8_begin_5 (by decide) (fun c_2 => absurd c_2 (by decide)) (fun c_2 => ?_)
  refine lv_iconst (v := 0) hx hb dX8_begin_8 (by decide) ?_
  exact W.iret (v := 0) hx hb hr (fun t ht hW => ⟨⟨0, (), rfl, trivial, z_end hP hK hD [0, 1] rfl rfl [] rfl ht hW.alike⟩, hS.F ht⟩) hS.2.2 dX8_begin_9
theorem dX8_find_0 : decode cX8_find 0 = .ok (.aload_n 0, 1) := by decide +kernel
theorem dX8_find_1 : decode cX8_find 1 = .ok (.iload_n 1, 1) := by decide +kernel
theorem dX8_find_2 : decode cX8_find 2 = .ok (.invokevirtual 77, 3) := by decide +kernel
theorem dX8_find_5 : decode cX8_find 5 = .ok (.ifCond .eq 5, 3) := by decide +kernel
theorem dX8_find_8 : decode cX8_find 8 = .ok (.iconst 0, 1) := by decide +kernel
theorem dX8_find_9 : decode cX8_find 9 = .ok (.ireturn, 1) := by decide +kernel
set_option maxHeartbeats 4000000 in
set_option maxRecDepth 100000 in
theorem f_X8_find (l : Launch) (D : va_G) (m0 : Nat) (qu : Nat) (qs : Nat) (qc : Nat) (qp : Nat) (th : Int32) (eu : Nat) (a0 : Int32) (a1 : Int32) (sz : Nat)  : Met l yX8_find [Cond.code yX8_find cX8_find 3 (some .int)] ({ frames := 6, cells := 0, slots := 0, locals := 200 }) (z_Pc D [.ref m0, .int a0, .int a1] [(m0, .inr (10, [.int th, .ref qu, .ref qs, .ref qc, .ref qp, .int 0, .int (-1), .int 0, .null])), (qu, .inr (1, [.int 0, .ref eu, .int 0]))] [] sz) (va_Qi (fun (r : Int32) (_ : Unit) => True) (fun _ t => z_W D [(m0, .inr (10, [.int 1, .ref qu, .ref qs, .ref qc, .ref qp, .int 0, .int (-1), .int 0, .null])), (qu, .inr (1, [.int 0, .ref eu, .int 0]))] [] (va_A [(m0, .inr (10, [.int th, .ref qu, .ref qs, .ref qc, .ref qp, .int 0, .int (-1), .int 0, .null])), (qu, .inr (1, [.int 0, .ref eu, .int 0]))] sz) t) (va_A [(m0, .inr (10, [.int th, .ref qu, .ref qs, .ref qc, .ref qp, .int 0, .int (-1), .int 0, .null])), (qu, .inr (1, [.int 0, .ref eu, .int 0]))] sz)) 0 0 (va_A [(m0, .inr (10, [.int th, .ref qu, .ref qs, .ref qc, .ref qp, .int 0, .int (-1), .int 0, .null])), (qu, .inr (1, [.int 0, .ref eu, .int 0]))] sz) := by
  refine Met.ofW (cc := cX8_find) (maxL := 3) (ret := (some .int)) (by decide +kernel) rfl ?_
  intro p e s m args below meth c s₁ B hml hv
  obtain ⟨rfl, hsz, hP, hK, hD0, hE, hX0⟩ := hv
  have hx := B.exec
  have hb := B.bytes
  have hr := B.returns
  have hts := z_E.ts (args := [.ref m0, .int a0, .int a1].toArray) hE
  have hown : s.vm.findClass RX8 = some m.cls := findClass_of_methodNamed B.named
  have hlocks := B.notSynchronized
  subst hsz
  have hD := hD0.self (sz := s.heap.size)
  generalize hAe : va_A [(m0, .inr (10, [.int th, .ref qu, .ref qs, .ref qc, .ref qp, .int 0, .int (-1), .int 0, .null])), (qu, .inr (1, [.int 0, .ref eu, .int 0]))] s.heap.size = A at hD hX0 ⊢
  have hX : z_X A s s.heap := hX0
  have hA : ∀ q : Nat, s.heap.size ≤ q → A q := fun q h => by rw [← hAe]; exact Or.inr h
  have hS : va_S A s.heap s.heap [] := va_S.rf
  have hP : va_P D vwCl [(m0, .inr (10, [.int th, .ref qu, .ref qs, .ref qc, .ref qp, .int 0, .int (-1), .int 0, .null])), (qu, .inr (1, [.int 0, .ref eu, .int 0]))] s.heap := hP
  have hl := lv_entry ([.ref m0, .int a0, .int a1]) (n := 3) (Nat.le_of_ble_eq_true rfl)
  rw [lg_entry_eq]
  generalize (lg_sl ([.ref m0, .int a0, .int a1]) ++ List.replicate (3 - (lg_sl ([.ref m0, .int a0, .int a1])).length) Slot.unset).toArray = ls at hl ⊢
  have hl : lv_has ls 3 [(0, .ref m0), (1, .int a0), (2, .int a1)] := hl
  skip
  refine lv_aload_n hx hb dX8_find_0 rfl (lv_at hl 0 rfl) ?_
  refine lv_iload_n hx hb dX8_find_1 rfl (lv_at hl 1 rfl) ?_
  obtain ⟨hb_1, hc_1⟩ := z_call (wc := [(m0, .inr (10, [.int th, .ref qu, .ref qs, .ref qc, .ref qp, .int 0, .int (-1), .int 0, .null])), (qu, .inr (1, [.int 0, .ref eu, .int 0]))]) (tc := []) ([.ref m0, .int a0]) hP hK hD hS hA hE hX [0, 1] rfl rfl [] rfl
  have hF_1 := va_free (wc := [(m0, .inr (10, [.int th, .ref qu, .ref qs, .ref qc, .ref qp, .int 0, .int (-1), .int 0, .null])), (qu, .inr (1, [.int 0, .ref eu, .int 0]))]) hD hS hA [0, 1] rfl
  refine va_calli (va_runV (As := [.int a0]) (rest := []) ⟨hx, hb, hml, hown, hts⟩ (f_X8_noUnit l D m0 qu qs qc qp th eu a0 _ ) (z_cV 1 hE zw_1251 zw_1253 zw_64 zw_96 zw_1254 rfl rfl rfl (by decide +kernel) ⟨(Nat.le_of_ble_eq_true rfl), (Nat.le_of_ble_eq_true rfl)⟩) ⟨hb_1, va_recv hK hP (ci := 10) (q0 := 0) rfl rfl, hc_1⟩ rfl rfl hl.1 rfl (lv_room (Nat.le_of_ble_eq_true rfl)) dX8_find_2 ⟨(Nat.le_of_ble_eq_true rfl), (Nat.le_of_ble_eq_true rfl)⟩) hS (fun q _ h => hF_1 q h) hF_1 (fun r_1 u_1 t_1 H1 locs ht_1 hvm_1 hw_1 hB_1 hz_1 hk_1 hS1 => ?_)
  obtain ⟨hP, hK, hD⟩ := z_back (wc := [(m0, .inr (10, [.int th, .ref qu, .ref qs, .ref qc, .ref qp, .int 0, .int (-1), .int 0, .null])), (qu, .inr (1, [.int 0, .ref eu, .int 0]))]) (wr := []) (w1 := [(m0, .inr (10, [.int 1, .ref qu, .ref qs, .ref qc, .ref qp, .int 0, .int (-1), .int 0, .null])), (qu, .inr (1, [.int 0, .ref eu, .int 0]))]) (tr := []) hP hK hD [0, 1] [] rfl rfl rfl (by decide) ht_1 hvm_1 hk_1 hF_1 [] rfl hB_1
  have hS := hS1
  have hP : va_P D vwCl [(m0, .inr (10, [.int 1, .ref qu, .ref qs, .ref qc, .ref qp, .int 0, .int (-1), .int 0, .null])), (qu, .inr (1, [.int 0, .ref eu, .int 0]))] H1 := hP
  have hD : va_D A [(m0, .inr (10, [.int 1, .ref qu, .ref qs, .ref qc, .ref qp, .int 0, .int (-1), .int 0, .null])), (qu, .inr (1, [.int 0, .ref eu, .int 0]))] := hD
  have hK : va_K D vwCl [] s := hK
  clear hS1
  obtain rfl : r_1 = 1 := hw_1
  refine lv_if_eq (tgt := 10) hx hb dX8_find_5 (by decide) (fun c_2 => absurd c_2 (by decide)) (fun c_2 => ?_)
  refine lv_iconst (v := 0) hx hb dX8_find_8 (by decide) ?_
  exact W.iret (v := 0) hx hb hr (fun t ht hW => ⟨⟨0, (), rfl, trivial, z_end hP hK hD [0, 1] rfl rfl [] rfl ht hW.alike⟩, hS.F ht⟩) hS.2.2 dX8_find_9
theorem dX8_addShop_0 : decode cX8_addShop 0 = .ok (.aload_n 0, 1) := by decide +kernel
theorem dX8_addShop_1 : decode cX8_addShop 1 = .ok (.iload_n 1, 1) := by decide +kernel
theorem dX8_addShop_2 : decode cX8_addShop 2 = .ok (.invokevirtual 77, 3) := by decide +kernel
theorem dX8_addShop_5 : decode cX8_addShop 5 = .ok (.ifCond .eq 5, 3) := by decide +kernel
theorem dX8_addShop_8 : decode cX8_addShop 8 = .ok (.iconst 0, 1) := by decide +kernel
theorem dX8_addShop_9 : decode cX8_addShop 9 = .ok (.ireturn, 1) := by decide +kernel
set_option maxHeartbeats 4000000 in
set_option maxRecDepth 100000 in
theorem f_X8_addShop (l : Launch) (D : va_G) (m0 : Nat) (qu : Nat) (qs : Nat) (qc : Nat) (qp : Nat) (th : Int32) (eu : Nat) (a0 : Int32) (a1 : Int32) (a2 : Int32) (a3 : Int32) (a4 : Int32) (a5 : Int32) (sz : Nat)  : Met l yX8_addShop [Cond.code yX8_addShop cX8_addShop 10 (some .int)] ({ frames := 6, cells := 0, slots := 0, locals := 200 }) (z_Pc D [.ref m0, .int a0, .int a1, .int a2, .int a3, .int a4, .int a5] [(m0, .inr (10, [.int th, .ref qu, .ref qs, .ref qc, .ref qp, .int 0, .int (-1), .int 0, .null])), (qu, .inr (1, [.int 0, .ref eu, .int 0]))] [] sz) (va_Qi (fun (r : Int32) (_ : Unit) => True) (fun _ t => z_W D [(m0, .inr (10, [.int 1, .ref qu, .ref qs, .ref qc, .ref qp, .int 0, .int (-1), .int 0, .null])), (qu, .inr (1, [.int 0, .ref eu, .int 0]))] [] (va_A [(m0, .inr (10, [.int th, .ref qu, .ref qs, .ref qc, .ref qp, .int 0, .int (-1), .int 0, .null])), (qu, .inr (1, [.int 0, .ref eu, .int 0]))] sz) t) (va_A [(m0, .inr (10, [.int th, .ref qu, .ref qs, .ref qc, .ref qp, .int 0, .int (-1), .int 0, .null])), (qu, .inr (1, [.int 0, .ref eu, .int 0]))] sz)) 0 0 (va_A [(m0, .inr (10, [.int th, .ref qu, .ref qs, .ref qc, .ref qp, .int 0, .int (-1), .int 0, .null])), (qu, .inr (1, [.int 0, .ref eu, .int 0]))] sz) := by
  refine Met.ofW (cc := cX8_addShop) (maxL := 10) (ret := (some .int)) (by decide +kernel) rfl ?_
  intro p e s m args below meth c s₁ B hml hv
  obtain ⟨rfl, hsz, hP, hK, hD0, hE, hX0⟩ := hv
  have hx := B.exec
  have hb := B.bytes
  have hr := B.returns
  have hts := z_E.ts (args := [.ref m0, .int a0, .int a1, .int a2, .int a3, .int a4, .int a5].toArray) hE
  have hown : s.vm.findClass RX8 = some m.cls := findClass_of_methodNamed B.named
  have hlocks := B.notSynchronized
  subst hsz
  have hD := hD0.self (sz := s.heap.size)
  generalize hAe : va_A [(m0, .inr (10, [.int th, .ref qu, .ref qs, .ref qc, .ref qp, .int 0, .int (-1), .int 0, .null])), (qu, .inr (1, [.int 0, .ref eu, .int 0]))] s.heap.size = A at hD hX0 ⊢
  have hX : z_X A s s.heap := hX0
  have hA : ∀ q : Nat, s.heap.size ≤ q → A q := fun q h => by rw [← hAe]; exact Or.inr h
  have hS : va_S A s.heap s.heap [] := va_S.rf
  have hP : va_P D vwCl [(m0, .inr (10, [.int th, .ref qu, .ref qs, .ref qc, .ref qp, .int 0, .int (-1), .int 0, .null])), (qu, .inr (1, [.int 0, .ref eu, .int 0]))] s.heap := hP
  have hl := lv_entry ([.ref m0, .int a0, .int a1, .int a2, .int a3, .int a4, .int a5]) (n := 10) (Nat.le_of_ble_eq_true rfl)
  rw [lg_entry_eq]
  generalize (lg_sl ([.ref m0, .int a0, .int a1, .int a2, .int a3, .int a4, .int a5]) ++ List.replicate (10 - (lg_sl ([.ref m0, .int a0, .int a1, .int a2, .int a3, .int a4, .int a5])).length) Slot.unset).toArray = ls at hl ⊢
  have hl : lv_has ls 10 [(0, .ref m0), (1, .int a0), (2, .int a1), (3, .int a2), (4, .int a3), (5, .int a4), (6, .int a5)] := hl
  skip
  refine lv_aload_n hx hb dX8_addShop_0 rfl (lv_at hl 0 rfl) ?_
  refine lv_iload_n hx hb dX8_addShop_1 rfl (lv_at hl 1 rfl) ?_
  obtain ⟨hb_1, hc_1⟩ := z_call (wc := [(m0, .inr (10, [.int th, .ref qu, .ref qs, .ref qc, .ref qp, .int 0, .int (-1), .int 0, .null])), (qu, .inr (1, [.int 0, .ref eu, .int 0]))]) (tc := []) ([.ref m0, .int a0]) hP hK hD hS hA hE hX [0, 1] rfl rfl [] rfl
  have hF_1 := va_free (wc := [(m0, .inr (10, [.int th, .ref qu, .ref qs, .ref qc, .ref qp, .int 0, .int (-1), .int 0, .null])), (qu, .inr (1, [.int 0, .ref eu, .int 0]))]) hD hS hA [0, 1] rfl
  refine va_calli (va_runV (As := [.int a0]) (rest := []) ⟨hx, hb, hml, hown, hts⟩ (f_X8_noUnit l D m0 qu qs qc qp th eu a0 _ ) (z_cV 1 hE zw_1251 zw_1253 zw_64 zw_96 zw_1254 rfl rfl rfl (by decide +kernel) ⟨(Nat.le_of_ble_eq_true rfl), (Nat.le_of_ble_eq_true rfl)⟩) ⟨hb_1, va_recv hK hP (ci := 10) (q0 := 0) rfl rfl, hc_1⟩ rfl rfl hl.1 rfl (lv_room (Nat.le_of_ble_eq_true rfl)) dX8_addShop_2 ⟨(Nat.le_of_ble_eq_true rfl), (Nat.le_of_ble_eq_true rfl)⟩) hS (fun q _ h => hF_1 q h) hF_1 (fun r_1 u_1 t_1 H1 locs ht_1 hvm_1 hw_1 hB_1 hz_1 hk_1 hS1 => ?_)
  obtain ⟨hP, hK, hD⟩ := z_back (wc := [(m0, .inr (10, [.int th, .ref qu, .ref qs, .ref qc, .ref qp, .int 0, .int (-1), .int 0, .null])), (qu, .inr (1, [.int 0, .ref eu, .int 0]))]) (wr := []) (w1 := [(m0, .inr (10, [.int 1, .ref qu, .ref qs, .ref qc, .ref qp, .int 0, .int (-1), .int 0, .null])), (qu, .inr (1, [.int 0, .ref eu, .int 0]))]) (tr := []) hP hK hD [0, 1] [] rfl rfl rfl (by decide) ht_1 hvm_1 hk_1 hF_1 [] rfl hB_1
  have hS := hS1
  have hP : va_P D vwCl [(m0, .inr (10, [.int 1, .ref qu, .ref qs, .ref qc, .ref qp, .int 0, .int (-1), .int 0, .null])), (qu, .inr (1, [.int 0, .ref eu, .int 0]))] H1 := hP
  have hD : va_D A [(m0, .inr (10, [.int 1, .ref qu, .ref qs, .ref qc, .ref qp, .int 0, .int (-1), .int 0, .null])), (qu, .inr (1, [.int 0, .ref eu, .int 0]))] := hD
  have hK : va_K D vwCl [] s := hK
  clear hS1
  obtain rfl : r_1 = 1 := hw_1
  refine lv_if_eq (tgt := 10) hx hb dX8_addShop_5 (by decide) (fun c_2 => absurd c_2 (by decide)) (fun c_2 => ?_)
  refine lv_iconst (v := 0) hx hb dX8_addShop_8 (by decide) ?_
  exact W.iret (v := 0) hx hb hr (fun t ht hW => ⟨⟨0, (), rfl, trivial, z_end hP hK hD [0, 1] rfl rfl [] rfl ht hW.alike⟩, hS.F ht⟩) hS.2.2 dX8_addShop_9
theorem dX8_flow_0 : decode cX8_flow 0 = .ok (.aload_n 0, 1) := by decide +kernel
theorem dX8_flow_1 : decode cX8_flow 1 = .ok (.iload_n 1, 1) := by decide +kernel
theorem dX8_flow_2 : decode cX8_flow 2 = .ok (.invokevirtual 77, 3) := by decide +kernel
theorem dX8_flow_5 : decode cX8_flow 5 = .ok (.ifCond .eq 7, 3) := by decide +kernel
theorem dX8_flow_8 : decode cX8_flow 8 = .ok (.iconst 0, 1) := by decide +kernel
theorem dX8_flow_9 : decode cX8_flow 9 = .ok (.goto 10, 3) := by decide +kernel
theorem dX8_flow_19 : decode cX8_flow 19 = .ok (.ireturn, 1) := by decide +kernel
set_option maxHeartbeats 4000000 in
set_option maxRecDepth 100000 in
theorem f_X8_flow (l : Launch) (D : va_G) (m0 : Nat) (qu : Nat) (qs : Nat) (qc : Nat) (qp : Nat) (th : Int32) (eu : Nat) (a0 : Int32) (sz : Nat)  : Met l yX8_flow [Cond.code yX8_flow cX8_flow 2 (some .int)] ({ frames := 6, cells := 0, slots := 0, locals := 200 }) (z_Pc D [.ref m0, .int a0] [(m0, .inr (10, [.int th, .ref qu, .ref qs, .ref qc, .ref qp, .int 0, .int (-1), .int 0, .null])), (qu, .inr (1, [.int 0, .ref eu, .int 0]))] [] sz) (va_Qi (fun (r : Int32) (_ : Unit) => True) (fun _ t => z_W D [(m0, .inr (10, [.int 1, .ref qu, .ref qs, .ref qc, .ref qp, .int 0, .int (-1), .int 0, .null])), (qu, .inr (1, [.int 0, .ref eu, .int 0]))] [] (va_A [(m0, .inr (10, [.int th, .ref qu, .ref qs, .ref qc, .ref qp, .int 0, .int (-1), .int 0, .null])), (qu, .inr (1, [.int 0, .ref eu, .int 0]))] sz) t) (va_A [(m0, .inr (10, [.int th, .ref qu, .ref qs, .ref qc, .ref qp, .int 0, .int (-1), .int 0, .null])), (qu, .inr (1, [.int 0, .ref eu, .int 0]))] sz)) 0 0 (va_A [(m0, .inr (10, [.int th, .ref qu, .ref qs, .ref qc, .ref qp, .int 0, .int (-1), .int 0, .null])), (qu, .inr (1, [.int 0, .ref eu, .int 0]))] sz) := by
  refine Met.ofW (cc := cX8_flow) (maxL := 2) (ret := (some .int)) (by decide +kernel) rfl ?_
  intro p e s m args below meth c s₁ B hml hv
  obtain ⟨rfl, hsz, hP, hK, hD0, hE, hX0⟩ := hv
  have hx := B.exec
  have hb := B.bytes
  have hr := B.returns
  have hts := z_E.ts (args := [.ref m0, .int a0].toArray) hE
  have hown : s.vm.findClass RX8 = some m.cls := findClass_of_methodNamed B.named
  have hlocks := B.notSynchronized
  subst hsz
  have hD := hD0.self (sz := s.heap.size)
  generalize hAe : va_A [(m0, .inr (10, [.int th, .ref qu, .ref qs, .ref qc, .ref qp, .int 0, .int (-1), .int 0, .null])), (qu, .inr (1, [.int 0, .ref eu, .int 0]))] s.heap.size = A at hD hX0 ⊢
  have hX : z_X A s s.heap := hX0
  have hA : ∀ q : Nat, s.heap.size ≤ q → A q := fun q h => by rw [← hAe]; exact Or.inr h
  have hS : va_S A s.heap s.heap [] := va_S.rf
  have hP : va_P D vwCl [(m0, .inr (10, [.int th, .ref qu, .ref qs, .ref qc, .ref qp, .int 0, .int (-1), .int 0, .null])), (qu, .inr (1, [.int 0, .ref eu, .int 0]))] s.heap := hP
  have hl := lv_entry ([.ref m0, .int a0]) (n := 2) (Nat.le_of_ble_eq_true rfl)
  rw [lg_entry_eq]
  generalize (lg_sl ([.ref m0, .int a0]) ++ List.replicate (2 - (lg_sl ([.ref m0, .int a0])).length) Slot.unset).toArray = ls at hl ⊢
  have hl : lv_has ls 2 [(0, .ref m0), (1, .int a0)] := hl
  skip
  refine lv_aload_n hx hb dX8_flow_0 rfl (lv_at hl 0 rfl) ?_
  refine lv_iload_n hx hb dX8_flow_1 rfl (lv_at hl 1 rfl) ?_
  obtain ⟨hb_1, hc_1⟩ := z_call (wc := [(m0, .inr (10, [.int th, .ref qu, .ref qs, .ref qc, .ref qp, .int 0, .int (-1), .int 0, .null])), (qu, .inr (1, [.int 0, .ref eu, .int 0]))]) (tc := []) ([.ref m0, .int a0]) hP hK hD hS hA hE hX [0, 1] rfl rfl [] rfl
  have hF_1 := va_free (wc := [(m0, .inr (10, [.int th, .ref qu, .ref qs, .ref qc, .ref qp, .int 0, .int (-1), .int 0, .null])), (qu, .inr (1, [.int 0, .ref eu, .int 0]))]) hD hS hA [0, 1] rfl
  refine va_calli (va_runV (As := [.int a0]) (rest := []) ⟨hx, hb, hml, hown, hts⟩ (f_X8_noUnit l D m0 qu qs qc qp th eu a0 _ ) (z_cV 1 hE zw_1251 zw_1253 zw_64 zw_96 zw_1254 rfl rfl rfl (by decide +kernel) ⟨(Nat.le_of_ble_eq_true rfl), (Nat.le_of_ble_eq_true rfl)⟩) ⟨hb_1, va_recv hK hP (ci := 10) (q0 := 0) rfl rfl, hc_1⟩ rfl rfl hl.1 rfl (lv_room (Nat.le_of_ble_eq_true rfl)) dX8_flow_2 ⟨(Nat.le_of_ble_eq_true rfl), (Nat.le_of_ble_eq_true rfl)⟩) hS (fun q _ h => hF_1 q h) hF_1 (fun r_1 u_1 t_1 H1 locs ht_1 hvm_1 hw_1 hB_1 hz_1 hk_1 hS1 => ?_)
  obtain ⟨hP, hK, hD⟩ := z_back (wc := [(m0, .inr (10, [.int th, .ref qu, .ref qs, .ref qc, .ref qp, .int 0, .int (-1), .int 0, .null])), (qu, .inr (1, [.int 0, .ref eu, .int 0]))]) (wr := []) (w1 := [(m0, .inr (10, [.int 1, .ref qu, .ref qs, .ref qc, .ref qp, .int 0, .int (-1), .int 0, .null])), (qu, .inr (1, [.int 0, .ref eu, .int 0]))]) (tr := []) hP hK hD [0, 1] [] rfl rfl rfl (by decide) ht_1 hvm_1 hk_1 hF_1 [] rfl hB_1
  have hS := hS1
  have hP : va_P D vwCl [(m0, .inr (10, [.int 1, .ref qu, .ref qs, .ref qc, .ref qp, .int 0, .int (-1), .int 0, .null])), (qu, .inr (1, [.int 0, .ref eu, .int 0]))] H1 := hP
  have hD : va_D A [(m0, .inr (10, [.int 1, .ref qu, .ref qs, .ref qc, .ref qp, .int 0, .int (-1), .int 0, .null])), (qu, .inr (1, [.int 0, .ref eu, .int 0]))] := hD
  have hK : va_K D vwCl [] s := hK
  clear hS1
  obtain rfl : r_1 = 1 := hw_1
  refine lv_if_eq (tgt := 12) hx hb dX8_flow_5 (by decide) (fun c_2 => absurd c_2 (by decide)) (fun c_2 => ?_)
  refine lv_iconst (v := 0) hx hb dX8_flow_8 (by decide) ?_
  refine lv_goto (tgt := 19) hx hb dX8_flow_9 (by decide) ?_
  exact W.iret (v := 0) hx hb hr (fun t ht hW => ⟨⟨0, (), rfl, trivial, z_end hP hK hD [0, 1] rfl rfl [] rfl ht hW.alike⟩, hS.F ht⟩) hS.2.2 dX8_flow_19
theorem dX8_room_0 : decode cX8_room 0 = .ok (.aload_n 0, 1) := by decide +kernel
theorem dX8_room_1 : decode cX8_room 1 = .ok (.iload_n 1, 1) := by decide +kernel
theorem dX8_room_2 : decode cX8_room 2 = .ok (.invokevirtual 77, 3) := by decide +kernel
theorem dX8_room_5 : decode cX8_room 5 = .ok (.ifCond .eq 7, 3) := by decide +kernel
theorem dX8_room_8 : decode cX8_room 8 = .ok (.iconst 0, 1) := by decide +kernel
theorem dX8_room_9 : decode cX8_room 9 = .ok (.goto 9, 3) := by decide +kernel
theorem dX8_room_18 : decode cX8_room 18 = .ok (.ireturn, 1) := by decide +kernel
set_option maxHeartbeats 4000000 in
set_option maxRecDepth 100000 in
theorem f_X8_room (l : Launch) (D : va_G) (m0 : Nat) (qu : Nat) (qs : Nat) (qc : Nat) (qp : Nat) (th : Int32) (eu : Nat) (a0 : Int32) (sz : Nat)  : Met l yX8_room [Cond.code yX8_room cX8_room 2 (some .int)] ({ frames := 6, cells := 0, slots := 0, locals := 200 }) (z_Pc D [.ref m0, .int a0] [(m0, .inr (10, [.int th, .ref qu, .ref qs, .ref qc, .ref qp, .int 0, .int (-1), .int 0, .null])), (qu, .inr (1, [.int 0, .ref eu, .int 0]))] [] sz) (va_Qi (fun (r : Int32) (_ : Unit) => True) (fun _ t => z_W D [(m0, .inr (10, [.int 1, .ref qu, .ref qs, .ref qc, .ref qp, .int 0, .int (-1), .int 0, .null])), (qu, .inr (1, [.int 0, .ref eu, .int 0]))] [] (va_A [(m0, .inr (10, [.int th, .ref qu, .ref qs, .ref qc, .ref qp, .int 0, .int (-1), .int 0, .null])), (qu, .inr (1, [.int 0, .ref eu, .int 0]))] sz) t) (va_A [(m0, .inr (10, [.int th, .ref qu, .ref qs, .ref qc, .ref qp, .int 0, .int (-1), .int 0, .null])), (qu, .inr (1, [.int 0, .ref eu, .int 0]))] sz)) 0 0 (va_A [(m0, .inr (10, [.int th, .ref qu, .ref qs, .ref qc, .ref qp, .int 0, .int (-1), .int 0, .null])), (qu, .inr (1, [.int 0, .ref eu, .int 0]))] sz) := by
  refine Met.ofW (cc := cX8_room) (maxL := 2) (ret := (some .int)) (by decide +kernel) rfl ?_
  intro p e s m args below meth c s₁ B hml hv
  obtain ⟨rfl, hsz, hP, hK, hD0, hE, hX0⟩ := hv
  have hx := B.exec
  have hb := B.bytes
  have hr := B.returns
  have hts := z_E.ts (args := [.ref m0, .int a0].toArray) hE
  have hown : s.vm.findClass RX8 = some m.cls := findClass_of_methodNamed B.named
  have hlocks := B.notSynchronized
  subst hsz
  have hD := hD0.self (sz := s.heap.size)
  generalize hAe : va_A [(m0, .inr (10, [.int th, .ref qu, .ref qs, .ref qc, .ref qp, .int 0, .int (-1), .int 0, .null])), (qu, .inr (1, [.int 0, .ref eu, .int 0]))] s.heap.size = A at hD hX0 ⊢
  have hX : z_X A s s.heap := hX0
  have hA : ∀ q : Nat, s.heap.size ≤ q → A q := fun q h => by rw [← hAe]; exact Or.inr h
  have hS : va_S A s.heap s.heap [] := va_S.rf
  have hP : va_P D vwCl [(m0, .inr (10, [.int th, .ref qu, .ref qs, .ref qc, .ref qp, .int 0, .int (-1), .int 0, .null])), (qu, .inr (1, [.int 0, .ref eu, .int 0]))] s.heap := hP
  have hl := lv_entry ([.ref m0, .int a0]) (n := 2) (Nat.le_of_ble_eq_true rfl)
  rw [lg_entry_eq]
  generalize (lg_sl ([.ref m0, .int a0]) ++ List.replicate (2 - (lg_sl ([.ref m0, .int a0])).length) Slot.unset).toArray = ls at hl ⊢
  have hl : lv_has ls 2 [(0, .ref m0), (1, .int a0)] := hl
  skip
  refine lv_aload_n hx hb dX8_room_0 rfl (lv_at hl 0 rfl) ?_
  refine lv_iload_n hx hb dX8_room_1 rfl (lv_at hl 1 rfl) ?_
  obtain ⟨hb_1, hc_1⟩ := z_call (wc := [(m0, .inr (10, [.int th, .ref qu, .ref qs, .ref qc, .ref qp, .int 0, .int (-1), .int 0, .null])), (qu, .inr (1, [.int 0, .ref eu, .int 0]))]) (tc := []) ([.ref m0, .int a0]) hP hK hD hS hA hE hX [0, 1] rfl rfl [] rfl
  have hF_1 := va_free (wc := [(m0, .inr (10, [.int th, .ref qu, .ref qs, .ref qc, .ref qp, .int 0, .int (-1), .int 0, .null])), (qu, .inr (1, [.int 0, .ref eu, .int 0]))]) hD hS hA [0, 1] rfl
  refine va_calli (va_runV (As := [.int a0]) (rest := []) ⟨hx, hb, hml, hown, hts⟩ (f_X8_noUnit l D m0 qu qs qc qp th eu a0 _ ) (z_cV 1 hE zw_1251 zw_1253 zw_64 zw_96 zw_1254 rfl rfl rfl (by decide +kernel) ⟨(Nat.le_of_ble_eq_true rfl), (Nat.le_of_ble_eq_true rfl)⟩) ⟨hb_1, va_recv hK hP (ci := 10) (q0 := 0) rfl rfl, hc_1⟩ rfl rfl hl.1 rfl (lv_room (Nat.le_of_ble_eq_true rfl)) dX8_room_2 ⟨(Nat.le_of_ble_eq_true rfl), (Nat.le_of_ble_eq_true rfl)⟩) hS (fun q _ h => hF_1 q h) hF_1 (fun r_1 u_1 t_1 H1 locs ht_1 hvm_1 hw_1 hB_1 hz_1 hk_1 hS1 => ?_)
  obtain ⟨hP, hK, hD⟩ := z_back (wc := [(m0, .inr (10, [.int th, .ref qu, .ref qs, .ref qc, .ref qp, .int 0, .int (-1), .int 0, .null])), (qu, .inr (1, [.int 0, .ref eu, .int 0]))]) (wr := []) (w1 := [(m0, .inr (10, [.int 1, .ref qu, .ref qs, .ref qc, .ref qp, .int 0, .int (-1), .int 0, .null])), (qu, .inr (1, [.int 0, .ref eu, .int 0]))]) (tr := []) hP hK hD [0, 1] [] rfl rfl rfl (by decide) ht_1 hvm_1 hk_1 hF_1 [] rfl hB_1
  have hS := hS1
  have hP : va_P D vwCl [(m0, .inr (10, [.int 1, .ref qu, .ref qs, .ref qc, .ref qp, .int 0, .int (-1), .int 0, .null])), (qu, .inr (1, [.int 0, .ref eu, .int 0]))] H1 := hP
  have hD : va_D A [(m0, .inr (10, [.int 1, .ref qu, .ref qs, .ref qc, .ref qp, .int 0, .int (-1), .int 0, .null])), (qu, .inr (1, [.int 0, .ref eu, .int 0]))] := hD
  have hK : va_K D vwCl [] s := hK
  clear hS1
  obtain rfl : r_1 = 1 := hw_1
  refine lv_if_eq (tgt := 12) hx hb dX8_room_5 (by decide) (fun c_2 => absurd c_2 (by decide)) (fun c_2 => ?_)
  refine lv_iconst (v := 0) hx hb dX8_room_8 (by decide) ?_
  refine lv_goto (tgt := 18) hx hb dX8_room_9 (by decide) ?_
  exact W.iret (v := 0) hx hb hr (fun t ht hW => ⟨⟨0, (), rfl, trivial, z_end hP hK hD [0, 1] rfl rfl [] rfl ht hW.alike⟩, hS.F ht⟩) hS.2.2 dX8_room_18
theorem dX8_lostDays_0 : decode cX8_lostDays 0 = .ok (.aload_n 0, 1) := by decide +kernel
theorem dX8_lostDays_1 : decode cX8_lostDays 1 = .ok (.iload_n 1, 1) := by decide +kernel
theorem dX8_lostDays_2 : decode cX8_lostDays 2 = .ok (.invokevirtual 77, 3) := by decide +kernel
theorem dX8_lostDays_5 : decode cX8_lostDays 5 = .ok (.ifCond .eq 5, 3) := by decide +kernel
theorem dX8_lostDays_8 : decode cX8_lostDays 8 = .ok (.iconst 0, 1) := by decide +kernel
theorem dX8_lostDays_9 : decode cX8_lostDays 9 = .ok (.ireturn, 1) := by decide +kernel
set_option maxHeartbeats 4000000 in
set_option maxRecDepth 100000 in
theorem f_X8_lostDays (l : Launch) (D : va_G) (m0 : Nat) (qu : Nat) (qs : Nat) (qc : Nat) (qp : Nat) (th : Int32) (eu : Nat) (a0 : Int32) (a1 : Int32) (sz : Nat)  : Met l yX8_lostDays [Cond.code yX8_lostDays cX8_lostDays 3 (some .int)] ({ frames := 6, cells := 0, slots := 0, locals := 200 }) (z_Pc D [.ref m0, .int a0, .int a1] [(m0, .inr (10, [.int th, .ref qu, .ref qs, .ref qc, .ref qp, .int 0, .int (-1), .int 0, .null])), (qu, .inr (1, [.int 0, .ref eu, .int 0]))] [] sz) (va_Qi (fun (r : Int32) (_ : Unit) => True) (fun _ t => z_W D [(m0, .inr (10, [.int 1, .ref qu, .ref qs, .ref qc, .ref qp, .int 0, .int (-1), .int 0, .null])), (qu, .inr (1, [.int 0, .ref eu, .int 0]))] [] (va_A [(m0, .inr (10, [.int th, .ref qu, .ref qs, .ref qc, .ref qp, .int 0, .int (-1), .int 0, .null])), (qu, .inr (1, [.int 0, .ref eu, .int 0]))] sz) t) (va_A [(m0, .inr (10, [.int th, .ref qu, .ref qs, .ref qc, .ref qp, .int 0, .int (-1), .int 0, .null])), (qu, .inr (1, [.int 0, .ref eu, .int 0]))] sz)) 0 0 (va_A [(m0, .inr (10, [.int th, .ref qu, .ref qs, .ref qc, .ref qp, .int 0, .int (-1), .int 0, .null])), (qu, .inr (1, [.int 0, .ref eu, .int 0]))] sz) := by
  refine Met.ofW (cc := cX8_lostDays) (maxL := 3) (ret := (some .int)) (by decide +kernel) rfl ?_
  intro p e s m args below meth c s₁ B hml hv
  obtain ⟨rfl, hsz, hP, hK, hD0, hE, hX0⟩ := hv
  have hx := B.exec
  have hb := B.bytes
  have hr := B.returns
  have hts := z_E.ts (args := [.ref m0, .int a0, .int a1].toArray) hE
  have hown : s.vm.findClass RX8 = some m.cls := findClass_of_methodNamed B.named
  have hlocks := B.notSynchronized
  subst hsz
  have hD := hD0.self (sz := s.heap.size)
  generalize hAe : va_A [(m0, .inr (10, [.int th, .ref qu, .ref qs, .ref qc, .ref qp, .int 0, .int (-1), .int 0, .null])), (qu, .inr (1, [.int 0, .ref eu, .int 0]))] s.heap.size = A at hD hX0 ⊢
  have hX : z_X A s s.heap := hX0
  have hA : ∀ q : Nat, s.heap.size ≤ q → A q := fun q h => by rw [← hAe]; exact Or.inr h
  have hS : va_S A s.heap s.heap [] := va_S.rf
  have hP : va_P D vwCl [(m0, .inr (10, [.int th, .ref qu, .ref qs, .ref qc, .ref qp, .int 0, .int (-1), .int 0, .null])), (qu, .inr (1, [.int 0, .ref eu, .int 0]))] s.heap := hP
  have hl := lv_entry ([.ref m0, .int a0, .int a1]) (n := 3) (Nat.le_of_ble_eq_true rfl)
  rw [lg_entry_eq]
  generalize (lg_sl ([.ref m0, .int a0, .int a1]) ++ List.replicate (3 - (lg_sl ([.ref m0, .int a0, .int a1])).length) Slot.unset).toArray = ls at hl ⊢
  have hl : lv_has ls 3 [(0, .ref m0), (1, .int a0), (2, .int a1)] := hl
  skip
  refine lv_aload_n hx hb dX8_lostDays_0 rfl (lv_at hl 0 rfl) ?_
  refine lv_iload_n hx hb dX8_lostDays_1 rfl (lv_at hl 1 rfl) ?_
  obtain ⟨hb_1, hc_1⟩ := z_call (wc := [(m0, .inr (10, [.int th, .ref qu, .ref qs, .ref qc, .ref qp, .int 0, .int (-1), .int 0, .null])), (qu, .inr (1, [.int 0, .ref eu, .int 0]))]) (tc := []) ([.ref m0, .int a0]) hP hK hD hS hA hE hX [0, 1] rfl rfl [] rfl
  have hF_1 := va_free (wc := [(m0, .inr (10, [.int th, .ref qu, .ref qs, .ref qc, .ref qp, .int 0, .int (-1), .int 0, .null])), (qu, .inr (1, [.int 0, .ref eu, .int 0]))]) hD hS hA [0, 1] rfl
  refine va_calli (va_runV (As := [.int a0]) (rest := []) ⟨hx, hb, hml, hown, hts⟩ (f_X8_noUnit l D m0 qu qs qc qp th eu a0 _ ) (z_cV 1 hE zw_1251 zw_1253 zw_64 zw_96 zw_1254 rfl rfl rfl (by decide +kernel) ⟨(Nat.le_of_ble_eq_true rfl), (Nat.le_of_ble_eq_true rfl)⟩) ⟨hb_1, va_recv hK hP (ci := 10) (q0 := 0) rfl rfl, hc_1⟩ rfl rfl hl.1 rfl (lv_room (Nat.le_of_ble_eq_true rfl)) dX8_lostDays_2 ⟨(Nat.le_of_ble_eq_true rfl), (Nat.le_of_ble_eq_true rfl)⟩) hS (fun q _ h => hF_1 q h) hF_1 (fun r_1 u_1 t_1 H1 locs ht_1 hvm_1 hw_1 hB_1 hz_1 hk_1 hS1 => ?_)
  obtain ⟨hP, hK, hD⟩ := z_back (wc := [(m0, .inr (10, [.int th, .ref qu, .ref qs, .ref qc, .ref qp, .int 0, .int (-1), .int 0, .null])), (qu, .inr (1, [.int 0, .ref eu, .int 0]))]) (wr := []) (w1 := [(m0, .inr (10, [.int 1, .ref qu, .ref qs, .ref qc, .ref qp, .int 0, .int (-1), .int 0, .null])), (qu, .inr (1, [.int 0, .ref eu, .int 0]))]) (tr := []) hP hK hD [0, 1] [] rfl rfl rfl (by decide) ht_1 hvm_1 hk_1 hF_1 [] rfl hB_1
  have hS := hS1
  have hP : va_P D vwCl [(m0, .inr (10, [.int 1, .ref qu, .ref qs, .ref qc, .ref qp, .int 0, .int (-1), .int 0, .null])), (qu, .inr (1, [.int 0, .ref eu, .int 0]))] H1 := hP
  have hD : va_D A [(m0, .inr (10, [.int 1, .ref qu, .ref qs, .ref qc, .ref qp, .int 0, .int (-1), .int 0, .null])), (qu, .inr (1, [.int 0, .ref eu, .int 0]))] := hD
  have hK : va_K D vwCl [] s := hK
  clear hS1
  obtain rfl : r_1 = 1 := hw_1
  refine lv_if_eq (tgt := 10) hx hb dX8_lostDays_5 (by decide) (fun c_2 => absurd c_2 (by decide)) (fun c_2 => ?_)
  refine lv_iconst (v := 0) hx hb dX8_lostDays_8 (by decide) ?_
  exact W.iret (v := 0) hx hb hr (fun t ht hW => ⟨⟨0, (), rfl, trivial, z_end hP hK hD [0, 1] rfl rfl [] rfl ht hW.alike⟩, hS.F ht⟩) hS.2.2 dX8_lostDays_9
theorem dX8_startIn_0 : decode cX8_startIn 0 = .ok (.aload_n 0, 1) := by decide +kernel
theorem dX8_startIn_1 : decode cX8_startIn 1 = .ok (.iload_n 1, 1) := by decide +kernel
theorem dX8_startIn_2 : decode cX8_startIn 2 = .ok (.invokevirtual 77, 3) := by decide +kernel
theorem dX8_startIn_5 : decode cX8_startIn 5 = .ok (.ifCond .eq 5, 3) := by decide +kernel
theorem dX8_startIn_8 : decode cX8_startIn 8 = .ok (.iconst 0, 1) := by decide +kernel
theorem dX8_startIn_9 : decode cX8_startIn 9 = .ok (.ireturn, 1) := by decide +kernel
set_option maxHeartbeats 4000000 in
set_option maxRecDepth 100000 in
theorem f_X8_startIn (l : Launch) (D : va_G) (m0 : Nat) (qu : Nat) (qs : Nat) (qc : Nat) (qp : Nat) (th : Int32) (eu : Nat) (a0 : Int32) (sz : Nat)  : Met l yX8_startIn [Cond.code yX8_startIn cX8_startIn 2 (some .int)] ({ frames := 6, cells := 0, slots := 0, locals := 200 }) (z_Pc D [.ref m0, .int a0] [(m0, .inr (10, [.int th, .ref qu, .ref qs, .ref qc, .ref qp, .int 0, .int (-1), .int 0, .null])), (qu, .inr (1, [.int 0, .ref eu, .int 0]))] [] sz) (va_Qi (fun (r : Int32) (_ : Unit) => True) (fun _ t => z_W D [(m0, .inr (10, [.int 1, .ref qu, .ref qs, .ref qc, .ref qp, .int 0, .int (-1), .int 0, .null])), (qu, .inr (1, [.int 0, .ref eu, .int 0]))] [] (va_A [(m0, .inr (10, [.int th, .ref qu, .ref qs, .ref qc, .ref qp, .int 0, .int (-1), .int 0, .null])), (qu, .inr (1, [.int 0, .ref eu, .int 0]))] sz) t) (va_A [(m0, .inr (10, [.int th, .ref qu, .ref qs, .ref qc, .ref qp, .int 0, .int (-1), .int 0, .null])), (qu, .inr (1, [.int 0, .ref eu, .int 0]))] sz)) 0 0 (va_A [(m0, .inr (10, [.int th, .ref qu, .ref qs, .ref qc, .ref qp, .int 0, .int (-1), .int 0, .null])), (qu, .inr (1, [.int 0, .ref eu, .int 0]))] sz) := by
  refine Met.ofW (cc := cX8_startIn) (maxL := 2) (ret := (some .int)) (by decide +kernel) rfl ?_
  intro p e s m args below meth c s₁ B hml hv
  obtain ⟨rfl, hsz, hP, hK, hD0, hE, hX0⟩ := hv
  have hx := B.exec
  have hb := B.bytes
  have hr := B.returns
  have hts := z_E.ts (args := [.ref m0, .int a0].toArray) hE
  have hown : s.vm.findClass RX8 = some m.cls := findClass_of_methodNamed B.named
  have hlocks := B.notSynchronized
  subst hsz
  have hD := hD0.self (sz := s.heap.size)
  generalize hAe : va_A [(m0, .inr (10, [.int th, .ref qu, .ref qs, .ref qc, .ref qp, .int 0, .int (-1), .int 0, .null])), (qu, .inr (1, [.int 0, .ref eu, .int 0]))] s.heap.size = A at hD hX0 ⊢
  have hX : z_X A s s.heap := hX0
  have hA : ∀ q : Nat, s.heap.size ≤ q → A q := fun q h => by rw [← hAe]; exact Or.inr h
  have hS : va_S A s.heap s.heap [] := va_S.rf
  have hP : va_P D vwCl [(m0, .inr (10, [.int th, .ref qu, .ref qs, .ref qc, .ref qp, .int 0, .int (-1), .int 0, .null])), (qu, .inr (1, [.int 0, .ref eu, .int 0]))] s.heap := hP
  have hl := lv_entry ([.ref m0, .int a0]) (n := 2) (Nat.le_of_ble_eq_true rfl)
  rw [lg_entry_eq]
  generalize (lg_sl ([.ref m0, .int a0]) ++ List.replicate (2 - (lg_sl ([.ref m0, .int a0])).length) Slot.unset).toArray = ls at hl ⊢
  have hl : lv_has ls 2 [(0, .ref m0), (1, .int a0)] := hl
  skip
  refine lv_aload_n hx hb dX8_startIn_0 rfl (lv_at hl 0 rfl) ?_
  refine lv_iload_n hx hb dX8_startIn_1 rfl (lv_at hl 1 rfl) ?_
  obtain ⟨hb_1, hc_1⟩ := z_call (wc := [(m0, .inr (10, [.int th, .ref qu, .ref qs, .ref qc, .ref qp, .int 0, .int (-1), .int 0, .null])), (qu, .inr (1, [.int 0, .ref eu, .int 0]))]) (tc := []) ([.ref m0, .int a0]) hP hK hD hS hA hE hX [0, 1] rfl rfl [] rfl
  have hF_1 := va_free (wc := [(m0, .inr (10, [.int th, .ref qu, .ref qs, .ref qc, .ref qp, .int 0, .int (-1), .int 0, .null])), (qu, .inr (1, [.int 0, .ref eu, .int 0]))]) hD hS hA [0, 1] rfl
  refine va_calli (va_runV (As := [.int a0]) (rest := []) ⟨hx, hb, hml, hown, hts⟩ (f_X8_noUnit l D m0 qu qs qc qp th eu a0 _ ) (z_cV 1 hE zw_1251 zw_1253 zw_64 zw_96 zw_1254 rfl rfl rfl (by decide +kernel) ⟨(Nat.le_of_ble_eq_true rfl), (Nat.le_of_ble_eq_true rfl)⟩) ⟨hb_1, va_recv hK hP (ci := 10) (q0 := 0) rfl rfl, hc_1⟩ rfl rfl hl.1 rfl (lv_room (Nat.le_of_ble_eq_true rfl)) dX8_startIn_2 ⟨(Nat.le_of_ble_eq_true rfl), (Nat.le_of_ble_eq_true rfl)⟩) hS (fun q _ h => hF_1 q h) hF_1 (fun r_1 u_1 t_1 H1 locs ht_1 hvm_1 hw_1 hB_1 hz_1 hk_1 hS1 => ?_)
  obtain ⟨hP, hK, hD⟩ := z_back (wc := [(m0, .inr (10, [.int th, .ref qu, .ref qs, .ref qc, .ref qp, .int 0, .int (-1), .int 0, .null])), (qu, .inr (1, [.int 0, .ref eu, .int 0]))]) (wr := []) (w1 := [(m0, .inr (10, [.int 1, .ref qu, .ref qs, .ref qc, .ref qp, .int 0, .int (-1), .int 0, .null])), (qu, .inr (1, [.int 0, .ref eu, .int 0]))]) (tr := []) hP hK hD [0, 1] [] rfl rfl rfl (by decide) ht_1 hvm_1 hk_1 hF_1 [] rfl hB_1
  have hS := hS1
  have hP : va_P D vwCl [(m0, .inr (10, [.int 1, .ref qu, .ref qs, .ref qc, .ref qp, .int 0, .int (-1), .int 0, .null])), (qu, .inr (1, [.int 0, .ref eu, .int 0]))] H1 := hP
  have hD : va_D A [(m0, .inr (10, [.int 1, .ref qu, .ref qs, .ref qc, .ref qp, .int 0, .int (-1), .int 0, .null])), (qu, .inr (1, [.int 0, .ref eu, .int 0]))] := hD
  have hK : va_K D vwCl [] s := hK
  clear hS1
  obtain rfl : r_1 = 1 := hw_1
  refine lv_if_eq (tgt := 10) hx hb dX8_startIn_5 (by decide) (fun c_2 => absurd c_2 (by decide)) (fun c_2 => ?_)
  refine lv_iconst (v := 0) hx hb dX8_startIn_8 (by decide) ?_
  exact W.iret (v := 0) hx hb hr (fun t ht hW => ⟨⟨0, (), rfl, trivial, z_end hP hK hD [0, 1] rfl rfl [] rfl ht hW.alike⟩, hS.F ht⟩) hS.2.2 dX8_startIn_9
theorem dX8_state_0 : decode cX8_state 0 = .ok (.aload_n 0, 1) := by decide +kernel
theorem dX8_state_1 : decode cX8_state 1 = .ok (.iload_n 1, 1) := by decide +kernel
theorem dX8_state_2 : decode cX8_state 2 = .ok (.invokevirtual 169, 3) := by decide +kernel
theorem zw_1464 : Cond.methodLink RX8 169 yX8_noShop ∈ z_Ts := z_m 1464 (by decide +kernel) (by decide +kernel)
theorem zw_1466 : Cond.instanceMethod yX8_noShop ∈ z_Ts := z_m 1466 (by decide +kernel) (by decide +kernel)
theorem zw_74 : Cond.selects RX8 yX8_noShop yX8_noShop ∈ z_Ts := z_m 74 (by decide +kernel) (by decide +kernel)
theorem zw_1467 : Cond.code yX8_noShop cX8_noShop 2 (some .boolean) ∈ z_Ts := z_m 1467 (by decide +kernel) (by decide +kernel)
theorem dX8_state_5 : decode cX8_state 5 = .ok (.ifCond .eq 8, 3) := by decide +kernel
theorem dX8_state_8 : decode cX8_state 8 = .ok (.bipush 32, 2) := by decide +kernel
theorem dX8_state_10 : decode cX8_state 10 = .ok (.goto 17, 3) := by decide +kernel
theorem dX8_state_27 : decode cX8_state 27 = .ok (.ireturn, 1) := by decide +kernel
set_option maxHeartbeats 4000000 in
set_option maxRecDepth 100000 in
theorem f_X8_state (l : Launch) (D : va_G) (m0 : Nat) (qu : Nat) (qs : Nat) (qc : Nat) (qp : Nat) (th : Int32) (es : Nat) (a0 : Int32) (sz : Nat)  : Met l yX8_state [Cond.code yX8_state cX8_state 2 (some .char)] ({ frames := 6, cells := 0, slots := 0, locals := 200 }) (z_Pc D [.ref m0, .int a0] [(m0, .inr (10, [.int th, .ref qu, .ref qs, .ref qc, .ref qp, .int 0, .int (-1), .int 0, .null])), (qs, .inr (1, [.int 0, .ref es, .int 0]))] [] sz) (va_Qi (fun (r : Int32) (_ : Unit) => True) (fun _ t => z_W D [(m0, .inr (10, [.int 1, .ref qu, .ref qs, .ref qc, .ref qp, .int 0, .int (-1), .int 0, .null])), (qs, .inr (1, [.int 0, .ref es, .int 0]))] [] (va_A [(m0, .inr (10, [.int th, .ref qu, .ref qs, .ref qc, .ref qp, .int 0, .int (-1), .int 0, .null])), (qs, .inr (1, [.int 0, .ref es, .int 0]))] sz) t) (va_A [(m0, .inr (10, [.int th, .ref qu, .ref qs, .ref qc, .ref qp, .int 0, .int (-1), .int 0, .null])), (qs, .inr (1, [.int 0, .ref es, .int 0]))] sz)) 0 0 (va_A [(m0, .inr (10, [.int th, .ref qu, .ref qs, .ref qc, .ref qp, .int 0, .int (-1), .int 0, .null])), (qs, .inr (1, [.int 0, .ref es, .int 0]))] sz) := by
  refine Met.ofW (cc := cX8_state) (maxL := 2) (ret := (some .char)) (by decide +kernel) rfl ?_
  intro p e s m args below meth c s₁ B hml hv
  obtain ⟨rfl, hsz, hP, hK, hD0, hE, hX0⟩ := hv
  have hx := B.exec
  have hb := B.bytes
  have hr := B.returns
  have hts := z_E.ts (args := [.ref m0, .int a0].toArray) hE
  have hown : s.vm.findClass RX8 = some m.cls := findClass_of_methodNamed B.named
  have hlocks := B.notSynchronized
  subst hsz
  have hD := hD0.self (sz := s.heap.size)
  generalize hAe : va_A [(m0, .inr (10, [.int th, .ref qu, .ref qs, .ref qc, .ref qp, .int 0, .int (-1), .int 0, .null])), (qs, .inr (1, [.int 0, .ref es, .int 0]))] s.heap.size = A at hD hX0 ⊢
  have hX : z_X A s s.heap := hX0
  have hA : ∀ q : Nat, s.heap.size ≤ q → A q := fun q h => by rw [← hAe]; exact Or.inr h
  have hS : va_S A s.heap s.heap [] := va_S.rf
  have hP : va_P D vwCl [(m0, .inr (10, [.int th, .ref qu, .ref qs, .ref qc, .ref qp, .int 0, .int (-1), .int 0, .null])), (qs, .inr (1, [.int 0, .ref es, .int 0]))] s.heap := hP
  have hl := lv_entry ([.ref m0, .int a0]) (n := 2) (Nat.le_of_ble_eq_true rfl)
  rw [lg_entry_eq]
  generalize (lg_sl ([.ref m0, .int a0]) ++ List.replicate (2 - (lg_sl ([.ref m0, .int a0])).length) Slot.unset).toArray = ls at hl ⊢
  have hl : lv_has ls 2 [(0, .ref m0), (1, .int a0)] := hl
  skip
  refine lv_aload_n hx hb dX8_state_0 rfl (lv_at hl 0 rfl) ?_
  refine lv_iload_n hx hb dX8_state_1 rfl (lv_at hl 1 rfl) ?_
  obtain ⟨hb_1, hc_1⟩ := z_call (wc := [(m0, .inr (10, [.int th, .ref qu, .ref qs, .ref qc, .ref qp, .int 0, .int (-1), .int 0, .null])), (qs, .inr (1, [.int 0, .ref es, .int 0]))]) (tc := []) ([.ref m0, .int a0]) hP hK hD hS hA hE hX [0, 1] rfl rfl [] rfl
  have hF_1 := va_free (wc := [(m0, .inr (10, [.int th, .ref qu, .ref qs, .ref qc, .ref qp, .int 0, .int (-1), .int 0, .null])), (qs, .inr (1, [.int 0, .ref es, .int 0]))]) hD hS hA [0, 1] rfl
  refine va_calli (va_runV (As := [.int a0]) (rest := []) ⟨hx, hb, hml, hown, hts⟩ (f_X8_noShop l D m0 qu qs qc qp th es a0 _ ) (z_cV 1 hE zw_1464 zw_1466 zw_74 zw_96 zw_1467 rfl rfl rfl (by decide +kernel) ⟨(Nat.le_of_ble_eq_true rfl), (Nat.le_of_ble_eq_true rfl)⟩) ⟨hb_1, va_recv hK hP (ci := 10) (q0 := 0) rfl rfl, hc_1⟩ rfl rfl hl.1 rfl (lv_room (Nat.le_of_ble_eq_true rfl)) dX8_state_2 ⟨(Nat.le_of_ble_eq_true rfl), (Nat.le_of_ble_eq_true rfl)⟩) hS (fun q _ h => hF_1 q h) hF_1 (fun r_1 u_1 t_1 H1 locs ht_1 hvm_1 hw_1 hB_1 hz_1 hk_1 hS1 => ?_)
  obtain ⟨hP, hK, hD⟩ := z_back (wc := [(m0, .inr (10, [.int th, .ref qu, .ref qs, .ref qc, .ref qp, .int 0, .int (-1), .int 0, .null])), (qs, .inr (1, [.int 0, .ref es, .int 0]))]) (wr := []) (w1 := [(m0, .inr (10, [.int 1, .ref qu, .ref qs, .ref qc, .ref qp, .int 0, .int (-1), .int 0, .null])), (qs, .inr (1, [.int 0, .ref es, .int 0]))]) (tr := []) hP hK hD [0, 1] [] rfl rfl rfl (by decide) ht_1 hvm_1 hk_1 hF_1 [] rfl hB_1
  have hS := hS1
  have hP : va_P D vwCl [(m0, .inr (10, [.int 1, .ref qu, .ref qs, .ref qc, .ref qp, .int 0, .int (-1), .int 0, .null])), (qs, .inr (1, [.int 0, .ref es, .int 0]))] H1 := hP
  have hD : va_D A [(m0, .inr (10, [.int 1, .ref qu, .ref qs, .ref qc, .ref qp, .int 0, .int (-1), .int 0, .null])), (qs, .inr (1, [.int 0, .ref es, .int 0]))] := hD
  have hK : va_K D vwCl [] s := hK
  clear hS1
  obtain rfl : r_1 = 1 := hw_1
  refine lv_if_eq (tgt := 13) hx hb dX8_state_5 (by decide) (fun c_2 => absurd c_2 (by decide)) (fun c_2 => ?_)
  refine lv_bipush (v := 32) hx hb dX8_state_8 (by decide) ?_
  refine lv_goto (tgt := 27) hx hb dX8_state_10 (by decide) ?_
  exact W.zret (v := 32) hx hb hr (by first | rfl | decide) (fun t ht hW => ⟨⟨32, (), rfl, trivial, z_end hP hK hD [0, 1] rfl rfl [] rfl ht hW.alike⟩, hS.F ht⟩) hS.2.2 dX8_state_27
theorem dX8_unitOf_0 : decode cX8_unitOf 0 = .ok (.aload_n 0, 1) := by decide +kernel
theorem dX8_unitOf_1 : decode cX8_unitOf 1 = .ok (.iload_n 1, 1) := by decide +kernel
theorem dX8_unitOf_2 : decode cX8_unitOf 2 = .ok (.invokevirtual 169, 3) := by decide +kernel
theorem dX8_unitOf_5 : decode cX8_unitOf 5 = .ok (.ifCond .eq 5, 3) := by decide +kernel
theorem dX8_unitOf_8 : decode cX8_unitOf 8 = .ok (.iconst 0, 1) := by decide +kernel
theorem dX8_unitOf_9 : decode cX8_unitOf 9 = .ok (.ireturn, 1) := by decide +kernel
set_option maxHeartbeats 4000000 in
set_option maxRecDepth 100000 in
theorem f_X8_unitOf (l : Launch) (D : va_G) (m0 : Nat) (qu : Nat) (qs : Nat) (qc : Nat) (qp : Nat) (th : Int32) (es : Nat) (a0 : Int32) (sz : Nat)  : Met l yX8_unitOf [Cond.code yX8_unitOf cX8_unitOf 2 (some .int)] ({ frames := 6, cells := 0, slots := 0, locals := 200 }) (z_Pc D [.ref m0, .int a0] [(m0, .inr (10, [.int th, .ref qu, .ref qs, .ref qc, .ref qp, .int 0, .int (-1), .int 0, .null])), (qs, .inr (1, [.int 0, .ref es, .int 0]))] [] sz) (va_Qi (fun (r : Int32) (_ : Unit) => True) (fun _ t => z_W D [(m0, .inr (10, [.int 1, .ref qu, .ref qs, .ref qc, .ref qp, .int 0, .int (-1), .int 0, .null])), (qs, .inr (1, [.int 0, .ref es, .int 0]))] [] (va_A [(m0, .inr (10, [.int th, .ref qu, .ref qs, .ref qc, .ref qp, .int 0, .int (-1), .int 0, .null])), (qs, .inr (1, [.int 0, .ref es, .int 0]))] sz) t) (va_A [(m0, .inr (10, [.int th, .ref qu, .ref qs, .ref qc, .ref qp, .int 0, .int (-1), .int 0, .null])), (qs, .inr (1, [.int 0, .ref es, .int 0]))] sz)) 0 0 (va_A [(m0, .inr (10, [.int th, .ref qu, .ref qs, .ref qc, .ref qp, .int 0, .int (-1), .int 0, .null])), (qs, .inr (1, [.int 0, .ref es, .int 0]))] sz) := by
  refine Met.ofW (cc := cX8_unitOf) (maxL := 2) (ret := (some .int)) (by decide +kernel) rfl ?_
  intro p e s m args below meth c s₁ B hml hv
  obtain ⟨rfl, hsz, hP, hK, hD0, hE, hX0⟩ := hv
  have hx := B.exec
  have hb := B.bytes
  have hr := B.returns
  have hts := z_E.ts (args := [.ref m0, .int a0].toArray) hE
  have hown : s.vm.findClass RX8 = some m.cls := findClass_of_methodNamed B.named
  have hlocks := B.notSynchronized
  subst hsz
  have hD := hD0.self (sz := s.heap.size)
  generalize hAe : va_A [(m0, .inr (10, [.int th, .ref qu, .ref qs, .ref qc, .ref qp, .int 0, .int (-1), .int 0, .null])), (qs, .inr (1, [.int 0, .ref es, .int 0]))] s.heap.size = A at hD hX0 ⊢
  have hX : z_X A s s.heap := hX0
  have hA : ∀ q : Nat, s.heap.size ≤ q → A q := fun q h => by rw [← hAe]; exact Or.inr h
  have hS : va_S A s.heap s.heap [] := va_S.rf
  have hP : va_P D vwCl [(m0, .inr (10, [.int th, .ref qu, .ref qs, .ref qc, .ref qp, .int 0, .int (-1), .int 0, .null])), (qs, .inr (1, [.int 0, .ref es, .int 0]))] s.heap := hP
  have hl := lv_entry ([.ref m0, .int a0]) (n := 2) (Nat.le_of_ble_eq_true rfl)
  rw [lg_entry_eq]
  generalize (lg_sl ([.ref m0, .int a0]) ++ List.replicate (2 - (lg_sl ([.ref m0, .int a0])).length) Slot.unset).toArray = ls at hl ⊢
  have hl : lv_has ls 2 [(0, .ref m0), (1, .int a0)] := hl
  skip
  refine lv_aload_n hx hb dX8_unitOf_0 rfl (lv_at hl 0 rfl) ?_
  refine lv_iload_n hx hb dX8_unitOf_1 rfl (lv_at hl 1 rfl) ?_
  obtain ⟨hb_1, hc_1⟩ := z_call (wc := [(m0, .inr (10, [.int th, .ref qu, .ref qs, .ref qc, .ref qp, .int 0, .int (-1), .int 0, .null])), (qs, .inr (1, [.int 0, .ref es, .int 0]))]) (tc := []) ([.ref m0, .int a0]) hP hK hD hS hA hE hX [0, 1] rfl rfl [] rfl
  have hF_1 := va_free (wc := [(m0, .inr (10, [.int th, .ref qu, .ref qs, .ref qc, .ref qp, .int 0, .int (-1), .int 0, .null])), (qs, .inr (1, [.int 0, .ref es, .int 0]))]) hD hS hA [0, 1] rfl
  refine va_calli (va_runV (As := [.int a0]) (rest := []) ⟨hx, hb, hml, hown, hts⟩ (f_X8_noShop l D m0 qu qs qc qp th es a0 _ ) (z_cV 1 hE zw_1464 zw_1466 zw_74 zw_96 zw_1467 rfl rfl rfl (by decide +kernel) ⟨(Nat.le_of_ble_eq_true rfl), (Nat.le_of_ble_eq_true rfl)⟩) ⟨hb_1, va_recv hK hP (ci := 10) (q0 := 0) rfl rfl, hc_1⟩ rfl rfl hl.1 rfl (lv_room (Nat.le_of_ble_eq_true rfl)) dX8_unitOf_2 ⟨(Nat.le_of_ble_eq_true rfl), (Nat.le_of_ble_eq_true rfl)⟩) hS (fun q _ h => hF_1 q h) hF_1 (fun r_1 u_1 t_1 H1 locs ht_1 hvm_1 hw_1 hB_1 hz_1 hk_1 hS1 => ?_)
  obtain ⟨hP, hK, hD⟩ := z_back (wc := [(m0, .inr (10, [.int th, .ref qu, .ref qs, .ref qc, .ref qp, .int 0, .int (-1), .int 0, .null])), (qs, .inr (1, [.int 0, .ref es, .int 0]))]) (wr := []) (w1 := [(m0, .inr (10, [.int 1, .ref qu, .ref qs, .ref qc, .ref qp, .int 0, .int (-1), .int 0, .null])), (qs, .inr (1, [.int 0, .ref es, .int 0]))]) (tr := []) hP hK hD [0, 1] [] rfl rfl rfl (by decide) ht_1 hvm_1 hk_1 hF_1 [] rfl hB_1
  have hS := hS1
  have hP : va_P D vwCl [(m0, .inr (10, [.int 1, .ref qu, .ref qs, .ref qc, .ref qp, .int 0, .int (-1), .int 0, .null])), (qs, .inr (1, [.int 0, .ref es, .int 0]))] H1 := hP
  have hD : va_D A [(m0, .inr (10, [.int 1, .ref qu, .ref qs, .ref qc, .ref qp, .int 0, .int (-1), .int 0, .null])), (qs, .inr (1, [.int 0, .ref es, .int 0]))] := hD
  have hK : va_K D vwCl [] s := hK
  clear hS1
  obtain rfl : r_1 = 1 := hw_1
  refine lv_if_eq (tgt := 10) hx hb dX8_unitOf_5 (by decide) (fun c_2 => absurd c_2 (by decide)) (fun c_2 => ?_)
  refine lv_iconst (v := 0) hx hb dX8_unitOf_8 (by decide) ?_
  exact W.iret (v := 0) hx hb hr (fun t ht hW => ⟨⟨0, (), rfl, trivial, z_end hP hK hD [0, 1] rfl rfl [] rfl ht hW.alike⟩, hS.F ht⟩) hS.2.2 dX8_unitOf_9
theorem dX8_homeOf_0 : decode cX8_homeOf 0 = .ok (.aload_n 0, 1) := by decide +kernel
theorem dX8_homeOf_1 : decode cX8_homeOf 1 = .ok (.iload_n 1, 1) := by decide +kernel
theorem dX8_homeOf_2 : decode cX8_homeOf 2 = .ok (.invokevirtual 169, 3) := by decide +kernel
theorem dX8_homeOf_5 : decode cX8_homeOf 5 = .ok (.ifCond .eq 7, 3) := by decide +kernel
theorem dX8_homeOf_8 : decode cX8_homeOf 8 = .ok (.iconst 0, 1) := by decide +kernel
theorem dX8_homeOf_9 : decode cX8_homeOf 9 = .ok (.goto 17, 3) := by decide +kernel
theorem dX8_homeOf_26 : decode cX8_homeOf 26 = .ok (.ireturn, 1) := by decide +kernel
set_option maxHeartbeats 4000000 in
set_option maxRecDepth 100000 in
theorem f_X8_homeOf (l : Launch) (D : va_G) (m0 : Nat) (qu : Nat) (qs : Nat) (qc : Nat) (qp : Nat) (th : Int32) (es : Nat) (a0 : Int32) (sz : Nat)  : Met l yX8_homeOf [Cond.code yX8_homeOf cX8_homeOf 2 (some .int)] ({ frames := 6, cells := 0, slots := 0, locals := 200 }) (z_Pc D [.ref m0, .int a0] [(m0, .inr (10, [.int th, .ref qu, .ref qs, .ref qc, .ref qp, .int 0, .int (-1), .int 0, .null])), (qs, .inr (1, [.int 0, .ref es, .int 0]))] [] sz) (va_Qi (fun (r : Int32) (_ : Unit) => True) (fun _ t => z_W D [(m0, .inr (10, [.int 1, .ref qu, .ref qs, .ref qc, .ref qp, .int 0, .int (-1), .int 0, .null])), (qs, .inr (1, [.int 0, .ref es, .int 0]))] [] (va_A [(m0, .inr (10, [.int th, .ref qu, .ref qs, .ref qc, .ref qp, .int 0, .int (-1), .int 0, .null])), (qs, .inr (1, [.int 0, .ref es, .int 0]))] sz) t) (va_A [(m0, .inr (10, [.int th, .ref qu, .ref qs, .ref qc, .ref qp, .int 0, .int (-1), .int 0, .null])), (qs, .inr (1, [.int 0, .ref es, .int 0]))] sz)) 0 0 (va_A [(m0, .inr (10, [.int th, .ref qu, .ref qs, .ref qc, .ref qp, .int 0, .int (-1), .int 0, .null])), (qs, .inr (1, [.int 0, .ref es, .int 0]))] sz) := by
  refine Met.ofW (cc := cX8_homeOf) (maxL := 2) (ret := (some .int)) (by decide +kernel) rfl ?_
  intro p e s m args below meth c s₁ B hml hv
  obtain ⟨rfl, hsz, hP, hK, hD0, hE, hX0⟩ := hv
  have hx := B.exec
  have hb := B.bytes
  have hr := B.returns
  have hts := z_E.ts (args := [.ref m0, .int a0].toArray) hE
  have hown : s.vm.findClass RX8 = some m.cls := findClass_of_methodNamed B.named
  have hlocks := B.notSynchronized
  subst hsz
  have hD := hD0.self (sz := s.heap.size)
  generalize hAe : va_A [(m0, .inr (10, [.int th, .ref qu, .ref qs, .ref qc, .ref qp, .int 0, .int (-1), .int 0, .null])), (qs, .inr (1, [.int 0, .ref es, .int 0]))] s.heap.size = A at hD hX0 ⊢
  have hX : z_X A s s.heap := hX0
  have hA : ∀ q : Nat, s.heap.size ≤ q → A q := fun q h => by rw [← hAe]; exact Or.inr h
  have hS : va_S A s.heap s.heap [] := va_S.rf
  have hP : va_P D vwCl [(m0, .inr (10, [.int th, .ref qu, .ref qs, .ref qc, .ref qp, .int 0, .int (-1), .int 0, .null])), (qs, .inr (1, [.int 0, .ref es, .int 0]))] s.heap := hP
  have hl := lv_entry ([.ref m0, .int a0]) (n := 2) (Nat.le_of_ble_eq_true rfl)
  rw [lg_entry_eq]
  generalize (lg_sl ([.ref m0, .int a0]) ++ List.replicate (2 - (lg_sl ([.ref m0, .int a0])).length) Slot.unset).toArray = ls at hl ⊢
  have hl : lv_has ls 2 [(0, .ref m0), (1, .int a0)] := hl
  skip
  refine lv_aload_n hx hb dX8_homeOf_0 rfl (lv_at hl 0 rfl) ?_
  refine lv_iload_n hx hb dX8_homeOf_1 rfl (lv_at hl 1 rfl) ?_
  obtain ⟨hb_1, hc_1⟩ := z_call (wc := [(m0, .inr (10, [.int th, .ref qu, .ref qs, .ref qc, .ref qp, .int 0, .int (-1), .int 0, .null])), (qs, .inr (1, [.int 0, .ref es, .int 0]))]) (tc := []) ([.ref m0, .int a0]) hP hK hD hS hA hE hX [0, 1] rfl rfl [] rfl
  have hF_1 := va_free (wc := [(m0, .inr (10, [.int th, .ref qu, .ref qs, .ref qc, .ref qp, .int 0, .int (-1), .int 0, .null])), (qs, .inr (1, [.int 0, .ref es, .int 0]))]) hD hS hA [0, 1] rfl
  refine va_calli (va_runV (As := [.int a0]) (rest := []) ⟨hx, hb, hml, hown, hts⟩ (f_X8_noShop l D m0 qu qs qc qp th es a0 _ ) (z_cV 1 hE zw_1464 zw_1466 zw_74 zw_96 zw_1467 rfl rfl rfl (by decide +kernel) ⟨(Nat.le_of_ble_eq_true rfl), (Nat.le_of_ble_eq_true rfl)⟩) ⟨hb_1, va_recv hK hP (ci := 10) (q0 := 0) rfl rfl, hc_1⟩ rfl rfl hl.1 rfl (lv_room (Nat.le_of_ble_eq_true rfl)) dX8_homeOf_2 ⟨(Nat.le_of_ble_eq_true rfl), (Nat.le_of_ble_eq_true rfl)⟩) hS (fun q _ h => hF_1 q h) hF_1 (fun r_1 u_1 t_1 H1 locs ht_1 hvm_1 hw_1 hB_1 hz_1 hk_1 hS1 => ?_)
  obtain ⟨hP, hK, hD⟩ := z_back (wc := [(m0, .inr (10, [.int th, .ref qu, .ref qs, .ref qc, .ref qp, .int 0, .int (-1), .int 0, .null])), (qs, .inr (1, [.int 0, .ref es, .int 0]))]) (wr := []) (w1 := [(m0, .inr (10, [.int 1, .ref qu, .ref qs, .ref qc, .ref qp, .int 0, .int (-1), .int 0, .null])), (qs, .inr (1, [.int 0, .ref es, .int 0]))]) (tr := []) hP hK hD [0, 1] [] rfl rfl rfl (by decide) ht_1 hvm_1 hk_1 hF_1 [] rfl hB_1
  have hS := hS1
  have hP : va_P D vwCl [(m0, .inr (10, [.int 1, .ref qu, .ref qs, .ref qc, .ref qp, .int 0, .int (-1), .int 0, .null])), (qs, .inr (1, [.int 0, .ref es, .int 0]))] H1 := hP
  have hD : va_D A [(m0, .inr (10, [.int 1, .ref qu, .ref qs, .ref qc, .ref qp, .int 0, .int (-1), .int 0, .null])), (qs, .inr (1, [.int 0, .ref es, .int 0]))] := hD
  have hK : va_K D vwCl [] s := hK
  clear hS1
  obtain rfl : r_1 = 1 := hw_1
  refine lv_if_eq (tgt := 12) hx hb dX8_homeOf_5 (by decide) (fun c_2 => absurd c_2 (by decide)) (fun c_2 => ?_)
  refine lv_iconst (v := 0) hx hb dX8_homeOf_8 (by decide) ?_
  refine lv_goto (tgt := 26) hx hb dX8_homeOf_9 (by decide) ?_
  exact W.iret (v := 0) hx hb hr (fun t ht hW => ⟨⟨0, (), rfl, trivial, z_end hP hK hD [0, 1] rfl rfl [] rfl ht hW.alike⟩, hS.F ht⟩) hS.2.2 dX8_homeOf_26
theorem dX8_move_0 : decode cX8_move 0 = .ok (.aload_n 0, 1) := by decide +kernel
theorem dX8_move_1 : decode cX8_move 1 = .ok (.iload_n 1, 1) := by decide +kernel
theorem dX8_move_2 : decode cX8_move 2 = .ok (.i2l, 1) := by decide +kernel
theorem dX8_move_3 : decode cX8_move 3 = .ok (.lconst 0, 1) := by decide +kernel
theorem dX8_move_4 : decode cX8_move 4 = .ok (.aload_n 0, 1) := by decide +kernel
theorem dX8_move_5 : decode cX8_move 5 = .ok (.getfield 16, 3) := by decide +kernel
theorem dX8_move_8 : decode cX8_move 8 = .ok (.invokevirtual 33, 3) := by decide +kernel
theorem dX8_move_11 : decode cX8_move 11 = .ok (.iconst 1, 1) := by decide +kernel
theorem dX8_move_12 : decode cX8_move 12 = .ok (.isub, 1) := by decide +kernel
theorem dX8_move_13 : decode cX8_move 13 = .ok (.i2l, 1) := by decide +kernel
theorem dX8_move_14 : decode cX8_move 14 = .ok (.invokestatic 37, 3) := by decide +kernel
theorem dX8_move_17 : decode cX8_move 17 = .ok (.ifCond .eq 15, 3) := by decide +kernel
theorem dX8_move_32 : decode cX8_move 32 = .ok (.iconst 1, 1) := by decide +kernel
theorem dX8_move_33 : decode cX8_move 33 = .ok (.putfield 30, 3) := by decide +kernel
theorem dX8_move_36 : decode cX8_move 36 = .ok (.aload_n 0, 1) := by decide +kernel
theorem dX8_move_37 : decode cX8_move 37 = .ok (.getfield 30, 3) := by decide +kernel
theorem dX8_move_40 : decode cX8_move 40 = .ok (.ifCond .le 5, 3) := by decide +kernel
theorem dX8_move_43 : decode cX8_move 43 = .ok (.iconst 0, 1) := by decide +kernel
theorem dX8_move_44 : decode cX8_move 44 = .ok (.ireturn, 1) := by decide +kernel
set_option maxHeartbeats 4000000 in
set_option maxRecDepth 100000 in
theorem f_X8_move (l : Launch) (D : va_G) (m0 : Nat) (qu : Nat) (qs : Nat) (qc : Nat) (qp : Nat) (th : Int32) (es : Nat) (a0 : Int32) (a1 : Int32) (sz : Nat)  : Met l yX8_move [Cond.code yX8_move cX8_move 4 (some .int)] ({ frames := 6, cells := 0, slots := 0, locals := 200 }) (z_Pc D [.ref m0, .int a0, .int a1] [(m0, .inr (10, [.int th, .ref qu, .ref qs, .ref qc, .ref qp, .int 0, .int (-1), .int 0, .null])), (qs, .inr (1, [.int 0, .ref es, .int 0]))] [] sz) (va_Qi (fun (r : Int32) (_ : Unit) => True) (fun _ t => z_W D [(m0, .inr (10, [.int 1, .ref qu, .ref qs, .ref qc, .ref qp, .int 0, .int (-1), .int 0, .null])), (qs, .inr (1, [.int 0, .ref es, .int 0]))] [] (va_A [(m0, .inr (10, [.int th, .ref qu, .ref qs, .ref qc, .ref qp, .int 0, .int (-1), .int 0, .null])), (qs, .inr (1, [.int 0, .ref es, .int 0]))] sz) t) (va_A [(m0, .inr (10, [.int th, .ref qu, .ref qs, .ref qc, .ref qp, .int 0, .int (-1), .int 0, .null])), (qs, .inr (1, [.int 0, .ref es, .int 0]))] sz)) 0 0 (va_A [(m0, .inr (10, [.int th, .ref qu, .ref qs, .ref qc, .ref qp, .int 0, .int (-1), .int 0, .null])), (qs, .inr (1, [.int 0, .ref es, .int 0]))] sz) := by
  refine Met.ofW (cc := cX8_move) (maxL := 4) (ret := (some .int)) (by decide +kernel) rfl ?_
  intro p e s m args below meth c s₁ B hml hv
  obtain ⟨rfl, hsz, hP, hK, hD0, hE, hX0⟩ := hv
  have hx := B.exec
  have hb := B.bytes
  have hr := B.returns
  have hts := z_E.ts (args := [.ref m0, .int a0, .int a1].toArray) hE
  have hown : s.vm.findClass RX8 = some m.cls := findClass_of_methodNamed B.named
  have hlocks := B.notSynchronized
  subst hsz
  have hD := hD0.self (sz := s.heap.size)
  generalize hAe : va_A [(m0, .inr (10, [.int th, .ref qu, .ref qs, .ref qc, .ref qp, .int 0, .int (-1), .int 0, .null])), (qs, .inr (1, [.int 0, .ref es, .int 0]))] s.heap.size = A at hD hX0 ⊢
  have hX : z_X A s s.heap := hX0
  have hA : ∀ q : Nat, s.heap.size ≤ q → A q := fun q h => by rw [← hAe]; exact Or.inr h
  have hS : va_S A s.heap s.heap [] := va_S.rf
  have hP : va_P D vwCl [(m0, .inr (10, [.int th, .ref qu, .ref qs, .ref qc, .ref qp, .int 0, .int (-1), .int 0, .null])), (qs, .inr (1, [.int 0, .ref es, .int 0]))] s.heap := hP
  have hl := lv_entry ([.ref m0, .int a0, .int a1]) (n := 4) (Nat.le_of_ble_eq_true rfl)
  rw [lg_entry_eq]
  generalize (lg_sl ([.ref m0, .int a0, .int a1]) ++ List.replicate (4 - (lg_sl ([.ref m0, .int a0, .int a1])).length) Slot.unset).toArray = ls at hl ⊢
  have hl : lv_has ls 4 [(0, .ref m0), (1, .int a0), (2, .int a1)] := hl
  skip
  refine lv_aload_n hx hb dX8_move_0 rfl (lv_at hl 0 rfl) ?_
  refine lv_iload_n hx hb dX8_move_1 rfl (lv_at hl 1 rfl) ?_
  refine lv_i2l hx hb dX8_move_2 rfl ?_
  refine lv_lconst (v := 0) hx hb dX8_move_3 (by decide) ?_
  refine lv_aload_n hx hb dX8_move_4 rfl (lv_at hl 0 rfl) ?_
  refine va_get (D := D) (ci := 10) (v := .ref qs) (C := RX8) (T := TX8) (N := 9) hx hb hts zin_X8 hown hK hP 0 rfl rfl 2 (by decide) (hts _ zw_1082) (fun _ h9 => h9) rfl dX8_move_5 ?_
  obtain ⟨hb_1, hc_1⟩ := z_call (wc := [(qs, .inr (1, [.int 0, .ref es, .int 0]))]) (tc := []) ([.ref qs]) hP hK hD hS hA hE hX [1] rfl rfl [] rfl
  have hF_1 := va_free (wc := [(qs, .inr (1, [.int 0, .ref es, .int 0]))]) hD hS hA [1] rfl
  refine va_calli (va_runV (As := []) (rest := [.long 0, .long (a0).toInt64, .ref m0]) ⟨hx, hb, hml, hown, hts⟩ (c_J_size l D qs 0 es 0 _ ) (z_cV 0 hE zw_1125 zw_1126 zw_1127 zw_99 zw_1128 rfl rfl rfl (by decide +kernel) ⟨(Nat.le_of_ble_eq_true rfl), (Nat.le_of_ble_eq_true rfl)⟩) ⟨hb_1, va_recv hK hP (ci := 1) (q0 := 1) rfl rfl, hc_1⟩ rfl rfl hl.1 rfl (lv_room (Nat.le_of_ble_eq_true rfl)) dX8_move_8 ⟨(Nat.le_of_ble_eq_true rfl), (Nat.le_of_ble_eq_true rfl)⟩) hS (fun q _ h => hF_1 q h) hF_1 (fun r_1 u_1 t_1 H1 locs ht_1 hvm_1 hw_1 hB_1 hz_1 hk_1 hS1 => ?_)
  obtain ⟨hP, hK, hD⟩ := z_back (wc := [(qs, .inr (1, [.int 0, .ref es, .int 0]))]) (wr := [(m0, .inr (10, [.int th, .ref qu, .ref qs, .ref qc, .ref qp, .int 0, .int (-1), .int 0, .null]))]) (w1 := [(qs, .inr (1, [.int 0, .ref es, .int 0]))]) (tr := []) hP hK hD [1] [0] rfl rfl rfl (by decide) ht_1 hvm_1 hk_1 hF_1 [] rfl hB_1
  have hS := hS1
  have hP : va_P D vwCl [(m0, .inr (10, [.int th, .ref qu, .ref qs, .ref qc, .ref qp, .int 0, .int (-1), .int 0, .null])), (qs, .inr (1, [.int 0, .ref es, .int 0]))] H1 := hP
  have hD : va_D A [(m0, .inr (10, [.int th, .ref qu, .ref qs, .ref qc, .ref qp, .int 0, .int (-1), .int 0, .null])), (qs, .inr (1, [.int 0, .ref es, .int 0]))] := hD
  have hK : va_K D vwCl [] s := hK
  clear hS1
  obtain rfl : r_1 = 0 := hw_1
  refine lv_iconst (v := 1) hx hb dX8_move_11 (by decide) ?_
  refine lv_isub hx hb dX8_move_12 ?_
  refine lv_topi (fun x_2 ex_2 => ?_)
  obtain rfl : x_2 = (-1) := ex_2.trans (by first | rfl | decide | simp)
  refine lv_i2l (v := (-1)) hx hb dX8_move_13 (by decide) ?_
  obtain ⟨hb_3, hc_3⟩ := z_call (wc := []) (tc := []) ([.long (a0).toInt64, .long 0, .long (-1)]) hP hK hD hS hA hE hX [] rfl rfl [] rfl
  have hF_3 := va_free (wc := []) hD hS hA [] rfl
  refine va_calli (va_runS (As := [.long (a0).toInt64, .long 0, .long (-1)]) (rest := [.ref m0]) ⟨hx, hb, hml, hown, hts⟩ (c_X8_in l D ((a0).toInt64) 0 (-1) _ ) (⟨z_cB 3 hE zw_1118 zw_96 zw_1120 rfl rfl rfl (by decide +kernel) ⟨(Nat.le_of_ble_eq_true rfl), (Nat.le_of_ble_eq_true rfl)⟩, hE.ts _ zw_1119⟩) ⟨hb_3, hc_3⟩ rfl rfl hl.1 rfl (lv_room (Nat.le_of_ble_eq_true rfl)) dX8_move_14 ⟨(Nat.le_of_ble_eq_true rfl), (Nat.le_of_ble_eq_true rfl)⟩) hS (fun q _ h => hF_3 q h) hF_3 (fun r_3 u_3 t_3 H1 locs ht_3 hvm_3 hw_3 hB_3 hz_3 hk_3 hS1 => ?_)
  obtain ⟨hP, hK, hD⟩ := z_back (wc := []) (wr := [(m0, .inr (10, [.int th, .ref qu, .ref qs, .ref qc, .ref qp, .int 0, .int (-1), .int 0, .null])), (qs, .inr (1, [.int 0, .ref es, .int 0]))]) (w1 := []) (tr := []) hP hK hD [] [0, 1] rfl rfl rfl (by decide) ht_3 hvm_3 hk_3 hF_3 [] rfl hB_3
  have hS := hS1
  have hP : va_P D vwCl [(m0, .inr (10, [.int th, .ref qu, .ref qs, .ref qc, .ref qp, .int 0, .int (-1), .int 0, .null])), (qs, .inr (1, [.int 0, .ref es, .int 0]))] H1 := hP
  have hD : va_D A [(m0, .inr (10, [.int th, .ref qu, .ref qs, .ref qc, .ref qp, .int 0, .int (-1), .int 0, .null])), (qs, .inr (1, [.int 0, .ref es, .int 0]))] := hD
  have hK : va_K D vwCl [] s := hK
  clear hS1
  obtain rfl : r_3 = 0 := z_in0 hw_3
  refine lv_if_eq (tgt := 32) hx hb dX8_move_17 (by decide) (fun c_4 => ?_) (fun c_4 => absurd (by decide) c_4)
  refine lv_iconst (v := 1) hx hb dX8_move_32 (by decide) ?_
  refine va_put (D := D) (ci := 10) (v := .int 1) (ty := .int) (C := RX8) (T := TX8) (N := 9) hx hb hts zin_X8 tyX8 tyX8_ok nmX8 hown hK hP hD hS 0 rfl rfl 0 (by decide) (hts _ zw_1080) (fun _ h9 => h9) rfl (by decide +kernel) rfl rfl (Nat.le_of_ble_eq_true rfl) dX8_move_33 (fun H locs hP hD hS => ?_)
  have hP : va_P D vwCl [(m0, .inr (10, [.int 1, .ref qu, .ref qs, .ref qc, .ref qp, .int 0, .int (-1), .int 0, .null])), (qs, .inr (1, [.int 0, .ref es, .int 0]))] H := hP
  have hD : va_D A [(m0, .inr (10, [.int 1, .ref qu, .ref qs, .ref qc, .ref qp, .int 0, .int (-1), .int 0, .null])), (qs, .inr (1, [.int 0, .ref es, .int 0]))] := hD
  refine lv_aload_n hx hb dX8_move_36 rfl (lv_at hl 0 rfl) ?_
  refine va_get (D := D) (ci := 10) (v := .int 1) (C := RX8) (T := TX8) (N := 9) hx hb hts zin_X8 hown hK hP 0 rfl rfl 0 (by decide) (hts _ zw_1080) (fun _ h9 => h9) rfl dX8_move_37 ?_
  refine lv_if_le (tgt := 45) hx hb dX8_move_40 (by decide) (fun c_5 => absurd c_5 (by decide)) (fun c_5 => ?_)
  refine lv_iconst (v := 0) hx hb dX8_move_43 (by decide) ?_
  exact W.iret (v := 0) hx hb hr (fun t ht hW => ⟨⟨0, (), rfl, trivial, z_end hP hK hD [0, 1] rfl rfl [] rfl ht hW.alike⟩, hS.F ht⟩) hS.2.2 dX8_move_44
theorem dX8_toStall_0 : decode cX8_toStall 0 = .ok (.aload_n 0, 1) := by decide +kernel
theorem dX8_toStall_1 : decode cX8_toStall 1 = .ok (.iload_n 1, 1) := by decide +kernel
theorem dX8_toStall_2 : decode cX8_toStall 2 = .ok (.invokevirtual 169, 3) := by decide +kernel
theorem dX8_toStall_5 : decode cX8_toStall 5 = .ok (.ifCond .eq 5, 3) := by decide +kernel
theorem dX8_toStall_8 : decode cX8_toStall 8 = .ok (.iconst 0, 1) := by decide +kernel
theorem dX8_toStall_9 : decode cX8_toStall 9 = .ok (.ireturn, 1) := by decide +kernel
set_option maxHeartbeats 4000000 in
set_option maxRecDepth 100000 in
theorem f_X8_toStall (l : Launch) (D : va_G) (m0 : Nat) (qu : Nat) (qs : Nat) (qc : Nat) (qp : Nat) (th : Int32) (es : Nat) (a0 : Int32) (sz : Nat)  : Met l yX8_toStall [Cond.code yX8_toStall cX8_toStall 3 (some .int)] ({ frames := 6, cells := 0, slots := 0, locals := 200 }) (z_Pc D [.ref m0, .int a0] [(m0, .inr (10, [.int th, .ref qu, .ref qs, .ref qc, .ref qp, .int 0, .int (-1), .int 0, .null])), (qs, .inr (1, [.int 0, .ref es, .int 0]))] [] sz) (va_Qi (fun (r : Int32) (_ : Unit) => True) (fun _ t => z_W D [(m0, .inr (10, [.int 1, .ref qu, .ref qs, .ref qc, .ref qp, .int 0, .int (-1), .int 0, .null])), (qs, .inr (1, [.int 0, .ref es, .int 0]))] [] (va_A [(m0, .inr (10, [.int th, .ref qu, .ref qs, .ref qc, .ref qp, .int 0, .int (-1), .int 0, .null])), (qs, .inr (1, [.int 0, .ref es, .int 0]))] sz) t) (va_A [(m0, .inr (10, [.int th, .ref qu, .ref qs, .ref qc, .ref qp, .int 0, .int (-1), .int 0, .null])), (qs, .inr (1, [.int 0, .ref es, .int 0]))] sz)) 0 0 (va_A [(m0, .inr (10, [.int th, .ref qu, .ref qs, .ref qc, .ref qp, .int 0, .int (-1), .int 0, .null])), (qs, .inr (1, [.int 0, .ref es, .int 0]))] sz) := by
  refine Met.ofW (cc := cX8_toStall) (maxL := 3) (ret := (some .int)) (by decide +kernel) rfl ?_
  intro p e s m args below meth c s₁ B hml hv
  obtain ⟨rfl, hsz, hP, hK, hD0, hE, hX0⟩ := hv
  have hx := B.exec
  have hb := B.bytes
  have hr := B.returns
  have hts := z_E.ts (args := [.ref m0, .int a0].toArray) hE
  have hown : s.vm.findClass RX8 = some m.cls := findClass_of_methodNamed B.named
  have hlocks := B.notSynchronized
  subst hsz
  have hD := hD0.self (sz := s.heap.size)
  generalize hAe : va_A [(m0, .inr (10, [.int th, .ref qu, .ref qs, .ref qc, .ref qp, .int 0, .int (-1), .int 0, .null])), (qs, .inr (1, [.int 0, .ref es, .int 0]))] s.heap.size = A at hD hX0 ⊢
  have hX : z_X A s s.heap := hX0
  have hA : ∀ q : Nat, s.heap.size ≤ q → A q := fun q h => by rw [← hAe]; exact Or.inr h
  have hS : va_S A s.heap s.heap [] := va_S.rf
  have hP : va_P D vwCl [(m0, .inr (10, [.int th, .ref qu, .ref qs, .ref qc, .ref qp, .int 0, .int (-1), .int 0, .null])), (qs, .inr (1, [.int 0, .ref es, .int 0]))] s.heap := hP
  have hl := lv_entry ([.ref m0, .int a0]) (n := 3) (Nat.le_of_ble_eq_true rfl)
  rw [lg_entry_eq]
  generalize (lg_sl ([.ref m0, .int a0]) ++ List.replicate (3 - (lg_sl ([.ref m0, .int a0])).length) Slot.unset).toArray = ls at hl ⊢
  have hl : lv_has ls 3 [(0, .ref m0), (1, .int a0)] := hl
  skip
  refine lv_aload_n hx hb dX8_toStall_0 rfl (lv_at hl 0 rfl) ?_
  refine lv_iload_n hx hb dX8_toStall_1 rfl (lv_at hl 1 rfl) ?_
  obtain ⟨hb_1, hc_1⟩ := z_call (wc := [(m0, .inr (10, [.int th, .ref qu, .ref qs, .ref qc, .ref qp, .int 0, .int (-1), .int 0, .null])), (qs, .inr (1, [.int 0, .ref es, .int 0]))]) (tc := []) ([.ref m0, .int a0]) hP hK hD hS hA hE hX [0, 1] rfl rfl [] rfl
  have hF_1 := va_free (wc := [(m0, .inr (10, [.int th, .ref qu, .ref qs, .ref qc, .ref qp, .int 0, .int (-1), .int 0, .null])), (qs, .inr (1, [.int 0, .ref es, .int 0]))]) hD hS hA [0, 1] rfl
  refine va_calli (va_runV (As := [.int a0]) (rest := []) ⟨hx, hb, hml, hown, hts⟩ (f_X8_noShop l D m0 qu qs qc qp th es a0 _ ) (z_cV 1 hE zw_1464 zw_1466 zw_74 zw_96 zw_1467 rfl rfl rfl (by decide +kernel) ⟨(Nat.le_of_ble_eq_true rfl), (Nat.le_of_ble_eq_true rfl)⟩) ⟨hb_1, va_recv hK hP (ci := 10) (q0 := 0) rfl rfl, hc_1⟩ rfl rfl hl.1 rfl (lv_room (Nat.le_of_ble_eq_true rfl)) dX8_toStall_2 ⟨(Nat.le_of_ble_eq_true rfl), (Nat.le_of_ble_eq_true rfl)⟩) hS (fun q _ h => hF_1 q h) hF_1 (fun r_1 u_1 t_1 H1 locs ht_1 hvm_1 hw_1 hB_1 hz_1 hk_1 hS1 => ?_)
  obtain ⟨hP, hK, hD⟩ := z_back (wc := [(m0, .inr (10, [.int th, .ref qu, .ref qs, .ref qc, .ref qp, .int 0, .int (-1), .int 0, .null])), (qs, .inr (1, [.int 0, .ref es, .int 0]))]) (wr := []) (w1 := [(m0, .inr (10, [.int 1, .ref qu, .ref qs, .ref qc, .ref qp, .int 0, .int (-1), .int 0, .null])), (qs, .inr (1, [.int 0, .ref es, .int 0]))]) (tr := []) hP hK hD [0, 1] [] rfl rfl rfl (by decide) ht_1 hvm_1 hk_1 hF_1 [] rfl hB_1
  have hS := hS1
  have hP : va_P D vwCl [(m0, .inr (10, [.int 1, .ref qu, .ref qs, .ref qc, .ref qp, .int 0, .int (-1), .int 0, .null])), (qs, .inr (1, [.int 0, .ref es, .int 0]))] H1 := hP
  have hD : va_D A [(m0, .inr (10, [.int 1, .ref qu, .ref qs, .ref qc, .ref qp, .int 0, .int (-1), .int 0, .null])), (qs, .inr (1, [.int 0, .ref es, .int 0]))] := hD
  have hK : va_K D vwCl [] s := hK
  clear hS1
  obtain rfl : r_1 = 1 := hw_1
  refine lv_if_eq (tgt := 10) hx hb dX8_toStall_5 (by decide) (fun c_2 => absurd c_2 (by decide)) (fun c_2 => ?_)
  refine lv_iconst (v := 0) hx hb dX8_toStall_8 (by decide) ?_
  exact W.iret (v := 0) hx hb hr (fun t ht hW => ⟨⟨0, (), rfl, trivial, z_end hP hK hD [0, 1] rfl rfl [] rfl ht hW.alike⟩, hS.F ht⟩) hS.2.2 dX8_toStall_9
theorem dX8_store_0 : decode cX8_store 0 = .ok (.aload_n 0, 1) := by decide +kernel
theorem dX8_store_1 : decode cX8_store 1 = .ok (.iload_n 1, 1) := by decide +kernel
theorem dX8_store_2 : decode cX8_store 2 = .ok (.invokevirtual 169, 3) := by decide +kernel
theorem dX8_store_5 : decode cX8_store 5 = .ok (.ifCond .eq 5, 3) := by decide +kernel
theorem dX8_store_8 : decode cX8_store 8 = .ok (.iconst 0, 1) := by decide +kernel
theorem dX8_store_9 : decode cX8_store 9 = .ok (.ireturn, 1) := by decide +kernel
set_option maxHeartbeats 4000000 in
set_option maxRecDepth 100000 in
theorem f_X8_store (l : Launch) (D : va_G) (m0 : Nat) (qu : Nat) (qs : Nat) (qc : Nat) (qp : Nat) (th : Int32) (es : Nat) (a0 : Int32) (sz : Nat)  : Met l yX8_store [Cond.code yX8_store cX8_store 3 (some .int)] ({ frames := 6, cells := 0, slots := 0, locals := 200 }) (z_Pc D [.ref m0, .int a0] [(m0, .inr (10, [.int th, .ref qu, .ref qs, .ref qc, .ref qp, .int 0, .int (-1), .int 0, .null])), (qs, .inr (1, [.int 0, .ref es, .int 0]))] [] sz) (va_Qi (fun (r : Int32) (_ : Unit) => True) (fun _ t => z_W D [(m0, .inr (10, [.int 1, .ref qu, .ref qs, .ref qc, .ref qp, .int 0, .int (-1), .int 0, .null])), (qs, .inr (1, [.int 0, .ref es, .int 0]))] [] (va_A [(m0, .inr (10, [.int th, .ref qu, .ref qs, .ref qc, .ref qp, .int 0, .int (-1), .int 0, .null])), (qs, .inr (1, [.int 0, .ref es, .int 0]))] sz) t) (va_A [(m0, .inr (10, [.int th, .ref qu, .ref qs, .ref qc, .ref qp, .int 0, .int (-1), .int 0, .null])), (qs, .inr (1, [.int 0, .ref es, .int 0]))] sz)) 0 0 (va_A [(m0, .inr (10, [.int th, .ref qu, .ref qs, .ref qc, .ref qp, .int 0, .int (-1), .int 0, .null])), (qs, .inr (1, [.int 0, .ref es, .int 0]))] sz) := by
  refine Met.ofW (cc := cX8_store) (maxL := 3) (ret := (some .int)) (by decide +kernel) rfl ?_
  intro p e s m args below meth c s₁ B hml hv
  obtain ⟨rfl, hsz, hP, hK, hD0, hE, hX0⟩ := hv
  have hx := B.exec
  have hb := B.bytes
  have hr := B.returns
  have hts := z_E.ts (args := [.ref m0, .int a0].toArray) hE
  have hown : s.vm.findClass RX8 = some m.cls := findClass_of_methodNamed B.named
  have hlocks := B.notSynchronized
  subst hsz
  have hD := hD0.self (sz := s.heap.size)
  generalize hAe : va_A [(m0, .inr (10, [.int th, .ref qu, .ref qs, .ref qc, .ref qp, .int 0, .int (-1), .int 0, .null])), (qs, .inr (1, [.int 0, .ref es, .int 0]))] s.heap.size = A at hD hX0 ⊢
  have hX : z_X A s s.heap := hX0
  have hA : ∀ q : Nat, s.heap.size ≤ q → A q := fun q h => by rw [← hAe]; exact Or.inr h
  have hS : va_S A s.heap s.heap [] := va_S.rf
  have hP : va_P D vwCl [(m0, .inr (10, [.int th, .ref qu, .ref qs, .ref qc, .ref qp, .int 0, .int (-1), .int 0, .null])), (qs, .inr (1, [.int 0, .ref es, .int 0]))] s.heap := hP
  have hl := lv_entry ([.ref m0, .int a0]) (n := 3) (Nat.le_of_ble_eq_true rfl)
  rw [lg_entry_eq]
  generalize (lg_sl ([.ref m0, .int a0]) ++ List.replicate (3 - (lg_sl ([.ref m0, .int a0])).length) Slot.unset).toArray = ls at hl ⊢
  have hl : lv_has ls 3 [(0, .ref m0), (1, .int a0)] := hl
  skip
  refine lv_aload_n hx hb dX8_store_0 rfl (lv_at hl 0 rfl) ?_
  refine lv_iload_n hx hb dX8_store_1 rfl (lv_at hl 1 rfl) ?_
  obtain ⟨hb_1, hc_1⟩ := z_call (wc := [(m0, .inr (10, [.int th, .ref qu, .ref qs, .ref qc, .ref qp, .int 0, .int (-1), .int 0, .null])), (qs, .inr (1, [.int 0, .ref es, .int 0]))]) (tc := []) ([.ref m0, .int a0]) hP hK hD hS hA hE hX [0, 1] rfl rfl [] rfl
  have hF_1 := va_free (wc := [(m0, .inr (10, [.int th, .ref qu, .ref qs, .ref qc, .ref qp, .int 0, .int (-1), .int 0, .null])), (qs, .inr (1, [.int 0, .ref es, .int 0]))]) hD hS hA [0, 1] rfl
  refine va_calli (va_runV (As := [.int a0]) (rest := []) ⟨hx, hb, hml, hown, hts⟩ (f_X8_noShop l D m0 qu qs qc qp th es a0 _ ) (z_cV 1 hE zw_1464 zw_1466 zw_74 zw_96 zw_1467 rfl rfl rfl (by decide +kernel) ⟨(Nat.le_of_ble_eq_true rfl), (Nat.le_of_ble_eq_true rfl)⟩) ⟨hb_1, va_recv hK hP (ci := 10) (q0 := 0) rfl rfl, hc_1⟩ rfl rfl hl.1 rfl (lv_room (Nat.le_of_ble_eq_true rfl)) dX8_store_2 ⟨(Nat.le_of_ble_eq_true rfl), (Nat.le_of_ble_eq_true rfl)⟩) hS (fun q _ h => hF_1 q h) hF_1 (fun r_1 u_1 t_1 H1 locs ht_1 hvm_1 hw_1 hB_1 hz_1 hk_1 hS1 => ?_)
  obtain ⟨hP, hK, hD⟩ := z_back (wc := [(m0, .inr (10, [.int th, .ref qu, .ref qs, .ref qc, .ref qp, .int 0, .int (-1), .int 0, .null])), (qs, .inr (1, [.int 0, .ref es, .int 0]))]) (wr := []) (w1 := [(m0, .inr (10, [.int 1, .ref qu, .ref qs, .ref qc, .ref qp, .int 0, .int (-1), .int 0, .null])), (qs, .inr (1, [.int 0, .ref es, .int 0]))]) (tr := []) hP hK hD [0, 1] [] rfl rfl rfl (by decide) ht_1 hvm_1 hk_1 hF_1 [] rfl hB_1
  have hS := hS1
  have hP : va_P D vwCl [(m0, .inr (10, [.int 1, .ref qu, .ref qs, .ref qc, .ref qp, .int 0, .int (-1), .int 0, .null])), (qs, .inr (1, [.int 0, .ref es, .int 0]))] H1 := hP
  have hD : va_D A [(m0, .inr (10, [.int 1, .ref qu, .ref qs, .ref qc, .ref qp, .int 0, .int (-1), .int 0, .null])), (qs, .inr (1, [.int 0, .ref es, .int 0]))] := hD
  have hK : va_K D vwCl [] s := hK
  clear hS1
  obtain rfl : r_1 = 1 := hw_1
  refine lv_if_eq (tgt := 10) hx hb dX8_store_5 (by decide) (fun c_2 => absurd c_2 (by decide)) (fun c_2 => ?_)
  refine lv_iconst (v := 0) hx hb dX8_store_8 (by decide) ?_
  exact W.iret (v := 0) hx hb hr (fun t ht hW => ⟨⟨0, (), rfl, trivial, z_end hP hK hD [0, 1] rfl rfl [] rfl ht hW.alike⟩, hS.F ht⟩) hS.2.2 dX8_store_9
theorem dX8_comes_0 : decode cX8_comes 0 = .ok (.aload_n 0, 1) := by decide +kernel
theorem dX8_comes_1 : decode cX8_comes 1 = .ok (.iload_n 1, 1) := by decide +kernel
theorem dX8_comes_2 : decode cX8_comes 2 = .ok (.invokevirtual 169, 3) := by decide +kernel
theorem dX8_comes_5 : decode cX8_comes 5 = .ok (.ifCond .ne 24, 3) := by decide +kernel
theorem dX8_comes_29 : decode cX8_comes 29 = .ok (.iconst 0, 1) := by decide +kernel
theorem dX8_comes_30 : decode cX8_comes 30 = .ok (.ireturn, 1) := by decide +kernel
set_option maxHeartbeats 4000000 in
set_option maxRecDepth 100000 in
theorem f_X8_comes (l : Launch) (D : va_G) (m0 : Nat) (qu : Nat) (qs : Nat) (qc : Nat) (qp : Nat) (th : Int32) (es : Nat) (a0 : Int32) (sz : Nat)  : Met l yX8_comes [Cond.code yX8_comes cX8_comes 2 (some .boolean)] ({ frames := 6, cells := 0, slots := 0, locals := 200 }) (z_Pc D [.ref m0, .int a0] [(m0, .inr (10, [.int th, .ref qu, .ref qs, .ref qc, .ref qp, .int 0, .int (-1), .int 0, .null])), (qs, .inr (1, [.int 0, .ref es, .int 0]))] [] sz) (va_Qi (fun (r : Int32) (_ : Unit) => True) (fun _ t => z_W D [(m0, .inr (10, [.int 1, .ref qu, .ref qs, .ref qc, .ref qp, .int 0, .int (-1), .int 0, .null])), (qs, .inr (1, [.int 0, .ref es, .int 0]))] [] (va_A [(m0, .inr (10, [.int th, .ref qu, .ref qs, .ref qc, .ref qp, .int 0, .int (-1), .int 0, .null])), (qs, .inr (1, [.int 0, .ref es, .int 0]))] sz) t) (va_A [(m0, .inr (10, [.int th, .ref qu, .ref qs, .ref qc, .ref qp, .int 0, .int (-1), .int 0, .null])), (qs, .inr (1, [.int 0, .ref es, .int 0]))] sz)) 0 0 (va_A [(m0, .inr (10, [.int th, .ref qu, .ref qs, .ref qc, .ref qp, .int 0, .int (-1), .int 0, .null])), (qs, .inr (1, [.int 0, .ref es, .int 0]))] sz) := by
  refine Met.ofW (cc := cX8_comes) (maxL := 2) (ret := (some .boolean)) (by decide +kernel) rfl ?_
  intro p e s m args below meth c s₁ B hml hv
  obtain ⟨rfl, hsz, hP, hK, hD0, hE, hX0⟩ := hv
  have hx := B.exec
  have hb := B.bytes
  have hr := B.returns
  have hts := z_E.ts (args := [.ref m0, .int a0].toArray) hE
  have hown : s.vm.findClass RX8 = some m.cls := findClass_of_methodNamed B.named
  have hlocks := B.notSynchronized
  subst hsz
  have hD := hD0.self (sz := s.heap.size)
  generalize hAe : va_A [(m0, .inr (10, [.int th, .ref qu, .ref qs, .ref qc, .ref qp, .int 0, .int (-1), .int 0, .null])), (qs, .inr (1, [.int 0, .ref es, .int 0]))] s.heap.size = A at hD hX0 ⊢
  have hX : z_X A s s.heap := hX0
  have hA : ∀ q : Nat, s.heap.size ≤ q → A q := fun q h => by rw [← hAe]; exact Or.inr h
  have hS : va_S A s.heap s.heap [] := va_S.rf
  have hP : va_P D vwCl [(m0, .inr (10, [.int th, .ref qu, .ref qs, .ref qc, .ref qp, .int 0, .int (-1), .int 0, .null])), (qs, .inr (1, [.int 0, .ref es, .int 0]))] s.heap := hP
  have hl := lv_entry ([.ref m0, .int a0]) (n := 2) (Nat.le_of_ble_eq_true rfl)
  rw [lg_entry_eq]
  generalize (lg_sl ([.ref m0, .int a0]) ++ List.replicate (2 - (lg_sl ([.ref m0, .int a0])).length) Slot.unset).toArray = ls at hl ⊢
  have hl : lv_has ls 2 [(0, .ref m0), (1, .int a0)] := hl
  skip
  refine lv_aload_n hx hb dX8_comes_0 rfl (lv_at hl 0 rfl) ?_
  refine lv_iload_n hx hb dX8_comes_1 rfl (lv_at hl 1 rfl) ?_
  obtain ⟨hb_1, hc_1⟩ := z_call (wc := [(m0, .inr (10, [.int th, .ref qu, .ref qs, .ref qc, .ref qp, .int 0, .int (-1), .int 0, .null])), (qs, .inr (1, [.int 0, .ref es, .int 0]))]) (tc := []) ([.ref m0, .int a0]) hP hK hD hS hA hE hX [0, 1] rfl rfl [] rfl
  have hF_1 := va_free (wc := [(m0, .inr (10, [.int th, .ref qu, .ref qs, .ref qc, .ref qp, .int 0, .int (-1), .int 0, .null])), (qs, .inr (1, [.int 0, .ref es, .int 0]))]) hD hS hA [0, 1] rfl
  refine va_calli (va_runV (As := [.int a0]) (rest := []) ⟨hx, hb, hml, hown, hts⟩ (f_X8_noShop l D m0 qu qs qc qp th es a0 _ ) (z_cV 1 hE zw_1464 zw_1466 zw_74 zw_96 zw_1467 rfl rfl rfl (by decide +kernel) ⟨(Nat.le_of_ble_eq_true rfl), (Nat.le_of_ble_eq_true rfl)⟩) ⟨hb_1, va_recv hK hP (ci := 10) (q0 := 0) rfl rfl, hc_1⟩ rfl rfl hl.1 rfl (lv_room (Nat.le_of_ble_eq_true rfl)) dX8_comes_2 ⟨(Nat.le_of_ble_eq_true rfl), (Nat.le_of_ble_eq_true rfl)⟩) hS (fun q _ h => hF_1 q h) hF_1 (fun r_1 u_1 t_1 H1 locs ht_1 hvm_1 hw_1 hB_1 hz_1 hk_1 hS1 => ?_)
  obtain ⟨hP, hK, hD⟩ := z_back (wc := [(m0, .inr (10, [.int th, .ref qu, .ref qs, .ref qc, .ref qp, .int 0, .int (-1), .int 0, .null])), (qs, .inr (1, [.int 0, .ref es, .int 0]))]) (wr := []) (w1 := [(m0, .inr (10, [.int 1, .ref qu, .ref qs, .ref qc, .ref qp, .int 0, .int (-1), .int 0, .null])), (qs, .inr (1, [.int 0, .ref es, .int 0]))]) (tr := []) hP hK hD [0, 1] [] rfl rfl rfl (by decide) ht_1 hvm_1 hk_1 hF_1 [] rfl hB_1
  have hS := hS1
  have hP : va_P D vwCl [(m0, .inr (10, [.int 1, .ref qu, .ref qs, .ref qc, .ref qp, .int 0, .int (-1), .int 0, .null])), (qs, .inr (1, [.int 0, .ref es, .int 0]))] H1 := hP
  have hD : va_D A [(m0, .inr (10, [.int 1, .ref qu, .ref qs, .ref qc, .ref qp, .int 0, .int (-1), .int 0, .null])), (qs, .inr (1, [.int 0, .ref es, .int 0]))] := hD
  have hK : va_K D vwCl [] s := hK
  clear hS1
  obtain rfl : r_1 = 1 := hw_1
  refine lv_if_ne (tgt := 29) hx hb dX8_comes_5 (by decide) (fun c_2 => ?_) (fun c_2 => absurd c_2 (by decide))
  refine lv_iconst (v := 0) hx hb dX8_comes_29 (by decide) ?_
  exact W.zret (v := 0) hx hb hr (by first | rfl | decide) (fun t ht hW => ⟨⟨0, (), rfl, trivial, z_end hP hK hD [0, 1] rfl rfl [] rfl ht hW.alike⟩, hS.F ht⟩) hS.2.2 dX8_comes_30
theorem dX8_mayBeShut_0 : decode cX8_mayBeShut 0 = .ok (.aload_n 0, 1) := by decide +kernel
theorem dX8_mayBeShut_1 : decode cX8_mayBeShut 1 = .ok (.iload_n 1, 1) := by decide +kernel
theorem dX8_mayBeShut_2 : decode cX8_mayBeShut 2 = .ok (.invokevirtual 169, 3) := by decide +kernel
theorem dX8_mayBeShut_5 : decode cX8_mayBeShut 5 = .ok (.ifCond .eq 7, 3) := by decide +kernel
theorem dX8_mayBeShut_8 : decode cX8_mayBeShut 8 = .ok (.iconst 0, 1) := by decide +kernel
theorem dX8_mayBeShut_9 : decode cX8_mayBeShut 9 = .ok (.goto 17, 3) := by decide +kernel
theorem dX8_mayBeShut_26 : decode cX8_mayBeShut 26 = .ok (.ireturn, 1) := by decide +kernel
set_option maxHeartbeats 4000000 in
set_option maxRecDepth 100000 in
theorem f_X8_mayBeShut (l : Launch) (D : va_G) (m0 : Nat) (qu : Nat) (qs : Nat) (qc : Nat) (qp : Nat) (th : Int32) (es : Nat) (a0 : Int32) (sz : Nat)  : Met l yX8_mayBeShut [Cond.code yX8_mayBeShut cX8_mayBeShut 2 (some .int)] ({ frames := 6, cells := 0, slots := 0, locals := 200 }) (z_Pc D [.ref m0, .int a0] [(m0, .inr (10, [.int th, .ref qu, .ref qs, .ref qc, .ref qp, .int 0, .int (-1), .int 0, .null])), (qs, .inr (1, [.int 0, .ref es, .int 0]))] [] sz) (va_Qi (fun (r : Int32) (_ : Unit) => True) (fun _ t => z_W D [(m0, .inr (10, [.int 1, .ref qu, .ref qs, .ref qc, .ref qp, .int 0, .int (-1), .int 0, .null])), (qs, .inr (1, [.int 0, .ref es, .int 0]))] [] (va_A [(m0, .inr (10, [.int th, .ref qu, .ref qs, .ref qc, .ref qp, .int 0, .int (-1), .int 0, .null])), (qs, .inr (1, [.int 0, .ref es, .int 0]))] sz) t) (va_A [(m0, .inr (10, [.int th, .ref qu, .ref qs, .ref qc, .ref qp, .int 0, .int (-1), .int 0, .null])), (qs, .inr (1, [.int 0, .ref es, .int 0]))] sz)) 0 0 (va_A [(m0, .inr (10, [.int th, .ref qu, .ref qs, .ref qc, .ref qp, .int 0, .int (-1), .int 0, .null])), (qs, .inr (1, [.int 0, .ref es, .int 0]))] sz) := by
  refine Met.ofW (cc := cX8_mayBeShut) (maxL := 2) (ret := (some .int)) (by decide +kernel) rfl ?_
  intro p e s m args below meth c s₁ B hml hv
  obtain ⟨rfl, hsz, hP, hK, hD0, hE, hX0⟩ := hv
  have hx := B.exec
  have hb := B.bytes
  have hr := B.returns
  have hts := z_E.ts (args := [.ref m0, .int a0].toArray) hE
  have hown : s.vm.findClass RX8 = some m.cls := findClass_of_methodNamed B.named
  have hlocks := B.notSynchronized
  subst hsz
  have hD := hD0.self (sz := s.heap.size)
  generalize hAe : va_A [(m0, .inr (10, [.int th, .ref qu, .ref qs, .ref qc, .ref qp, .int 0, .int (-1), .int 0, .null])), (qs, .inr (1, [.int 0, .ref es, .int 0]))] s.heap.size = A at hD hX0 ⊢
  have hX : z_X A s s.heap := hX0
  have hA : ∀ q : Nat, s.heap.size ≤ q → A q := fun q h => by rw [← hAe]; exact Or.inr h
  have hS : va_S A s.heap s.heap [] := va_S.rf
  have hP : va_P D vwCl [(m0, .inr (10, [.int th, .ref qu, .ref qs, .ref qc, .ref qp, .int 0, .int (-1), .int 0, .null])), (qs, .inr (1, [.int 0, .ref es, .int 0]))] s.heap := hP
  have hl := lv_entry ([.ref m0, .int a0]) (n := 2) (Nat.le_of_ble_eq_true rfl)
  rw [lg_entry_eq]
  generalize (lg_sl ([.ref m0, .int a0]) ++ List.replicate (2 - (lg_sl ([.ref m0, .int a0])).length) Slot.unset).toArray = ls at hl ⊢
  have hl : lv_has ls 2 [(0, .ref m0), (1, .int a0)] := hl
  skip
  refine lv_aload_n hx hb dX8_mayBeShut_0 rfl (lv_at hl 0 rfl) ?_
  refine lv_iload_n hx hb dX8_mayBeShut_1 rfl (lv_at hl 1 rfl) ?_
  obtain ⟨hb_1, hc_1⟩ := z_call (wc := [(m0, .inr (10, [.int th, .ref qu, .ref qs, .ref qc, .ref qp, .int 0, .int (-1), .int 0, .null])), (qs, .inr (1, [.int 0, .ref es, .int 0]))]) (tc := []) ([.ref m0, .int a0]) hP hK hD hS hA hE hX [0, 1] rfl rfl [] rfl
  have hF_1 := va_free (wc := [(m0, .inr (10, [.int th, .ref qu, .ref qs, .ref qc, .ref qp, .int 0, .int (-1), .int 0, .null])), (qs, .inr (1, [.int 0, .ref es, .int 0]))]) hD hS hA [0, 1] rfl
  refine va_calli (va_runV (As := [.int a0]) (rest := []) ⟨hx, hb, hml, hown, hts⟩ (f_X8_noShop l D m0 qu qs qc qp th es a0 _ ) (z_cV 1 hE zw_1464 zw_1466 zw_74 zw_96 zw_1467 rfl rfl rfl (by decide +kernel) ⟨(Nat.le_of_ble_eq_true rfl), (Nat.le_of_ble_eq_true rfl)⟩) ⟨hb_1, va_recv hK hP (ci := 10) (q0 := 0) rfl rfl, hc_1⟩ rfl rfl hl.1 rfl (lv_room (Nat.le_of_ble_eq_true rfl)) dX8_mayBeShut_2 ⟨(Nat.le_of_ble_eq_true rfl), (Nat.le_of_ble_eq_true rfl)⟩) hS (fun q _ h => hF_1 q h) hF_1 (fun r_1 u_1 t_1 H1 locs ht_1 hvm_1 hw_1 hB_1 hz_1 hk_1 hS1 => ?_)
  obtain ⟨hP, hK, hD⟩ := z_back (wc := [(m0, .inr (10, [.int th, .ref qu, .ref qs, .ref qc, .ref qp, .int 0, .int (-1), .int 0, .null])), (qs, .inr (1, [.int 0, .ref es, .int 0]))]) (wr := []) (w1 := [(m0, .inr (10, [.int 1, .ref qu, .ref qs, .ref qc, .ref qp, .int 0, .int (-1), .int 0, .null])), (qs, .inr (1, [.int 0, .ref es, .int 0]))]) (tr := []) hP hK hD [0, 1] [] rfl rfl rfl (by decide) ht_1 hvm_1 hk_1 hF_1 [] rfl hB_1
  have hS := hS1
  have hP : va_P D vwCl [(m0, .inr (10, [.int 1, .ref qu, .ref qs, .ref qc, .ref qp, .int 0, .int (-1), .int 0, .null])), (qs, .inr (1, [.int 0, .ref es, .int 0]))] H1 := hP
  have hD : va_D A [(m0, .inr (10, [.int 1, .ref qu, .ref qs, .ref qc, .ref qp, .int 0, .int (-1), .int 0, .null])), (qs, .inr (1, [.int 0, .ref es, .int 0]))] := hD
  have hK : va_K D vwCl [] s := hK
  clear hS1
  obtain rfl : r_1 = 1 := hw_1
  refine lv_if_eq (tgt := 12) hx hb dX8_mayBeShut_5 (by decide) (fun c_2 => absurd c_2 (by decide)) (fun c_2 => ?_)
  refine lv_iconst (v := 0) hx hb dX8_mayBeShut_8 (by decide) ?_
  refine lv_goto (tgt := 26) hx hb dX8_mayBeShut_9 (by decide) ?_
  exact W.iret (v := 0) hx hb hr (fun t ht hW => ⟨⟨0, (), rfl, trivial, z_end hP hK hD [0, 1] rfl rfl [] rfl ht hW.alike⟩, hS.F ht⟩) hS.2.2 dX8_mayBeShut_26
theorem dX8_seen_0 : decode cX8_seen 0 = .ok (.aload_n 0, 1) := by decide +kernel
theorem dX8_seen_1 : decode cX8_seen 1 = .ok (.iload_n 1, 1) := by decide +kernel
theorem dX8_seen_2 : decode cX8_seen 2 = .ok (.invokevirtual 169, 3) := by decide +kernel
theorem dX8_seen_5 : decode cX8_seen 5 = .ok (.ifCond .eq 7, 3) := by decide +kernel
theorem dX8_seen_8 : decode cX8_seen 8 = .ok (.iconst 0, 1) := by decide +kernel
theorem dX8_seen_9 : decode cX8_seen 9 = .ok (.goto 18, 3) := by decide +kernel
theorem dX8_seen_27 : decode cX8_seen 27 = .ok (.ireturn, 1) := by decide +kernel
set_option maxHeartbeats 4000000 in
set_option maxRecDepth 100000 in
theorem f_X8_seen (l : Launch) (D : va_G) (m0 : Nat) (qu : Nat) (qs : Nat) (qc : Nat) (qp : Nat) (th : Int32) (es : Nat) (a0 : Int32) (sz : Nat)  : Met l yX8_seen [Cond.code yX8_seen cX8_seen 2 (some .int)] ({ frames := 6, cells := 0, slots := 0, locals := 200 }) (z_Pc D [.ref m0, .int a0] [(m0, .inr (10, [.int th, .ref qu, .ref qs, .ref qc, .ref qp, .int 0, .int (-1), .int 0, .null])), (qs, .inr (1, [.int 0, .ref es, .int 0]))] [] sz) (va_Qi (fun (r : Int32) (_ : Unit) => True) (fun _ t => z_W D [(m0, .inr (10, [.int 1, .ref qu, .ref qs, .ref qc, .ref qp, .int 0, .int (-1), .int 0, .null])), (qs, .inr (1, [.int 0, .ref es, .int 0]))] [] (va_A [(m0, .inr (10, [.int th, .ref qu, .ref qs, .ref qc, .ref qp, .int 0, .int (-1), .int 0, .null])), (qs, .inr (1, [.int 0, .ref es, .int 0]))] sz) t) (va_A [(m0, .inr (10, [.int th, .ref qu, .ref qs, .ref qc, .ref qp, .int 0, .int (-1), .int 0, .null])), (qs, .inr (1, [.int 0, .ref es, .int 0]))] sz)) 0 0 (va_A [(m0, .inr (10, [.int th, .ref qu, .ref qs, .ref qc, .ref qp, .int 0, .int (-1), .int 0, .null])), (qs, .inr (1, [.int 0, .ref es, .int 0]))] sz) := by
  refine Met.ofW (cc := cX8_seen) (maxL := 2) (ret := (some .int)) (by decide +kernel) rfl ?_
  intro p e s m args below meth c s₁ B hml hv
  obtain ⟨rfl, hsz, hP, hK, hD0, hE, hX0⟩ := hv
  have hx := B.exec
  have hb := B.bytes
  have hr := B.returns
  have hts := z_E.ts (args := [.ref m0, .int a0].toArray) hE
  have hown : s.vm.findClass RX8 = some m.cls := findClass_of_methodNamed B.named
  have hlocks := B.notSynchronized
  subst hsz
  have hD := hD0.self (sz := s.heap.size)
  generalize hAe : va_A [(m0, .inr (10, [.int th, .ref qu, .ref qs, .ref qc, .ref qp, .int 0, .int (-1), .int 0, .null])), (qs, .inr (1, [.int 0, .ref es, .int 0]))] s.heap.size = A at hD hX0 ⊢
  have hX : z_X A s s.heap := hX0
  have hA : ∀ q : Nat, s.heap.size ≤ q → A q := fun q h => by rw [← hAe]; exact Or.inr h
  have hS : va_S A s.heap s.heap [] := va_S.rf
  have hP : va_P D vwCl [(m0, .inr (10, [.int th, .ref qu, .ref qs, .ref qc, .ref qp, .int 0, .int (-1), .int 0, .null])), (qs, .inr (1, [.int 0, .ref es, .int 0]))] s.heap := hP
  have hl := lv_entry ([.ref m0, .int a0]) (n := 2) (Nat.le_of_ble_eq_true rfl)
  rw [lg_entry_eq]
  generalize (lg_sl ([.ref m0, .int a0]) ++ List.replicate (2 - (lg_sl ([.ref m0, .int a0])).length) Slot.unset).toArray = ls at hl ⊢
  have hl : lv_has ls 2 [(0, .ref m0), (1, .int a0)] := hl
  skip
  refine lv_aload_n hx hb dX8_seen_0 rfl (lv_at hl 0 rfl) ?_
  refine lv_iload_n hx hb dX8_seen_1 rfl (lv_at hl 1 rfl) ?_
  obtain ⟨hb_1, hc_1⟩ := z_call (wc := [(m0, .inr (10, [.int th, .ref qu, .ref qs, .ref qc, .ref qp, .int 0, .int (-1), .int 0, .null])), (qs, .inr (1, [.int 0, .ref es, .int 0]))]) (tc := []) ([.ref m0, .int a0]) hP hK hD hS hA hE hX [0, 1] rfl rfl [] rfl
  have hF_1 := va_free (wc := [(m0, .inr (10, [.int th, .ref qu, .ref qs, .ref qc, .ref qp, .int 0, .int (-1), .int 0, .null])), (qs, .inr (1, [.int 0, .ref es, .int 0]))]) hD hS hA [0, 1] rfl
  refine va_calli (va_runV (As := [.int a0]) (rest := []) ⟨hx, hb, hml, hown, hts⟩ (f_X8_noShop l D m0 qu qs qc qp th es a0 _ ) (z_cV 1 hE zw_1464 zw_1466 zw_74 zw_96 zw_1467 rfl rfl rfl (by decide +kernel) ⟨(Nat.le_of_ble_eq_true rfl), (Nat.le_of_ble_eq_true rfl)⟩) ⟨hb_1, va_recv hK hP (ci := 10) (q0 := 0) rfl rfl, hc_1⟩ rfl rfl hl.1 rfl (lv_room (Nat.le_of_ble_eq_true rfl)) dX8_seen_2 ⟨(Nat.le_of_ble_eq_true rfl), (Nat.le_of_ble_eq_true rfl)⟩) hS (fun q _ h => hF_1 q h) hF_1 (fun r_1 u_1 t_1 H1 locs ht_1 hvm_1 hw_1 hB_1 hz_1 hk_1 hS1 => ?_)
  obtain ⟨hP, hK, hD⟩ := z_back (wc := [(m0, .inr (10, [.int th, .ref qu, .ref qs, .ref qc, .ref qp, .int 0, .int (-1), .int 0, .null])), (qs, .inr (1, [.int 0, .ref es, .int 0]))]) (wr := []) (w1 := [(m0, .inr (10, [.int 1, .ref qu, .ref qs, .ref qc, .ref qp, .int 0, .int (-1), .int 0, .null])), (qs, .inr (1, [.int 0, .ref es, .int 0]))]) (tr := []) hP hK hD [0, 1] [] rfl rfl rfl (by decide) ht_1 hvm_1 hk_1 hF_1 [] rfl hB_1
  have hS := hS1
  have hP : va_P D vwCl [(m0, .inr (10, [.int 1, .ref qu, .ref qs, .ref qc, .ref qp, .int 0, .int (-1), .int 0, .null])), (qs, .inr (1, [.int 0, .ref es, .int 0]))] H1 := hP
  have hD : va_D A [(m0, .inr (10, [.int 1, .ref qu, .ref qs, .ref qc, .ref qp, .int 0, .int (-1), .int 0, .null])), (qs, .inr (1, [.int 0, .ref es, .int 0]))] := hD
  have hK : va_K D vwCl [] s := hK
  clear hS1
  obtain rfl : r_1 = 1 := hw_1
  refine lv_if_eq (tgt := 12) hx hb dX8_seen_5 (by decide) (fun c_2 => absurd c_2 (by decide)) (fun c_2 => ?_)
  refine lv_iconst (v := 0) hx hb dX8_seen_8 (by decide) ?_
  refine lv_goto (tgt := 27) hx hb dX8_seen_9 (by decide) ?_
  exact W.iret (v := 0) hx hb hr (fun t ht hW => ⟨⟨0, (), rfl, trivial, z_end hP hK hD [0, 1] rfl rfl [] rfl ht hW.alike⟩, hS.F ht⟩) hS.2.2 dX8_seen_27
theorem dX8_known_0 : decode cX8_known 0 = .ok (.aload_n 0, 1) := by decide +kernel
theorem dX8_known_1 : decode cX8_known 1 = .ok (.iload_n 1, 1) := by decide +kernel
theorem dX8_known_2 : decode cX8_known 2 = .ok (.invokevirtual 169, 3) := by decide +kernel
theorem dX8_known_5 : decode cX8_known 5 = .ok (.ifCond .eq 7, 3) := by decide +kernel
theorem dX8_known_8 : decode cX8_known 8 = .ok (.iconst 0, 1) := by decide +kernel
theorem dX8_known_9 : decode cX8_known 9 = .ok (.goto 17, 3) := by decide +kernel
theorem dX8_known_26 : decode cX8_known 26 = .ok (.ireturn, 1) := by decide +kernel
set_option maxHeartbeats 4000000 in
set_option maxRecDepth 100000 in
theorem f_X8_known (l : Launch) (D : va_G) (m0 : Nat) (qu : Nat) (qs : Nat) (qc : Nat) (qp : Nat) (th : Int32) (es : Nat) (a0 : Int32) (sz : Nat)  : Met l yX8_known [Cond.code yX8_known cX8_known 2 (some .int)] ({ frames := 6, cells := 0, slots := 0, locals := 200 }) (z_Pc D [.ref m0, .int a0] [(m0, .inr (10, [.int th, .ref qu, .ref qs, .ref qc, .ref qp, .int 0, .int (-1), .int 0, .null])), (qs, .inr (1, [.int 0, .ref es, .int 0]))] [] sz) (va_Qi (fun (r : Int32) (_ : Unit) => True) (fun _ t => z_W D [(m0, .inr (10, [.int 1, .ref qu, .ref qs, .ref qc, .ref qp, .int 0, .int (-1), .int 0, .null])), (qs, .inr (1, [.int 0, .ref es, .int 0]))] [] (va_A [(m0, .inr (10, [.int th, .ref qu, .ref qs, .ref qc, .ref qp, .int 0, .int (-1), .int 0, .null])), (qs, .inr (1, [.int 0, .ref es, .int 0]))] sz) t) (va_A [(m0, .inr (10, [.int th, .ref qu, .ref qs, .ref qc, .ref qp, .int 0, .int (-1), .int 0, .null])), (qs, .inr (1, [.int 0, .ref es, .int 0]))] sz)) 0 0 (va_A [(m0, .inr (10, [.int th, .ref qu, .ref qs, .ref qc, .ref qp, .int 0, .int (-1), .int 0, .null])), (qs, .inr (1, [.int 0, .ref es, .int 0]))] sz) := by
  refine Met.ofW (cc := cX8_known) (maxL := 2) (ret := (some .int)) (by decide +kernel) rfl ?_
  intro p e s m args below meth c s₁ B hml hv
  obtain ⟨rfl, hsz, hP, hK, hD0, hE, hX0⟩ := hv
  have hx := B.exec
  have hb := B.bytes
  have hr := B.returns
  have hts := z_E.ts (args := [.ref m0, .int a0].toArray) hE
  have hown : s.vm.findClass RX8 = some m.cls := findClass_of_methodNamed B.named
  have hlocks := B.notSynchronized
  subst hsz
  have hD := hD0.self (sz := s.heap.size)
  generalize hAe : va_A [(m0, .inr (10, [.int th, .ref qu, .ref qs, .ref qc, .ref qp, .int 0, .int (-1), .int 0, .null])), (qs, .inr (1, [.int 0, .ref es, .int 0]))] s.heap.size = A at hD hX0 ⊢
  have hX : z_X A s s.heap := hX0
  have hA : ∀ q : Nat, s.heap.size ≤ q → A q := fun q h => by rw [← hAe]; exact Or.inr h
  have hS : va_S A s.heap s.heap [] := va_S.rf
  have hP : va_P D vwCl [(m0, .inr (10, [.int th, .ref qu, .ref qs, .ref qc, .ref qp, .int 0, .int (-1), .int 0, .null])), (qs, .inr (1, [.int 0, .ref es, .int 0]))] s.heap := hP
  have hl := lv_entry ([.ref m0, .int a0]) (n := 2) (Nat.le_of_ble_eq_true rfl)
  rw [lg_entry_eq]
  generalize (lg_sl ([.ref m0, .int a0]) ++ List.replicate (2 - (lg_sl ([.ref m0, .int a0])).length) Slot.unset).toArray = ls at hl ⊢
  have hl : lv_has ls 2 [(0, .ref m0), (1, .int a0)] := hl
  skip
  refine lv_aload_n hx hb dX8_known_0 rfl (lv_at hl 0 rfl) ?_
  refine lv_iload_n hx hb dX8_known_1 rfl (lv_at hl 1 rfl) ?_
  obtain ⟨hb_1, hc_1⟩ := z_call (wc := [(m0, .inr (10, [.int th, .ref qu, .ref qs, .ref qc, .ref qp, .int 0, .int (-1), .int 0, .null])), (qs, .inr (1, [.int 0, .ref es, .int 0]))]) (tc := []) ([.ref m0, .int a0]) hP hK hD hS hA hE hX [0, 1] rfl rfl [] rfl
  have hF_1 := va_free (wc := [(m0, .inr (10, [.int th, .ref qu, .ref qs, .ref qc, .ref qp, .int 0, .int (-1), .int 0, .null])), (qs, .inr (1, [.int 0, .ref es, .int 0]))]) hD hS hA [0, 1] rfl
  refine va_calli (va_runV (As := [.int a0]) (rest := []) ⟨hx, hb, hml, hown, hts⟩ (f_X8_noShop l D m0 qu qs qc qp th es a0 _ ) (z_cV 1 hE zw_1464 zw_1466 zw_74 zw_96 zw_1467 rfl rfl rfl (by decide +kernel) ⟨(Nat.le_of_ble_eq_true rfl), (Nat.le_of_ble_eq_true rfl)⟩) ⟨hb_1, va_recv hK hP (ci := 10) (q0 := 0) rfl rfl, hc_1⟩ rfl rfl hl.1 rfl (lv_room (Nat.le_of_ble_eq_true rfl)) dX8_known_2 ⟨(Nat.le_of_ble_eq_true rfl), (Nat.le_of_ble_eq_true rfl)⟩) hS (fun q _ h => hF_1 q h) hF_1 (fun r_1 u_1 t_1 H1 locs ht_1 hvm_1 hw_1 hB_1 hz_1 hk_1 hS1 => ?_)
  obtain ⟨hP, hK, hD⟩ := z_back (wc := [(m0, .inr (10, [.int th, .ref qu, .ref qs, .ref qc, .ref qp, .int 0, .int (-1), .int 0, .null])), (qs, .inr (1, [.int 0, .ref es, .int 0]))]) (wr := []) (w1 := [(m0, .inr (10, [.int 1, .ref qu, .ref qs, .ref qc, .ref qp, .int 0, .int (-1), .int 0, .null])), (qs, .inr (1, [.int 0, .ref es, .int 0]))]) (tr := []) hP hK hD [0, 1] [] rfl rfl rfl (by decide) ht_1 hvm_1 hk_1 hF_1 [] rfl hB_1
  have hS := hS1
  have hP : va_P D vwCl [(m0, .inr (10, [.int 1, .ref qu, .ref qs, .ref qc, .ref qp, .int 0, .int (-1), .int 0, .null])), (qs, .inr (1, [.int 0, .ref es, .int 0]))] H1 := hP
  have hD : va_D A [(m0, .inr (10, [.int 1, .ref qu, .ref qs, .ref qc, .ref qp, .int 0, .int (-1), .int 0, .null])), (qs, .inr (1, [.int 0, .ref es, .int 0]))] := hD
  have hK : va_K D vwCl [] s := hK
  clear hS1
  obtain rfl : r_1 = 1 := hw_1
  refine lv_if_eq (tgt := 12) hx hb dX8_known_5 (by decide) (fun c_2 => absurd c_2 (by decide)) (fun c_2 => ?_)
  refine lv_iconst (v := 0) hx hb dX8_known_8 (by decide) ?_
  refine lv_goto (tgt := 26) hx hb dX8_known_9 (by decide) ?_
  exact W.iret (v := 0) hx hb hr (fun t ht hW => ⟨⟨0, (), rfl, trivial, z_end hP hK hD [0, 1] rfl rfl [] rfl ht hW.alike⟩, hS.F ht⟩) hS.2.2 dX8_known_26
theorem dX8_isDusty_0 : decode cX8_isDusty 0 = .ok (.aload_n 0, 1) := by decide +kernel
theorem dX8_isDusty_1 : decode cX8_isDusty 1 = .ok (.iload_n 1, 1) := by decide +kernel
theorem dX8_isDusty_2 : decode cX8_isDusty 2 = .ok (.invokevirtual 169, 3) := by decide +kernel
theorem dX8_isDusty_5 : decode cX8_isDusty 5 = .ok (.ifCond .ne 25, 3) := by decide +kernel
theorem dX8_isDusty_30 : decode cX8_isDusty 30 = .ok (.iconst 0, 1) := by decide +kernel
theorem dX8_isDusty_31 : decode cX8_isDusty 31 = .ok (.ireturn, 1) := by decide +kernel
set_option maxHeartbeats 4000000 in
set_option maxRecDepth 100000 in
theorem f_X8_isDusty (l : Launch) (D : va_G) (m0 : Nat) (qu : Nat) (qs : Nat) (qc : Nat) (qp : Nat) (th : Int32) (es : Nat) (a0 : Int32) (sz : Nat)  : Met l yX8_isDusty [Cond.code yX8_isDusty cX8_isDusty 2 (some .boolean)] ({ frames := 6, cells := 0, slots := 0, locals := 200 }) (z_Pc D [.ref m0, .int a0] [(m0, .inr (10, [.int th, .ref qu, .ref qs, .ref qc, .ref qp, .int 0, .int (-1), .int 0, .null])), (qs, .inr (1, [.int 0, .ref es, .int 0]))] [] sz) (va_Qi (fun (r : Int32) (_ : Unit) => True) (fun _ t => z_W D [(m0, .inr (10, [.int 1, .ref qu, .ref qs, .ref qc, .ref qp, .int 0, .int (-1), .int 0, .null])), (qs, .inr (1, [.int 0, .ref es, .int 0]))] [] (va_A [(m0, .inr (10, [.int th, .ref qu, .ref qs, .ref qc, .ref qp, .int 0, .int (-1), .int 0, .null])), (qs, .inr (1, [.int 0, .ref es, .int 0]))] sz) t) (va_A [(m0, .inr (10, [.int th, .ref qu, .ref qs, .ref qc, .ref qp, .int 0, .int (-1), .int 0, .null])), (qs, .inr (1, [.int 0, .ref es, .int 0]))] sz)) 0 0 (va_A [(m0, .inr (10, [.int th, .ref qu, .ref qs, .ref qc, .ref qp, .int 0, .int (-1), .int 0, .null])), (qs, .inr (1, [.int 0, .ref es, .int 0]))] sz) := by
  refine Met.ofW (cc := cX8_isDusty) (maxL := 2) (ret := (some .boolean)) (by decide +kernel) rfl ?_
  intro p e s m args below meth c s₁ B hml hv
  obtain ⟨rfl, hsz, hP, hK, hD0, hE, hX0⟩ := hv
  have hx := B.exec
  have hb := B.bytes
  have hr := B.returns
  have hts := z_E.ts (args := [.ref m0, .int a0].toArray) hE
  have hown : s.vm.findClass RX8 = some m.cls := findClass_of_methodNamed B.named
  have hlocks := B.notSynchronized
  subst hsz
  have hD := hD0.self (sz := s.heap.size)
  generalize hAe : va_A [(m0, .inr (10, [.int th, .ref qu, .ref qs, .ref qc, .ref qp, .int 0, .int (-1), .int 0, .null])), (qs, .inr (1, [.int 0, .ref es, .int 0]))] s.heap.size = A at hD hX0 ⊢
  have hX : z_X A s s.heap := hX0
  have hA : ∀ q : Nat, s.heap.size ≤ q → A q := fun q h => by rw [← hAe]; exact Or.inr h
  have hS : va_S A s.heap s.heap [] := va_S.rf
  have hP : va_P D vwCl [(m0, .inr (10, [.int th, .ref qu, .ref qs, .ref qc, .ref qp, .int 0, .int (-1), .int 0, .null])), (qs, .inr (1, [.int 0, .ref es, .int 0]))] s.heap := hP
  have hl := lv_entry ([.ref m0, .int a0]) (n := 2) (Nat.le_of_ble_eq_true rfl)
  rw [lg_entry_eq]
  generalize (lg_sl ([.ref m0, .int a0]) ++ List.replicate (2 - (lg_sl ([.ref m0, .int a0])).length) Slot.unset).toArray = ls at hl ⊢
  have hl : lv_has ls 2 [(0, .ref m0), (1, .int a0)] := hl
  skip
  refine lv_aload_n hx hb dX8_isDusty_0 rfl (lv_at hl 0 rfl) ?_
  refine lv_iload_n hx hb dX8_isDusty_1 rfl (lv_at hl 1 rfl) ?_
  obtain ⟨hb_1, hc_1⟩ := z_call (wc := [(m0, .inr (10, [.int th, .ref qu, .ref qs, .ref qc, .ref qp, .int 0, .int (-1), .int 0, .null])), (qs, .inr (1, [.int 0, .ref es, .int 0]))]) (tc := []) ([.ref m0, .int a0]) hP hK hD hS hA hE hX [0, 1] rfl rfl [] rfl
  have hF_1 := va_free (wc := [(m0, .inr (10, [.int th, .ref qu, .ref qs, .ref qc, .ref qp, .int 0, .int (-1), .int 0, .null])), (qs, .inr (1, [.int 0, .ref es, .int 0]))]) hD hS hA [0, 1] rfl
  refine va_calli (va_runV (As := [.int a0]) (rest := []) ⟨hx, hb, hml, hown, hts⟩ (f_X8_noShop l D m0 qu qs qc qp th es a0 _ ) (z_cV 1 hE zw_1464 zw_1466 zw_74 zw_96 zw_1467 rfl rfl rfl (by decide +kernel) ⟨(Nat.le_of_ble_eq_true rfl), (Nat.le_of_ble_eq_true rfl)⟩) ⟨hb_1, va_recv hK hP (ci := 10) (q0 := 0) rfl rfl, hc_1⟩ rfl rfl hl.1 rfl (lv_room (Nat.le_of_ble_eq_true rfl)) dX8_isDusty_2 ⟨(Nat.le_of_ble_eq_true rfl), (Nat.le_of_ble_eq_true rfl)⟩) hS (fun q _ h => hF_1 q h) hF_1 (fun r_1 u_1 t_1 H1 locs ht_1 hvm_1 hw_1 hB_1 hz_1 hk_1 hS1 => ?_)
  obtain ⟨hP, hK, hD⟩ := z_back (wc := [(m0, .inr (10, [.int th, .ref qu, .ref qs, .ref qc, .ref qp, .int 0, .int (-1), .int 0, .null])), (qs, .inr (1, [.int 0, .ref es, .int 0]))]) (wr := []) (w1 := [(m0, .inr (10, [.int 1, .ref qu, .ref qs, .ref qc, .ref qp, .int 0, .int (-1), .int 0, .null])), (qs, .inr (1, [.int 0, .ref es, .int 0]))]) (tr := []) hP hK hD [0, 1] [] rfl rfl rfl (by decide) ht_1 hvm_1 hk_1 hF_1 [] rfl hB_1
  have hS := hS1
  have hP : va_P D vwCl [(m0, .inr (10, [.int 1, .ref qu, .ref qs, .ref qc, .ref qp, .int 0, .int (-1), .int 0, .null])), (qs, .inr (1, [.int 0, .ref es, .int 0]))] H1 := hP
  have hD : va_D A [(m0, .inr (10, [.int 1, .ref qu, .ref qs, .ref qc, .ref qp, .int 0, .int (-1), .int 0, .null])), (qs, .inr (1, [.int 0, .ref es, .int 0]))] := hD
  have hK : va_K D vwCl [] s := hK
  clear hS1
  obtain rfl : r_1 = 1 := hw_1
  refine lv_if_ne (tgt := 30) hx hb dX8_isDusty_5 (by decide) (fun c_2 => ?_) (fun c_2 => absurd c_2 (by decide))
  refine lv_iconst (v := 0) hx hb dX8_isDusty_30 (by decide) ?_
  exact W.zret (v := 0) hx hb hr (by first | rfl | decide) (fun t ht hW => ⟨⟨0, (), rfl, trivial, z_end hP hK hD [0, 1] rfl rfl [] rfl ht hW.alike⟩, hS.F ht⟩) hS.2.2 dX8_isDusty_31
theorem dX8_took_0 : decode cX8_took 0 = .ok (.aload_n 0, 1) := by decide +kernel
theorem dX8_took_1 : decode cX8_took 1 = .ok (.iload_n 1, 1) := by decide +kernel
theorem dX8_took_2 : decode cX8_took 2 = .ok (.invokevirtual 169, 3) := by decide +kernel
theorem dX8_took_5 : decode cX8_took 5 = .ok (.ifCond .eq 7, 3) := by decide +kernel
theorem dX8_took_8 : decode cX8_took 8 = .ok (.lconst 0, 1) := by decide +kernel
theorem dX8_took_9 : decode cX8_took 9 = .ok (.goto 17, 3) := by decide +kernel
theorem dX8_took_26 : decode cX8_took 26 = .ok (.lreturn, 1) := by decide +kernel
set_option maxHeartbeats 4000000 in
set_option maxRecDepth 100000 in
theorem f_X8_took (l : Launch) (D : va_G) (m0 : Nat) (qu : Nat) (qs : Nat) (qc : Nat) (qp : Nat) (th : Int32) (es : Nat) (a0 : Int32) (sz : Nat)  : Met l yX8_took [Cond.code yX8_took cX8_took 2 (some .long)] ({ frames := 6, cells := 0, slots := 0, locals := 200 }) (z_Pc D [.ref m0, .int a0] [(m0, .inr (10, [.int th, .ref qu, .ref qs, .ref qc, .ref qp, .int 0, .int (-1), .int 0, .null])), (qs, .inr (1, [.int 0, .ref es, .int 0]))] [] sz) (va_Ql (fun (r : Int64) (_ : Unit) => True) (fun _ t => z_W D [(m0, .inr (10, [.int 1, .ref qu, .ref qs, .ref qc, .ref qp, .int 0, .int (-1), .int 0, .null])), (qs, .inr (1, [.int 0, .ref es, .int 0]))] [] (va_A [(m0, .inr (10, [.int th, .ref qu, .ref qs, .ref qc, .ref qp, .int 0, .int (-1), .int 0, .null])), (qs, .inr (1, [.int 0, .ref es, .int 0]))] sz) t) (va_A [(m0, .inr (10, [.int th, .ref qu, .ref qs, .ref qc, .ref qp, .int 0, .int (-1), .int 0, .null])), (qs, .inr (1, [.int 0, .ref es, .int 0]))] sz)) 0 0 (va_A [(m0, .inr (10, [.int th, .ref qu, .ref qs, .ref qc, .ref qp, .int 0, .int (-1), .int 0, .null])), (qs, .inr (1, [.int 0, .ref es, .int 0]))] sz) := by
  refine Met.ofW (cc := cX8_took) (maxL := 2) (ret := (some .long)) (by decide +kernel) rfl ?_
  intro p e s m args below meth c s₁ B hml hv
  obtain ⟨rfl, hsz, hP, hK, hD0, hE, hX0⟩ := hv
  have hx := B.exec
  have hb := B.bytes
  have hr := B.returns
  have hts := z_E.ts (args := [.ref m0, .int a0].toArray) hE
  have hown : s.vm.findClass RX8 = some m.cls := findClass_of_methodNamed B.named
  have hlocks := B.notSynchronized
  subst hsz
  have hD := hD0.self (sz := s.heap.size)
  generalize hAe : va_A [(m0, .inr (10, [.int th, .ref qu, .ref qs, .ref qc, .ref qp, .int 0, .int (-1), .int 0, .null])), (qs, .inr (1, [.int 0, .ref es, .int 0]))] s.heap.size = A at hD hX0 ⊢
  have hX : z_X A s s.heap := hX0
  have hA : ∀ q : Nat, s.heap.size ≤ q → A q := fun q h => by rw [← hAe]; exact Or.inr h
  have hS : va_S A s.heap s.heap [] := va_S.rf
  have hP : va_P D vwCl [(m0, .inr (10, [.int th, .ref qu, .ref qs, .ref qc, .ref qp, .int 0, .int (-1), .int 0, .null])), (qs, .inr (1, [.int 0, .ref es, .int 0]))] s.heap := hP
  have hl := lv_entry ([.ref m0, .int a0]) (n := 2) (Nat.le_of_ble_eq_true rfl)
  rw [lg_entry_eq]
  generalize (lg_sl ([.ref m0, .int a0]) ++ List.replicate (2 - (lg_sl ([.ref m0, .int a0])).length) Slot.unset).toArray = ls at hl ⊢
  have hl : lv_has ls 2 [(0, .ref m0), (1, .int a0)] := hl
  skip
  refine lv_aload_n hx hb dX8_took_0 rfl (lv_at hl 0 rfl) ?_
  refine lv_iload_n hx hb dX8_took_1 rfl (lv_at hl 1 rfl) ?_
  obtain ⟨hb_1, hc_1⟩ := z_call (wc := [(m0, .inr (10, [.int th, .ref qu, .ref qs, .ref qc, .ref qp, .int 0, .int (-1), .int 0, .null])), (qs, .inr (1, [.int 0, .ref es, .int 0]))]) (tc := []) ([.ref m0, .int a0]) hP hK hD hS hA hE hX [0, 1] rfl rfl [] rfl
  have hF_1 := va_free (wc := [(m0, .inr (10, [.int th, .ref qu, .ref qs, .ref qc, .ref qp, .int 0, .int (-1), .int 0, .null])), (qs, .inr (1, [.int 0, .ref es, .int 0]))]) hD hS hA [0, 1] rfl
  refine va_calli (va_runV (As := [.int a0]) (rest := []) ⟨hx, hb, hml, hown, hts⟩ (f_X8_noShop l D m0 qu qs qc qp th es a0 _ ) (z_cV 1 hE zw_1464 zw_1466 zw_74 zw_96 zw_1467 rfl rfl rfl (by decide +kernel) ⟨(Nat.le_of_ble_eq_true rfl), (Nat.le_of_ble_eq_true rfl)⟩) ⟨hb_1, va_recv hK hP (ci := 10) (q0 := 0) rfl rfl, hc_1⟩ rfl rfl hl.1 rfl (lv_room (Nat.le_of_ble_eq_true rfl)) dX8_took_2 ⟨(Nat.le_of_ble_eq_true rfl), (Nat.le_of_ble_eq_true rfl)⟩) hS (fun q _ h => hF_1 q h) hF_1 (fun r_1 u_1 t_1 H1 locs ht_1 hvm_1 hw_1 hB_1 hz_1 hk_1 hS1 => ?_)
  obtain ⟨hP, hK, hD⟩ := z_back (wc := [(m0, .inr (10, [.int th, .ref qu, .ref qs, .ref qc, .ref qp, .int 0, .int (-1), .int 0, .null])), (qs, .inr (1, [.int 0, .ref es, .int 0]))]) (wr := []) (w1 := [(m0, .inr (10, [.int 1, .ref qu, .ref qs, .ref qc, .ref qp, .int 0, .int (-1), .int 0, .null])), (qs, .inr (1, [.int 0, .ref es, .int 0]))]) (tr := []) hP hK hD [0, 1] [] rfl rfl rfl (by decide) ht_1 hvm_1 hk_1 hF_1 [] rfl hB_1
  have hS := hS1
  have hP : va_P D vwCl [(m0, .inr (10, [.int 1, .ref qu, .ref qs, .ref qc, .ref qp, .int 0, .int (-1), .int 0, .null])), (qs, .inr (1, [.int 0, .ref es, .int 0]))] H1 := hP
  have hD : va_D A [(m0, .inr (10, [.int 1, .ref qu, .ref qs, .ref qc, .ref qp, .int 0, .int (-1), .int 0, .null])), (qs, .inr (1, [.int 0, .ref es, .int 0]))] := hD
  have hK : va_K D vwCl [] s := hK
  clear hS1
  obtain rfl : r_1 = 1 := hw_1
  refine lv_if_eq (tgt := 12) hx hb dX8_took_5 (by decide) (fun c_2 => absurd c_2 (by decide)) (fun c_2 => ?_)
  refine lv_lconst (v := 0) hx hb dX8_took_8 (by decide) ?_
  refine lv_goto (tgt := 26) hx hb dX8_took_9 (by decide) ?_
  exact W.lret (v := 0) hx hb hr (fun t ht hW => ⟨⟨0, (), rfl, trivial, z_end hP hK hD [0, 1] rfl rfl [] rfl ht hW.alike⟩, hS.F ht⟩) hS.2.2 dX8_took_26
theorem dX8_lost_0 : decode cX8_lost 0 = .ok (.aload_n 0, 1) := by decide +kernel
theorem dX8_lost_1 : decode cX8_lost 1 = .ok (.iload_n 1, 1) := by decide +kernel
theorem dX8_lost_2 : decode cX8_lost 2 = .ok (.invokevirtual 169, 3) := by decide +kernel
theorem dX8_lost_5 : decode cX8_lost 5 = .ok (.ifCond .eq 5, 3) := by decide +kernel
theorem dX8_lost_8 : decode cX8_lost 8 = .ok (.lconst 0, 1) := by decide +kernel
theorem dX8_lost_9 : decode cX8_lost 9 = .ok (.lreturn, 1) := by decide +kernel
set_option maxHeartbeats 4000000 in
set_option maxRecDepth 100000 in
theorem f_X8_lost (l : Launch) (D : va_G) (m0 : Nat) (qu : Nat) (qs : Nat) (qc : Nat) (qp : Nat) (th : Int32) (es : Nat) (a0 : Int32) (a1 : Int32) (sz : Nat)  : Met l yX8_lost [Cond.code yX8_lost cX8_lost 3 (some .long)] ({ frames := 6, cells := 0, slots := 0, locals := 200 }) (z_Pc D [.ref m0, .int a0, .int a1] [(m0, .inr (10, [.int th, .ref qu, .ref qs, .ref qc, .ref qp, .int 0, .int (-1), .int 0, .null])), (qs, .inr (1, [.int 0, .ref es, .int 0]))] [] sz) (va_Ql (fun (r : Int64) (_ : Unit) => True) (fun _ t => z_W D [(m0, .inr (10, [.int 1, .ref qu, .ref qs, .ref qc, .ref qp, .int 0, .int (-1), .int 0, .null])), (qs, .inr (1, [.int 0, .ref es, .int 0]))] [] (va_A [(m0, .inr (10, [.int th, .ref qu, .ref qs, .ref qc, .ref qp, .int 0, .int (-1), .int 0, .null])), (qs, .inr (1, [.int 0, .ref es, .int 0]))] sz) t) (va_A [(m0, .inr (10, [.int th, .ref qu, .ref qs, .ref qc, .ref qp, .int 0, .int (-1), .int 0, .null])), (qs, .inr (1, [.int 0, .ref es, .int 0]))] sz)) 0 0 (va_A [(m0, .inr (10, [.int th, .ref qu, .ref qs, .ref qc, .ref qp, .int 0, .int (-1), .int 0, .null])), (qs, .inr (1, [.int 0, .ref es, .int 0]))] sz) := by
  refine Met.ofW (cc := cX8_lost) (maxL := 3) (ret := (some .long)) (by decide +kernel) rfl ?_
  intro p e s m args below meth c s₁ B hml hv
  obtain ⟨rfl, hsz, hP, hK, hD0, hE, hX0⟩ := hv
  have hx := B.exec
  have hb := B.bytes
  have hr := B.returns
  have hts := z_E.ts (args := [.ref m0, .int a0, .int a1].toArray) hE
  have hown : s.vm.findClass RX8 = some m.cls := findClass_of_methodNamed B.named
  have hlocks := B.notSynchronized
  subst hsz
  have hD := hD0.self (sz := s.heap.size)
  generalize hAe : va_A [(m0, .inr (10, [.int th, .ref qu, .ref qs, .ref qc, .ref qp, .int 0, .int (-1), .int 0, .null])), (qs, .inr (1, [.int 0, .ref es, .int 0]))] s.heap.size = A at hD hX0 ⊢
  have hX : z_X A s s.heap := hX0
  have hA : ∀ q : Nat, s.heap.size ≤ q → A q := fun q h => by rw [← hAe]; exact Or.inr h
  have hS : va_S A s.heap s.heap [] := va_S.rf
  have hP : va_P D vwCl [(m0, .inr (10, [.int th, .ref qu, .ref qs, .ref qc, .ref qp, .int 0, .int (-1), .int 0, .null])), (qs, .inr (1, [.int 0, .ref es, .int 0]))] s.heap := hP
  have hl := lv_entry ([.ref m0, .int a0, .int a1]) (n := 3) (Nat.le_of_ble_eq_true rfl)
  rw [lg_entry_eq]
  generalize (lg_sl ([.ref m0, .int a0, .int a1]) ++ List.replicate (3 - (lg_sl ([.ref m0, .int a0, .int a1])).length) Slot.unset).toArray = ls at hl ⊢
  have hl : lv_has ls 3 [(0, .ref m0), (1, .int a0), (2, .int a1)] := hl
  skip
  refine lv_aload_n hx hb dX8_lost_0 rfl (lv_at hl 0 rfl) ?_
  refine lv_iload_n hx hb dX8_lost_1 rfl (lv_at hl 1 rfl) ?_
  obtain ⟨hb_1, hc_1⟩ := z_call (wc := [(m0, .inr (10, [.int th, .ref qu, .ref qs, .ref qc, .ref qp, .int 0, .int (-1), .int 0, .null])), (qs, .inr (1, [.int 0, .ref es, .int 0]))]) (tc := []) ([.ref m0, .int a0]) hP hK hD hS hA hE hX [0, 1] rfl rfl [] rfl
  have hF_1 := va_free (wc := [(m0, .inr (10, [.int th, .ref qu, .ref qs, .ref qc, .ref qp, .int 0, .int (-1), .int 0, .null])), (qs, .inr (1, [.int 0, .ref es, .int 0]))]) hD hS hA [0, 1] rfl
  refine va_calli (va_runV (As := [.int a0]) (rest := []) ⟨hx, hb, hml, hown, hts⟩ (f_X8_noShop l D m0 qu qs qc qp th es a0 _ ) (z_cV 1 hE zw_1464 zw_1466 zw_74 zw_96 zw_1467 rfl rfl rfl (by decide +kernel) ⟨(Nat.le_of_ble_eq_true rfl), (Nat.le_of_ble_eq_true rfl)⟩) ⟨hb_1, va_recv hK hP (ci := 10) (q0 := 0) rfl rfl, hc_1⟩ rfl rfl hl.1 rfl (lv_room (Nat.le_of_ble_eq_true rfl)) dX8_lost_2 ⟨(Nat.le_of_ble_eq_true rfl), (Nat.le_of_ble_eq_true rfl)⟩) hS (fun q _ h => hF_1 q h) hF_1 (fun r_1 u_1 t_1 H1 locs ht_1 hvm_1 hw_1 hB_1 hz_1 hk_1 hS1 => ?_)
  obtain ⟨hP, hK, hD⟩ := z_back (wc := [(m0, .inr (10, [.int th, .ref qu, .ref qs, .ref qc, .ref qp, .int 0, .int (-1), .int 0, .null])), (qs, .inr (1, [.int 0, .ref es, .int 0]))]) (wr := []) (w1 := [(m0, .inr (10, [.int 1, .ref qu, .ref qs, .ref qc, .ref qp, .int 0, .int (-1), .int 0, .null])), (qs, .inr (1, [.int 0, .ref es, .int 0]))]) (tr := []) hP hK hD [0, 1] [] rfl rfl rfl (by decide) ht_1 hvm_1 hk_1 hF_1 [] rfl hB_1
  have hS := hS1
  have hP : va_P D vwCl [(m0, .inr (10, [.int 1, .ref qu, .ref qs, .ref qc, .ref qp, .int 0, .int (-1), .int 0, .null])), (qs, .inr (1, [.int 0, .ref es, .int 0]))] H1 := hP
  have hD : va_D A [(m0, .inr (10, [.int 1, .ref qu, .ref qs, .ref qc, .ref qp, .int 0, .int (-1), .int 0, .null])), (qs, .inr (1, [.int 0, .ref es, .int 0]))] := hD
  have hK : va_K D vwCl [] s := hK
  clear hS1
  obtain rfl : r_1 = 1 := hw_1
  refine lv_if_eq (tgt := 10) hx hb dX8_lost_5 (by decide) (fun c_2 => absurd c_2 (by decide)) (fun c_2 => ?_)
  refine lv_lconst (v := 0) hx hb dX8_lost_8 (by decide) ?_
  exact W.lret (v := 0) hx hb hr (fun t ht hW => ⟨⟨0, (), rfl, trivial, z_end hP hK hD [0, 1] rfl rfl [] rfl ht hW.alike⟩, hS.F ht⟩) hS.2.2 dX8_lost_9
theorem dX8_rent_0 : decode cX8_rent 0 = .ok (.aload_n 0, 1) := by decide +kernel
theorem dX8_rent_1 : decode cX8_rent 1 = .ok (.iload_n 1, 1) := by decide +kernel
theorem dX8_rent_2 : decode cX8_rent 2 = .ok (.invokevirtual 169, 3) := by decide +kernel
theorem dX8_rent_5 : decode cX8_rent 5 = .ok (.ifCond .eq 7, 3) := by decide +kernel
theorem dX8_rent_8 : decode cX8_rent 8 = .ok (.lconst 0, 1) := by decide +kernel
theorem dX8_rent_9 : decode cX8_rent 9 = .ok (.goto 21, 3) := by decide +kernel
theorem dX8_rent_30 : decode cX8_rent 30 = .ok (.lreturn, 1) := by decide +kernel
set_option maxHeartbeats 4000000 in
set_option maxRecDepth 100000 in
theorem f_X8_rent (l : Launch) (D : va_G) (m0 : Nat) (qu : Nat) (qs : Nat) (qc : Nat) (qp : Nat) (th : Int32) (es : Nat) (a0 : Int32) (sz : Nat)  : Met l yX8_rent [Cond.code yX8_rent cX8_rent 2 (some .long)] ({ frames := 6, cells := 0, slots := 0, locals := 200 }) (z_Pc D [.ref m0, .int a0] [(m0, .inr (10, [.int th, .ref qu, .ref qs, .ref qc, .ref qp, .int 0, .int (-1), .int 0, .null])), (qs, .inr (1, [.int 0, .ref es, .int 0]))] [] sz) (va_Ql (fun (r : Int64) (_ : Unit) => True) (fun _ t => z_W D [(m0, .inr (10, [.int 1, .ref qu, .ref qs, .ref qc, .ref qp, .int 0, .int (-1), .int 0, .null])), (qs, .inr (1, [.int 0, .ref es, .int 0]))] [] (va_A [(m0, .inr (10, [.int th, .ref qu, .ref qs, .ref qc, .ref qp, .int 0, .int (-1), .int 0, .null])), (qs, .inr (1, [.int 0, .ref es, .int 0]))] sz) t) (va_A [(m0, .inr (10, [.int th, .ref qu, .ref qs, .ref qc, .ref qp, .int 0, .int (-1), .int 0, .null])), (qs, .inr (1, [.int 0, .ref es, .int 0]))] sz)) 0 0 (va_A [(m0, .inr (10, [.int th, .ref qu, .ref qs, .ref qc, .ref qp, .int 0, .int (-1), .int 0, .null])), (qs, .inr (1, [.int 0, .ref es, .int 0]))] sz) := by
  refine Met.ofW (cc := cX8_rent) (maxL := 2) (ret := (some .long)) (by decide +kernel) rfl ?_
  intro p e s m args below meth c s₁ B hml hv
  obtain ⟨rfl, hsz, hP, hK, hD0, hE, hX0⟩ := hv
  have hx := B.exec
  have hb := B.bytes
  have hr := B.returns
  have hts := z_E.ts (args := [.ref m0, .int a0].toArray) hE
  have hown : s.vm.findClass RX8 = some m.cls := findClass_of_methodNamed B.named
  have hlocks := B.notSynchronized
  subst hsz
  have hD := hD0.self (sz := s.heap.size)
  generalize hAe : va_A [(m0, .inr (10, [.int th, .ref qu, .ref qs, .ref qc, .ref qp, .int 0, .int (-1), .int 0, .null])), (qs, .inr (1, [.int 0, .ref es, .int 0]))] s.heap.size = A at hD hX0 ⊢
  have hX : z_X A s s.heap := hX0
  have hA : ∀ q : Nat, s.heap.size ≤ q → A q := fun q h => by rw [← hAe]; exact Or.inr h
  have hS : va_S A s.heap s.heap [] := va_S.rf
  have hP : va_P D vwCl [(m0, .inr (10, [.int th, .ref qu, .ref qs, .ref qc, .ref qp, .int 0, .int (-1), .int 0, .null])), (qs, .inr (1, [.int 0, .ref es, .int 0]))] s.heap := hP
  have hl := lv_entry ([.ref m0, .int a0]) (n := 2) (Nat.le_of_ble_eq_true rfl)
  rw [lg_entry_eq]
  generalize (lg_sl ([.ref m0, .int a0]) ++ List.replicate (2 - (lg_sl ([.ref m0, .int a0])).length) Slot.unset).toArray = ls at hl ⊢
  have hl : lv_has ls 2 [(0, .ref m0), (1, .int a0)] := hl
  skip
  refine lv_aload_n hx hb dX8_rent_0 rfl (lv_at hl 0 rfl) ?_
  refine lv_iload_n hx hb dX8_rent_1 rfl (lv_at hl 1 rfl) ?_
  obtain ⟨hb_1, hc_1⟩ := z_call (wc := [(m0, .inr (10, [.int th, .ref qu, .ref qs, .ref qc, .ref qp, .int 0, .int (-1), .int 0, .null])), (qs, .inr (1, [.int 0, .ref es, .int 0]))]) (tc := []) ([.ref m0, .int a0]) hP hK hD hS hA hE hX [0, 1] rfl rfl [] rfl
  have hF_1 := va_free (wc := [(m0, .inr (10, [.int th, .ref qu, .ref qs, .ref qc, .ref qp, .int 0, .int (-1), .int 0, .null])), (qs, .inr (1, [.int 0, .ref es, .int 0]))]) hD hS hA [0, 1] rfl
  refine va_calli (va_runV (As := [.int a0]) (rest := []) ⟨hx, hb, hml, hown, hts⟩ (f_X8_noShop l D m0 qu qs qc qp th es a0 _ ) (z_cV 1 hE zw_1464 zw_1466 zw_74 zw_96 zw_1467 rfl rfl rfl (by decide +kernel) ⟨(Nat.le_of_ble_eq_true rfl), (Nat.le_of_ble_eq_true rfl)⟩) ⟨hb_1, va_recv hK hP (ci := 10) (q0 := 0) rfl rfl, hc_1⟩ rfl rfl hl.1 rfl (lv_room (Nat.le_of_ble_eq_true rfl)) dX8_rent_2 ⟨(Nat.le_of_ble_eq_true rfl), (Nat.le_of_ble_eq_true rfl)⟩) hS (fun q _ h => hF_1 q h) hF_1 (fun r_1 u_1 t_1 H1 locs ht_1 hvm_1 hw_1 hB_1 hz_1 hk_1 hS1 => ?_)
  obtain ⟨hP, hK, hD⟩ := z_back (wc := [(m0, .inr (10, [.int th, .ref qu, .ref qs, .ref qc, .ref qp, .int 0, .int (-1), .int 0, .null])), (qs, .inr (1, [.int 0, .ref es, .int 0]))]) (wr := []) (w1 := [(m0, .inr (10, [.int 1, .ref qu, .ref qs, .ref qc, .ref qp, .int 0, .int (-1), .int 0, .null])), (qs, .inr (1, [.int 0, .ref es, .int 0]))]) (tr := []) hP hK hD [0, 1] [] rfl rfl rfl (by decide) ht_1 hvm_1 hk_1 hF_1 [] rfl hB_1
  have hS := hS1
  have hP : va_P D vwCl [(m0, .inr (10, [.int 1, .ref qu, .ref qs, .ref qc, .ref qp, .int 0, .int (-1), .int 0, .null])), (qs, .inr (1, [.int 0, .ref es, .int 0]))] H1 := hP
  have hD : va_D A [(m0, .inr (10, [.int 1, .ref qu, .ref qs, .ref qc, .ref qp, .int 0, .int (-1), .int 0, .null])), (qs, .inr (1, [.int 0, .ref es, .int 0]))] := hD
  have hK : va_K D vwCl [] s := hK
  clear hS1
  obtain rfl : r_1 = 1 := hw_1
  refine lv_if_eq (tgt := 12) hx hb dX8_rent_5 (by decide) (fun c_2 => absurd c_2 (by decide)) (fun c_2 => ?_)
  refine lv_lconst (v := 0) hx hb dX8_rent_8 (by decide) ?_
  refine lv_goto (tgt := 30) hx hb dX8_rent_9 (by decide) ?_
  exact W.lret (v := 0) hx hb hr (fun t ht hW => ⟨⟨0, (), rfl, trivial, z_end hP hK hD [0, 1] rfl rfl [] rfl ht hW.alike⟩, hS.F ht⟩) hS.2.2 dX8_rent_30
theorem dX8_send_0 : decode cX8_send 0 = .ok (.aload_n 0, 1) := by decide +kernel
theorem dX8_send_1 : decode cX8_send 1 = .ok (.iload_n 1, 1) := by decide +kernel
theorem dX8_send_2 : decode cX8_send 2 = .ok (.i2l, 1) := by decide +kernel
theorem dX8_send_3 : decode cX8_send 3 = .ok (.lconst 0, 1) := by decide +kernel
theorem dX8_send_4 : decode cX8_send 4 = .ok (.aload_n 0, 1) := by decide +kernel
theorem dX8_send_5 : decode cX8_send 5 = .ok (.getfield 19, 3) := by decide +kernel
theorem zw_1083 : Cond.fieldLink RX8 19 "TwofrontArcadeModel" "crews" "Ljava/util/ArrayList;" ∈ z_Ts := z_m 1083 (by decide +kernel) (by decide +kernel)
theorem dX8_send_8 : decode cX8_send 8 = .ok (.invokevirtual 33, 3) := by decide +kernel
theorem dX8_send_11 : decode cX8_send 11 = .ok (.iconst 1, 1) := by decide +kernel
theorem dX8_send_12 : decode cX8_send 12 = .ok (.isub, 1) := by decide +kernel
theorem dX8_send_13 : decode cX8_send 13 = .ok (.i2l, 1) := by decide +kernel
theorem dX8_send_14 : decode cX8_send 14 = .ok (.invokestatic 37, 3) := by decide +kernel
theorem dX8_send_17 : decode cX8_send 17 = .ok (.ifCond .eq 16, 3) := by decide +kernel
theorem dX8_send_33 : decode cX8_send 33 = .ok (.iconst 1, 1) := by decide +kernel
theorem dX8_send_34 : decode cX8_send 34 = .ok (.goto 4, 3) := by decide +kernel
theorem dX8_send_38 : decode cX8_send 38 = .ok (.putfield 30, 3) := by decide +kernel
theorem dX8_send_41 : decode cX8_send 41 = .ok (.aload_n 0, 1) := by decide +kernel
theorem dX8_send_42 : decode cX8_send 42 = .ok (.getfield 30, 3) := by decide +kernel
theorem dX8_send_45 : decode cX8_send 45 = .ok (.ifCond .le 5, 3) := by decide +kernel
theorem dX8_send_48 : decode cX8_send 48 = .ok (.iconst 0, 1) := by decide +kernel
theorem dX8_send_49 : decode cX8_send 49 = .ok (.ireturn, 1) := by decide +kernel
set_option maxHeartbeats 4000000 in
set_option maxRecDepth 100000 in
theorem f_X8_send (l : Launch) (D : va_G) (m0 : Nat) (qu : Nat) (qs : Nat) (qc : Nat) (qp : Nat) (th : Int32) (ec : Nat) (a0 : Int32) (a1 : Int32) (sz : Nat)  : Met l yX8_send [Cond.code yX8_send cX8_send 4 (some .int)] ({ frames := 6, cells := 0, slots := 0, locals := 200 }) (z_Pc D [.ref m0, .int a0, .int a1] [(m0, .inr (10, [.int th, .ref qu, .ref qs, .ref qc, .ref qp, .int 0, .int (-1), .int 0, .null])), (qc, .inr (1, [.int 0, .ref ec, .int 0]))] [] sz) (va_Qi (fun (r : Int32) (_ : Unit) => True) (fun _ t => z_W D [(m0, .inr (10, [.int 1, .ref qu, .ref qs, .ref qc, .ref qp, .int 0, .int (-1), .int 0, .null])), (qc, .inr (1, [.int 0, .ref ec, .int 0]))] [] (va_A [(m0, .inr (10, [.int th, .ref qu, .ref qs, .ref qc, .ref qp, .int 0, .int (-1), .int 0, .null])), (qc, .inr (1, [.int 0, .ref ec, .int 0]))] sz) t) (va_A [(m0, .inr (10, [.int th, .ref qu, .ref qs, .ref qc, .ref qp, .int 0, .int (-1), .int 0, .null])), (qc, .inr (1, [.int 0, .ref ec, .int 0]))] sz)) 0 0 (va_A [(m0, .inr (10, [.int th, .ref qu, .ref qs, .ref qc, .ref qp, .int 0, .int (-1), .int 0, .null])), (qc, .inr (1, [.int 0, .ref ec, .int 0]))] sz) := by
  refine Met.ofW (cc := cX8_send) (maxL := 4) (ret := (some .int)) (by decide +kernel) rfl ?_
  intro p e s m args below meth c s₁ B hml hv
  obtain ⟨rfl, hsz, hP, hK, hD0, hE, hX0⟩ := hv
  have hx := B.exec
  have hb := B.bytes
  have hr := B.returns
  have hts := z_E.ts (args := [.ref m0, .int a0, .int a1].toArray) hE
  have hown : s.vm.findClass RX8 = some m.cls := findClass_of_methodNamed B.named
  have hlocks := B.notSynchronized
  subst hsz
  have hD := hD0.self (sz := s.heap.size)
  generalize hAe : va_A [(m0, .inr (10, [.int th, .ref qu, .ref qs, .ref qc, .ref qp, .int 0, .int (-1), .int 0, .null])), (qc, .inr (1, [.int 0, .ref ec, .int 0]))] s.heap.size = A at hD hX0 ⊢
  have hX : z_X A s s.heap := hX0
  have hA : ∀ q : Nat, s.heap.size ≤ q → A q := fun q h => by rw [← hAe]; exact Or.inr h
  have hS : va_S A s.heap s.heap [] := va_S.rf
  have hP : va_P D vwCl [(m0, .inr (10, [.int th, .ref qu, .ref qs, .ref qc, .ref qp, .int 0, .int (-1), .int 0, .null])), (qc, .inr (1, [.int 0, .ref ec, .int 0]))] s.heap := hP
  have hl := lv_entry ([.ref m0, .int a0, .int a1]) (n := 4) (Nat.le_of_ble_eq_true rfl)
  rw [lg_entry_eq]
  generalize (lg_sl ([.ref m0, .int a0, .int a1]) ++ List.replicate (4 - (lg_sl ([.ref m0, .int a0, .int a1])).length) Slot.unset).toArray = ls at hl ⊢
  have hl : lv_has ls 4 [(0, .ref m0), (1, .int a0), (2, .int a1)] := hl
  skip
  refine lv_aload_n hx hb dX8_send_0 rfl (lv_at hl 0 rfl) ?_
  refine lv_iload_n hx hb dX8_send_1 rfl (lv_at hl 1 rfl) ?_
  refine lv_i2l hx hb dX8_send_2 rfl ?_
  refine lv_lconst (v := 0) hx hb dX8_send_3 (by decide) ?_
  refine lv_aload_n hx hb dX8_send_4 rfl (lv_at hl 0 rfl) ?_
  refine va_get (D := D) (ci := 10) (v := .ref qc) (C := RX8) (T := TX8) (N := 9) hx hb hts zin_X8 hown hK hP 0 rfl rfl 3 (by decide) (hts _ zw_1083) (fun _ h9 => h9) rfl dX8_send_5 ?_
  obtain ⟨hb_1, hc_1⟩ := z_call (wc := [(qc, .inr (1, [.int 0, .ref ec, .int 0]))]) (tc := []) ([.ref qc]) hP hK hD hS hA hE hX [1] rfl rfl [] rfl
  have hF_1 := va_free (wc := [(qc, .inr (1, [.int 0, .ref ec, .int 0]))]) hD hS hA [1] rfl
  refine va_calli (va_runV (As := []) (rest := [.long 0, .long (a0).toInt64, .ref m0]) ⟨hx, hb, hml, hown, hts⟩ (c_J_size l D qc 0 ec 0 _ ) (z_cV 0 hE zw_1125 zw_1126 zw_1127 zw_99 zw_1128 rfl rfl rfl (by decide +kernel) ⟨(Nat.le_of_ble_eq_true rfl), (Nat.le_of_ble_eq_true rfl)⟩) ⟨hb_1, va_recv hK hP (ci := 1) (q0 := 1) rfl rfl, hc_1⟩ rfl rfl hl.1 rfl (lv_room (Nat.le_of_ble_eq_true rfl)) dX8_send_8 ⟨(Nat.le_of_ble_eq_true rfl), (Nat.le_of_ble_eq_true rfl)⟩) hS (fun q _ h => hF_1 q h) hF_1 (fun r_1 u_1 t_1 H1 locs ht_1 hvm_1 hw_1 hB_1 hz_1 hk_1 hS1 => ?_)
  obtain ⟨hP, hK, hD⟩ := z_back (wc := [(qc, .inr (1, [.int 0, .ref ec, .int 0]))]) (wr := [(m0, .inr (10, [.int th, .ref qu, .ref qs, .ref qc, .ref qp, .int 0, .int (-1), .int 0, .null]))]) (w1 := [(qc, .inr (1, [.int 0, .ref ec, .int 0]))]) (tr := []) hP hK hD [1] [0] rfl rfl rfl (by decide) ht_1 hvm_1 hk_1 hF_1 [] rfl hB_1
  have hS := hS1
  have hP : va_P D vwCl [(m0, .inr (10, [.int th, .ref qu, .ref qs, .ref qc, .ref qp, .int 0, .int (-1), .int 0, .null])), (qc, .inr (1, [.int 0, .ref ec, .int 0]))] H1 := hP
  have hD : va_D A [(m0, .inr (10, [.int th, .ref qu, .ref qs, .ref qc, .ref qp, .int 0, .int (-1), .int 0, .null])), (qc, .inr (1, [.int 0, .ref ec, .int 0]))] := hD
  have hK : va_K D vwCl [] s := hK
  clear hS1
  obtain rfl : r_1 = 0 := hw_1
  refine lv_iconst (v := 1) hx hb dX8_send_11 (by decide) ?_
  refine lv_isub hx hb dX8_send_12 ?_
  refine lv_topi (fun x_2 ex_2 => ?_)
  obtain rfl : x_2 = (-1) := ex_2.trans (by first | rfl | decide | simp)
  refine lv_i2l (v := (-1)) hx hb dX8_send_13 (by decide) ?_
  obtain ⟨hb_3, hc_3⟩ := z_call (wc := []) (tc := []) ([.long (a0).toInt64, .long 0, .long (-1)]) hP hK hD hS hA hE hX [] rfl rfl [] rfl
  have hF_3 := va_free (wc := []) hD hS hA [] rfl
  refine va_calli (va_runS (As := [.long (a0).toInt64, .long 0, .long (-1)]) (rest := [.ref m0]) ⟨hx, hb, hml, hown, hts⟩ (c_X8_in l D ((a0).toInt64) 0 (-1) _ ) (⟨z_cB 3 hE zw_1118 zw_96 zw_1120 rfl rfl rfl (by decide +kernel) ⟨(Nat.le_of_ble_eq_true rfl), (Nat.le_of_ble_eq_true rfl)⟩, hE.ts _ zw_1119⟩) ⟨hb_3, hc_3⟩ rfl rfl hl.1 rfl (lv_room (Nat.le_of_ble_eq_true rfl)) dX8_send_14 ⟨(Nat.le_of_ble_eq_true rfl), (Nat.le_of_ble_eq_true rfl)⟩) hS (fun q _ h => hF_3 q h) hF_3 (fun r_3 u_3 t_3 H1 locs ht_3 hvm_3 hw_3 hB_3 hz_3 hk_3 hS1 => ?_)
  obtain ⟨hP, hK, hD⟩ := z_back (wc := []) (wr := [(m0, .inr (10, [.int th, .ref qu, .ref qs, .ref qc, .ref qp, .int 0, .int (-1), .int 0, .null])), (qc, .inr (1, [.int 0, .ref ec, .int 0]))]) (w1 := []) (tr := []) hP hK hD [] [0, 1] rfl rfl rfl (by decide) ht_3 hvm_3 hk_3 hF_3 [] rfl hB_3
  have hS := hS1
  have hP : va_P D vwCl [(m0, .inr (10, [.int th, .ref qu, .ref qs, .ref qc, .ref qp, .int 0, .int (-1), .int 0, .null])), (qc, .inr (1, [.int 0, .ref ec, .int 0]))] H1 := hP
  have hD : va_D A [(m0, .inr (10, [.int th, .ref qu, .ref qs, .ref qc, .ref qp, .int 0, .int (-1), .int 0, .null])), (qc, .inr (1, [.int 0, .ref ec, .int 0]))] := hD
  have hK : va_K D vwCl [] s := hK
  clear hS1
  obtain rfl : r_3 = 0 := z_in0 hw_3
  refine lv_if_eq (tgt := 33) hx hb dX8_send_17 (by decide) (fun c_4 => ?_) (fun c_4 => absurd (by decide) c_4)
  refine lv_iconst (v := 1) hx hb dX8_send_33 (by decide) ?_
  refine lv_goto (tgt := 38) hx hb dX8_send_34 (by decide) ?_
  refine va_put (D := D) (ci := 10) (v := .int 1) (ty := .int) (C := RX8) (T := TX8) (N := 9) hx hb hts zin_X8 tyX8 tyX8_ok nmX8 hown hK hP hD hS 0 rfl rfl 0 (by decide) (hts _ zw_1080) (fun _ h9 => h9) rfl (by decide +kernel) rfl rfl (Nat.le_of_ble_eq_true rfl) dX8_send_38 (fun H locs hP hD hS => ?_)
  have hP : va_P D vwCl [(m0, .inr (10, [.int 1, .ref qu, .ref qs, .ref qc, .ref qp, .int 0, .int (-1), .int 0, .null])), (qc, .inr (1, [.int 0, .ref ec, .int 0]))] H := hP
  have hD : va_D A [(m0, .inr (10, [.int 1, .ref qu, .ref qs, .ref qc, .ref qp, .int 0, .int (-1), .int 0, .null])), (qc, .inr (1, [.int 0, .ref ec, .int 0]))] := hD
  refine lv_aload_n hx hb dX8_send_41 rfl (lv_at hl 0 rfl) ?_
  refine va_get (D := D) (ci := 10) (v := .int 1) (C := RX8) (T := TX8) (N := 9) hx hb hts zin_X8 hown hK hP 0 rfl rfl 0 (by decide) (hts _ zw_1080) (fun _ h9 => h9) rfl dX8_send_42 ?_
  refine lv_if_le (tgt := 50) hx hb dX8_send_45 (by decide) (fun c_5 => absurd c_5 (by decide)) (fun c_5 => ?_)
  refine lv_iconst (v := 0) hx hb dX8_send_48 (by decide) ?_
  exact W.iret (v := 0) hx hb hr (fun t ht hW => ⟨⟨0, (), rfl, trivial, z_end hP hK hD [0, 1] rfl rfl [] rfl ht hW.alike⟩, hS.F ht⟩) hS.2.2 dX8_send_49
theorem dX8_canWork_0 : decode cX8_canWork 0 = .ok (.aload_n 0, 1) := by decide +kernel
theorem dX8_canWork_1 : decode cX8_canWork 1 = .ok (.iload_n 1, 1) := by decide +kernel
theorem dX8_canWork_2 : decode cX8_canWork 2 = .ok (.i2l, 1) := by decide +kernel
theorem dX8_canWork_3 : decode cX8_canWork 3 = .ok (.lconst 0, 1) := by decide +kernel
theorem dX8_canWork_4 : decode cX8_canWork 4 = .ok (.aload_n 0, 1) := by decide +kernel
theorem dX8_canWork_5 : decode cX8_canWork 5 = .ok (.getfield 19, 3) := by decide +kernel
theorem dX8_canWork_8 : decode cX8_canWork 8 = .ok (.invokevirtual 33, 3) := by decide +kernel
theorem dX8_canWork_11 : decode cX8_canWork 11 = .ok (.iconst 1, 1) := by decide +kernel
theorem dX8_canWork_12 : decode cX8_canWork 12 = .ok (.isub, 1) := by decide +kernel
theorem dX8_canWork_13 : decode cX8_canWork 13 = .ok (.i2l, 1) := by decide +kernel
theorem dX8_canWork_14 : decode cX8_canWork 14 = .ok (.invokestatic 37, 3) := by decide +kernel
theorem dX8_canWork_17 : decode cX8_canWork 17 = .ok (.ifCond .eq 7, 3) := by decide +kernel
theorem dX8_canWork_24 : decode cX8_canWork 24 = .ok (.iconst 1, 1) := by decide +kernel
theorem dX8_canWork_25 : decode cX8_canWork 25 = .ok (.putfield 30, 3) := by decide +kernel
theorem dX8_canWork_28 : decode cX8_canWork 28 = .ok (.aload_n 0, 1) := by decide +kernel
theorem dX8_canWork_29 : decode cX8_canWork 29 = .ok (.getfield 30, 3) := by decide +kernel
theorem dX8_canWork_32 : decode cX8_canWork 32 = .ok (.ifCond .ne 15, 3) := by decide +kernel
theorem dX8_canWork_47 : decode cX8_canWork 47 = .ok (.iconst 0, 1) := by decide +kernel
theorem dX8_canWork_48 : decode cX8_canWork 48 = .ok (.ireturn, 1) := by decide +kernel
set_option maxHeartbeats 4000000 in
set_option maxRecDepth 100000 in
theorem f_X8_canWork (l : Launch) (D : va_G) (m0 : Nat) (qu : Nat) (qs : Nat) (qc : Nat) (qp : Nat) (th : Int32) (ec : Nat) (a0 : Int32) (sz : Nat)  : Met l yX8_canWork [Cond.code yX8_canWork cX8_canWork 2 (some .boolean)] ({ frames := 6, cells := 0, slots := 0, locals := 200 }) (z_Pc D [.ref m0, .int a0] [(m0, .inr (10, [.int th, .ref qu, .ref qs, .ref qc, .ref qp, .int 0, .int (-1), .int 0, .null])), (qc, .inr (1, [.int 0, .ref ec, .int 0]))] [] sz) (va_Qi (fun (r : Int32) (_ : Unit) => True) (fun _ t => z_W D [(m0, .inr (10, [.int 1, .ref qu, .ref qs, .ref qc, .ref qp, .int 0, .int (-1), .int 0, .null])), (qc, .inr (1, [.int 0, .ref ec, .int 0]))] [] (va_A [(m0, .inr (10, [.int th, .ref qu, .ref qs, .ref qc, .ref qp, .int 0, .int (-1), .int 0, .null])), (qc, .inr (1, [.int 0, .ref ec, .int 0]))] sz) t) (va_A [(m0, .inr (10, [.int th, .ref qu, .ref qs, .ref qc, .ref qp, .int 0, .int (-1), .int 0, .null])), (qc, .inr (1, [.int 0, .ref ec, .int 0]))] sz)) 0 0 (va_A [(m0, .inr (10, [.int th, .ref qu, .ref qs, .ref qc, .ref qp, .int 0, .int (-1), .int 0, .null])), (qc, .inr (1, [.int 0, .ref ec, .int 0]))] sz) := by
  refine Met.ofW (cc := cX8_canWork) (maxL := 2) (ret := (some .boolean)) (by decide +kernel) rfl ?_
  intro p e s m args below meth c s₁ B hml hv
  obtain ⟨rfl, hsz, hP, hK, hD0, hE, hX0⟩ := hv
  have hx := B.exec
  have hb := B.bytes
  have hr := B.returns
  have hts := z_E.ts (args := [.ref m0, .int a0].toArray) hE
  have hown : s.vm.findClass RX8 = some m.cls := findClass_of_methodNamed B.named
  have hlocks := B.notSynchronized
  subst hsz
  have hD := hD0.self (sz := s.heap.size)
  generalize hAe : va_A [(m0, .inr (10, [.int th, .ref qu, .ref qs, .ref qc, .ref qp, .int 0, .int (-1), .int 0, .null])), (qc, .inr (1, [.int 0, .ref ec, .int 0]))] s.heap.size = A at hD hX0 ⊢
  have hX : z_X A s s.heap := hX0
  have hA : ∀ q : Nat, s.heap.size ≤ q → A q := fun q h => by rw [← hAe]; exact Or.inr h
  have hS : va_S A s.heap s.heap [] := va_S.rf
  have hP : va_P D vwCl [(m0, .inr (10, [.int th, .ref qu, .ref qs, .ref qc, .ref qp, .int 0, .int (-1), .int 0, .null])), (qc, .inr (1, [.int 0, .ref ec, .int 0]))] s.heap := hP
  have hl := lv_entry ([.ref m0, .int a0]) (n := 2) (Nat.le_of_ble_eq_true rfl)
  rw [lg_entry_eq]
  generalize (lg_sl ([.ref m0, .int a0]) ++ List.replicate (2 - (lg_sl ([.ref m0, .int a0])).length) Slot.unset).toArray = ls at hl ⊢
  have hl : lv_has ls 2 [(0, .ref m0), (1, .int a0)] := hl
  skip
  refine lv_aload_n hx hb dX8_canWork_0 rfl (lv_at hl 0 rfl) ?_
  refine lv_iload_n hx hb dX8_canWork_1 rfl (lv_at hl 1 rfl) ?_
  refine lv_i2l hx hb dX8_canWork_2 rfl ?_
  refine lv_lconst (v := 0) hx hb dX8_canWork_3 (by decide) ?_
  refine lv_aload_n hx hb dX8_canWork_4 rfl (lv_at hl 0 rfl) ?_
  refine va_get (D := D) (ci := 10) (v := .ref qc) (C := RX8) (T := TX8) (N := 9) hx hb hts zin_X8 hown hK hP 0 rfl rfl 3 (by decide) (hts _ zw_1083) (fun _ h9 => h9) rfl dX8_canWork_5 ?_
  obtain ⟨hb_1, hc_1⟩ := z_call (wc := [(qc, .inr (1, [.int 0, .ref ec, .int 0]))]) (tc := []) ([.ref qc]) hP hK hD hS hA hE hX [1] rfl rfl [] rfl
  have hF_1 := va_free (wc := [(qc, .inr (1, [.int 0, .ref ec, .int 0]))]) hD hS hA [1] rfl
  refine va_calli (va_runV (As := []) (rest := [.long 0, .long (a0).toInt64, .ref m0]) ⟨hx, hb, hml, hown, hts⟩ (c_J_size l D qc 0 ec 0 _ ) (z_cV 0 hE zw_1125 zw_1126 zw_1127 zw_99 zw_1128 rfl rfl rfl (by decide +kernel) ⟨(Nat.le_of_ble_eq_true rfl), (Nat.le_of_ble_eq_true rfl)⟩) ⟨hb_1, va_recv hK hP (ci := 1) (q0 := 1) rfl rfl, hc_1⟩ rfl rfl hl.1 rfl (lv_room (Nat.le_of_ble_eq_true rfl)) dX8_canWork_8 ⟨(Nat.le_of_ble_eq_true rfl), (Nat.le_of_ble_eq_true rfl)⟩) hS (fun q _ h => hF_1 q h) hF_1 (fun r_1 u_1 t_1 H1 locs ht_1 hvm_1 hw_1 hB_1 hz_1 hk_1 hS1 => ?_)
  obtain ⟨hP, hK, hD⟩ := z_back (wc := [(qc, .inr (1, [.int 0, .ref ec, .int 0]))]) (wr := [(m0, .inr (10, [.int th, .ref qu, .ref qs, .ref qc, .ref qp, .int 0, .int (-1), .int 0, .null]))]) (w1 := [(qc, .inr (1, [.int 0, .ref ec, .int 0]))]) (tr := []) hP hK hD [1] [0] rfl rfl rfl (by decide) ht_1 hvm_1 hk_1 hF_1 [] rfl hB_1
  have hS := hS1
  have hP : va_P D vwCl [(m0, .inr (10, [.int th, .ref qu, .ref qs, .ref qc, .ref qp, .int 0, .int (-1), .int 0, .null])), (qc, .inr (1, [.int 0, .ref ec, .int 0]))] H1 := hP
  have hD : va_D A [(m0, .inr (10, [.int th, .ref qu, .ref qs, .ref qc, .ref qp, .int 0, .int (-1), .int 0, .null])), (qc, .inr (1, [.int 0, .ref ec, .int 0]))] := hD
  have hK : va_K D vwCl [] s := hK
  clear hS1
  obtain rfl : r_1 = 0 := hw_1
  refine lv_iconst (v := 1) hx hb dX8_canWork_11 (by decide) ?_
  refine lv_isub hx hb dX8_canWork_12 ?_
  refine lv_topi (fun x_2 ex_2 => ?_)
  obtain rfl : x_2 = (-1) := ex_2.trans (by first | rfl | decide | simp)
  refine lv_i2l (v := (-1)) hx hb dX8_canWork_13 (by decide) ?_
  obtain ⟨hb_3, hc_3⟩ := z_call (wc := []) (tc := []) ([.long (a0).toInt64, .long 0, .long (-1)]) hP hK hD hS hA hE hX [] rfl rfl [] rfl
  have hF_3 := va_free (wc := []) hD hS hA [] rfl
  refine va_calli (va_runS (As := [.long (a0).toInt64, .long 0, .long (-1)]) (rest := [.ref m0]) ⟨hx, hb, hml, hown, hts⟩ (c_X8_in l D ((a0).toInt64) 0 (-1) _ ) (⟨z_cB 3 hE zw_1118 zw_96 zw_1120 rfl rfl rfl (by decide +kernel) ⟨(Nat.le_of_ble_eq_true rfl), (Nat.le_of_ble_eq_true rfl)⟩, hE.ts _ zw_1119⟩) ⟨hb_3, hc_3⟩ rfl rfl hl.1 rfl (lv_room (Nat.le_of_ble_eq_true rfl)) dX8_canWork_14 ⟨(Nat.le_of_ble_eq_true rfl), (Nat.le_of_ble_eq_true rfl)⟩) hS (fun q _ h => hF_3 q h) hF_3 (fun r_3 u_3 t_3 H1 locs ht_3 hvm_3 hw_3 hB_3 hz_3 hk_3 hS1 => ?_)
  obtain ⟨hP, hK, hD⟩ := z_back (wc := []) (wr := [(m0, .inr (10, [.int th, .ref qu, .ref qs, .ref qc, .ref qp, .int 0, .int (-1), .int 0, .null])), (qc, .inr (1, [.int 0, .ref ec, .int 0]))]) (w1 := []) (tr := []) hP hK hD [] [0, 1] rfl rfl rfl (by decide) ht_3 hvm_3 hk_3 hF_3 [] rfl hB_3
  have hS := hS1
  have hP : va_P D vwCl [(m0, .inr (10, [.int th, .ref qu, .ref qs, .ref qc, .ref qp, .int 0, .int (-1), .int 0, .null])), (qc, .inr (1, [.int 0, .ref ec, .int 0]))] H1 := hP
  have hD : va_D A [(m0, .inr (10, [.int th, .ref qu, .ref qs, .ref qc, .ref qp, .int 0, .int (-1), .int 0, .null])), (qc, .inr (1, [.int 0, .ref ec, .int 0]))] := hD
  have hK : va_K D vwCl [] s := hK
  clear hS1
  obtain rfl : r_3 = 0 := z_in0 hw_3
  refine lv_if_eq (tgt := 24) hx hb dX8_canWork_17 (by decide) (fun c_4 => ?_) (fun c_4 => absurd (by decide) c_4)
  refine lv_iconst (v := 1) hx hb dX8_canWork_24 (by decide) ?_
  refine va_put (D := D) (ci := 10) (v := .int 1) (ty := .int) (C := RX8) (T := TX8) (N := 9) hx hb hts zin_X8 tyX8 tyX8_ok nmX8 hown hK hP hD hS 0 rfl rfl 0 (by decide) (hts _ zw_1080) (fun _ h9 => h9) rfl (by decide +kernel) rfl rfl (Nat.le_of_ble_eq_true rfl) dX8_canWork_25 (fun H locs hP hD hS => ?_)
  have hP : va_P D vwCl [(m0, .inr (10, [.int 1, .ref qu, .ref qs, .ref qc, .ref qp, .int 0, .int (-1), .int 0, .null])), (qc, .inr (1, [.int 0, .ref ec, .int 0]))] H := hP
  have hD : va_D A [(m0, .inr (10, [.int 1, .ref qu, .ref qs, .ref qc, .ref qp, .int 0, .int (-1), .int 0, .null])), (qc, .inr (1, [.int 0, .ref ec, .int 0]))] := hD
  refine lv_aload_n hx hb dX8_canWork_28 rfl (lv_at hl 0 rfl) ?_
  refine va_get (D := D) (ci := 10) (v := .int 1) (C := RX8) (T := TX8) (N := 9) hx hb hts zin_X8 hown hK hP 0 rfl rfl 0 (by decide) (hts _ zw_1080) (fun _ h9 => h9) rfl dX8_canWork_29 ?_
  refine lv_if_ne (tgt := 47) hx hb dX8_canWork_32 (by decide) (fun c_5 => ?_) (fun c_5 => absurd c_5 (by decide))
  refine lv_iconst (v := 0) hx hb dX8_canWork_47 (by decide) ?_
  exact W.zret (v := 0) hx hb hr (by first | rfl | decide) (fun t ht hW => ⟨⟨0, (), rfl, trivial, z_end hP hK hD [0, 1] rfl rfl [] rfl ht hW.alike⟩, hS.F ht⟩) hS.2.2 dX8_canWork_48
end
section
theorem dX3_init_0 : decode cX3_init 0 = .ok (.aload_n 0, 1) := by decide +kernel
theorem dX3_init_1 : decode cX3_init 1 = .ok (.invokespecial 3, 3) := by decide +kernel
theorem zw_175 : Cond.methodLink RX3 3 ⟨"java/lang/Object", "<init>", "()V"⟩ ∈ z_Ts := z_m 175 (by decide +kernel) (by decide +kernel)
theorem zw_129 : Cond.instanceMethod ⟨"java/lang/Object", "<init>", "()V"⟩ ∈ z_Ts := z_m 129 (by decide +kernel) (by decide +kernel)
theorem zw_130 : Cond.code Lib.objectInit ⟨#[0xb1]⟩ 1 none ∈ z_Ts := z_m 130 (by decide +kernel) (by decide +kernel)
theorem dX3_init_4 : decode cX3_init 4 = .ok (.aload_n 0, 1) := by decide +kernel
theorem dX3_init_5 : decode cX3_init 5 = .ok (.iconst 4, 1) := by decide +kernel
theorem dX3_init_6 : decode cX3_init 6 = .ok (.newarray .int, 2) := by decide +kernel
theorem zw_170 : Cond.arrayClass .int ∈ z_Ts := z_m 170 (by decide +kernel) (by decide +kernel)
theorem dX3_init_8 : decode cX3_init 8 = .ok (.putfield 9, 3) := by decide +kernel
theorem zw_176 : Cond.fieldLink RX3 9 "TwofrontArcade$Unit" "daysLost" "[I" ∈ z_Ts := z_m 176 (by decide +kernel) (by decide +kernel)
set_option maxRecDepth 20000 in
theorem zin_X3 : ∀ w ∈ u_ws RX3 TX3 7, w ∈ z_Ts := z_ins (by decide +kernel) (by decide +kernel)
theorem dX3_init_11 : decode cX3_init 11 = .ok (.aload_n 0, 1) := by decide +kernel
theorem dX3_init_12 : decode cX3_init 12 = .ok (.iconst 0, 1) := by decide +kernel
theorem dX3_init_13 : decode cX3_init 13 = .ok (.putfield 15, 3) := by decide +kernel
theorem zw_178 : Cond.fieldLink RX3 15 "TwofrontArcade$Unit" "width" "I" ∈ z_Ts := z_m 178 (by decide +kernel) (by decide +kernel)
theorem dX3_init_16 : decode cX3_init 16 = .ok (.aload_n 0, 1) := by decide +kernel
theorem dX3_init_17 : decode cX3_init 17 = .ok (.iconst 0, 1) := by decide +kernel
theorem dX3_init_18 : decode cX3_init 18 = .ok (.putfield 19, 3) := by decide +kernel
theorem zw_180 : Cond.fieldLink RX3 19 "TwofrontArcade$Unit" "walls" "I" ∈ z_Ts := z_m 180 (by decide +kernel) (by decide +kernel)
theorem dX3_init_21 : decode cX3_init 21 = .ok (.aload_n 0, 1) := by decide +kernel
theorem dX3_init_22 : decode cX3_init 22 = .ok (.bipush 45, 2) := by decide +kernel
theorem dX3_init_24 : decode cX3_init 24 = .ok (.putfield 22, 3) := by decide +kernel
theorem zw_183 : Cond.fieldLink RX3 22 "TwofrontArcade$Unit" "work" "C" ∈ z_Ts := z_m 183 (by decide +kernel) (by decide +kernel)
theorem dX3_init_27 : decode cX3_init 27 = .ok (.aload_n 0, 1) := by decide +kernel
theorem dX3_init_28 : decode cX3_init 28 = .ok (.iconst 0, 1) := by decide +kernel
theorem dX3_init_29 : decode cX3_init 29 = .ok (.putfield 26, 3) := by decide +kernel
theorem zw_186 : Cond.fieldLink RX3 26 "TwofrontArcade$Unit" "daysLeft" "I" ∈ z_Ts := z_m 186 (by decide +kernel) (by decide +kernel)
theorem dX3_init_32 : decode cX3_init 32 = .ok (.aload_n 0, 1) := by decide +kernel
theorem dX3_init_33 : decode cX3_init 33 = .ok (.iconst 0, 1) := by decide +kernel
theorem dX3_init_34 : decode cX3_init 34 = .ok (.putfield 29, 3) := by decide +kernel
theorem zw_189 : Cond.fieldLink RX3 29 "TwofrontArcade$Unit" "restsOn" "I" ∈ z_Ts := z_m 189 (by decide +kernel) (by decide +kernel)
theorem dX3_init_37 : decode cX3_init 37 = .ok (.aload_n 0, 1) := by decide +kernel
theorem dX3_init_38 : decode cX3_init 38 = .ok (.iconst (-1), 1) := by decide +kernel
theorem dX3_init_39 : decode cX3_init 39 = .ok (.putfield 32, 3) := by decide +kernel
theorem zw_192 : Cond.fieldLink RX3 32 "TwofrontArcade$Unit" "noticeDay" "I" ∈ z_Ts := z_m 192 (by decide +kernel) (by decide +kernel)
theorem dX3_init_42 : decode cX3_init 42 = .ok (.return_, 1) := by decide +kernel
set_option maxHeartbeats 4000000 in
set_option maxRecDepth 100000 in
theorem c_X3_init (l : Launch) (D : va_G) (h0 : Nat) (sz : Nat)  : Met l yX3_init [Cond.code yX3_init cX3_init 1 none] ({ frames := 1, cells := 1, slots := 4, locals := 40 }) (z_Pc D [.ref h0] [(h0, .inr (5, [.null, .int 0, .int 0, .int 0, .int 0, .int 0, .int 0]))] [] sz) (va_Qv (fun _ : Unit => True) (fun _ t => ∃ qa : Nat, z_W D [(h0, .inr (5, [.ref qa, .int 0, .int 0, .int 45, .int 0, .int 0, .int (-1)]))] [] (va_A [(h0, .inr (5, [.null, .int 0, .int 0, .int 0, .int 0, .int 0, .int 0]))] sz) t) (va_A [(h0, .inr (5, [.null, .int 0, .int 0, .int 0, .int 0, .int 0, .int 0]))] sz)) 1 4 (va_A [(h0, .inr (5, [.null, .int 0, .int 0, .int 0, .int 0, .int 0, .int 0]))] sz) := by
  refine Met.ofW (cc := cX3_init) (maxL := 1) (ret := none) (by decide +kernel) rfl ?_
  intro p e s m args below meth c s₁ B hml hv
  obtain ⟨rfl, hsz, hP, hK, hD0, hE, hX0⟩ := hv
  have hx := B.exec
  have hb := B.bytes
  have hr := B.returns
  have hts := z_E.ts (args := [.ref h0].toArray) hE
  have hown : s.vm.findClass RX3 = some m.cls := findClass_of_methodNamed B.named
  have hlocks := B.notSynchronized
  have hin : meth.name = "<init>" := (name_of_methodNamed B.named B.method).1
  subst hsz
  have hD := hD0.self (sz := s.heap.size)
  generalize hAe : va_A [(h0, .inr (5, [.null, .int 0, .int 0, .int 0, .int 0, .int 0, .int 0]))] s.heap.size = A at hD hX0 ⊢
  have hX : z_X A s s.heap := hX0
  have hA : ∀ q : Nat, s.heap.size ≤ q → A q := fun q h => by rw [← hAe]; exact Or.inr h
  have hS : va_S A s.heap s.heap [] := va_S.rf
  have hP : va_P D vwCl [(h0, .inr (5, [.null, .int 0, .int 0, .int 0, .int 0, .int 0, .int 0]))] s.heap := hP
  have hl := lv_entry ([.ref h0]) (n := 1) (Nat.le_of_ble_eq_true rfl)
  rw [lg_entry_eq]
  generalize (lg_sl ([.ref h0]) ++ List.replicate (1 - (lg_sl ([.ref h0])).length) Slot.unset).toArray = ls at hl ⊢
  have hl : lv_has ls 1 [(0, .ref h0)] := hl
  skip
  refine lv_aload_n hx hb dX3_init_0 rfl (lv_at hl 0 rfl) ?_
  refine W.objInit hx hb hown (hts _ zw_175) (hts _ zw_129) (hts _ zw_130) rfl (by rw [hml]; exact hl.1) rfl dX3_init_1 (Nat.le_of_ble_eq_true rfl) (Nat.le_of_ble_eq_true rfl) ?_
  refine W.eq (g2 := F0 m 4 ls []) rfl ?_
  refine lv_aload_n hx hb dX3_init_4 rfl (lv_at hl 0 rfl) ?_
  refine lv_iconst (v := 4) hx hb dX3_init_5 (by decide) ?_
  refine va_newa (atype := .int) (ty := .int) (N' := 4) (a0 := (4, .inl (fun _ => 0))) hx hb (hts _ zw_170) rfl hK hP hD hS hA (fun cA => rfl) (by decide) (by decide) (by decide) (Nat.le_of_ble_eq_true rfl) (Nat.le_of_ble_eq_true rfl) dX3_init_6 (fun q_1 cA_2 H hK hP hD hS => ?_)
  have hP : va_P D vwCl [(h0, .inr (5, [.null, .int 0, .int 0, .int 0, .int 0, .int 0, .int 0])), (q_1, .inl (cA_2, 4, .inl (fun _ => 0)))] H := hP
  have hD : va_D A [(h0, .inr (5, [.null, .int 0, .int 0, .int 0, .int 0, .int 0, .int 0])), (q_1, .inl (cA_2, 4, .inl (fun _ => 0)))] := hD
  have hK : va_K D vwCl [(cA_2, .int)] s := hK
  refine va_putF (D := D) (ci := 5) (v := .ref q_1) (ty := .array .int) (C := RX3) (T := TX3) (N := 7) hx hb hts zin_X3 tyX3 tyX3_ok nmX3 hown hK hP hD hS 0 rfl rfl 0 (by decide) (hts _ zw_176) (fun _ h9 => h9) rfl hin rfl (by decide +kernel) rfl rfl (Nat.le_of_ble_eq_true rfl) dX3_init_8 (fun H locs hP hD hS => ?_)
  have hP : va_P D vwCl [(h0, .inr (5, [.ref q_1, .int 0, .int 0, .int 0, .int 0, .int 0, .int 0])), (q_1, .inl (cA_2, 4, .inl (fun _ => 0)))] H := hP
  have hD : va_D A [(h0, .inr (5, [.ref q_1, .int 0, .int 0, .int 0, .int 0, .int 0, .int 0])), (q_1, .inl (cA_2, 4, .inl (fun _ => 0)))] := hD
  refine lv_aload_n hx hb dX3_init_11 rfl (lv_at hl 0 rfl) ?_
  refine lv_iconst (v := 0) hx hb dX3_init_12 (by decide) ?_
  refine va_put (D := D) (ci := 5) (v := .int 0) (ty := .int) (C := RX3) (T := TX3) (N := 7) hx hb hts zin_X3 tyX3 tyX3_ok nmX3 hown hK hP hD hS 0 rfl rfl 1 (by decide) (hts _ zw_178) (fun _ h9 => h9) rfl (by decide +kernel) rfl rfl (Nat.le_of_ble_eq_true rfl) dX3_init_13 (fun H locs hP hD hS => ?_)
  have hP : va_P D vwCl [(h0, .inr (5, [.ref q_1, .int 0, .int 0, .int 0, .int 0, .int 0, .int 0])), (q_1, .inl (cA_2, 4, .inl (fun _ => 0)))] H := hP
  have hD : va_D A [(h0, .inr (5, [.ref q_1, .int 0, .int 0, .int 0, .int 0, .int 0, .int 0])), (q_1, .inl (cA_2, 4, .inl (fun _ => 0)))] := hD
  refine lv_aload_n hx hb dX3_init_16 rfl (lv_at hl 0 rfl) ?_
  refine lv_iconst (v := 0) hx hb dX3_init_17 (by decide) ?_
  refine va_put (D := D) (ci := 5) (v := .int 0) (ty := .int) (C := RX3) (T := TX3) (N := 7) hx hb hts zin_X3 tyX3 tyX3_ok nmX3 hown hK hP hD hS 0 rfl rfl 2 (by decide) (hts _ zw_180) (fun _ h9 => h9) rfl (by decide +kernel) rfl rfl (Nat.le_of_ble_eq_true rfl) dX3_init_18 (fun H locs hP hD hS => ?_)
  have hP : va_P D vwCl [(h0, .inr (5, [.ref q_1, .int 0, .int 0, .int 0, .int 0, .int 0, .int 0])), (q_1, .inl (cA_2, 4, .inl (fun _ => 0)))] H := hP
  have hD : va_D A [(h0, .inr (5, [.ref q_1, .int 0, .int 0, .int 0, .int 0, .int 0, .int 0])), (q_1, .inl (cA_2, 4, .inl (fun _ => 0)))] := hD
  refine lv_aload_n hx hb dX3_init_21 rfl (lv_at hl 0 rfl) ?_
  refine lv_bipush (v := 45) hx hb dX3_init_22 (by decide) ?_
  refine va_put (D := D) (ci := 5) (v := .int 45) (ty := .char) (C := RX3) (T := TX3) (N := 7) hx hb hts zin_X3 tyX3 tyX3_ok nmX3 hown hK hP hD hS 0 rfl rfl 3 (by decide) (hts _ zw_183) (fun _ h9 => h9) rfl (by decide +kernel) (by first | rfl | decide) (by first | rfl | decide) (Nat.le_of_ble_eq_true rfl) dX3_init_24 (fun H locs hP hD hS => ?_)
  have hP : va_P D vwCl [(h0, .inr (5, [.ref q_1, .int 0, .int 0, .int 45, .int 0, .int 0, .int 0])), (q_1, .inl (cA_2, 4, .inl (fun _ => 0)))] H := hP
  have hD : va_D A [(h0, .inr (5, [.ref q_1, .int 0, .int 0, .int 45, .int 0, .int 0, .int 0])), (q_1, .inl (cA_2, 4, .inl (fun _ => 0)))] := hD
  refine lv_aload_n hx hb dX3_init_27 rfl (lv_at hl 0 rfl) ?_
  refine lv_iconst (v := 0) hx hb dX3_init_28 (by decide) ?_
  refine va_put (D := D) (ci := 5) (v := .int 0) (ty := .int) (C := RX3) (T := TX3) (N := 7) hx hb hts zin_X3 tyX3 tyX3_ok nmX3 hown hK hP hD hS 0 rfl rfl 4 (by decide) (hts _ zw_186) (fun _ h9 => h9) rfl (by decide +kernel) rfl rfl (Nat.le_of_ble_eq_true rfl) dX3_init_29 (fun H locs hP hD hS => ?_)
  have hP : va_P D vwCl [(h0, .inr (5, [.ref q_1, .int 0, .int 0, .int 45, .int 0, .int 0, .int 0])), (q_1, .inl (cA_2, 4, .inl (fun _ => 0)))] H := hP
  have hD : va_D A [(h0, .inr (5, [.ref q_1, .int 0, .int 0, .int 45, .int 0, .int 0, .int 0])), (q_1, .inl (cA_2, 4, .inl (fun _ => 0)))] := hD
  refine lv_aload_n hx hb dX3_init_32 rfl (lv_at hl 0 rfl) ?_
  refine lv_iconst (v := 0) hx hb dX3_init_33 (by decide) ?_
  refine va_put (D := D) (ci := 5) (v := .int 0) (ty := .int) (C := RX3) (T := TX3) (N := 7) hx hb hts zin_X3 tyX3 tyX3_ok nmX3 hown hK hP hD hS 0 rfl rfl 5 (by decide) (hts _ zw_189) (fun _ h9 => h9) rfl (by decide +kernel) rfl rfl (Nat.le_of_ble_eq_true rfl) dX3_init_34 (fun H locs hP hD hS => ?_)
  have hP : va_P D vwCl [(h0, .inr (5, [.ref q_1, .int 0, .int 0, .int 45, .int 0, .int 0, .int 0])), (q_1, .inl (cA_2, 4, .inl (fun _ => 0)))] H := hP
  have hD : va_D A [(h0, .inr (5, [.ref q_1, .int 0, .int 0, .int 45, .int 0, .int 0, .int 0])), (q_1, .inl (cA_2, 4, .inl (fun _ => 0)))] := hD
  refine lv_aload_n hx hb dX3_init_37 rfl (lv_at hl 0 rfl) ?_
  refine lv_iconst (v := -1) hx hb dX3_init_38 (by decide) ?_
  refine va_put (D := D) (ci := 5) (v := .int (-1)) (ty := .int) (C := RX3) (T := TX3) (N := 7) hx hb hts zin_X3 tyX3 tyX3_ok nmX3 hown hK hP hD hS 0 rfl rfl 6 (by decide) (hts _ zw_192) (fun _ h9 => h9) rfl (by decide +kernel) rfl rfl (Nat.le_of_ble_eq_true rfl) dX3_init_39 (fun H locs hP hD hS => ?_)
  have hP : va_P D vwCl [(h0, .inr (5, [.ref q_1, .int 0, .int 0, .int 45, .int 0, .int 0, .int (-1)])), (q_1, .inl (cA_2, 4, .inl (fun _ => 0)))] H := hP
  have hD : va_D A [(h0, .inr (5, [.ref q_1, .int 0, .int 0, .int 45, .int 0, .int 0, .int (-1)])), (q_1, .inl (cA_2, 4, .inl (fun _ => 0)))] := hD
  exact W.vret hx hb hr (fun t ht hW => ⟨⟨(), rfl, trivial, ⟨q_1, z_end hP hK hD [0] rfl rfl [] rfl ht hW.alike⟩⟩, hS.F ht⟩) hS.2.2 dX3_init_42
theorem dX0_init_0 : decode cX0_init 0 = .ok (.aload_n 0, 1) := by decide +kernel
theorem dX0_init_1 : decode cX0_init 1 = .ok (.invokespecial 3, 3) := by decide +kernel
theorem zw_276 : Cond.methodLink RX0 3 ⟨"java/lang/Object", "<init>", "()V"⟩ ∈ z_Ts := z_m 276 (by decide +kernel) (by decide +kernel)
theorem dX0_init_4 : decode cX0_init 4 = .ok (.aload_n 0, 1) := by decide +kernel
theorem dX0_init_5 : decode cX0_init 5 = .ok (.bipush 100, 2) := by decide +kernel
theorem dX0_init_7 : decode cX0_init 7 = .ok (.putfield 9, 3) := by decide +kernel
theorem zw_277 : Cond.fieldLink RX0 9 "TwofrontArcade$Crew" "trade" "C" ∈ z_Ts := z_m 277 (by decide +kernel) (by decide +kernel)
set_option maxRecDepth 20000 in
theorem zin_X0 : ∀ w ∈ u_ws RX0 TX0 2, w ∈ z_Ts := z_ins (by decide +kernel) (by decide +kernel)
theorem dX0_init_10 : decode cX0_init 10 = .ok (.aload_n 0, 1) := by decide +kernel
theorem dX0_init_11 : decode cX0_init 11 = .ok (.iconst (-1), 1) := by decide +kernel
theorem dX0_init_12 : decode cX0_init 12 = .ok (.putfield 15, 3) := by decide +kernel
theorem zw_279 : Cond.fieldLink RX0 15 "TwofrontArcade$Crew" "unit" "I" ∈ z_Ts := z_m 279 (by decide +kernel) (by decide +kernel)
theorem dX0_init_15 : decode cX0_init 15 = .ok (.return_, 1) := by decide +kernel
set_option maxHeartbeats 4000000 in
set_option maxRecDepth 100000 in
theorem c_X0_init (l : Launch) (D : va_G) (h0 : Nat) (sz : Nat)  : Met l yX0_init [Cond.code yX0_init cX0_init 1 none] ({ frames := 1, cells := 0, slots := 0, locals := 40 }) (z_Pc D [.ref h0] [(h0, .inr (2, [.int 0, .int 0]))] [] sz) (va_Qv (fun _ : Unit => True) (fun _ t => z_W D [(h0, .inr (2, [.int 100, .int (-1)]))] [] (va_A [(h0, .inr (2, [.int 0, .int 0]))] sz) t) (va_A [(h0, .inr (2, [.int 0, .int 0]))] sz)) 0 0 (va_A [(h0, .inr (2, [.int 0, .int 0]))] sz) := by
  refine Met.ofW (cc := cX0_init) (maxL := 1) (ret := none) (by decide +kernel) rfl ?_
  intro p e s m args below meth c s₁ B hml hv
  obtain ⟨rfl, hsz, hP, hK, hD0, hE, hX0⟩ := hv
  have hx := B.exec
  have hb := B.bytes
  have hr := B.returns
  have hts := z_E.ts (args := [.ref h0].toArray) hE
  have hown : s.vm.findClass RX0 = some m.cls := findClass_of_methodNamed B.named
  have hlocks := B.notSynchronized
  have hin : meth.name = "<init>" := (name_of_methodNamed B.named B.method).1
  subst hsz
  have hD := hD0.self (sz := s.heap.size)
  generalize hAe : va_A [(h0, .inr (2, [.int 0, .int 0]))] s.heap.size = A at hD hX0 ⊢
  have hX : z_X A s s.heap := hX0
  have hA : ∀ q : Nat, s.heap.size ≤ q → A q := fun q h => by rw [← hAe]; exact Or.inr h
  have hS : va_S A s.heap s.heap [] := va_S.rf
  have hP : va_P D vwCl [(h0, .inr (2, [.int 0, .int 0]))] s.heap := hP
  have hl := lv_entry ([.ref h0]) (n := 1) (Nat.le_of_ble_eq_true rfl)
  rw [lg_entry_eq]
  generalize (lg_sl ([.ref h0]) ++ List.replicate (1 - (lg_sl ([.ref h0])).length) Slot.unset).toArray = ls at hl ⊢
  have hl : lv_has ls 1 [(0, .ref h0)] := hl
  skip
  refine lv_aload_n hx hb dX0_init_0 rfl (lv_at hl 0 rfl) ?_
  refine W.objInit hx hb hown (hts _ zw_276) (hts _ zw_129) (hts _ zw_130) rfl (by rw [hml]; exact hl.1) rfl dX0_init_1 (Nat.le_of_ble_eq_true rfl) (Nat.le_of_ble_eq_true rfl) ?_
  refine W.eq (g2 := F0 m 4 ls []) rfl ?_
  refine lv_aload_n hx hb dX0_init_4 rfl (lv_at hl 0 rfl) ?_
  refine lv_bipush (v := 100) hx hb dX0_init_5 (by decide) ?_
  refine va_put (D := D) (ci := 2) (v := .int 100) (ty := .char) (C := RX0) (T := TX0) (N := 2) hx hb hts zin_X0 tyX0 tyX0_ok nmX0 hown hK hP hD hS 0 rfl rfl 0 (by decide) (hts _ zw_277) (fun _ h9 => h9) rfl (by decide +kernel) (by first | rfl | decide) (by first | rfl | decide) (Nat.le_of_ble_eq_true rfl) dX0_init_7 (fun H locs hP hD hS => ?_)
  have hP : va_P D vwCl [(h0, .inr (2, [.int 100, .int 0]))] H := hP
  have hD : va_D A [(h0, .inr (2, [.int 100, .int 0]))] := hD
  refine lv_aload_n hx hb dX0_init_10 rfl (lv_at hl 0 rfl) ?_
  refine lv_iconst (v := -1) hx hb dX0_init_11 (by decide) ?_
  refine va_put (D := D) (ci := 2) (v := .int (-1)) (ty := .int) (C := RX0) (T := TX0) (N := 2) hx hb hts zin_X0 tyX0 tyX0_ok nmX0 hown hK hP hD hS 0 rfl rfl 1 (by decide) (hts _ zw_279) (fun _ h9 => h9) rfl (by decide +kernel) rfl rfl (Nat.le_of_ble_eq_true rfl) dX0_init_12 (fun H locs hP hD hS => ?_)
  have hP : va_P D vwCl [(h0, .inr (2, [.int 100, .int (-1)]))] H := hP
  have hD : va_D A [(h0, .inr (2, [.int 100, .int (-1)]))] := hD
  exact W.vret hx hb hr (fun t ht hW => ⟨⟨(), rfl, trivial, z_end hP hK hD [0] rfl rfl [] rfl ht hW.alike⟩, hS.F ht⟩) hS.2.2 dX0_init_15
theorem dX2_init_0 : decode cX2_init 0 = .ok (.aload_n 0, 1) := by decide +kernel
theorem dX2_init_1 : decode cX2_init 1 = .ok (.invokespecial 3, 3) := by decide +kernel
theorem zw_213 : Cond.methodLink RX2 3 ⟨"java/lang/Object", "<init>", "()V"⟩ ∈ z_Ts := z_m 213 (by decide +kernel) (by decide +kernel)
theorem dX2_init_4 : decode cX2_init 4 = .ok (.aload_n 0, 1) := by decide +kernel
theorem dX2_init_5 : decode cX2_init 5 = .ok (.iconst 4, 1) := by decide +kernel
theorem dX2_init_6 : decode cX2_init 6 = .ok (.newarray .long, 2) := by decide +kernel
theorem zw_271 : Cond.arrayClass .long ∈ z_Ts := z_m 271 (by decide +kernel) (by decide +kernel)
theorem dX2_init_8 : decode cX2_init 8 = .ok (.putfield 9, 3) := by decide +kernel
theorem zw_214 : Cond.fieldLink RX2 9 "TwofrontArcade$Shop" "losses" "[J" ∈ z_Ts := z_m 214 (by decide +kernel) (by decide +kernel)
set_option maxRecDepth 20000 in
theorem zin_X2 : ∀ w ∈ u_ws RX2 TX2 14, w ∈ z_Ts := z_ins (by decide +kernel) (by decide +kernel)
theorem dX2_init_11 : decode cX2_init 11 = .ok (.aload_n 0, 1) := by decide +kernel
theorem dX2_init_12 : decode cX2_init 12 = .ok (.iconst (-1), 1) := by decide +kernel
theorem dX2_init_13 : decode cX2_init 13 = .ok (.putfield 15, 3) := by decide +kernel
theorem zw_216 : Cond.fieldLink RX2 15 "TwofrontArcade$Shop" "home" "I" ∈ z_Ts := z_m 216 (by decide +kernel) (by decide +kernel)
theorem dX2_init_16 : decode cX2_init 16 = .ok (.aload_n 0, 1) := by decide +kernel
theorem dX2_init_17 : decode cX2_init 17 = .ok (.iconst (-1), 1) := by decide +kernel
theorem dX2_init_18 : decode cX2_init 18 = .ok (.putfield 19, 3) := by decide +kernel
theorem zw_218 : Cond.fieldLink RX2 19 "TwofrontArcade$Shop" "unit" "I" ∈ z_Ts := z_m 218 (by decide +kernel) (by decide +kernel)
theorem dX2_init_21 : decode cX2_init 21 = .ok (.aload_n 0, 1) := by decide +kernel
theorem dX2_init_22 : decode cX2_init 22 = .ok (.bipush 111, 2) := by decide +kernel
theorem dX2_init_24 : decode cX2_init 24 = .ok (.putfield 22, 3) := by decide +kernel
theorem zw_220 : Cond.fieldLink RX2 22 "TwofrontArcade$Shop" "state" "C" ∈ z_Ts := z_m 220 (by decide +kernel) (by decide +kernel)
theorem dX2_init_27 : decode cX2_init 27 = .ok (.aload_n 0, 1) := by decide +kernel
theorem dX2_init_28 : decode cX2_init 28 = .ok (.iconst 0, 1) := by decide +kernel
theorem dX2_init_29 : decode cX2_init 29 = .ok (.putfield 26, 3) := by decide +kernel
theorem zw_222 : Cond.fieldLink RX2 26 "TwofrontArcade$Shop" "pull" "I" ∈ z_Ts := z_m 222 (by decide +kernel) (by decide +kernel)
theorem dX2_init_32 : decode cX2_init 32 = .ok (.aload_n 0, 1) := by decide +kernel
theorem dX2_init_33 : decode cX2_init 33 = .ok (.iconst 0, 1) := by decide +kernel
theorem dX2_init_34 : decode cX2_init 34 = .ok (.putfield 29, 3) := by decide +kernel
theorem zw_224 : Cond.fieldLink RX2 29 "TwofrontArcade$Shop" "people" "I" ∈ z_Ts := z_m 224 (by decide +kernel) (by decide +kernel)
theorem dX2_init_37 : decode cX2_init 37 = .ok (.aload_n 0, 1) := by decide +kernel
theorem dX2_init_38 : decode cX2_init 38 = .ok (.iconst 0, 1) := by decide +kernel
theorem dX2_init_39 : decode cX2_init 39 = .ok (.putfield 32, 3) := by decide +kernel
theorem zw_226 : Cond.fieldLink RX2 32 "TwofrontArcade$Shop" "isClean" "Z" ∈ z_Ts := z_m 226 (by decide +kernel) (by decide +kernel)
theorem dX2_init_42 : decode cX2_init 42 = .ok (.aload_n 0, 1) := by decide +kernel
theorem dX2_init_43 : decode cX2_init 43 = .ok (.iconst 0, 1) := by decide +kernel
theorem dX2_init_44 : decode cX2_init 44 = .ok (.putfield 36, 3) := by decide +kernel
theorem zw_228 : Cond.fieldLink RX2 36 "TwofrontArcade$Shop" "quietDays" "I" ∈ z_Ts := z_m 228 (by decide +kernel) (by decide +kernel)
theorem dX2_init_47 : decode cX2_init 47 = .ok (.aload_n 0, 1) := by decide +kernel
theorem dX2_init_48 : decode cX2_init 48 = .ok (.iconst 0, 1) := by decide +kernel
theorem dX2_init_49 : decode cX2_init 49 = .ok (.putfield 39, 3) := by decide +kernel
theorem zw_230 : Cond.fieldLink RX2 39 "TwofrontArcade$Shop" "lease" "I" ∈ z_Ts := z_m 230 (by decide +kernel) (by decide +kernel)
theorem dX2_init_52 : decode cX2_init 52 = .ok (.aload_n 0, 1) := by decide +kernel
theorem dX2_init_53 : decode cX2_init 53 = .ok (.iconst 0, 1) := by decide +kernel
theorem dX2_init_54 : decode cX2_init 54 = .ok (.putfield 42, 3) := by decide +kernel
theorem zw_232 : Cond.fieldLink RX2 42 "TwofrontArcade$Shop" "shutDays" "I" ∈ z_Ts := z_m 232 (by decide +kernel) (by decide +kernel)
theorem dX2_init_57 : decode cX2_init 57 = .ok (.aload_n 0, 1) := by decide +kernel
theorem dX2_init_58 : decode cX2_init 58 = .ok (.iconst 0, 1) := by decide +kernel
theorem dX2_init_59 : decode cX2_init 59 = .ok (.putfield 45, 3) := by decide +kernel
theorem zw_234 : Cond.fieldLink RX2 45 "TwofrontArcade$Shop" "isComing" "Z" ∈ z_Ts := z_m 234 (by decide +kernel) (by decide +kernel)
theorem dX2_init_62 : decode cX2_init 62 = .ok (.aload_n 0, 1) := by decide +kernel
theorem dX2_init_63 : decode cX2_init 63 = .ok (.bipush 100, 2) := by decide +kernel
theorem dX2_init_65 : decode cX2_init 65 = .ok (.putfield 48, 3) := by decide +kernel
theorem zw_236 : Cond.fieldLink RX2 48 "TwofrontArcade$Shop" "known" "I" ∈ z_Ts := z_m 236 (by decide +kernel) (by decide +kernel)
theorem dX2_init_68 : decode cX2_init 68 = .ok (.aload_n 0, 1) := by decide +kernel
theorem dX2_init_69 : decode cX2_init 69 = .ok (.lconst 0, 1) := by decide +kernel
theorem dX2_init_70 : decode cX2_init 70 = .ok (.putfield 51, 3) := by decide +kernel
theorem zw_238 : Cond.fieldLink RX2 51 "TwofrontArcade$Shop" "taken" "J" ∈ z_Ts := z_m 238 (by decide +kernel) (by decide +kernel)
theorem dX2_init_73 : decode cX2_init 73 = .ok (.aload_n 0, 1) := by decide +kernel
theorem dX2_init_74 : decode cX2_init 74 = .ok (.lconst 0, 1) := by decide +kernel
theorem dX2_init_75 : decode cX2_init 75 = .ok (.putfield 55, 3) := by decide +kernel
theorem zw_240 : Cond.fieldLink RX2 55 "TwofrontArcade$Shop" "could" "J" ∈ z_Ts := z_m 240 (by decide +kernel) (by decide +kernel)
theorem dX2_init_78 : decode cX2_init 78 = .ok (.return_, 1) := by decide +kernel
set_option maxHeartbeats 4000000 in
set_option maxRecDepth 100000 in
theorem c_X2_init (l : Launch) (D : va_G) (h0 : Nat) (sz : Nat)  : Met l yX2_init [Cond.code yX2_init cX2_init 1 none] ({ frames := 1, cells := 1, slots := 4, locals := 40 }) (z_Pc D [.ref h0] [(h0, .inr (4, [.null, .int 0, .int 0, .int 0, .int 0, .int 0, .int 0, .int 0, .int 0, .int 0, .int 0, .int 0, .long 0, .long 0]))] [] sz) (va_Qv (fun _ : Unit => True) (fun _ t => ∃ qa : Nat, z_W D [(h0, .inr (4, [.ref qa, .int (-1), .int (-1), .int 111, .int 0, .int 0, .int 0, .int 0, .int 0, .int 0, .int 0, .int 100, .long 0, .long 0]))] [] (va_A [(h0, .inr (4, [.null, .int 0, .int 0, .int 0, .int 0, .int 0, .int 0, .int 0, .int 0, .int 0, .int 0, .int 0, .long 0, .long 0]))] sz) t) (va_A [(h0, .inr (4, [.null, .int 0, .int 0, .int 0, .int 0, .int 0, .int 0, .int 0, .int 0, .int 0, .int 0, .int 0, .long 0, .long 0]))] sz)) 1 4 (va_A [(h0, .inr (4, [.null, .int 0, .int 0, .int 0, .int 0, .int 0, .int 0, .int 0, .int 0, .int 0, .int 0, .int 0, .long 0, .long 0]))] sz) := by
  refine Met.ofW (cc := cX2_init) (maxL := 1) (ret := none) (by decide +kernel) rfl ?_
  intro p e s m args below meth c s₁ B hml hv
  obtain ⟨rfl, hsz, hP, hK, hD0, hE, hX0⟩ := hv
  have hx := B.exec
  have hb := B.bytes
  have hr := B.returns
  have hts := z_E.ts (args := [.ref h0].toArray) hE
  have hown : s.vm.findClass RX2 = some m.cls := findClass_of_methodNamed B.named
  have hlocks := B.notSynchronized
  have hin : meth.name = "<init>" := (name_of_methodNamed B.named B.method).1
  subst hsz
  have hD := hD0.self (sz := s.heap.size)
  generalize hAe : va_A [(h0, .inr (4, [.null, .int 0, .int 0, .int 0, .int 0, .int 0, .int 0, .int 0, .int 0, .int 0, .int 0, .int 0, .long 0, .long 0]))] s.heap.size = A at hD hX0 ⊢
  have hX : z_X A s s.heap := hX0
  have hA : ∀ q : Nat, s.heap.size ≤ q → A q := fun q h => by rw [← hAe]; exact Or.inr h
  have hS : va_S A s.heap s.heap [] := va_S.rf
  have hP : va_P D vwCl [(h0, .inr (4, [.null, .int 0, .int 0, .int 0, .int 0, .int 0, .int 0, .int 0, .int 0, .int 0, .int 0, .int 0, .long 0, .long 0]))] s.heap := hP
  have hl := lv_entry ([.ref h0]) (n := 1) (Nat.le_of_ble_eq_true rfl)
  rw [lg_entry_eq]
  generalize (lg_sl ([.ref h0]) ++ List.replicate (1 - (lg_sl ([.ref h0])).length) Slot.unset).toArray = ls at hl ⊢
  have hl : lv_has ls 1 [(0, .ref h0)] := hl
  skip
  refine lv_aload_n hx hb dX2_init_0 rfl (lv_at hl 0 rfl) ?_
  refine W.objInit hx hb hown (hts _ zw_213) (hts _ zw_129) (hts _ zw_130) rfl (by rw [hml]; exact hl.1) rfl dX2_init_1 (Nat.le_of_ble_eq_true rfl) (Nat.le_of_ble_eq_true rfl) ?_
  refine W.eq (g2 := F0 m 4 ls []) rfl ?_
  refine lv_aload_n hx hb dX2_init_4 rfl (lv_at hl 0 rfl) ?_
  refine lv_iconst (v := 4) hx hb dX2_init_5 (by decide) ?_
  refine va_newa (atype := .long) (ty := .long) (N' := 4) (a0 := (4, .inr (.inl (fun _ => 0)))) hx hb (hts _ zw_271) rfl hK hP hD hS hA (fun cA => rfl) (by decide) (by decide) (by decide) (Nat.le_of_ble_eq_true rfl) (Nat.le_of_ble_eq_true rfl) dX2_init_6 (fun q_1 cA_2 H hK hP hD hS => ?_)
  have hP : va_P D vwCl [(h0, .inr (4, [.null, .int 0, .int 0, .int 0, .int 0, .int 0, .int 0, .int 0, .int 0, .int 0, .int 0, .int 0, .long 0, .long 0])), (q_1, .inl (cA_2, 4, .inr (.inl (fun _ => 0))))] H := hP
  have hD : va_D A [(h0, .inr (4, [.null, .int 0, .int 0, .int 0, .int 0, .int 0, .int 0, .int 0, .int 0, .int 0, .int 0, .int 0, .long 0, .long 0])), (q_1, .inl (cA_2, 4, .inr (.inl (fun _ => 0))))] := hD
  have hK : va_K D vwCl [(cA_2, .long)] s := hK
  refine va_putF (D := D) (ci := 4) (v := .ref q_1) (ty := .array .long) (C := RX2) (T := TX2) (N := 14) hx hb hts zin_X2 tyX2 tyX2_ok nmX2 hown hK hP hD hS 0 rfl rfl 0 (by decide) (hts _ zw_214) (fun _ h9 => h9) rfl hin rfl (by decide +kernel) rfl rfl (Nat.le_of_ble_eq_true rfl) dX2_init_8 (fun H locs hP hD hS => ?_)
  have hP : va_P D vwCl [(h0, .inr (4, [.ref q_1, .int 0, .int 0, .int 0, .int 0, .int 0, .int 0, .int 0, .int 0, .int 0, .int 0, .int 0, .long 0, .long 0])), (q_1, .inl (cA_2, 4, .inr (.inl (fun _ => 0))))] H := hP
  have hD : va_D A [(h0, .inr (4, [.ref q_1, .int 0, .int 0, .int 0, .int 0, .int 0, .int 0, .int 0, .int 0, .int 0, .int 0, .int 0, .long 0, .long 0])), (q_1, .inl (cA_2, 4, .inr (.inl (fun _ => 0))))] := hD
  refine lv_aload_n hx hb dX2_init_11 rfl (lv_at hl 0 rfl) ?_
  refine lv_iconst (v := -1) hx hb dX2_init_12 (by decide) ?_
  refine va_put (D := D) (ci := 4) (v := .int (-1)) (ty := .int) (C := RX2) (T := TX2) (N := 14) hx hb hts zin_X2 tyX2 tyX2_ok nmX2 hown hK hP hD hS 0 rfl rfl 1 (by decide) (hts _ zw_216) (fun _ h9 => h9) rfl (by decide +kernel) rfl rfl (Nat.le_of_ble_eq_true rfl) dX2_init_13 (fun H locs hP hD hS => ?_)
  have hP : va_P D vwCl [(h0, .inr (4, [.ref q_1, .int (-1), .int 0, .int 0, .int 0, .int 0, .int 0, .int 0, .int 0, .int 0, .int 0, .int 0, .long 0, .long 0])), (q_1, .inl (cA_2, 4, .inr (.inl (fun _ => 0))))] H := hP
  have hD : va_D A [(h0, .inr (4, [.ref q_1, .int (-1), .int 0, .int 0, .int 0, .int 0, .int 0, .int 0, .int 0, .int 0, .int 0, .int 0, .long 0, .long 0])), (q_1, .inl (cA_2, 4, .inr (.inl (fun _ => 0))))] := hD
  refine lv_aload_n hx hb dX2_init_16 rfl (lv_at hl 0 rfl) ?_
  refine lv_iconst (v := -1) hx hb dX2_init_17 (by decide) ?_
  refine va_put (D := D) (ci := 4) (v := .int (-1)) (ty := .int) (C := RX2) (T := TX2) (N := 14) hx hb hts zin_X2 tyX2 tyX2_ok nmX2 hown hK hP hD hS 0 rfl rfl 2 (by decide) (hts _ zw_218) (fun _ h9 => h9) rfl (by decide +kernel) rfl rfl (Nat.le_of_ble_eq_true rfl) dX2_init_18 (fun H locs hP hD hS => ?_)
  have hP : va_P D vwCl [(h0, .inr (4, [.ref q_1, .int (-1), .int (-1), .int 0, .int 0, .int 0, .int 0, .int 0, .int 0, .int 0, .int 0, .int 0, .long 0, .long 0])), (q_1, .inl (cA_2, 4, .inr (.inl (fun _ => 0))))] H := hP
  have hD : va_D A [(h0, .inr (4, [.ref q_1, .int (-1), .int (-1), .int 0, .int 0, .int 0, .int 0, .int 0, .int 0, .int 0, .int 0, .int 0, .long 0, .long 0])), (q_1, .inl (cA_2, 4, .inr (.inl (fun _ => 0))))] := hD
  refine lv_aload_n hx hb dX2_init_21 rfl (lv_at hl 0 rfl) ?_
  refine lv_bipush (v := 111) hx hb dX2_init_22 (by decide) ?_
  refine va_put (D := D) (ci := 4) (v := .int 111) (ty := .char) (C := RX2) (T := TX2) (N := 14) hx hb hts zin_X2 tyX2 tyX2_ok nmX2 hown hK hP hD hS 0 rfl rfl 3 (by decide) (hts _ zw_220) (fun _ h9 => h9) rfl (by decide +kernel) (by first | rfl | decide) (by first | rfl | decide) (Nat.le_of_ble_eq_true rfl) dX2_init_24 (fun H locs hP hD hS => ?_)
  have hP : va_P D vwCl [(h0, .inr (4, [.ref q_1, .int (-1), .int (-1), .int 111, .int 0, .int 0, .int 0, .int 0, .int 0, .int 0, .int 0, .int 0, .long 0, .long 0])), (q_1, .inl (cA_2, 4, .inr (.inl (fun _ => 0))))] H := hP
  have hD : va_D A [(h0, .inr (4, [.ref q_1, .int (-1), .int (-1), .int 111, .int 0, .int 0, .int 0, .int 0, .int 0, .int 0, .int 0, .int 0, .long 0, .long 0])), (q_1, .inl (cA_2, 4, .inr (.inl (fun _ => 0))))] := hD
  refine lv_aload_n hx hb dX2_init_27 rfl (lv_at hl 0 rfl) ?_
  refine lv_iconst (v := 0) hx hb dX2_init_28 (by decide) ?_
  refine va_put (D := D) (ci := 4) (v := .int 0) (ty := .int) (C := RX2) (T := TX2) (N := 14) hx hb hts zin_X2 tyX2 tyX2_ok nmX2 hown hK hP hD hS 0 rfl rfl 4 (by decide) (hts _ zw_222) (fun _ h9 => h9) rfl (by decide +kernel) rfl rfl (Nat.le_of_ble_eq_true rfl) dX2_init_29 (fun H locs hP hD hS => ?_)
  have hP : va_P D vwCl [(h0, .inr (4, [.ref q_1, .int (-1), .int (-1), .int 111, .int 0, .int 0, .int 0, .int 0, .int 0, .int 0, .int 0, .int 0, .long 0, .long 0])), (q_1, .inl (cA_2, 4, .inr (.inl (fun _ => 0))))] H := hP
  have hD : va_D A [(h0, .inr (4, [.ref q_1, .int (-1), .int (-1), .int 111, .int 0, .int 0, .int 0, .int 0, .int 0, .int 0, .int 0, .int 0, .long 0, .long 0])), (q_1, .inl (cA_2, 4, .inr (.inl (fun _ => 0))))] := hD
  refine lv_aload_n hx hb dX2_init_32 rfl (lv_at hl 0 rfl) ?_
  refine lv_iconst (v := 0) hx hb dX2_init_33 (by decide) ?_
  refine va_put (D := D) (ci := 4) (v := .int 0) (ty := .int) (C := RX2) (T := TX2) (N := 14) hx hb hts zin_X2 tyX2 tyX2_ok nmX2 hown hK hP hD hS 0 rfl rfl 5 (by decide) (hts _ zw_224) (fun _ h9 => h9) rfl (by decide +kernel) rfl rfl (Nat.le_of_ble_eq_true rfl) dX2_init_34 (fun H locs hP hD hS => ?_)
  have hP : va_P D vwCl [(h0, .inr (4, [.ref q_1, .int (-1), .int (-1), .int 111, .int 0, .int 0, .int 0, .int 0, .int 0, .int 0, .int 0, .int 0, .long 0, .long 0])), (q_1, .inl (cA_2, 4, .inr (.inl (fun _ => 0))))] H := hP
  have hD : va_D A [(h0, .inr (4, [.ref q_1, .int (-1), .int (-1), .int 111, .int 0, .int 0, .int 0, .int 0, .int 0, .int 0, .int 0, .int 0, .long 0, .long 0])), (q_1, .inl (cA_2, 4, .inr (.inl (fun _ => 0))))] := hD
  refine lv_aload_n hx hb dX2_init_37 rfl (lv_at hl 0 rfl) ?_
  refine lv_iconst (v := 0) hx hb dX2_init_38 (by decide) ?_
  refine va_put (D := D) (ci := 4) (v := .int 0) (ty := .boolean) (C := RX2) (T := TX2) (N := 14) hx hb hts zin_X2 tyX2 tyX2_ok nmX2 hown hK hP hD hS 0 rfl rfl 6 (by decide) (hts _ zw_226) (fun _ h9 => h9) rfl (by decide +kernel) (by first | rfl | decide) (by first | rfl | decide) (Nat.le_of_ble_eq_true rfl) dX2_init_39 (fun H locs hP hD hS => ?_)
  have hP : va_P D vwCl [(h0, .inr (4, [.ref q_1, .int (-1), .int (-1), .int 111, .int 0, .int 0, .int 0, .int 0, .int 0, .int 0, .int 0, .int 0, .long 0, .long 0])), (q_1, .inl (cA_2, 4, .inr (.inl (fun _ => 0))))] H := hP
  have hD : va_D A [(h0, .inr (4, [.ref q_1, .int (-1), .int (-1), .int 111, .int 0, .int 0, .int 0, .int 0, .int 0, .int 0, .int 0, .int 0, .long 0, .long 0])), (q_1, .inl (cA_2, 4, .inr (.inl (fun _ => 0))))] := hD
  refine lv_aload_n hx hb dX2_init_42 rfl (lv_at hl 0 rfl) ?_
  refine lv_iconst (v := 0) hx hb dX2_init_43 (by decide) ?_
  refine va_put (D := D) (ci := 4) (v := .int 0) (ty := .int) (C := RX2) (T := TX2) (N := 14) hx hb hts zin_X2 tyX2 tyX2_ok nmX2 hown hK hP hD hS 0 rfl rfl 7 (by decide) (hts _ zw_228) (fun _ h9 => h9) rfl (by decide +kernel) rfl rfl (Nat.le_of_ble_eq_true rfl) dX2_init_44 (fun H locs hP hD hS => ?_)
  have hP : va_P D vwCl [(h0, .inr (4, [.ref q_1, .int (-1), .int (-1), .int 111, .int 0, .int 0, .int 0, .int 0, .int 0, .int 0, .int 0, .int 0, .long 0, .long 0])), (q_1, .inl (cA_2, 4, .inr (.inl (fun _ => 0))))] H := hP
  have hD : va_D A [(h0, .inr (4, [.ref q_1, .int (-1), .int (-1), .int 111, .int 0, .int 0, .int 0, .int 0, .int 0, .int 0, .int 0, .int 0, .long 0, .long 0])), (q_1, .inl (cA_2, 4, .inr (.inl (fun _ => 0))))] := hD
  refine lv_aload_n hx hb dX2_init_47 rfl (lv_at hl 0 rfl) ?_
  refine lv_iconst (v := 0) hx hb dX2_init_48 (by decide) ?_
  refine va_put (D := D) (ci := 4) (v := .int 0) (ty := .int) (C := RX2) (T := TX2) (N := 14) hx hb hts zin_X2 tyX2 tyX2_ok nmX2 hown hK hP hD hS 0 rfl rfl 8 (by decide) (hts _ zw_230) (fun _ h9 => h9) rfl (by decide +kernel) rfl rfl (Nat.le_of_ble_eq_true rfl) dX2_init_49 (fun H locs hP hD hS => ?_)
  have hP : va_P D vwCl [(h0, .inr (4, [.ref q_1, .int (-1), .int (-1), .int 111, .int 0, .int 0, .int 0, .int 0, .int 0, .int 0, .int 0, .int 0, .long 0, .long 0])), (q_1, .inl (cA_2, 4, .inr (.inl (fun _ => 0))))] H := hP
  have hD : va_D A [(h0, .inr (4, [.ref q_1, .int (-1), .int (-1), .int 111, .int 0, .int 0, .int 0, .int 0, .int 0, .int 0, .int 0, .int 0, .long 0, .long 0])), (q_1, .inl (cA_2, 4, .inr (.inl (fun _ => 0))))] := hD
  refine lv_aload_n hx hb dX2_init_52 rfl (lv_at hl 0 rfl) ?_
  refine lv_iconst (v := 0) hx hb dX2_init_53 (by decide) ?_
  refine va_put (D := D) (ci := 4) (v := .int 0) (ty := .int) (C := RX2) (T := TX2) (N := 14) hx hb hts zin_X2 tyX2 tyX2_ok nmX2 hown hK hP hD hS 0 rfl rfl 9 (by decide) (hts _ zw_232) (fun _ h9 => h9) rfl (by decide +kernel) rfl rfl (Nat.le_of_ble_eq_true rfl) dX2_init_54 (fun H locs hP hD hS => ?_)
  have hP : va_P D vwCl [(h0, .inr (4, [.ref q_1, .int (-1), .int (-1), .int 111, .int 0, .int 0, .int 0, .int 0, .int 0, .int 0, .int 0, .int 0, .long 0, .long 0])), (q_1, .inl (cA_2, 4, .inr (.inl (fun _ => 0))))] H := hP
  have hD : va_D A [(h0, .inr (4, [.ref q_1, .int (-1), .int (-1), .int 111, .int 0, .int 0, .int 0, .int 0, .int 0, .int 0, .int 0, .int 0, .long 0, .long 0])), (q_1, .inl (cA_2, 4, .inr (.inl (fun _ => 0))))] := hD
  refine lv_aload_n hx hb dX2_init_57 rfl (lv_at hl 0 rfl) ?_
  refine lv_iconst (v := 0) hx hb dX2_init_58 (by decide) ?_
  refine va_put (D := D) (ci := 4) (v := .int 0) (ty := .boolean) (C := RX2) (T := TX2) (N := 14) hx hb hts zin_X2 tyX2 tyX2_ok nmX2 hown hK hP hD hS 0 rfl rfl 10 (by decide) (hts _ zw_234) (fun _ h9 => h9) rfl (by decide +kernel) (by first | rfl | decide) (by first | rfl | decide) (Nat.le_of_ble_eq_true rfl) dX2_init_59 (fun H locs hP hD hS => ?_)
  have hP : va_P D vwCl [(h0, .inr (4, [.ref q_1, .int (-1), .int (-1), .int 111, .int 0, .int 0, .int 0, .int 0, .int 0, .int 0, .int 0, .int 0, .long 0, .long 0])), (q_1, .inl (cA_2, 4, .inr (.inl (fun _ => 0))))] H := hP
  have hD : va_D A [(h0, .inr (4, [.ref q_1, .int (-1), .int (-1), .int 111, .int 0, .int 0, .int 0, .int 0, .int 0, .int 0, .int 0, .int 0, .long 0, .long 0])), (q_1, .inl (cA_2, 4, .inr (.inl (fun _ => 0))))] := hD
  refine lv_aload_n hx hb dX2_init_62 rfl (lv_at hl 0 rfl) ?_
  refine lv_bipush (v := 100) hx hb dX2_init_63 (by decide) ?_
  refine va_put (D := D) (ci := 4) (v := .int 100) (ty := .int) (C := RX2) (T := TX2) (N := 14) hx hb hts zin_X2 tyX2 tyX2_ok nmX2 hown hK hP hD hS 0 rfl rfl 11 (by decide) (hts _ zw_236) (fun _ h9 => h9) rfl (by decide +kernel) rfl rfl (Nat.le_of_ble_eq_true rfl) dX2_init_65 (fun H locs hP hD hS => ?_)
  have hP : va_P D vwCl [(h0, .inr (4, [.ref q_1, .int (-1), .int (-1), .int 111, .int 0, .int 0, .int 0, .int 0, .int 0, .int 0, .int 0, .int 100, .long 0, .long 0])), (q_1, .inl (cA_2, 4, .inr (.inl (fun _ => 0))))] H := hP
  have hD : va_D A [(h0, .inr (4, [.ref q_1, .int (-1), .int (-1), .int 111, .int 0, .int 0, .int 0, .int 0, .int 0, .int 0, .int 0, .int 100, .long 0, .long 0])), (q_1, .inl (cA_2, 4, .inr (.inl (fun _ => 0))))] := hD
  refine lv_aload_n hx hb dX2_init_68 rfl (lv_at hl 0 rfl) ?_
  refine lv_lconst (v := 0) hx hb dX2_init_69 (by decide) ?_
  refine va_put (D := D) (ci := 4) (v := .long 0) (ty := .long) (C := RX2) (T := TX2) (N := 14) hx hb hts zin_X2 tyX2 tyX2_ok nmX2 hown hK hP hD hS 0 rfl rfl 12 (by decide) (hts _ zw_238) (fun _ h9 => h9) rfl (by decide +kernel) rfl rfl (Nat.le_of_ble_eq_true rfl) dX2_init_70 (fun H locs hP hD hS => ?_)
  have hP : va_P D vwCl [(h0, .inr (4, [.ref q_1, .int (-1), .int (-1), .int 111, .int 0, .int 0, .int 0, .int 0, .int 0, .int 0, .int 0, .int 100, .long 0, .long 0])), (q_1, .inl (cA_2, 4, .inr (.inl (fun _ => 0))))] H := hP
  have hD : va_D A [(h0, .inr (4, [.ref q_1, .int (-1), .int (-1), .int 111, .int 0, .int 0, .int 0, .int 0, .int 0, .int 0, .int 0, .int 100, .long 0, .long 0])), (q_1, .inl (cA_2, 4, .inr (.inl (fun _ => 0))))] := hD
  refine lv_aload_n hx hb dX2_init_73 rfl (lv_at hl 0 rfl) ?_
  refine lv_lconst (v := 0) hx hb dX2_init_74 (by decide) ?_
  refine va_put (D := D) (ci := 4) (v := .long 0) (ty := .long) (C := RX2) (T := TX2) (N := 14) hx hb hts zin_X2 tyX2 tyX2_ok nmX2 hown hK hP hD hS 0 rfl rfl 13 (by decide) (hts _ zw_240) (fun _ h9 => h9) rfl (by decide +kernel) rfl rfl (Nat.le_of_ble_eq_true rfl) dX2_init_75 (fun H locs hP hD hS => ?_)
  have hP : va_P D vwCl [(h0, .inr (4, [.ref q_1, .int (-1), .int (-1), .int 111, .int 0, .int 0, .int 0, .int 0, .int 0, .int 0, .int 0, .int 100, .long 0, .long 0])), (q_1, .inl (cA_2, 4, .inr (.inl (fun _ => 0))))] H := hP
  have hD : va_D A [(h0, .inr (4, [.ref q_1, .int (-1), .int (-1), .int 111, .int 0, .int 0, .int 0, .int 0, .int 0, .int 0, .int 0, .int 100, .long 0, .long 0])), (q_1, .inl (cA_2, 4, .inr (.inl (fun _ => 0))))] := hD
  exact W.vret hx hb hr (fun t ht hW => ⟨⟨(), rfl, trivial, ⟨q_1, z_end hP hK hD [0] rfl rfl [] rfl ht hW.alike⟩⟩, hS.F ht⟩) hS.2.2 dX2_init_78
end
