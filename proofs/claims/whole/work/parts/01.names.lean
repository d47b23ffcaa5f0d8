-- ===== PART A: goes FIRST, ahead of the names: the tables' words, and 'selects' of the private methods out of them =====
/-- a private method of a class that the tables say can be made, by its rows of tables_1 -/
def lw_okq (q : MethodName × Nat) : Prop := (q.1.cls ≠ "java/lang/invoke/MethodHandle" ∧ q.1.cls ≠ "java/lang/invoke/VarHandle") ∧ Cond.instantiable q.1.cls q.2 ∈ tables_1 ∧ Cond.privateMethod q.1 ∈ tables_1 ∧ Cond.instanceMethod q.1 ∈ tables_1
theorem lw_p0 : lw_okq (⟨"CampWeek$Lodgings", "liveInOneRow", "(II)Z"⟩, 3) := ⟨⟨by decide +kernel, by decide +kernel⟩, List.mem_of_getElem? (i := 24) (by decide +kernel), List.mem_of_getElem? (i := 337) (by decide +kernel), List.mem_of_getElem? (i := 338) (by decide +kernel)⟩
theorem lw_p1 : lw_okq (⟨"CampWeek$Lodgings", "isInRow", "(II)Z"⟩, 3) := ⟨⟨by decide +kernel, by decide +kernel⟩, List.mem_of_getElem? (i := 24) (by decide +kernel), List.mem_of_getElem? (i := 345) (by decide +kernel), List.mem_of_getElem? (i := 346) (by decide +kernel)⟩
theorem lw_p2 : lw_okq (⟨"CampWeek$Lodgings", "dearestHut", "(I)I"⟩, 3) := ⟨⟨by decide +kernel, by decide +kernel⟩, List.mem_of_getElem? (i := 24) (by decide +kernel), List.mem_of_getElem? (i := 365) (by decide +kernel), List.mem_of_getElem? (i := 366) (by decide +kernel)⟩
theorem lw_p3 : lw_okq (⟨"CampWeek$Lodgings", "mayHave", "(II)Z"⟩, 3) := ⟨⟨by decide +kernel, by decide +kernel⟩, List.mem_of_getElem? (i := 24) (by decide +kernel), List.mem_of_getElem? (i := 369) (by decide +kernel), List.mem_of_getElem? (i := 370) (by decide +kernel)⟩
theorem lw_p4 : lw_okq (⟨"CampWeek$Lodgings", "cost", "(II)I"⟩, 3) := ⟨⟨by decide +kernel, by decide +kernel⟩, List.mem_of_getElem? (i := 24) (by decide +kernel), List.mem_of_getElem? (i := 377) (by decide +kernel), List.mem_of_getElem? (i := 378) (by decide +kernel)⟩
theorem lw_p5 : lw_okq (⟨"CampWeek$Lodgings", "isNextTo", "(II)Z"⟩, 3) := ⟨⟨by decide +kernel, by decide +kernel⟩, List.mem_of_getElem? (i := 24) (by decide +kernel), List.mem_of_getElem? (i := 381) (by decide +kernel), List.mem_of_getElem? (i := 382) (by decide +kernel)⟩
theorem lw_p6 : lw_okq (⟨"CampWeek$Lodgings", "makesRoom", "(II)Z"⟩, 3) := ⟨⟨by decide +kernel, by decide +kernel⟩, List.mem_of_getElem? (i := 24) (by decide +kernel), List.mem_of_getElem? (i := 385) (by decide +kernel), List.mem_of_getElem? (i := 386) (by decide +kernel)⟩
theorem lw_p7 : lw_okq (⟨"CampWeek$Lodgings", "whoIsIn", "(II)I"⟩, 3) := ⟨⟨by decide +kernel, by decide +kernel⟩, List.mem_of_getElem? (i := 24) (by decide +kernel), List.mem_of_getElem? (i := 424) (by decide +kernel), List.mem_of_getElem? (i := 425) (by decide +kernel)⟩
theorem lw_p8 : lw_okq (⟨"CampWeek$Sittings", "fillBenches", "(LCampWeek$Parties;I)V"⟩, 10) := ⟨⟨by decide +kernel, by decide +kernel⟩, List.mem_of_getElem? (i := 110) (by decide +kernel), List.mem_of_getElem? (i := 458) (by decide +kernel), List.mem_of_getElem? (i := 459) (by decide +kernel)⟩
theorem lw_p9 : lw_okq (⟨"CampWeek$Sittings", "benchFor", "(I)I"⟩, 10) := ⟨⟨by decide +kernel, by decide +kernel⟩, List.mem_of_getElem? (i := 110) (by decide +kernel), List.mem_of_getElem? (i := 464) (by decide +kernel), List.mem_of_getElem? (i := 465) (by decide +kernel)⟩
theorem lw_p10 : lw_okq (⟨"CampWeek$Sittings", "findNumbers", "()V"⟩, 10) := ⟨⟨by decide +kernel, by decide +kernel⟩, List.mem_of_getElem? (i := 110) (by decide +kernel), List.mem_of_getElem? (i := 468) (by decide +kernel), List.mem_of_getElem? (i := 469) (by decide +kernel)⟩
theorem lw_p11 : lw_okq (⟨"CampWeek$Sittings", "findDifference", "()V"⟩, 10) := ⟨⟨by decide +kernel, by decide +kernel⟩, List.mem_of_getElem? (i := 110) (by decide +kernel), List.mem_of_getElem? (i := 472) (by decide +kernel), List.mem_of_getElem? (i := 473) (by decide +kernel)⟩
theorem lw_p12 : lw_okq (⟨"CampWeek$Sittings", "isWay", "(I)Z"⟩, 10) := ⟨⟨by decide +kernel, by decide +kernel⟩, List.mem_of_getElem? (i := 110) (by decide +kernel), List.mem_of_getElem? (i := 479) (by decide +kernel), List.mem_of_getElem? (i := 480) (by decide +kernel)⟩
theorem lw_p13 : lw_okq (⟨"CampWeek$Sittings", "partBenches", "()V"⟩, 10) := ⟨⟨by decide +kernel, by decide +kernel⟩, List.mem_of_getElem? (i := 110) (by decide +kernel), List.mem_of_getElem? (i := 483) (by decide +kernel), List.mem_of_getElem? (i := 484) (by decide +kernel)⟩
theorem lw_p14 : lw_okq (⟨"CampWeek$Sittings", "leadsToBest", "(II)Z"⟩, 10) := ⟨⟨by decide +kernel, by decide +kernel⟩, List.mem_of_getElem? (i := 110) (by decide +kernel), List.mem_of_getElem? (i := 487) (by decide +kernel), List.mem_of_getElem? (i := 488) (by decide +kernel)⟩
theorem lw_p15 : lw_okq (⟨"CampWeek$Sittings", "canBecome", "(III)Z"⟩, 10) := ⟨⟨by decide +kernel, by decide +kernel⟩, List.mem_of_getElem? (i := 110) (by decide +kernel), List.mem_of_getElem? (i := 491) (by decide +kernel), List.mem_of_getElem? (i := 492) (by decide +kernel)⟩
def lw_privs_1 : List (MethodName × Nat) := [(⟨"CampWeek$Lodgings", "liveInOneRow", "(II)Z"⟩, 3), (⟨"CampWeek$Lodgings", "isInRow", "(II)Z"⟩, 3), (⟨"CampWeek$Lodgings", "dearestHut", "(I)I"⟩, 3), (⟨"CampWeek$Lodgings", "mayHave", "(II)Z"⟩, 3), (⟨"CampWeek$Lodgings", "cost", "(II)I"⟩, 3), (⟨"CampWeek$Lodgings", "isNextTo", "(II)Z"⟩, 3), (⟨"CampWeek$Lodgings", "makesRoom", "(II)Z"⟩, 3), (⟨"CampWeek$Lodgings", "whoIsIn", "(II)I"⟩, 3), (⟨"CampWeek$Sittings", "fillBenches", "(LCampWeek$Parties;I)V"⟩, 10), (⟨"CampWeek$Sittings", "benchFor", "(I)I"⟩, 10), (⟨"CampWeek$Sittings", "findNumbers", "()V"⟩, 10), (⟨"CampWeek$Sittings", "findDifference", "()V"⟩, 10), (⟨"CampWeek$Sittings", "isWay", "(I)Z"⟩, 10), (⟨"CampWeek$Sittings", "partBenches", "()V"⟩, 10), (⟨"CampWeek$Sittings", "leadsToBest", "(II)Z"⟩, 10), (⟨"CampWeek$Sittings", "canBecome", "(III)Z"⟩, 10)]
theorem lw_r1 : ∀ q ∈ lw_privs_1, lw_okq q := List.forall_mem_cons.mpr ⟨lw_p0, List.forall_mem_cons.mpr ⟨lw_p1, List.forall_mem_cons.mpr ⟨lw_p2, List.forall_mem_cons.mpr ⟨lw_p3, List.forall_mem_cons.mpr ⟨lw_p4, List.forall_mem_cons.mpr ⟨lw_p5, List.forall_mem_cons.mpr ⟨lw_p6, List.forall_mem_cons.mpr ⟨lw_p7, List.forall_mem_cons.mpr ⟨lw_p8, List.forall_mem_cons.mpr ⟨lw_p9, List.forall_mem_cons.mpr ⟨lw_p10, List.forall_mem_cons.mpr ⟨lw_p11, List.forall_mem_cons.mpr ⟨lw_p12, List.forall_mem_cons.mpr ⟨lw_p13, List.forall_mem_cons.mpr ⟨lw_p14, List.forall_mem_cons.mpr ⟨lw_p15, fun _ h => absurd h List.not_mem_nil⟩⟩⟩⟩⟩⟩⟩⟩⟩⟩⟩⟩⟩⟩⟩⟩
theorem lw_p16 : lw_okq (⟨"CampWeek$Shows", "isWished", "(II)Z"⟩, 10) := ⟨⟨by decide +kernel, by decide +kernel⟩, List.mem_of_getElem? (i := 165) (by decide +kernel), List.mem_of_getElem? (i := 571) (by decide +kernel), List.mem_of_getElem? (i := 572) (by decide +kernel)⟩
theorem lw_p17 : lw_okq (⟨"CampWeek$Sheets", "isWet", "(I)Z"⟩, 4) := ⟨⟨by decide +kernel, by decide +kernel⟩, List.mem_of_getElem? (i := 257) (by decide +kernel), List.mem_of_getElem? (i := 584) (by decide +kernel), List.mem_of_getElem? (i := 585) (by decide +kernel)⟩
theorem lw_p18 : lw_okq (⟨"CampWeek$Shows", "sendParty", "(IIIZ)V"⟩, 10) := ⟨⟨by decide +kernel, by decide +kernel⟩, List.mem_of_getElem? (i := 165) (by decide +kernel), List.mem_of_getElem? (i := 609) (by decide +kernel), List.mem_of_getElem? (i := 610) (by decide +kernel)⟩
theorem lw_p19 : lw_okq (⟨"CampWeek$Groups", "isOfAnother", "(III)Z"⟩, 7) := ⟨⟨by decide +kernel, by decide +kernel⟩, List.mem_of_getElem? (i := 206) (by decide +kernel), List.mem_of_getElem? (i := 635) (by decide +kernel), List.mem_of_getElem? (i := 636) (by decide +kernel)⟩
theorem lw_p20 : lw_okq (⟨"CampWeek$Groups", "childrenIn", "(I)I"⟩, 7) := ⟨⟨by decide +kernel, by decide +kernel⟩, List.mem_of_getElem? (i := 206) (by decide +kernel), List.mem_of_getElem? (i := 639) (by decide +kernel), List.mem_of_getElem? (i := 640) (by decide +kernel)⟩
theorem lw_p21 : lw_okq (⟨"CampWeek$Groups", "childrenOf", "(I)I"⟩, 7) := ⟨⟨by decide +kernel, by decide +kernel⟩, List.mem_of_getElem? (i := 206) (by decide +kernel), List.mem_of_getElem? (i := 651) (by decide +kernel), List.mem_of_getElem? (i := 652) (by decide +kernel)⟩
theorem lw_p22 : lw_okq (⟨"CampWeek$Groups", "groupFor", "(I)I"⟩, 7) := ⟨⟨by decide +kernel, by decide +kernel⟩, List.mem_of_getElem? (i := 206) (by decide +kernel), List.mem_of_getElem? (i := 667) (by decide +kernel), List.mem_of_getElem? (i := 668) (by decide +kernel)⟩
theorem lw_p23 : lw_okq (⟨"CampWeek$PaybackLists", "latestDay", "(I)I"⟩, 4) := ⟨⟨by decide +kernel, by decide +kernel⟩, List.mem_of_getElem? (i := 237) (by decide +kernel), List.mem_of_getElem? (i := 701) (by decide +kernel), List.mem_of_getElem? (i := 702) (by decide +kernel)⟩
theorem lw_p24 : lw_okq (⟨"CampWeek$Sheets", "has", "(I)Z"⟩, 4) := ⟨⟨by decide +kernel, by decide +kernel⟩, List.mem_of_getElem? (i := 257) (by decide +kernel), List.mem_of_getElem? (i := 716) (by decide +kernel), List.mem_of_getElem? (i := 717) (by decide +kernel)⟩
theorem lw_p25 : lw_okq (⟨"CampWeek$Sheets", "find", "(I)I"⟩, 4) := ⟨⟨by decide +kernel, by decide +kernel⟩, List.mem_of_getElem? (i := 257) (by decide +kernel), List.mem_of_getElem? (i := 721) (by decide +kernel), List.mem_of_getElem? (i := 722) (by decide +kernel)⟩
theorem lw_p26 : lw_okq (⟨"CampWeek$Sheets", "refusal", "(III)I"⟩, 4) := ⟨⟨by decide +kernel, by decide +kernel⟩, List.mem_of_getElem? (i := 257) (by decide +kernel), List.mem_of_getElem? (i := 747) (by decide +kernel), List.mem_of_getElem? (i := 748) (by decide +kernel)⟩
theorem lw_p27 : lw_okq (⟨"CampWeek$Sheets", "hasItems", "(III)Z"⟩, 4) := ⟨⟨by decide +kernel, by decide +kernel⟩, List.mem_of_getElem? (i := 257) (by decide +kernel), List.mem_of_getElem? (i := 771) (by decide +kernel), List.mem_of_getElem? (i := 772) (by decide +kernel)⟩
theorem lw_p28 : lw_okq (⟨"CampWeekModel", "isParty", "(I)Z"⟩, 47) := ⟨⟨by decide +kernel, by decide +kernel⟩, List.mem_of_getElem? (i := 793) (by decide +kernel), List.mem_of_getElem? (i := 964) (by decide +kernel), List.mem_of_getElem? (i := 965) (by decide +kernel)⟩
theorem lw_p29 : lw_okq (⟨"CampWeekModel", "meet", "(II)Z"⟩, 47) := ⟨⟨by decide +kernel, by decide +kernel⟩, List.mem_of_getElem? (i := 793) (by decide +kernel), List.mem_of_getElem? (i := 969) (by decide +kernel), List.mem_of_getElem? (i := 970) (by decide +kernel)⟩
theorem lw_p30 : lw_okq (⟨"CampWeekModel", "dearest", "(II)I"⟩, 47) := ⟨⟨by decide +kernel, by decide +kernel⟩, List.mem_of_getElem? (i := 793) (by decide +kernel), List.mem_of_getElem? (i := 977) (by decide +kernel), List.mem_of_getElem? (i := 978) (by decide +kernel)⟩
theorem lw_p31 : lw_okq (⟨"CampWeekModel", "mayLodge", "(II)Z"⟩, 47) := ⟨⟨by decide +kernel, by decide +kernel⟩, List.mem_of_getElem? (i := 793) (by decide +kernel), List.mem_of_getElem? (i := 981) (by decide +kernel), List.mem_of_getElem? (i := 982) (by decide +kernel)⟩
def lw_privs_2 : List (MethodName × Nat) := [(⟨"CampWeek$Shows", "isWished", "(II)Z"⟩, 10), (⟨"CampWeek$Sheets", "isWet", "(I)Z"⟩, 4), (⟨"CampWeek$Shows", "sendParty", "(IIIZ)V"⟩, 10), (⟨"CampWeek$Groups", "isOfAnother", "(III)Z"⟩, 7), (⟨"CampWeek$Groups", "childrenIn", "(I)I"⟩, 7), (⟨"CampWeek$Groups", "childrenOf", "(I)I"⟩, 7), (⟨"CampWeek$Groups", "groupFor", "(I)I"⟩, 7), (⟨"CampWeek$PaybackLists", "latestDay", "(I)I"⟩, 4), (⟨"CampWeek$Sheets", "has", "(I)Z"⟩, 4), (⟨"CampWeek$Sheets", "find", "(I)I"⟩, 4), (⟨"CampWeek$Sheets", "refusal", "(III)I"⟩, 4), (⟨"CampWeek$Sheets", "hasItems", "(III)Z"⟩, 4), (⟨"CampWeekModel", "isParty", "(I)Z"⟩, 47), (⟨"CampWeekModel", "meet", "(II)Z"⟩, 47), (⟨"CampWeekModel", "dearest", "(II)I"⟩, 47), (⟨"CampWeekModel", "mayLodge", "(II)Z"⟩, 47)]
theorem lw_r2 : ∀ q ∈ lw_privs_2, lw_okq q := List.forall_mem_cons.mpr ⟨lw_p16, List.forall_mem_cons.mpr ⟨lw_p17, List.forall_mem_cons.mpr ⟨lw_p18, List.forall_mem_cons.mpr ⟨lw_p19, List.forall_mem_cons.mpr ⟨lw_p20, List.forall_mem_cons.mpr ⟨lw_p21, List.forall_mem_cons.mpr ⟨lw_p22, List.forall_mem_cons.mpr ⟨lw_p23, List.forall_mem_cons.mpr ⟨lw_p24, List.forall_mem_cons.mpr ⟨lw_p25, List.forall_mem_cons.mpr ⟨lw_p26, List.forall_mem_cons.mpr ⟨lw_p27, List.forall_mem_cons.mpr ⟨lw_p28, List.forall_mem_cons.mpr ⟨lw_p29, List.forall_mem_cons.mpr ⟨lw_p30, List.forall_mem_cons.mpr ⟨lw_p31, fun _ h => absurd h List.not_mem_nil⟩⟩⟩⟩⟩⟩⟩⟩⟩⟩⟩⟩⟩⟩⟩⟩
theorem lw_p32 : lw_okq (⟨"CampWeekModel", "isFree", "(II)Z"⟩, 47) := ⟨⟨by decide +kernel, by decide +kernel⟩, List.mem_of_getElem? (i := 793) (by decide +kernel), List.mem_of_getElem? (i := 985) (by decide +kernel), List.mem_of_getElem? (i := 986) (by decide +kernel)⟩
theorem lw_p33 : lw_okq (⟨"CampWeekModel", "hasTold", "(III)Z"⟩, 47) := ⟨⟨by decide +kernel, by decide +kernel⟩, List.mem_of_getElem? (i := 793) (by decide +kernel), List.mem_of_getElem? (i := 989) (by decide +kernel), List.mem_of_getElem? (i := 990) (by decide +kernel)⟩
theorem lw_p34 : lw_okq (⟨"CampWeekModel", "isHut", "(I)Z"⟩, 47) := ⟨⟨by decide +kernel, by decide +kernel⟩, List.mem_of_getElem? (i := 793) (by decide +kernel), List.mem_of_getElem? (i := 1009) (by decide +kernel), List.mem_of_getElem? (i := 1010) (by decide +kernel)⟩
theorem lw_p35 : lw_okq (⟨"CampWeekModel", "who", "(II)I"⟩, 47) := ⟨⟨by decide +kernel, by decide +kernel⟩, List.mem_of_getElem? (i := 793) (by decide +kernel), List.mem_of_getElem? (i := 1013) (by decide +kernel), List.mem_of_getElem? (i := 1014) (by decide +kernel)⟩
theorem lw_p36 : lw_okq (⟨"CampWeekModel", "isThere", "(II)Z"⟩, 47) := ⟨⟨by decide +kernel, by decide +kernel⟩, List.mem_of_getElem? (i := 793) (by decide +kernel), List.mem_of_getElem? (i := 1017) (by decide +kernel), List.mem_of_getElem? (i := 1018) (by decide +kernel)⟩
theorem lw_p37 : lw_okq (⟨"CampWeekModel", "findSittings", "(I)I"⟩, 47) := ⟨⟨by decide +kernel, by decide +kernel⟩, List.mem_of_getElem? (i := 793) (by decide +kernel), List.mem_of_getElem? (i := 1034) (by decide +kernel), List.mem_of_getElem? (i := 1035) (by decide +kernel)⟩
theorem lw_p38 : lw_okq (⟨"CampWeekModel", "findUnits", "(I)V"⟩, 47) := ⟨⟨by decide +kernel, by decide +kernel⟩, List.mem_of_getElem? (i := 793) (by decide +kernel), List.mem_of_getElem? (i := 1038) (by decide +kernel), List.mem_of_getElem? (i := 1039) (by decide +kernel)⟩
theorem lw_p39 : lw_okq (⟨"CampWeekModel", "dinners", "(II)I"⟩, 47) := ⟨⟨by decide +kernel, by decide +kernel⟩, List.mem_of_getElem? (i := 793) (by decide +kernel), List.mem_of_getElem? (i := 1055) (by decide +kernel), List.mem_of_getElem? (i := 1056) (by decide +kernel)⟩
theorem lw_p40 : lw_okq (⟨"CampWeekModel", "isWet", "(I)Z"⟩, 47) := ⟨⟨by decide +kernel, by decide +kernel⟩, List.mem_of_getElem? (i := 793) (by decide +kernel), List.mem_of_getElem? (i := 1086) (by decide +kernel), List.mem_of_getElem? (i := 1087) (by decide +kernel)⟩
theorem lw_p41 : lw_okq (⟨"CampWeekModel", "placeOf", "(I)I"⟩, 47) := ⟨⟨by decide +kernel, by decide +kernel⟩, List.mem_of_getElem? (i := 793) (by decide +kernel), List.mem_of_getElem? (i := 1094) (by decide +kernel), List.mem_of_getElem? (i := 1095) (by decide +kernel)⟩
theorem lw_p42 : lw_okq (⟨"CampWeekModel", "findCrowds", "(II)V"⟩, 47) := ⟨⟨by decide +kernel, by decide +kernel⟩, List.mem_of_getElem? (i := 793) (by decide +kernel), List.mem_of_getElem? (i := 1102) (by decide +kernel), List.mem_of_getElem? (i := 1103) (by decide +kernel)⟩
theorem lw_p43 : lw_okq (⟨"CampWeekModel", "manyIn", "(I)I"⟩, 47) := ⟨⟨by decide +kernel, by decide +kernel⟩, List.mem_of_getElem? (i := 793) (by decide +kernel), List.mem_of_getElem? (i := 1121) (by decide +kernel), List.mem_of_getElem? (i := 1122) (by decide +kernel)⟩
theorem lw_p44 : lw_okq (⟨"CampWeekModel", "isChild", "(I)Z"⟩, 47) := ⟨⟨by decide +kernel, by decide +kernel⟩, List.mem_of_getElem? (i := 793) (by decide +kernel), List.mem_of_getElem? (i := 1133) (by decide +kernel), List.mem_of_getElem? (i := 1134) (by decide +kernel)⟩
theorem lw_p45 : lw_okq (⟨"CampWeekModel", "met", "(I)I"⟩, 47) := ⟨⟨by decide +kernel, by decide +kernel⟩, List.mem_of_getElem? (i := 793) (by decide +kernel), List.mem_of_getElem? (i := 1163) (by decide +kernel), List.mem_of_getElem? (i := 1164) (by decide +kernel)⟩
theorem lw_p46 : lw_okq (⟨"CampWeekModel", "lacks", "(III)I"⟩, 47) := ⟨⟨by decide +kernel, by decide +kernel⟩, List.mem_of_getElem? (i := 793) (by decide +kernel), List.mem_of_getElem? (i := 1175) (by decide +kernel), List.mem_of_getElem? (i := 1176) (by decide +kernel)⟩
def lw_privs_3 : List (MethodName × Nat) := [(⟨"CampWeekModel", "isFree", "(II)Z"⟩, 47), (⟨"CampWeekModel", "hasTold", "(III)Z"⟩, 47), (⟨"CampWeekModel", "isHut", "(I)Z"⟩, 47), (⟨"CampWeekModel", "who", "(II)I"⟩, 47), (⟨"CampWeekModel", "isThere", "(II)Z"⟩, 47), (⟨"CampWeekModel", "findSittings", "(I)I"⟩, 47), (⟨"CampWeekModel", "findUnits", "(I)V"⟩, 47), (⟨"CampWeekModel", "dinners", "(II)I"⟩, 47), (⟨"CampWeekModel", "isWet", "(I)Z"⟩, 47), (⟨"CampWeekModel", "placeOf", "(I)I"⟩, 47), (⟨"CampWeekModel", "findCrowds", "(II)V"⟩, 47), (⟨"CampWeekModel", "manyIn", "(I)I"⟩, 47), (⟨"CampWeekModel", "isChild", "(I)Z"⟩, 47), (⟨"CampWeekModel", "met", "(I)I"⟩, 47), (⟨"CampWeekModel", "lacks", "(III)I"⟩, 47)]
theorem lw_r3 : ∀ q ∈ lw_privs_3, lw_okq q := List.forall_mem_cons.mpr ⟨lw_p32, List.forall_mem_cons.mpr ⟨lw_p33, List.forall_mem_cons.mpr ⟨lw_p34, List.forall_mem_cons.mpr ⟨lw_p35, List.forall_mem_cons.mpr ⟨lw_p36, List.forall_mem_cons.mpr ⟨lw_p37, List.forall_mem_cons.mpr ⟨lw_p38, List.forall_mem_cons.mpr ⟨lw_p39, List.forall_mem_cons.mpr ⟨lw_p40, List.forall_mem_cons.mpr ⟨lw_p41, List.forall_mem_cons.mpr ⟨lw_p42, List.forall_mem_cons.mpr ⟨lw_p43, List.forall_mem_cons.mpr ⟨lw_p44, List.forall_mem_cons.mpr ⟨lw_p45, List.forall_mem_cons.mpr ⟨lw_p46, fun _ h => absurd h List.not_mem_nil⟩⟩⟩⟩⟩⟩⟩⟩⟩⟩⟩⟩⟩⟩⟩
def lw_privs : List (MethodName × Nat) := lw_privs_1 ++ (lw_privs_2 ++ (lw_privs_3))
def lw_tbl : List Cond := k2_sels lw_privs ++ tables_1
theorem lw_privs_ok : ∀ q ∈ lw_privs, lw_okq q := by
  show ∀ q ∈ lw_privs_1 ++ (lw_privs_2 ++ (lw_privs_3)), lw_okq q
  exact List.forall_mem_append.mpr ⟨lw_r1, List.forall_mem_append.mpr ⟨lw_r2, lw_r3⟩⟩
def RX0 : String := "CampWeek$Groups"
def TX0 : u_T := fun k => match k with
  | 0 => ("CampWeek$Groups", "groupOf", "[I", true)
  | 1 => ("CampWeek$Groups", "childCount", "I", false)
  | 2 => ("CampWeek$Groups", "parties", "[I", true)
  | 3 => ("CampWeek$Groups", "ages", "[I", true)
  | 4 => ("CampWeek$Groups", "youngest", "[I", true)
  | 5 => ("CampWeek$Groups", "oldest", "[I", true)
  | _ => ("CampWeek$Groups", "mosts", "[I", true)
def tyX0 : Nat → FieldType := fun k => match k with
  | 0 => .array .int
  | 1 => .int
  | 2 => .array .int
  | 3 => .array .int
  | 4 => .array .int
  | 5 => .array .int
  | _ => .array .int
abbrev wsX00 : List Cond := u_ws RX0 TX0 7
theorem nmX0 : ∀ a, a < 7 → ∀ b, b < 7 → a ≠ b → (TX0 a).2.1 ≠ (TX0 b).2.1 := by decide +kernel
theorem tyX0_ok : ∀ k, k < 7 → parseFieldDescriptor (TX0 k).2.2.1 = some (tyX0 k) := by decide +kernel
abbrev cX0_init : ByteArray := prog_2_method_1_code
def yX0_init : MethodName := ⟨RX0, "<init>", "()V"⟩
abbrev cX0_define : ByteArray := prog_2_method_2_code
def yX0_define : MethodName := ⟨RX0, "define", "(IIII)I"⟩
abbrev cX0_isOfAnother : ByteArray := prog_2_method_3_code
def yX0_isOfAnother : MethodName := ⟨RX0, "isOfAnother", "(III)Z"⟩
abbrev cX0_childrenIn : ByteArray := prog_2_method_4_code
def yX0_childrenIn : MethodName := ⟨RX0, "childrenIn", "(I)I"⟩
abbrev cX0_hasChild : ByteArray := prog_2_method_5_code
def yX0_hasChild : MethodName := ⟨RX0, "hasChild", "(I)Z"⟩
abbrev cX0_addChild : ByteArray := prog_2_method_6_code
def yX0_addChild : MethodName := ⟨RX0, "addChild", "(III)I"⟩
abbrev cX0_childrenOf : ByteArray := prog_2_method_7_code
def yX0_childrenOf : MethodName := ⟨RX0, "childrenOf", "(I)I"⟩
abbrev cX0_handOver : ByteArray := prog_2_method_8_code
def yX0_handOver : MethodName := ⟨RX0, "handOver", "(I)I"⟩
abbrev cX0_groupFor : ByteArray := prog_2_method_9_code
def yX0_groupFor : MethodName := ⟨RX0, "groupFor", "(I)I"⟩
abbrev cX0_giveBack : ByteArray := prog_2_method_10_code
def yX0_giveBack : MethodName := ⟨RX0, "giveBack", "(II)I"⟩
def RX1 : String := "CampWeek$Huts"
def TX1 : u_T := fun k => match k with
  | 0 => ("CampWeek$Huts", "rows", "[I", true)
  | 1 => ("CampWeek$Huts", "beds", "[I", true)
  | _ => ("CampWeek$Huts", "count", "I", false)
def tyX1 : Nat → FieldType := fun k => match k with
  | 0 => .array .int
  | 1 => .array .int
  | _ => .int
abbrev wsX10 : List Cond := u_ws RX1 TX1 3
theorem nmX1 : ∀ a, a < 3 → ∀ b, b < 3 → a ≠ b → (TX1 a).2.1 ≠ (TX1 b).2.1 := by decide +kernel
theorem tyX1_ok : ∀ k, k < 3 → parseFieldDescriptor (TX1 k).2.2.1 = some (tyX1 k) := by decide +kernel
abbrev cX1_init : ByteArray := prog_3_method_1_code
def yX1_init : MethodName := ⟨RX1, "<init>", "()V"⟩
abbrev cX1_has : ByteArray := prog_3_method_2_code
def yX1_has : MethodName := ⟨RX1, "has", "(I)Z"⟩
abbrev cX1_add : ByteArray := prog_3_method_3_code
def yX1_add : MethodName := ⟨RX1, "add", "(II)I"⟩
def RX2 : String := "CampWeek$Kitchen"
def TX2 : u_T := fun k => match k with
  | 0 => ("CampWeek$Kitchen", "part", "I", false)
  | 1 => ("CampWeek$Kitchen", "lines", "I", false)
  | _ => ("CampWeek$Kitchen", "book", "[I", true)
def tyX2 : Nat → FieldType := fun k => match k with
  | 0 => .int
  | 1 => .int
  | _ => .array .int
abbrev wsX20 : List Cond := u_ws RX2 TX2 3
theorem nmX2 : ∀ a, a < 3 → ∀ b, b < 3 → a ≠ b → (TX2 a).2.1 ≠ (TX2 b).2.1 := by decide +kernel
theorem tyX2_ok : ∀ k, k < 3 → parseFieldDescriptor (TX2 k).2.2.1 = some (tyX2 k) := by decide +kernel
abbrev cX2_init : ByteArray := prog_4_method_1_code
def yX2_init : MethodName := ⟨RX2, "<init>", "()V"⟩
abbrev cX2_setPart : ByteArray := prog_4_method_2_code
def yX2_setPart : MethodName := ⟨RX2, "setPart", "(I)I"⟩
abbrev cX2_serve : ByteArray := prog_4_method_3_code
def yX2_serve : MethodName := ⟨RX2, "serve", "(IIII)I"⟩
abbrev cX2_entry : ByteArray := prog_4_method_4_code
def yX2_entry : MethodName := ⟨RX2, "entry", "(II)I"⟩
def RX3 : String := "CampWeek$Lodgings"
def TX3 : u_T := fun k => match k with
  | 0 => ("CampWeek$Lodgings", "huts", "LCampWeek$Huts;", true)
  | 1 => ("CampWeek$Lodgings", "parties", "LCampWeek$Parties;", true)
  | _ => ("CampWeek$Lodgings", "latestMoved", "I", false)
def tyX3 : Nat → FieldType := fun k => match k with
  | 0 => .object "CampWeek$Huts"
  | 1 => .object "CampWeek$Parties"
  | _ => .int
abbrev wsX30 : List Cond := u_ws RX3 TX3 3
theorem nmX3 : ∀ a, a < 3 → ∀ b, b < 3 → a ≠ b → (TX3 a).2.1 ≠ (TX3 b).2.1 := by decide +kernel
theorem tyX3_ok : ∀ k, k < 3 → parseFieldDescriptor (TX3 k).2.2.1 = some (tyX3 k) := by decide +kernel
abbrev cX3_init : ByteArray := prog_5_method_1_code
def yX3_init : MethodName := ⟨RX3, "<init>", "()V"⟩
abbrev cX3_relate : ByteArray := prog_5_method_2_code
def yX3_relate : MethodName := ⟨RX3, "relate", "(III)I"⟩
abbrev cX3_liveInOneRow : ByteArray := prog_5_method_3_code
def yX3_liveInOneRow : MethodName := ⟨RX3, "liveInOneRow", "(II)Z"⟩
abbrev cX3_isInRow : ByteArray := prog_5_method_4_code
def yX3_isInRow : MethodName := ⟨RX3, "isInRow", "(II)Z"⟩
abbrev cX3_takeIn : ByteArray := prog_5_method_5_code
def yX3_takeIn : MethodName := ⟨RX3, "takeIn", "(I)I"⟩
abbrev cX3_dearestHut : ByteArray := prog_5_method_6_code
def yX3_dearestHut : MethodName := ⟨RX3, "dearestHut", "(I)I"⟩
abbrev cX3_mayHave : ByteArray := prog_5_method_7_code
def yX3_mayHave : MethodName := ⟨RX3, "mayHave", "(II)Z"⟩
abbrev cX3_cost : ByteArray := prog_5_method_8_code
def yX3_cost : MethodName := ⟨RX3, "cost", "(II)I"⟩
abbrev cX3_isNextTo : ByteArray := prog_5_method_9_code
def yX3_isNextTo : MethodName := ⟨RX3, "isNextTo", "(II)Z"⟩
abbrev cX3_makesRoom : ByteArray := prog_5_method_10_code
def yX3_makesRoom : MethodName := ⟨RX3, "makesRoom", "(II)Z"⟩
abbrev cX3_guest : ByteArray := prog_5_method_11_code
def yX3_guest : MethodName := ⟨RX3, "guest", "(II)I"⟩
abbrev cX3_whoIsIn : ByteArray := prog_5_method_12_code
def yX3_whoIsIn : MethodName := ⟨RX3, "whoIsIn", "(II)I"⟩
abbrev cX3_emptyBeds : ByteArray := prog_5_method_13_code
def yX3_emptyBeds : MethodName := ⟨RX3, "emptyBeds", "(I)I"⟩
def RX4 : String := "CampWeek$Parties"
def TX4 : u_T := fun k => match k with
  | 0 => ("CampWeek$Parties", "sizes", "[I", true)
  | 1 => ("CampWeek$Parties", "children", "[I", true)
  | 2 => ("CampWeek$Parties", "firstWeeks", "[I", true)
  | 3 => ("CampWeek$Parties", "lastWeeks", "[I", true)
  | 4 => ("CampWeek$Parties", "tables", "[I", true)
  | 5 => ("CampWeek$Parties", "hutOf", "[I", true)
  | 6 => ("CampWeek$Parties", "told", "[I", true)
  | _ => ("CampWeek$Parties", "count", "I", false)
def tyX4 : Nat → FieldType := fun k => match k with
  | 0 => .array .int
  | 1 => .array .int
  | 2 => .array .int
  | 3 => .array .int
  | 4 => .array .int
  | 5 => .array .int
  | 6 => .array .int
  | _ => .int
abbrev wsX40 : List Cond := u_ws RX4 TX4 8
theorem nmX4 : ∀ a, a < 8 → ∀ b, b < 8 → a ≠ b → (TX4 a).2.1 ≠ (TX4 b).2.1 := by decide +kernel
theorem tyX4_ok : ∀ k, k < 8 → parseFieldDescriptor (TX4 k).2.2.1 = some (tyX4 k) := by decide +kernel
abbrev cX4_init : ByteArray := prog_6_method_1_code
def yX4_init : MethodName := ⟨RX4, "<init>", "()V"⟩
abbrev cX4_has : ByteArray := prog_6_method_2_code
def yX4_has : MethodName := ⟨RX4, "has", "(I)Z"⟩
abbrev cX4_add : ByteArray := prog_6_method_3_code
def yX4_add : MethodName := ⟨RX4, "add", "(IIIII)I"⟩
abbrev cX4_isLodged : ByteArray := prog_6_method_4_code
def yX4_isLodged : MethodName := ⟨RX4, "isLodged", "(I)Z"⟩
abbrev cX4_isThere : ByteArray := prog_6_method_5_code
def yX4_isThere : MethodName := ⟨RX4, "isThere", "(II)Z"⟩
abbrev cX4_shareWeek : ByteArray := prog_6_method_6_code
def yX4_shareWeek : MethodName := ⟨RX4, "shareWeek", "(II)Z"⟩
abbrev cX4_areTold : ByteArray := prog_6_method_7_code
def yX4_areTold : MethodName := ⟨RX4, "areTold", "(III)Z"⟩
abbrev cX4_setTold : ByteArray := prog_6_method_8_code
def yX4_setTold : MethodName := ⟨RX4, "setTold", "(III)I"⟩
abbrev cX4_giveUpHut : ByteArray := prog_6_method_9_code
def yX4_giveUpHut : MethodName := ⟨RX4, "giveUpHut", "(I)I"⟩
abbrev cX4_fact : ByteArray := prog_6_method_10_code
def yX4_fact : MethodName := ⟨RX4, "fact", "(II)I"⟩
abbrev cX4_lodgedCount : ByteArray := prog_6_method_11_code
def yX4_lodgedCount : MethodName := ⟨RX4, "lodgedCount", "()I"⟩
def RX5 : String := "CampWeek$PaybackLists"
def TX5 : u_T := fun k => match k with
  | 0 => ("CampWeek$PaybackLists", "count", "I", false)
  | 1 => ("CampWeek$PaybackLists", "days", "[I", true)
  | 2 => ("CampWeek$PaybackLists", "notices", "[I", true)
  | _ => ("CampWeek$PaybackLists", "hundredths", "[I", true)
def tyX5 : Nat → FieldType := fun k => match k with
  | 0 => .int
  | 1 => .array .int
  | 2 => .array .int
  | _ => .array .int
abbrev wsX50 : List Cond := u_ws RX5 TX5 4
theorem nmX5 : ∀ a, a < 4 → ∀ b, b < 4 → a ≠ b → (TX5 a).2.1 ≠ (TX5 b).2.1 := by decide +kernel
theorem tyX5_ok : ∀ k, k < 4 → parseFieldDescriptor (TX5 k).2.2.1 = some (tyX5 k) := by decide +kernel
abbrev cX5_init : ByteArray := prog_7_method_1_code
def yX5_init : MethodName := ⟨RX5, "<init>", "()V"⟩
abbrev cX5_add : ByteArray := prog_7_method_2_code
def yX5_add : MethodName := ⟨RX5, "add", "(III)I"⟩
abbrev cX5_paidBack : ByteArray := prog_7_method_3_code
def yX5_paidBack : MethodName := ⟨RX5, "paidBack", "(II)I"⟩
abbrev cX5_latestDay : ByteArray := prog_7_method_4_code
def yX5_latestDay : MethodName := ⟨RX5, "latestDay", "(I)I"⟩
def RX6 : String := "CampWeek$Sheets"
def TX6 : u_T := fun k => match k with
  | 0 => ("CampWeek$Sheets", "latestFinding", "I", false)
  | 1 => ("CampWeek$Sheets", "forms", "[I", true)
  | 2 => ("CampWeek$Sheets", "lengths", "[I", true)
  | _ => ("CampWeek$Sheets", "items", "[I", true)
def tyX6 : Nat → FieldType := fun k => match k with
  | 0 => .int
  | 1 => .array .int
  | 2 => .array .int
  | _ => .array .int
abbrev wsX60 : List Cond := u_ws RX6 TX6 4
theorem nmX6 : ∀ a, a < 4 → ∀ b, b < 4 → a ≠ b → (TX6 a).2.1 ≠ (TX6 b).2.1 := by decide +kernel
theorem tyX6_ok : ∀ k, k < 4 → parseFieldDescriptor (TX6 k).2.2.1 = some (tyX6 k) := by decide +kernel
abbrev cX6_init : ByteArray := prog_8_method_1_code
def yX6_init : MethodName := ⟨RX6, "<init>", "()V"⟩
abbrev cX6_has : ByteArray := prog_8_method_2_code
def yX6_has : MethodName := ⟨RX6, "has", "(I)Z"⟩
abbrev cX6_find : ByteArray := prog_8_method_3_code
def yX6_find : MethodName := ⟨RX6, "find", "(I)I"⟩
abbrev cX6_renew : ByteArray := prog_8_method_4_code
def yX6_renew : MethodName := ⟨RX6, "renew", "(III)I"⟩
abbrev cX6_drop : ByteArray := prog_8_method_5_code
def yX6_drop : MethodName := ⟨RX6, "drop", "(I)I"⟩
abbrev cX6_store : ByteArray := prog_8_method_6_code
def yX6_store : MethodName := ⟨RX6, "store", "(IIII)I"⟩
abbrev cX6_read : ByteArray := prog_8_method_7_code
def yX6_read : MethodName := ⟨RX6, "read", "(III)I"⟩
abbrev cX6_refusal : ByteArray := prog_8_method_8_code
def yX6_refusal : MethodName := ⟨RX6, "refusal", "(III)I"⟩
abbrev cX6_cut : ByteArray := prog_8_method_9_code
def yX6_cut : MethodName := ⟨RX6, "cut", "(II)I"⟩
abbrev cX6_transfer : ByteArray := prog_8_method_10_code
def yX6_transfer : MethodName := ⟨RX6, "transfer", "(IIIII)I"⟩
abbrev cX6_hasItems : ByteArray := prog_8_method_11_code
def yX6_hasItems : MethodName := ⟨RX6, "hasItems", "(III)Z"⟩
abbrev cX6_countsAsWet : ByteArray := prog_8_method_12_code
def yX6_countsAsWet : MethodName := ⟨RX6, "countsAsWet", "(I)Z"⟩
abbrev cX6_isWet : ByteArray := prog_8_method_13_code
def yX6_isWet : MethodName := ⟨RX6, "isWet", "(I)Z"⟩
def RX7 : String := "CampWeek$Shows"
def TX7 : u_T := fun k => match k with
  | 0 => ("CampWeek$Shows", "hours", "[I", true)
  | 1 => ("CampWeek$Shows", "chosen", "[I", true)
  | 2 => ("CampWeek$Shows", "turnedAway", "[I", true)
  | 3 => ("CampWeek$Shows", "count", "I", false)
  | 4 => ("CampWeek$Shows", "halls", "[I", true)
  | 5 => ("CampWeek$Shows", "wetHalls", "[I", true)
  | 6 => ("CampWeek$Shows", "rooms", "[I", true)
  | 7 => ("CampWeek$Shows", "roomLeft", "[I", true)
  | 8 => ("CampWeek$Shows", "wishes", "[I", true)
  | _ => ("CampWeek$Shows", "wishCounts", "[I", true)
def tyX7 : Nat → FieldType := fun k => match k with
  | 0 => .array .int
  | 1 => .array .int
  | 2 => .array .int
  | 3 => .int
  | 4 => .array .int
  | 5 => .array .int
  | 6 => .array .int
  | 7 => .array .int
  | 8 => .array .int
  | _ => .array .int
abbrev wsX70 : List Cond := u_ws RX7 TX7 10
theorem nmX7 : ∀ a, a < 10 → ∀ b, b < 10 → a ≠ b → (TX7 a).2.1 ≠ (TX7 b).2.1 := by decide +kernel
theorem tyX7_ok : ∀ k, k < 10 → parseFieldDescriptor (TX7 k).2.2.1 = some (tyX7 k) := by decide +kernel
abbrev cX7_init : ByteArray := prog_9_method_1_code
def yX7_init : MethodName := ⟨RX7, "<init>", "()V"⟩
abbrev cX7_has : ByteArray := prog_9_method_2_code
def yX7_has : MethodName := ⟨RX7, "has", "(I)Z"⟩
abbrev cX7_setRoom : ByteArray := prog_9_method_3_code
def yX7_setRoom : MethodName := ⟨RX7, "setRoom", "(II)I"⟩
abbrev cX7_add : ByteArray := prog_9_method_4_code
def yX7_add : MethodName := ⟨RX7, "add", "(III)I"⟩
abbrev cX7_addWish : ByteArray := prog_9_method_5_code
def yX7_addWish : MethodName := ⟨RX7, "addWish", "(II)I"⟩
abbrev cX7_isWished : ByteArray := prog_9_method_6_code
def yX7_isWished : MethodName := ⟨RX7, "isWished", "(II)Z"⟩
abbrev cX7_place : ByteArray := prog_9_method_7_code
def yX7_place : MethodName := ⟨RX7, "place", "(IZ)I"⟩
abbrev cX7_send : ByteArray := prog_9_method_8_code
def yX7_send : MethodName := ⟨RX7, "send", "(LCampWeek$Parties;IIZ)V"⟩
abbrev cX7_sendParty : ByteArray := prog_9_method_9_code
def yX7_sendParty : MethodName := ⟨RX7, "sendParty", "(IIIZ)V"⟩
abbrev cX7_peopleIn : ByteArray := prog_9_method_10_code
def yX7_peopleIn : MethodName := ⟨RX7, "peopleIn", "(ILCampWeek$Parties;)I"⟩
def RX8 : String := "CampWeek$Sittings"
def TX8 : u_T := fun k => match k with
  | 0 => ("CampWeek$Sittings", "firstSeats", "I", false)
  | 1 => ("CampWeek$Sittings", "secondSeats", "I", false)
  | 2 => ("CampWeek$Sittings", "difference", "I", false)
  | 3 => ("CampWeek$Sittings", "benches", "I", false)
  | 4 => ("CampWeek$Sittings", "people", "I", false)
  | 5 => ("CampWeek$Sittings", "benchOf", "[I", true)
  | 6 => ("CampWeek$Sittings", "benchOfTable", "[I", true)
  | 7 => ("CampWeek$Sittings", "benchSize", "[I", true)
  | 8 => ("CampWeek$Sittings", "benchSitting", "[I", true)
  | _ => ("CampWeek$Sittings", "madeFrom", "[I", true)
def tyX8 : Nat → FieldType := fun k => match k with
  | 0 => .int
  | 1 => .int
  | 2 => .int
  | 3 => .int
  | 4 => .int
  | 5 => .array .int
  | 6 => .array .int
  | 7 => .array .int
  | 8 => .array .int
  | _ => .array .int
abbrev wsX80 : List Cond := u_ws RX8 TX8 10
theorem nmX8 : ∀ a, a < 10 → ∀ b, b < 10 → a ≠ b → (TX8 a).2.1 ≠ (TX8 b).2.1 := by decide +kernel
theorem tyX8_ok : ∀ k, k < 10 → parseFieldDescriptor (TX8 k).2.2.1 = some (tyX8 k) := by decide +kernel
abbrev cX8_init : ByteArray := prog_10_method_1_code
def yX8_init : MethodName := ⟨RX8, "<init>", "()V"⟩
abbrev cX8_setSeats : ByteArray := prog_10_method_2_code
def yX8_setSeats : MethodName := ⟨RX8, "setSeats", "(II)I"⟩
abbrev cX8_arrange : ByteArray := prog_10_method_3_code
def yX8_arrange : MethodName := ⟨RX8, "arrange", "(LCampWeek$Parties;I)V"⟩
abbrev cX8_fillBenches : ByteArray := prog_10_method_4_code
def yX8_fillBenches : MethodName := ⟨RX8, "fillBenches", "(LCampWeek$Parties;I)V"⟩
abbrev cX8_benchFor : ByteArray := prog_10_method_5_code
def yX8_benchFor : MethodName := ⟨RX8, "benchFor", "(I)I"⟩
abbrev cX8_findNumbers : ByteArray := prog_10_method_6_code
def yX8_findNumbers : MethodName := ⟨RX8, "findNumbers", "()V"⟩
abbrev cX8_findDifference : ByteArray := prog_10_method_7_code
def yX8_findDifference : MethodName := ⟨RX8, "findDifference", "()V"⟩
abbrev cX8_isWay : ByteArray := prog_10_method_8_code
def yX8_isWay : MethodName := ⟨RX8, "isWay", "(I)Z"⟩
abbrev cX8_partBenches : ByteArray := prog_10_method_9_code
def yX8_partBenches : MethodName := ⟨RX8, "partBenches", "()V"⟩
abbrev cX8_leadsToBest : ByteArray := prog_10_method_10_code
def yX8_leadsToBest : MethodName := ⟨RX8, "leadsToBest", "(II)Z"⟩
abbrev cX8_canBecome : ByteArray := prog_10_method_11_code
def yX8_canBecome : MethodName := ⟨RX8, "canBecome", "(III)Z"⟩
abbrev cX8_sittingOf : ByteArray := prog_10_method_12_code
def yX8_sittingOf : MethodName := ⟨RX8, "sittingOf", "(I)I"⟩
abbrev cX8_dinners : ByteArray := prog_10_method_13_code
def yX8_dinners : MethodName := ⟨RX8, "dinners", "(LCampWeek$Parties;I)I"⟩
def RX9 : String := "CampWeek"
def TX9 : u_T := fun k => match k with
  | 0 => ("CampWeek", "lodgings", "LCampWeek$Lodgings;", true)
  | 1 => ("CampWeek", "sittings", "LCampWeek$Sittings;", true)
  | 2 => ("CampWeek", "kitchen", "LCampWeek$Kitchen;", true)
  | 3 => ("CampWeek", "shows", "LCampWeek$Shows;", true)
  | 4 => ("CampWeek", "groups", "LCampWeek$Groups;", true)
  | 5 => ("CampWeek", "paybacks", "LCampWeek$PaybackLists;", true)
  | _ => ("CampWeek", "sheets", "LCampWeek$Sheets;", true)
def tyX9 : Nat → FieldType := fun k => match k with
  | 0 => .object "CampWeek$Lodgings"
  | 1 => .object "CampWeek$Sittings"
  | 2 => .object "CampWeek$Kitchen"
  | 3 => .object "CampWeek$Shows"
  | 4 => .object "CampWeek$Groups"
  | 5 => .object "CampWeek$PaybackLists"
  | _ => .object "CampWeek$Sheets"
abbrev wsX90 : List Cond := u_ws RX9 TX9 7
theorem nmX9 : ∀ a, a < 7 → ∀ b, b < 7 → a ≠ b → (TX9 a).2.1 ≠ (TX9 b).2.1 := by decide +kernel
theorem tyX9_ok : ∀ k, k < 7 → parseFieldDescriptor (TX9 k).2.2.1 = some (tyX9 k) := by decide +kernel
abbrev cX9_init : ByteArray := prog_1_method_1_code
def yX9_init : MethodName := ⟨RX9, "<init>", "()V"⟩
abbrev cX9_hut : ByteArray := prog_1_method_2_code
def yX9_hut : MethodName := ⟨RX9, "hut", "(II)I"⟩
abbrev cX9_party : ByteArray := prog_1_method_3_code
def yX9_party : MethodName := ⟨RX9, "party", "(IIIII)I"⟩
abbrev cX9_tell : ByteArray := prog_1_method_4_code
def yX9_tell : MethodName := ⟨RX9, "tell", "(III)I"⟩
abbrev cX9_lodge : ByteArray := prog_1_method_5_code
def yX9_lodge : MethodName := ⟨RX9, "lodge", "(I)I"⟩
abbrev cX9_moved : ByteArray := prog_1_method_6_code
def yX9_moved : MethodName := ⟨RX9, "moved", "()I"⟩
abbrev cX9_leave : ByteArray := prog_1_method_7_code
def yX9_leave : MethodName := ⟨RX9, "leave", "(I)I"⟩
abbrev cX9_about : ByteArray := prog_1_method_8_code
def yX9_about : MethodName := ⟨RX9, "about", "(II)I"⟩
abbrev cX9_in : ByteArray := prog_1_method_9_code
def yX9_in : MethodName := ⟨RX9, "in", "(II)I"⟩
abbrev cX9_empty : ByteArray := prog_1_method_10_code
def yX9_empty : MethodName := ⟨RX9, "empty", "(I)I"⟩
abbrev cX9_seats : ByteArray := prog_1_method_11_code
def yX9_seats : MethodName := ⟨RX9, "seats", "(II)I"⟩
abbrev cX9_apart : ByteArray := prog_1_method_12_code
def yX9_apart : MethodName := ⟨RX9, "apart", "(I)I"⟩
abbrev cX9_sits : ByteArray := prog_1_method_13_code
def yX9_sits : MethodName := ⟨RX9, "sits", "(II)I"⟩
abbrev cX9_more : ByteArray := prog_1_method_14_code
def yX9_more : MethodName := ⟨RX9, "more", "(I)I"⟩
abbrev cX9_foretell : ByteArray := prog_1_method_15_code
def yX9_foretell : MethodName := ⟨RX9, "foretell", "(II)I"⟩
abbrev cX9_cook : ByteArray := prog_1_method_16_code
def yX9_cook : MethodName := ⟨RX9, "cook", "(III)I"⟩
abbrev cX9_line : ByteArray := prog_1_method_17_code
def yX9_line : MethodName := ⟨RX9, "line", "(II)I"⟩
abbrev cX9_hall : ByteArray := prog_1_method_18_code
def yX9_hall : MethodName := ⟨RX9, "hall", "(II)I"⟩
abbrev cX9_show : ByteArray := prog_1_method_19_code
def yX9_show : MethodName := ⟨RX9, "show", "(III)I"⟩
abbrev cX9_wish : ByteArray := prog_1_method_20_code
def yX9_wish : MethodName := ⟨RX9, "wish", "(II)I"⟩
abbrev cX9_wet : ByteArray := prog_1_method_21_code
def yX9_wet : MethodName := ⟨RX9, "wet", "(I)I"⟩
abbrev cX9_where : ByteArray := prog_1_method_22_code
def yX9_where : MethodName := ⟨RX9, "where", "(I)I"⟩
abbrev cX9_goes : ByteArray := prog_1_method_23_code
def yX9_goes : MethodName := ⟨RX9, "goes", "(III)I"⟩
abbrev cX9_turned : ByteArray := prog_1_method_24_code
def yX9_turned : MethodName := ⟨RX9, "turned", "(III)I"⟩
abbrev cX9_crowd : ByteArray := prog_1_method_25_code
def yX9_crowd : MethodName := ⟨RX9, "crowd", "(II)I"⟩
abbrev cX9_group : ByteArray := prog_1_method_26_code
def yX9_group : MethodName := ⟨RX9, "group", "(IIII)I"⟩
abbrev cX9_child : ByteArray := prog_1_method_27_code
def yX9_child : MethodName := ⟨RX9, "child", "(II)I"⟩
abbrev cX9_hand : ByteArray := prog_1_method_28_code
def yX9_hand : MethodName := ⟨RX9, "hand", "(I)I"⟩
abbrev cX9_fetch : ByteArray := prog_1_method_29_code
def yX9_fetch : MethodName := ⟨RX9, "fetch", "(II)I"⟩
abbrev cX9_with : ByteArray := prog_1_method_30_code
def yX9_with : MethodName := ⟨RX9, "with", "(I)I"⟩
abbrev cX9_list : ByteArray := prog_1_method_31_code
def yX9_list : MethodName := ⟨RX9, "list", "(III)I"⟩
abbrev cX9_pays : ByteArray := prog_1_method_32_code
def yX9_pays : MethodName := ⟨RX9, "pays", "(II)I"⟩
abbrev cX9_sheet : ByteArray := prog_1_method_33_code
def yX9_sheet : MethodName := ⟨RX9, "sheet", "(III)I"⟩
abbrev cX9_lose : ByteArray := prog_1_method_34_code
def yX9_lose : MethodName := ⟨RX9, "lose", "(I)I"⟩
abbrev cX9_put : ByteArray := prog_1_method_35_code
def yX9_put : MethodName := ⟨RX9, "put", "(IIII)I"⟩
abbrev cX9_get : ByteArray := prog_1_method_36_code
def yX9_get : MethodName := ⟨RX9, "get", "(III)I"⟩
abbrev cX9_copy : ByteArray := prog_1_method_37_code
def yX9_copy : MethodName := ⟨RX9, "copy", "(IIIII)I"⟩
abbrev cX9_count : ByteArray := prog_1_method_38_code
def yX9_count : MethodName := ⟨RX9, "count", "(I)I"⟩
abbrev cX9_digest : ByteArray := prog_1_method_39_code
def yX9_digest : MethodName := ⟨RX9, "digest", "()J"⟩
abbrev cX9_within : ByteArray := prog_1_method_40_code
def yX9_within : MethodName := ⟨RX9, "within", "(III)Z"⟩
abbrev cX9_isWeek : ByteArray := prog_1_method_41_code
def yX9_isWeek : MethodName := ⟨RX9, "isWeek", "(I)Z"⟩
abbrev cX9_isHour : ByteArray := prog_1_method_42_code
def yX9_isHour : MethodName := ⟨RX9, "isHour", "(I)Z"⟩
def RX10 : String := "CampWeekModel"
def TX10 : u_T := fun k => match k with
  | 0 => ("CampWeekModel", "huts", "I", false)
  | 1 => ("CampWeekModel", "row", "[I", true)
  | 2 => ("CampWeekModel", "beds", "[I", true)
  | 3 => ("CampWeekModel", "parties", "I", false)
  | 4 => ("CampWeekModel", "size", "[I", true)
  | 5 => ("CampWeekModel", "young", "[I", true)
  | 6 => ("CampWeekModel", "first", "[I", true)
  | 7 => ("CampWeekModel", "last", "[I", true)
  | 8 => ("CampWeekModel", "table", "[I", true)
  | 9 => ("CampWeekModel", "hut", "[I", true)
  | 10 => ("CampWeekModel", "pair", "[I", true)
  | 11 => ("CampWeekModel", "moved", "I", false)
  | 12 => ("CampWeekModel", "seats", "[I", true)
  | 13 => ("CampWeekModel", "units", "I", false)
  | 14 => ("CampWeekModel", "unitOf", "[I", true)
  | 15 => ("CampWeekModel", "people", "[I", true)
  | 16 => ("CampWeekModel", "can", "[Z", true)
  | 17 => ("CampWeekModel", "sitting", "[I", true)
  | 18 => ("CampWeekModel", "part", "I", false)
  | 19 => ("CampWeekModel", "lines", "I", false)
  | 20 => ("CampWeekModel", "book", "[I", true)
  | 21 => ("CampWeekModel", "hallRoom", "[I", true)
  | 22 => ("CampWeekModel", "shows", "I", false)
  | 23 => ("CampWeekModel", "showHall", "[I", true)
  | 24 => ("CampWeekModel", "showHour", "[I", true)
  | 25 => ("CampWeekModel", "showWet", "[I", true)
  | 26 => ("CampWeekModel", "wishes", "[I", true)
  | 27 => ("CampWeekModel", "wish", "[I", true)
  | 28 => ("CampWeekModel", "left", "[I", true)
  | 29 => ("CampWeekModel", "going", "[I", true)
  | 30 => ("CampWeekModel", "away", "[I", true)
  | 31 => ("CampWeekModel", "ageFrom", "[I", true)
  | 32 => ("CampWeekModel", "ageTo", "[I", true)
  | 33 => ("CampWeekModel", "most", "[I", true)
  | 34 => ("CampWeekModel", "children", "I", false)
  | 35 => ("CampWeekModel", "parent", "[I", true)
  | 36 => ("CampWeekModel", "age", "[I", true)
  | 37 => ("CampWeekModel", "inGroup", "[I", true)
  | 38 => ("CampWeekModel", "lists", "I", false)
  | 39 => ("CampWeekModel", "listDay", "[I", true)
  | 40 => ("CampWeekModel", "listNotice", "[I", true)
  | 41 => ("CampWeekModel", "listPays", "[I", true)
  | 42 => ("CampWeekModel", "forms", "[I", true)
  | 43 => ("CampWeekModel", "sizes", "[I", true)
  | 44 => ("CampWeekModel", "items", "[I", true)
  | 45 => ("CampWeekModel", "copied", "[I", true)
  | _ => ("CampWeekModel", "latest", "I", false)
def tyX10 : Nat → FieldType := fun k => match k with
  | 0 => .int
  | 1 => .array .int
  | 2 => .array .int
  | 3 => .int
  | 4 => .array .int
  | 5 => .array .int
  | 6 => .array .int
  | 7 => .array .int
  | 8 => .array .int
  | 9 => .array .int
  | 10 => .array .int
  | 11 => .int
  | 12 => .array .int
  | 13 => .int
  | 14 => .array .int
  | 15 => .array .int
  | 16 => .array .boolean
  | 17 => .array .int
  | 18 => .int
  | 19 => .int
  | 20 => .array .int
  | 21 => .array .int
  | 22 => .int
  | 23 => .array .int
  | 24 => .array .int
  | 25 => .array .int
  | 26 => .array .int
  | 27 => .array .int
  | 28 => .array .int
  | 29 => .array .int
  | 30 => .array .int
  | 31 => .array .int
  | 32 => .array .int
  | 33 => .array .int
  | 34 => .int
  | 35 => .array .int
  | 36 => .array .int
  | 37 => .array .int
  | 38 => .int
  | 39 => .array .int
  | 40 => .array .int
  | 41 => .array .int
  | 42 => .array .int
  | 43 => .array .int
  | 44 => .array .int
  | 45 => .array .int
  | _ => .int
abbrev wsX100 : List Cond := u_ws RX10 TX10 47
theorem nmX10 : ∀ a, a < 47 → ∀ b, b < 47 → a ≠ b → (TX10 a).2.1 ≠ (TX10 b).2.1 := by decide +kernel
theorem tyX10_ok : ∀ k, k < 47 → parseFieldDescriptor (TX10 k).2.2.1 = some (tyX10 k) := by decide +kernel
abbrev cX10_init : ByteArray := prog_12_method_1_code
def yX10_init : MethodName := ⟨RX10, "<init>", "()V"⟩
abbrev cX10_within : ByteArray := prog_12_method_3_code
def yX10_within : MethodName := ⟨RX10, "within", "(JJJ)Z"⟩
abbrev cX10_isHut : ByteArray := prog_12_method_4_code
def yX10_isHut : MethodName := ⟨RX10, "isHut", "(I)Z"⟩
abbrev cX10_isParty : ByteArray := prog_12_method_5_code
def yX10_isParty : MethodName := ⟨RX10, "isParty", "(I)Z"⟩
abbrev cX10_isWeek : ByteArray := prog_12_method_6_code
def yX10_isWeek : MethodName := ⟨RX10, "isWeek", "(I)Z"⟩
abbrev cX10_hut : ByteArray := prog_12_method_7_code
def yX10_hut : MethodName := ⟨RX10, "hut", "(II)I"⟩
abbrev cX10_party : ByteArray := prog_12_method_8_code
def yX10_party : MethodName := ⟨RX10, "party", "(IIIII)I"⟩
abbrev cX10_meet : ByteArray := prog_12_method_9_code
def yX10_meet : MethodName := ⟨RX10, "meet", "(II)Z"⟩
abbrev cX10_tell : ByteArray := prog_12_method_10_code
def yX10_tell : MethodName := ⟨RX10, "tell", "(III)I"⟩
abbrev cX10_isFree : ByteArray := prog_12_method_11_code
def yX10_isFree : MethodName := ⟨RX10, "isFree", "(II)Z"⟩
abbrev cX10_hasTold : ByteArray := prog_12_method_12_code
def yX10_hasTold : MethodName := ⟨RX10, "hasTold", "(III)Z"⟩
abbrev cX10_mayLodge : ByteArray := prog_12_method_13_code
def yX10_mayLodge : MethodName := ⟨RX10, "mayLodge", "(II)Z"⟩
abbrev cX10_dearest : ByteArray := prog_12_method_14_code
def yX10_dearest : MethodName := ⟨RX10, "dearest", "(II)I"⟩
abbrev cX10_lodge : ByteArray := prog_12_method_15_code
def yX10_lodge : MethodName := ⟨RX10, "lodge", "(I)I"⟩
abbrev cX10_moved : ByteArray := prog_12_method_16_code
def yX10_moved : MethodName := ⟨RX10, "moved", "()I"⟩
abbrev cX10_leave : ByteArray := prog_12_method_17_code
def yX10_leave : MethodName := ⟨RX10, "leave", "(I)I"⟩
abbrev cX10_about : ByteArray := prog_12_method_18_code
def yX10_about : MethodName := ⟨RX10, "about", "(II)I"⟩
abbrev cX10_isThere : ByteArray := prog_12_method_19_code
def yX10_isThere : MethodName := ⟨RX10, "isThere", "(II)Z"⟩
abbrev cX10_who : ByteArray := prog_12_method_20_code
def yX10_who : MethodName := ⟨RX10, "who", "(II)I"⟩
abbrev cX10_in : ByteArray := prog_12_method_21_code
def yX10_in : MethodName := ⟨RX10, "in", "(II)I"⟩
abbrev cX10_empty : ByteArray := prog_12_method_22_code
def yX10_empty : MethodName := ⟨RX10, "empty", "(I)I"⟩
abbrev cX10_seats : ByteArray := prog_12_method_23_code
def yX10_seats : MethodName := ⟨RX10, "seats", "(II)I"⟩
abbrev cX10_findUnits : ByteArray := prog_12_method_24_code
def yX10_findUnits : MethodName := ⟨RX10, "findUnits", "(I)V"⟩
abbrev cX10_findSittings : ByteArray := prog_12_method_25_code
def yX10_findSittings : MethodName := ⟨RX10, "findSittings", "(I)I"⟩
abbrev cX10_apart : ByteArray := prog_12_method_26_code
def yX10_apart : MethodName := ⟨RX10, "apart", "(I)I"⟩
abbrev cX10_sits : ByteArray := prog_12_method_27_code
def yX10_sits : MethodName := ⟨RX10, "sits", "(II)I"⟩
abbrev cX10_more : ByteArray := prog_12_method_28_code
def yX10_more : MethodName := ⟨RX10, "more", "(I)I"⟩
abbrev cX10_dinners : ByteArray := prog_12_method_29_code
def yX10_dinners : MethodName := ⟨RX10, "dinners", "(II)I"⟩
abbrev cX10_foretell : ByteArray := prog_12_method_30_code
def yX10_foretell : MethodName := ⟨RX10, "foretell", "(II)I"⟩
abbrev cX10_cook : ByteArray := prog_12_method_31_code
def yX10_cook : MethodName := ⟨RX10, "cook", "(III)I"⟩
abbrev cX10_line : ByteArray := prog_12_method_32_code
def yX10_line : MethodName := ⟨RX10, "line", "(II)I"⟩
abbrev cX10_hall : ByteArray := prog_12_method_33_code
def yX10_hall : MethodName := ⟨RX10, "hall", "(II)I"⟩
abbrev cX10_show : ByteArray := prog_12_method_34_code
def yX10_show : MethodName := ⟨RX10, "show", "(III)I"⟩
abbrev cX10_wish : ByteArray := prog_12_method_35_code
def yX10_wish : MethodName := ⟨RX10, "wish", "(II)I"⟩
abbrev cX10_isWet : ByteArray := prog_12_method_36_code
def yX10_isWet : MethodName := ⟨RX10, "isWet", "(I)Z"⟩
abbrev cX10_wet : ByteArray := prog_12_method_37_code
def yX10_wet : MethodName := ⟨RX10, "wet", "(I)I"⟩
abbrev cX10_placeOf : ByteArray := prog_12_method_38_code
def yX10_placeOf : MethodName := ⟨RX10, "placeOf", "(I)I"⟩
abbrev cX10_where : ByteArray := prog_12_method_39_code
def yX10_where : MethodName := ⟨RX10, "where", "(I)I"⟩
abbrev cX10_findCrowds : ByteArray := prog_12_method_40_code
def yX10_findCrowds : MethodName := ⟨RX10, "findCrowds", "(II)V"⟩
abbrev cX10_goes : ByteArray := prog_12_method_41_code
def yX10_goes : MethodName := ⟨RX10, "goes", "(III)I"⟩
abbrev cX10_turned : ByteArray := prog_12_method_42_code
def yX10_turned : MethodName := ⟨RX10, "turned", "(III)I"⟩
abbrev cX10_crowd : ByteArray := prog_12_method_43_code
def yX10_crowd : MethodName := ⟨RX10, "crowd", "(II)I"⟩
abbrev cX10_manyIn : ByteArray := prog_12_method_44_code
def yX10_manyIn : MethodName := ⟨RX10, "manyIn", "(I)I"⟩
abbrev cX10_group : ByteArray := prog_12_method_45_code
def yX10_group : MethodName := ⟨RX10, "group", "(IIII)I"⟩
abbrev cX10_isChild : ByteArray := prog_12_method_46_code
def yX10_isChild : MethodName := ⟨RX10, "isChild", "(I)Z"⟩
abbrev cX10_child : ByteArray := prog_12_method_47_code
def yX10_child : MethodName := ⟨RX10, "child", "(II)I"⟩
abbrev cX10_hand : ByteArray := prog_12_method_48_code
def yX10_hand : MethodName := ⟨RX10, "hand", "(I)I"⟩
abbrev cX10_fetch : ByteArray := prog_12_method_49_code
def yX10_fetch : MethodName := ⟨RX10, "fetch", "(II)I"⟩
abbrev cX10_with : ByteArray := prog_12_method_50_code
def yX10_with : MethodName := ⟨RX10, "with", "(I)I"⟩
abbrev cX10_list : ByteArray := prog_12_method_51_code
def yX10_list : MethodName := ⟨RX10, "list", "(III)I"⟩
abbrev cX10_pays : ByteArray := prog_12_method_52_code
def yX10_pays : MethodName := ⟨RX10, "pays", "(II)I"⟩
abbrev cX10_met : ByteArray := prog_12_method_53_code
def yX10_met : MethodName := ⟨RX10, "met", "(I)I"⟩
abbrev cX10_isSheet : ByteArray := prog_12_method_54_code
def yX10_isSheet : MethodName := ⟨RX10, "isSheet", "(I)Z"⟩
abbrev cX10_sheet : ByteArray := prog_12_method_55_code
def yX10_sheet : MethodName := ⟨RX10, "sheet", "(III)I"⟩
abbrev cX10_lose : ByteArray := prog_12_method_56_code
def yX10_lose : MethodName := ⟨RX10, "lose", "(I)I"⟩
abbrev cX10_lacks : ByteArray := prog_12_method_57_code
def yX10_lacks : MethodName := ⟨RX10, "lacks", "(III)I"⟩
abbrev cX10_put : ByteArray := prog_12_method_58_code
def yX10_put : MethodName := ⟨RX10, "put", "(IIII)I"⟩
abbrev cX10_get : ByteArray := prog_12_method_59_code
def yX10_get : MethodName := ⟨RX10, "get", "(III)I"⟩
abbrev cX10_copy : ByteArray := prog_12_method_60_code
def yX10_copy : MethodName := ⟨RX10, "copy", "(IIIII)I"⟩
abbrev cX10_count : ByteArray := prog_12_method_61_code
def yX10_count : MethodName := ⟨RX10, "count", "(I)I"⟩
abbrev cX10_digest : ByteArray := prog_12_method_62_code
def yX10_digest : MethodName := ⟨RX10, "digest", "()J"⟩
def RJ9 : String := "java/lang/Math"
abbrev cJ9_abs_0f7a4 : ByteArray := prog_13_method_59_code
def yJ9_abs_0f7a4 : MethodName := ⟨RJ9, "abs", "(I)I"⟩
abbrev cJ9_max_7cf53 : ByteArray := prog_13_method_65_code
def yJ9_max_7cf53 : MethodName := ⟨RJ9, "max", "(II)I"⟩
def RJ10 : String := "java/lang/System"
def RJ7 : String := "java/util/Arrays"
abbrev cJ7_rangeCheck_23922 : ByteArray := prog_15_method_30_code
def yJ7_rangeCheck_23922 : MethodName := ⟨RJ7, "rangeCheck", "(III)V"⟩
abbrev cJ7_fill_53178 : ByteArray := prog_15_method_103_code
def yJ7_fill_53178 : MethodName := ⟨RJ7, "fill", "([II)V"⟩
abbrev cJ7_fill_fda19 : ByteArray := prog_15_method_104_code
def yJ7_fill_fda19 : MethodName := ⟨RJ7, "fill", "([IIII)V"⟩
def RL : String := "CampWeekLaw"
abbrev cL_law : ByteArray := code
def yL_law : MethodName := ⟨RL, "law", "([I)Z"⟩
abbrev vwCl : List vw_C := [(RX0, TX0, 7), (RX1, TX1, 3), (RX2, TX2, 3), (RX3, TX3, 3), (RX4, TX4, 8), (RX5, TX5, 4), (RX6, TX6, 4), (RX7, TX7, 10), (RX8, TX8, 10), (RX9, TX9, 7), (RX10, TX10, 47)]
