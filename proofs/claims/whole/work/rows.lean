section
-- ===== PART A: goes FIRST, ahead of the names: the tables' words, and 'selects' of the private methods out of them =====
/-- a private method of a class that the tables say can be made, by its rows of tables_1 -/
def lw_okq (q : MethodName × Nat) : Prop := (q.1.cls ≠ "java/lang/invoke/MethodHandle" ∧ q.1.cls ≠ "java/lang/invoke/VarHandle") ∧ Cond.instantiable q.1.cls q.2 ∈ tables_1 ∧ Cond.privateMethod q.1 ∈ tables_1 ∧ Cond.instanceMethod q.1 ∈ tables_1
theorem lw_p0 : lw_okq (⟨"CampWeek$Lodgings", "liveInOneRow", "(II)Z"⟩, 3) := ⟨⟨by decide +kernel, by decide +kernel⟩, List.mem_of_getElem? (i := 24) (by decide +kernel), List.mem_of_getElem? (i := 337) (by decide +kernel), List.mem_of_getElem? (i := 338) (by decide +kernel)⟩
theorem lw_p1 : lw_okq (⟨"CampWeek$Lodgings", "isInRow", "(II)Z"⟩, 3) := ⟨⟨by decide +kernel, by decide +kernel⟩, List.mem_of_getElem? (i := 24) (by decide +kernel), List.mem_of_getElem? (i := 345) (by decide +kernel), List.mem_of_getElem? (i := 346) (by decide +kernel)⟩
theorem lw_p2 : lw_okq (⟨"CampWeek$Lodgings", "dearestHut", "(I)I"⟩, 3) := ⟨⟨by decide +kernel, by decide +kernel⟩, List.mem_of_getElem? (i := 24) (by decide +kernel), List.mem_of_getElem? (i := 365) (by decide +kernel), List.mem_of_getElem? (i := 366) (by decide +kernel)⟩
theorem lw_p3 : lw_okq (⟨"CampWeek$Lodgings", "mayHave", "(II)Z"⟩, 3) := ⟨⟨by decide +kernel, by decide +kernel⟩, List.mem_of_getElem? (i := 24) (by decide +kernel), List.mem_of_getElem? (i := 369) (by decide +kernel), List.mem_of_getElem? (i := 370) (by decide +kernel)⟩
theorem lw_p4 : lw_okq (⟨"CampWeek$Lodgings", "cost", "(II)I"⟩, 3) := ⟨⟨by decide +kernel, by decide +kernel⟩, List.mem_of_getElem? (i := 24) (by decide +kernel), List.mem_of_getElem? (i := 377) (by decide +kernel), List.mem_of_getElem? (i := 378) (by decide +kernel)⟩
theorem lw_p5 : lw_okq (⟨"CampWeek$Lodgings", "isNextTo", "(II)Z"⟩, 3) := ⟨⟨by decide +kernel, by decide +kernel⟩, List.mem_of_getElem? (i := 24) (by decide +kernel), List.mem_of_getElem? (i := 381) (by decide +kernel), List.mem_of_getElem? (i := 382) (by decide +kernel)⟩
theorem lw_p6 : lw_okq (⟨"CampWeek$Lodgings", "makesRoom", "(II)Z"⟩, 3) := ⟨⟨by decide +kernel, by decide +kernel⟩, List.mem_of_getElem? (i := 24) (by decide +kernel), List.mem_of_getElem? (i := 385) (by decide +kernel), List.mem_of_getElem? (i := 386) (by decide +kernel)⟩
theorem lw_p7 : lw_okq (⟨"CampWeek$Lodgings", "whoIsIn", "(II)I"⟩, 3) := ⟨⟨by decide +kernel, by decide +kernel⟩, List.mem_of_getElem? (i := 24) (by decide +kernel), List.mem_of_getElem? (i := 424) (by decide +kernel), List.mem_of_getElem? (i := 425) (by decide +kernel)⟩
theorem lw_p8 : lw_okq (⟨"CampWeek$Sittings", "fillBenches", "(LCampWeek$Parties;I)V"⟩, 10) := ⟨⟨by decide +kernel, by decide +kernel⟩, List.mem_of_getElem? (i := 110) (by decide +kernel), List.mem_of_getElem? (i := 458) (by decide +kernel), List.mem_of_getElem? (i := 459) (by decide +kernel)⟩
theorem lw_p9 : lw_okq (⟨"CampWeek$Sittings", "benchFor", "(I)I"⟩, 10) := ⟨⟨by decide +kernel, by decide +kernel⟩, List.mem_of_getElem? (i := 110) (by decide +kernel), List.mem_of_getElem? (i := 464) (by decide +kernel), List.mem_of_getElem? (i := 465) (by decide +kernel)⟩
theorem lw_p10 : lw_okq (⟨"CampWeek$Sittings", "findNumbers", "()V"⟩, 10) := ⟨⟨by decide +kernel, by decide +kernel⟩, List.mem_of_getElem? (i := 110) (by decide +kernel), List.mem_of_getElem? (i := 468) (by decide +kernel), List.mem_of_getElem? (i := 469) (by decide +kernel)⟩
theorem lw_p11 : lw_okq (⟨"CampWeek$Sittings", "findDifference", "()V"⟩, 10) := ⟨⟨by decide +kernel, by decide +kernel⟩, List.mem_of_getElem? (i := 110) (by decide +kernel), List.mem_of_getElem? (i := 472) (by decide +kernel), List.mem_of_getElem? (i := 473) (by decide +kernel)⟩
theorem lw_p12 : lw_okq (⟨"CampWeek$Sittings", "isWay", "(I)Z"⟩, 10) := ⟨⟨by decide +kernel, by decide +kernel⟩, List.mem_of_getElem? (i := 110) (by decide +kernel), List.mem_of_getElem? (i := 479) (by decide +kernel), List.mem_of_getElem? (i := 480) (by decide +kernel)⟩
theorem lw_p13 : lw_okq (⟨"CampWeek$Sittings", "partBenches", "()V"⟩, 10) := ⟨⟨by decide +kernel, by decide +kernel⟩, List.mem_of_getElem? (i := 110) (by decide +kernel), List.mem_of_getElem? (i := 483) (by decide +kernel), List.mem_of_getElem? (i := 484) (by decide +kernel)⟩
theorem lw_p14 : lw_okq (⟨"CampWeek$Sittings", "leadsToBest", "(II)Z"⟩, 10) := ⟨⟨by decide +kernel, by decide +kernel⟩, List.mem_of_getElem? (i := 110) (by decide +kernel), List.mem_of_getElem? (i := 487) (by decide +kernel), List.mem_of_getElem? (i := 488) (by decide +kernel)⟩
theorem lw_p15 : lw_okq (⟨"CampWeek$Sittings", "canBecome", "(III)Z"⟩, 10) := ⟨⟨by decide +kernel, by decide +kernel⟩, List.mem_of_getElem? (i := 110) (by decide +kernel), List.mem_of_getElem? (i := 491) (by decide +kernel), List.mem_of_getElem? (i := 492) (by decide +kernel)⟩
def lw_privs_1 : List (MethodName × Nat) := [(⟨"CampWeek$Lodgings", "liveInOneRow", "(II)Z"⟩, 3), (⟨"CampWeek$Lodgings", "isInRow", "(II)Z"⟩, 3), (⟨"CampWeek$Lodgings", "dearestHut", "(I)I"⟩, 3), (⟨"CampWeek$Lodgings", "mayHave", "(II)Z"⟩, 3), (⟨"CampWeek$Lodgings", "cost", "(II)I"⟩, 3), (⟨"CampWeek$Lodgings", "isNextTo", "(II)Z"⟩, 3), (⟨"CampWeek$Lodgings", "makesRoom", "(II)Z"⟩, 3), (⟨"CampWeek$Lodgings", "whoIsIn", "(II)I"⟩, 3), (⟨"CampWeek$Sittings", "fillBenches", "(LCampWeek$Parties;I)V"⟩, 10), (⟨"CampWeek$Sittings", "benchFor", "(I)I"⟩, 10), (⟨"CampWeek$Sittings", "findNumbers", "()V"⟩, 10), (⟨"CampWeek$Sittings", "findDifference", "()V"⟩, 10), (⟨"CampWeek$Sittings", "isWay", "(I)Z"⟩, 10), (⟨"CampWeek$Sittings", "partBenches", "()V"⟩, 10), (⟨"CampWeek$Sittings", "leadsToBest", "(II)Z"⟩, 10), (⟨"CampWeek$Sittings", "canBecome", "(III)Z"⟩, 10)]
theorem lw_r1 : ∀ q ∈ lw_privs_1, lw_okq q := List.forall_mem_cons.mpr ⟨lw_p0, List.forall_mem_cons.mpr ⟨lw_p1, List.forall_mem_cons.mpr ⟨lw_p2, List.forall_mem_cons.mpr ⟨lw_p3, List.forall_mem_cons.mpr ⟨lw_p4, List.forall_mem_cons.mpr ⟨lw_p5, List.forall_mem_cons.mpr ⟨lw_p6, List.forall_mem_cons.mpr ⟨lw_p7, List.forall_mem_cons.mpr ⟨lw_p8, List.forall_mem_cons.mpr ⟨lw_p9, List.forall_mem_cons.mpr ⟨lw_p10, List.forall_mem_cons.mpr ⟨lw_p11, List.forall_mem_cons.mpr ⟨lw_p12, List.forall_mem_cons.mpr ⟨lw_p13, List.forall_mem_cons.mpr ⟨lw_p14, List.forall_mem_cons.mpr ⟨lw_p15, fun _ h => absurd h List.not_mem_nil⟩⟩⟩⟩⟩⟩⟩⟩⟩⟩⟩⟩⟩⟩⟩⟩
theorem lw_p16 : lw_okq (⟨"CampWeek$Shows", "isWished", "(II)Z"⟩, 10) := ⟨⟨by decide +kernel, by decide +kernel⟩, List.mem_of_getElem? (i := 165) (by decide +kernel), List.mem_of_getElem? (i := 571) (by decide +kernel), List.mem_of_getElem? (i := 572) (by decide +kernel)⟩
theorem lw_p17 : lw_okq (⟨"CampWeek$Sheets", "isWet", "(I)Z"⟩, 4) := ⟨⟨by decide +kernel, by decide +kernel⟩, List.mem_of_getElem? (i := 257) (by decide +kernel), List.mem_of_getElem? (i := 584) (by decide +kernel), List.mem_of_getElem? (i := 585) (by decide +kernel)⟩
theorem lw_p18 : lw_okq (⟨"CampWeek$Shows", "sendParty", "(IIIZ)V"⟩, 10) := ⟨⟨by decide +kernel, by decide +kernel⟩, List.mem_of_getElem? (i := 165) (by decide +kernel), List.mem_of_getElem? (i := 609) (by decide +kernel), List.mem_of_getElem? (i := 610) (by decide +kernel)⟩
theorem lw_p19 : lw_okq (⟨"CampWeek$Groups", "isOfAnother", "(III)Z"⟩, 7) := ⟨⟨by decide +kernel, by decide +kernel⟩, List.mem_of_getElem? (i := 206) (by decide +kernel), List.mem_of_getElem? (i := 635) (by decide +kernel), List.mem_of_getElem? (i := 636) (by decide +kernel)⟩
theorem lw_p20 : lw_okq (⟨"CampWeek$Groups", "childrenIn", "(I)I"⟩, 7) := ⟨⟨by decide +kernel, by decide +kernel⟩, List.mem_of_getElem? (i := 206) (by decide +kernel), List.mem_of_getElem? (i := 639) (by decide +kernel), List.mem_of_getElem? (i := 640) (by decide +kernel)⟩
theorem lw_p21 : lw_okq (⟨"CampWeek$Groups", "childrenOf", "(I)I"⟩, 7) := ⟨⟨by decide +kernel, by decide +kernel⟩, List.mem_of_getElem? (i := 206) (by decide +kernel), List.mem_of_getElem? (i := 651) (by decide +kernel), List.mem_of_getElem? (i := 652) (by decide +kernel)⟩
theorem lw_p22 : lw_okq (⟨"CampWeek$Groups", "groupFor", "(I)I"⟩, 7) := ⟨⟨by decide +kernel, by decide +kernel⟩, List.mem_of_getElem? (i := 206) (by decide +kernel), List.mem_of_getElem? (i := 667) (by decide +kernel), List.mem_of_getElem? (i := 668) (by decide +kernel)⟩
theorem lw_p23 : lw_okq (⟨"CampWeek$PaybackLists", "latestDay", "(I)I"⟩, 4) := ⟨⟨by decide +kernel, by decide +kernel⟩, List.mem_of_getElem? (i := 237) (by decide +kernel), List.mem_of_getElem? (i := 701) (by decide +kernel), List.mem_of_getElem? (i := 702) (by decide +kernel)⟩
theorem lw_p24 : lw_okq (⟨"CampWeek$Sheets", "has", "(I)Z"⟩, 4) := ⟨⟨by decide +kernel, by decide +kernel⟩, List.mem_of_getElem? (i := 257) (by decide +kernel), List.mem_of_getElem? (i := 716) (by decide +kernel), List.mem_of_getElem? (i := 717) (by decide +kernel)⟩
theorem lw_p25 : lw_okq (⟨"CampWeek$Sheets", "find", "(I)I"⟩, 4) := ⟨⟨by decide +kernel, by decide +kernel⟩, List.mem_of_getElem? (i := 257) (by decide +kernel), List.mem_of_getElem? (i := 721) (by decide +kernel), List.mem_of_getElem? (i := 722) (by decide +kernel)⟩
theorem lw_p26 : lw_okq (⟨"CampWeek$Sheets", "refusal", "(III)I"⟩, 4) := ⟨⟨by decide +kernel, by decide +kernel⟩, List.mem_of_getElem? (i := 257) (by decide +kernel), List.mem_of_getElem? (i := 747) (by decide +kernel), List.mem_of_getElem? (i := 748) (by decide +kernel)⟩
theorem lw_p27 : lw_okq (⟨"CampWeek$Sheets", "hasItems", "(III)Z"⟩, 4) := ⟨⟨by decide +kernel, by decide +kernel⟩, List.mem_of_getElem? (i := 257) (by decide +kernel), List.mem_of_getElem? (i := 771) (by decide +kernel), List.mem_of_getElem? (i := 772) (by decide +kernel)⟩
theorem lw_p28 : lw_okq (⟨"CampWeekModel", "isParty", "(I)Z"⟩, 47) := ⟨⟨by decide +kernel, by decide +kernel⟩, List.mem_of_getElem? (i := 793) (by decide +kernel), List.mem_of_getElem? (i := 964) (by decide +kernel), List.mem_of_getElem? (i := 965) (by decide +kernel)⟩
theorem lw_p29 : lw_okq (⟨"CampWeekModel", "meet", "(II)Z"⟩, 47) := ⟨⟨by decide +kernel, by decide +kernel⟩, List.mem_of_getElem? (i := 793) (by decide +kernel), List.mem_of_getElem? (i := 969) (by decide +kernel), List.mem_of_getElem? (i := 970) (by decide +kernel)⟩
theorem lw_p30 : lw_okq (⟨"CampWeekModel", "dearest", "(II)I"⟩, 47) := ⟨⟨by decide +kernel, by decide +kernel⟩, List.mem_of_getElem? (i := 793) (by decide +kernel), List.mem_of_getElem? (i := 977) (by decide +kernel), List.mem_of_getElem? (i := 978) (by decide +kernel)⟩
theorem lw_p31 : lw_okq (⟨"CampWeekModel", "mayLodge", "(II)Z"⟩, 47) := ⟨⟨by decide +kernel, by decide +kernel⟩, List.mem_of_getElem? (i := 793) (by decide +kernel), List.mem_of_getElem? (i := 981) (by decide +kernel), List.mem_of_getElem? (i := 982) (by decide +kernel)⟩
def lw_privs_2 : List (MethodName × Nat) := [(⟨"CampWeek$Shows", "isWished", "(II)Z"⟩, 10), (⟨"CampWeek$Sheets", "isWet", "(I)Z"⟩, 4), (⟨"CampWeek$Shows", "sendParty", "(IIIZ)V"⟩, 10), (⟨"CampWeek$Groups", "isOfAnother", "(III)Z"⟩, 7), (⟨"CampWeek$Groups", "childrenIn", "(I)I"⟩, 7), (⟨"CampWeek$Groups", "childrenOf", "(I)I"⟩, 7), (⟨"CampWeek$Groups", "groupFor", "(I)I"⟩, 7), (⟨"CampWeek$PaybackLists", "latestDay", "(I)I"⟩, 4), (⟨"CampWeek$Sheets", "has", "(I)Z"⟩, 4), (⟨"CampWeek$Sheets", "find", "(I)I"⟩, 4), (⟨"CampWeek$Sheets", "refusal", "(III)I"⟩, 4), (⟨"CampWeek$Sheets", "hasItems", "(III)Z"⟩, 4), (⟨"CampWeekModel", "isParty", "(I)Z"⟩, 47), (⟨"CampWeekModel", "meet", "(II)Z"⟩, 47), (⟨"CampWeekModel", "dearest", "(II)I"⟩, 47), (⟨"CampWeekModel", "mayLodge", "(II)Z"⟩, 47)]
theorem lw_r2 : ∀ q ∈ lw_privs_2, lw_okq q := List.forall_mem_cons.mpr ⟨lw_p16, List.forall_mem_cons.mpr ⟨lw_p17, List.forall_mem_cons.mpr ⟨lw_p18, List.forall_mem_cons.mpr ⟨lw_p19, List.forall_mem_cons.mpr ⟨lw_p20, List.forall_mem_cons.mpr ⟨lw_p21, List.forall_mem_cons.mpr ⟨lw_p22, List.forall_mem_cons.mpr ⟨lw_p23, List.forall_mem_cons.mpr ⟨lw_p24, List.forall_mem_cons.mpr ⟨lw_p25, List.forall_mem_cons.mpr ⟨lw_p26, List.forall_mem_cons.mpr ⟨lw_p27, List.forall_mem_cons.mpr ⟨lw_p28, List.forall_mem_cons.mpr ⟨lw_p29, List.forall_mem_cons.mpr ⟨lw_p30, List.forall_mem_cons.mpr ⟨lw_p31, fun _ h => absurd h List.not_mem_nil⟩⟩⟩⟩⟩⟩⟩⟩⟩⟩⟩⟩⟩⟩⟩⟩
theorem lw_p32 : lw_okq (⟨"CampWeekModel", "isFree", "(II)Z"⟩, 47) := ⟨⟨by decide +kernel, by decide +kernel⟩, List.mem_of_getElem? (i := 793) (by decide +kernel), List.mem_of_getElem? (i := 985) (by decide +kernel), List.mem_of_getElem? (i := 986) (by decide +kernel)⟩
theorem lw_p33 : lw_okq (⟨"CampWeekModel", "hasTold", "(III)Z"⟩, 47) := ⟨⟨by decide +kernel, by decide +kernel⟩, List.mem_of_getElem? (i := 793) (by decide +kernel), List.mem_of_getElem? (i := 989) (by decide +kernel), List.mem_of_getElem? (i := 990) (by decide +kernel)⟩
theorem lw_p34 : lw_okq (⟨"CampWeekModel", "isHut", "(I)Z"⟩, 47) := ⟨⟨by decide +kernel, by decide +kernel⟩, List.mem_of_getElem? (i := 793) (by decide +kernel), List.mem_of_getElem? (i := 1009) (by decide +kernel), List.mem_of_getElem? (i := 1010) (by decide +kernel)⟩
theorem lw_p35 : lw_okq (⟨"CampWeekModel", "who", "(II)I"⟩, 47) := ⟨⟨by decide +kernel, by decide +kernel⟩, List.mem_of_getElem? (i := 793) (by decide +kernel), List.mem_of_getElem? (i := 1013) (by decide +kernel), List.mem_of_getElem? (i := 1014) (by decide +kernel)⟩
theorem lw_p36 : lw_okq (⟨"CampWeekModel", "isThere", "(II)Z"⟩, 47) := ⟨⟨by decide +kernel, by decide +kernel⟩, List.mem_of_getElem? (i := 793) (by decide +kernel), List.mem_of_getElem? (i := 1017) (by decide +kernel), List.mem_of_getElem? (i := 1018) (by decide +kernel)⟩
theorem lw_p37 : lw_okq (⟨"CampWeekModel", "findSittings", "(I)I"⟩, 47) := ⟨⟨by decide +kernel, by decide +kernel⟩, List.mem_of_getElem? (i := 793) (by decide +kernel), List.mem_of_getElem? (i := 1034) (by decide +kernel), List.mem_of_getElem? (i := 1035) (by decide +kernel)⟩
theorem lw_p38 : lw_okq (⟨"CampWeekModel", "findUnits", "(I)V"⟩, 47) := ⟨⟨by decide +kernel, by decide +kernel⟩, List.mem_of_getElem? (i := 793) (by decide +kernel), List.mem_of_getElem? (i := 1038) (by decide +kernel), List.mem_of_getElem? (i := 1039) (by decide +kernel)⟩
theorem lw_p39 : lw_okq (⟨"CampWeekModel", "dinners", "(II)I"⟩, 47) := ⟨⟨by decide +kernel, by decide +kernel⟩, List.mem_of_getElem? (i := 793) (by decide +kernel), List.mem_of_getElem? (i := 1055) (by decide +kernel), List.mem_of_getElem? (i := 1056) (by decide +kernel)⟩
theorem lw_p40 : lw_okq (⟨"CampWeekModel", "isWet", "(I)Z"⟩, 47) := ⟨⟨by decide +kernel, by decide +kernel⟩, List.mem_of_getElem? (i := 793) (by decide +kernel), List.mem_of_getElem? (i := 1086) (by decide +kernel), List.mem_of_getElem? (i := 1087) (by decide +kernel)⟩
theorem lw_p41 : lw_okq (⟨"CampWeekModel", "placeOf", "(I)I"⟩, 47) := ⟨⟨by decide +kernel, by decide +kernel⟩, List.mem_of_getElem? (i := 793) (by decide +kernel), List.mem_of_getElem? (i := 1094) (by decide +kernel), List.mem_of_getElem? (i := 1095) (by decide +kernel)⟩
theorem lw_p42 : lw_okq (⟨"CampWeekModel", "findCrowds", "(II)V"⟩, 47) := ⟨⟨by decide +kernel, by decide +kernel⟩, List.mem_of_getElem? (i := 793) (by decide +kernel), List.mem_of_getElem? (i := 1102) (by decide +kernel), List.mem_of_getElem? (i := 1103) (by decide +kernel)⟩
theorem lw_p43 : lw_okq (⟨"CampWeekModel", "manyIn", "(I)I"⟩, 47) := ⟨⟨by decide +kernel, by decide +kernel⟩, List.mem_of_getElem? (i := 793) (by decide +kernel), List.mem_of_getElem? (i := 1121) (by decide +kernel), List.mem_of_getElem? (i := 1122) (by decide +kernel)⟩
theorem lw_p44 : lw_okq (⟨"CampWeekModel", "isChild", "(I)Z"⟩, 47) := ⟨⟨by decide +kernel, by decide +kernel⟩, List.mem_of_getElem? (i := 793) (by decide +kernel), List.mem_of_getElem? (i := 1133) (by decide +kernel), List.mem_of_getElem? (i := 1134) (by decide +kernel)⟩
theorem lw_p45 : lw_okq (⟨"CampWeekModel", "met", "(I)I"⟩, 47) := ⟨⟨by decide +kernel, by decide +kernel⟩, List.mem_of_getElem? (i := 793) (by decide +kernel), List.mem_of_getElem? (i := 1163) (by decide +kernel), List.mem_of_getElem? (i := 1164) (by decide +kernel)⟩
theorem lw_p46 : lw_okq (⟨"CampWeekModel", "lacks", "(III)I"⟩, 47) := ⟨⟨by decide +kernel, by decide +kernel⟩, List.mem_of_getElem? (i := 793) (by decide +kernel), List.mem_of_getElem? (i := 1175) (by decide +kernel), List.mem_of_getElem? (i := 1176) (by decide +kernel)⟩
def lw_privs_3 : List (MethodName × Nat) := [(⟨"CampWeekModel", "isFree", "(II)Z"⟩, 47), (⟨"CampWeekModel", "hasTold", "(III)Z"⟩, 47), (⟨"CampWeekModel", "isHut", "(I)Z"⟩, 47), (⟨"CampWeekModel", "who", "(II)I"⟩, 47), (⟨"CampWeekModel", "isThere", "(II)Z"⟩, 47), (⟨"CampWeekModel", "findSittings", "(I)I"⟩, 47), (⟨"CampWeekModel", "findUnits", "(I)V"⟩, 47), (⟨"CampWeekModel", "dinners", "(II)I"⟩, 47), (⟨"CampWeekModel", "isWet", "(I)Z"⟩, 47), (⟨"CampWeekModel", "placeOf", "(I)I"⟩, 47), (⟨"CampWeekModel", "findCrowds", "(II)V"⟩, 47), (⟨"CampWeekModel", "manyIn", "(I)I"⟩, 47), (⟨"CampWeekModel", "isChild", "(I)Z"⟩, 47), (⟨"CampWeekModel", "met", "(I)I"⟩, 47), (⟨"CampWeekModel", "lacks", "(III)I"⟩, 47)]
theorem lw_r3 : ∀ q ∈ lw_privs_3, lw_okq q := List.forall_mem_cons.mpr ⟨lw_p32, List.forall_mem_cons.mpr ⟨lw_p33, List.forall_mem_cons.mpr ⟨lw_p34, List.forall_mem_cons.mpr ⟨lw_p35, List.forall_mem_cons.mpr ⟨lw_p36, List.forall_mem_cons.mpr ⟨lw_p37, List.forall_mem_cons.mpr ⟨lw_p38, List.forall_mem_cons.mpr ⟨lw_p39, List.forall_mem_cons.mpr ⟨lw_p40, List.forall_mem_cons.mpr ⟨lw_p41, List.forall_mem_cons.mpr ⟨lw_p42, List.forall_mem_cons.mpr ⟨lw_p43, List.forall_mem_cons.mpr ⟨lw_p44, List.forall_mem_cons.mpr ⟨lw_p45, List.forall_mem_cons.mpr ⟨lw_p46, fun _ h => absurd h List.not_mem_nil⟩⟩⟩⟩⟩⟩⟩⟩⟩⟩⟩⟩⟩⟩⟩
def lw_privs : List (MethodName × Nat) := lw_privs_1 ++ (lw_privs_2 ++ (lw_privs_3))
def lw_tbl : List Cond := k2_sels lw_privs ++ tables_1
theorem lw_privs_ok : ∀ q ∈ lw_privs, lw_okq q := by
  show ∀ q ∈ lw_privs_1 ++ (lw_privs_2 ++ (lw_privs_3)), lw_okq q
  exact List.forall_mem_append.mpr ⟨lw_r1, List.forall_mem_append.mpr ⟨lw_r2, lw_r3⟩⟩
def RX0 : String := "CampWeek$Groups"
def TX0 : u_T := fun k => match k with
  | 0 => ("CampWeek$Groups", "groupOf", "[I", true)
  | 1 => ("CampWeek$Groups", "childCount", "I", false)
  | 2 => ("CampWeek$Groups", "parties", "[I", true)
  | 3 => ("CampWeek$Groups", "ages", "[I", true)
  | 4 => ("CampWeek$Groups", "youngest", "[I", true)
  | 5 => ("CampWeek$Groups", "oldest", "[I", true)
  | _ => ("CampWeek$Groups", "mosts", "[I", true)
def tyX0 : Nat → FieldType := fun k => match k with
  | 0 => .array .int
  | 1 => .int
  | 2 => .array .int
  | 3 => .array .int
  | 4 => .array .int
  | 5 => .array .int
  | _ => .array .int
abbrev wsX00 : List Cond := u_ws RX0 TX0 7
theorem nmX0 : ∀ a, a < 7 → ∀ b, b < 7 → a ≠ b → (TX0 a).2.1 ≠ (TX0 b).2.1 := by decide +kernel
theorem tyX0_ok : ∀ k, k < 7 → parseFieldDescriptor (TX0 k).2.2.1 = some (tyX0 k) := by decide +kernel
abbrev cX0_init : ByteArray := prog_2_method_1_code
def yX0_init : MethodName := ⟨RX0, "<init>", "()V"⟩
abbrev cX0_define : ByteArray := prog_2_method_2_code
def yX0_define : MethodName := ⟨RX0, "define", "(IIII)I"⟩
abbrev cX0_isOfAnother : ByteArray := prog_2_method_3_code
def yX0_isOfAnother : MethodName := ⟨RX0, "isOfAnother", "(III)Z"⟩
abbrev cX0_childrenIn : ByteArray := prog_2_method_4_code
def yX0_childrenIn : MethodName := ⟨RX0, "childrenIn", "(I)I"⟩
abbrev cX0_hasChild : ByteArray := prog_2_method_5_code
def yX0_hasChild : MethodName := ⟨RX0, "hasChild", "(I)Z"⟩
abbrev cX0_addChild : ByteArray := prog_2_method_6_code
def yX0_addChild : MethodName := ⟨RX0, "addChild", "(III)I"⟩
abbrev cX0_childrenOf : ByteArray := prog_2_method_7_code
def yX0_childrenOf : MethodName := ⟨RX0, "childrenOf", "(I)I"⟩
abbrev cX0_handOver : ByteArray := prog_2_method_8_code
def yX0_handOver : MethodName := ⟨RX0, "handOver", "(I)I"⟩
abbrev cX0_groupFor : ByteArray := prog_2_method_9_code
def yX0_groupFor : MethodName := ⟨RX0, "groupFor", "(I)I"⟩
abbrev cX0_giveBack : ByteArray := prog_2_method_10_code
def yX0_giveBack : MethodName := ⟨RX0, "giveBack", "(II)I"⟩
def RX1 : String := "CampWeek$Huts"
def TX1 : u_T := fun k => match k with
  | 0 => ("CampWeek$Huts", "rows", "[I", true)
  | 1 => ("CampWeek$Huts", "beds", "[I", true)
  | _ => ("CampWeek$Huts", "count", "I", false)
def tyX1 : Nat → FieldType := fun k => match k with
  | 0 => .array .int
  | 1 => .array .int
  | _ => .int
abbrev wsX10 : List Cond := u_ws RX1 TX1 3
theorem nmX1 : ∀ a, a < 3 → ∀ b, b < 3 → a ≠ b → (TX1 a).2.1 ≠ (TX1 b).2.1 := by decide +kernel
theorem tyX1_ok : ∀ k, k < 3 → parseFieldDescriptor (TX1 k).2.2.1 = some (tyX1 k) := by decide +kernel
abbrev cX1_init : ByteArray := prog_3_method_1_code
def yX1_init : MethodName := ⟨RX1, "<init>", "()V"⟩
abbrev cX1_has : ByteArray := prog_3_method_2_code
def yX1_has : MethodName := ⟨RX1, "has", "(I)Z"⟩
abbrev cX1_add : ByteArray := prog_3_method_3_code
def yX1_add : MethodName := ⟨RX1, "add", "(II)I"⟩
def RX2 : String := "CampWeek$Kitchen"
def TX2 : u_T := fun k => match k with
  | 0 => ("CampWeek$Kitchen", "part", "I", false)
  | 1 => ("CampWeek$Kitchen", "lines", "I", false)
  | _ => ("CampWeek$Kitchen", "book", "[I", true)
def tyX2 : Nat → FieldType := fun k => match k with
  | 0 => .int
  | 1 => .int
  | _ => .array .int
abbrev wsX20 : List Cond := u_ws RX2 TX2 3
theorem nmX2 : ∀ a, a < 3 → ∀ b, b < 3 → a ≠ b → (TX2 a).2.1 ≠ (TX2 b).2.1 := by decide +kernel
theorem tyX2_ok : ∀ k, k < 3 → parseFieldDescriptor (TX2 k).2.2.1 = some (tyX2 k) := by decide +kernel
abbrev cX2_init : ByteArray := prog_4_method_1_code
def yX2_init : MethodName := ⟨RX2, "<init>", "()V"⟩
abbrev cX2_setPart : ByteArray := prog_4_method_2_code
def yX2_setPart : MethodName := ⟨RX2, "setPart", "(I)I"⟩
abbrev cX2_serve : ByteArray := prog_4_method_3_code
def yX2_serve : MethodName := ⟨RX2, "serve", "(IIII)I"⟩
abbrev cX2_entry : ByteArray := prog_4_method_4_code
def yX2_entry : MethodName := ⟨RX2, "entry", "(II)I"⟩
def RX3 : String := "CampWeek$Lodgings"
def TX3 : u_T := fun k => match k with
  | 0 => ("CampWeek$Lodgings", "huts", "LCampWeek$Huts;", true)
  | 1 => ("CampWeek$Lodgings", "parties", "LCampWeek$Parties;", true)
  | _ => ("CampWeek$Lodgings", "latestMoved", "I", false)
def tyX3 : Nat → FieldType := fun k => match k with
  | 0 => .object "CampWeek$Huts"
  | 1 => .object "CampWeek$Parties"
  | _ => .int
abbrev wsX30 : List Cond := u_ws RX3 TX3 3
theorem nmX3 : ∀ a, a < 3 → ∀ b, b < 3 → a ≠ b → (TX3 a).2.1 ≠ (TX3 b).2.1 := by decide +kernel
theorem tyX3_ok : ∀ k, k < 3 → parseFieldDescriptor (TX3 k).2.2.1 = some (tyX3 k) := by decide +kernel
abbrev cX3_init : ByteArray := prog_5_method_1_code
def yX3_init : MethodName := ⟨RX3, "<init>", "()V"⟩
abbrev cX3_relate : ByteArray := prog_5_method_2_code
def yX3_relate : MethodName := ⟨RX3, "relate", "(III)I"⟩
abbrev cX3_liveInOneRow : ByteArray := prog_5_method_3_code
def yX3_liveInOneRow : MethodName := ⟨RX3, "liveInOneRow", "(II)Z"⟩
abbrev cX3_isInRow : ByteArray := prog_5_method_4_code
def yX3_isInRow : MethodName := ⟨RX3, "isInRow", "(II)Z"⟩
abbrev cX3_takeIn : ByteArray := prog_5_method_5_code
def yX3_takeIn : MethodName := ⟨RX3, "takeIn", "(I)I"⟩
abbrev cX3_dearestHut : ByteArray := prog_5_method_6_code
def yX3_dearestHut : MethodName := ⟨RX3, "dearestHut", "(I)I"⟩
abbrev cX3_mayHave : ByteArray := prog_5_method_7_code
def yX3_mayHave : MethodName := ⟨RX3, "mayHave", "(II)Z"⟩
abbrev cX3_cost : ByteArray := prog_5_method_8_code
def yX3_cost : MethodName := ⟨RX3, "cost", "(II)I"⟩
abbrev cX3_isNextTo : ByteArray := prog_5_method_9_code
def yX3_isNextTo : MethodName := ⟨RX3, "isNextTo", "(II)Z"⟩
abbrev cX3_makesRoom : ByteArray := prog_5_method_10_code
def yX3_makesRoom : MethodName := ⟨RX3, "makesRoom", "(II)Z"⟩
abbrev cX3_guest : ByteArray := prog_5_method_11_code
def yX3_guest : MethodName := ⟨RX3, "guest", "(II)I"⟩
abbrev cX3_whoIsIn : ByteArray := prog_5_method_12_code
def yX3_whoIsIn : MethodName := ⟨RX3, "whoIsIn", "(II)I"⟩
abbrev cX3_emptyBeds : ByteArray := prog_5_method_13_code
def yX3_emptyBeds : MethodName := ⟨RX3, "emptyBeds", "(I)I"⟩
def RX4 : String := "CampWeek$Parties"
def TX4 : u_T := fun k => match k with
  | 0 => ("CampWeek$Parties", "sizes", "[I", true)
  | 1 => ("CampWeek$Parties", "children", "[I", true)
  | 2 => ("CampWeek$Parties", "firstWeeks", "[I", true)
  | 3 => ("CampWeek$Parties", "lastWeeks", "[I", true)
  | 4 => ("CampWeek$Parties", "tables", "[I", true)
  | 5 => ("CampWeek$Parties", "hutOf", "[I", true)
  | 6 => ("CampWeek$Parties", "told", "[I", true)
  | _ => ("CampWeek$Parties", "count", "I", false)
def tyX4 : Nat → FieldType := fun k => match k with
  | 0 => .array .int
  | 1 => .array .int
  | 2 => .array .int
  | 3 => .array .int
  | 4 => .array .int
  | 5 => .array .int
  | 6 => .array .int
  | _ => .int
abbrev wsX40 : List Cond := u_ws RX4 TX4 8
theorem nmX4 : ∀ a, a < 8 → ∀ b, b < 8 → a ≠ b → (TX4 a).2.1 ≠ (TX4 b).2.1 := by decide +kernel
theorem tyX4_ok : ∀ k, k < 8 → parseFieldDescriptor (TX4 k).2.2.1 = some (tyX4 k) := by decide +kernel
abbrev cX4_init : ByteArray := prog_6_method_1_code
def yX4_init : MethodName := ⟨RX4, "<init>", "()V"⟩
abbrev cX4_has : ByteArray := prog_6_method_2_code
def yX4_has : MethodName := ⟨RX4, "has", "(I)Z"⟩
abbrev cX4_add : ByteArray := prog_6_method_3_code
def yX4_add : MethodName := ⟨RX4, "add", "(IIIII)I"⟩
abbrev cX4_isLodged : ByteArray := prog_6_method_4_code
def yX4_isLodged : MethodName := ⟨RX4, "isLodged", "(I)Z"⟩
abbrev cX4_isThere : ByteArray := prog_6_method_5_code
def yX4_isThere : MethodName := ⟨RX4, "isThere", "(II)Z"⟩
abbrev cX4_shareWeek : ByteArray := prog_6_method_6_code
def yX4_shareWeek : MethodName := ⟨RX4, "shareWeek", "(II)Z"⟩
abbrev cX4_areTold : ByteArray := prog_6_method_7_code
def yX4_areTold : MethodName := ⟨RX4, "areTold", "(III)Z"⟩
abbrev cX4_setTold : ByteArray := prog_6_method_8_code
def yX4_setTold : MethodName := ⟨RX4, "setTold", "(III)I"⟩
abbrev cX4_giveUpHut : ByteArray := prog_6_method_9_code
def yX4_giveUpHut : MethodName := ⟨RX4, "giveUpHut", "(I)I"⟩
abbrev cX4_fact : ByteArray := prog_6_method_10_code
def yX4_fact : MethodName := ⟨RX4, "fact", "(II)I"⟩
abbrev cX4_lodgedCount : ByteArray := prog_6_method_11_code
def yX4_lodgedCount : MethodName := ⟨RX4, "lodgedCount", "()I"⟩
def RX5 : String := "CampWeek$PaybackLists"
def TX5 : u_T := fun k => match k with
  | 0 => ("CampWeek$PaybackLists", "count", "I", false)
  | 1 => ("CampWeek$PaybackLists", "days", "[I", true)
  | 2 => ("CampWeek$PaybackLists", "notices", "[I", true)
  | _ => ("CampWeek$PaybackLists", "hundredths", "[I", true)
def tyX5 : Nat → FieldType := fun k => match k with
  | 0 => .int
  | 1 => .array .int
  | 2 => .array .int
  | _ => .array .int
abbrev wsX50 : List Cond := u_ws RX5 TX5 4
theorem nmX5 : ∀ a, a < 4 → ∀ b, b < 4 → a ≠ b → (TX5 a).2.1 ≠ (TX5 b).2.1 := by decide +kernel
theorem tyX5_ok : ∀ k, k < 4 → parseFieldDescriptor (TX5 k).2.2.1 = some (tyX5 k) := by decide +kernel
abbrev cX5_init : ByteArray := prog_7_method_1_code
def yX5_init : MethodName := ⟨RX5, "<init>", "()V"⟩
abbrev cX5_add : ByteArray := prog_7_method_2_code
def yX5_add : MethodName := ⟨RX5, "add", "(III)I"⟩
abbrev cX5_paidBack : ByteArray := prog_7_method_3_code
def yX5_paidBack : MethodName := ⟨RX5, "paidBack", "(II)I"⟩
abbrev cX5_latestDay : ByteArray := prog_7_method_4_code
def yX5_latestDay : MethodName := ⟨RX5, "latestDay", "(I)I"⟩
def RX6 : String := "CampWeek$Sheets"
def TX6 : u_T := fun k => match k with
  | 0 => ("CampWeek$Sheets", "latestFinding", "I", false)
  | 1 => ("CampWeek$Sheets", "forms", "[I", true)
  | 2 => ("CampWeek$Sheets", "lengths", "[I", true)
  | _ => ("CampWeek$Sheets", "items", "[I", true)
def tyX6 : Nat → FieldType := fun k => match k with
  | 0 => .int
  | 1 => .array .int
  | 2 => .array .int
  | _ => .array .int
abbrev wsX60 : List Cond := u_ws RX6 TX6 4
theorem nmX6 : ∀ a, a < 4 → ∀ b, b < 4 → a ≠ b → (TX6 a).2.1 ≠ (TX6 b).2.1 := by decide +kernel
theorem tyX6_ok : ∀ k, k < 4 → parseFieldDescriptor (TX6 k).2.2.1 = some (tyX6 k) := by decide +kernel
abbrev cX6_init : ByteArray := prog_8_method_1_code
def yX6_init : MethodName := ⟨RX6, "<init>", "()V"⟩
abbrev cX6_has : ByteArray := prog_8_method_2_code
def yX6_has : MethodName := ⟨RX6, "has", "(I)Z"⟩
abbrev cX6_find : ByteArray := prog_8_method_3_code
def yX6_find : MethodName := ⟨RX6, "find", "(I)I"⟩
abbrev cX6_renew : ByteArray := prog_8_method_4_code
def yX6_renew : MethodName := ⟨RX6, "renew", "(III)I"⟩
abbrev cX6_drop : ByteArray := prog_8_method_5_code
def yX6_drop : MethodName := ⟨RX6, "drop", "(I)I"⟩
abbrev cX6_store : ByteArray := prog_8_method_6_code
def yX6_store : MethodName := ⟨RX6, "store", "(IIII)I"⟩
abbrev cX6_read : ByteArray := prog_8_method_7_code
def yX6_read : MethodName := ⟨RX6, "read", "(III)I"⟩
abbrev cX6_refusal : ByteArray := prog_8_method_8_code
def yX6_refusal : MethodName := ⟨RX6, "refusal", "(III)I"⟩
abbrev cX6_cut : ByteArray := prog_8_method_9_code
def yX6_cut : MethodName := ⟨RX6, "cut", "(II)I"⟩
abbrev cX6_transfer : ByteArray := prog_8_method_10_code
def yX6_transfer : MethodName := ⟨RX6, "transfer", "(IIIII)I"⟩
abbrev cX6_hasItems : ByteArray := prog_8_method_11_code
def yX6_hasItems : MethodName := ⟨RX6, "hasItems", "(III)Z"⟩
abbrev cX6_countsAsWet : ByteArray := prog_8_method_12_code
def yX6_countsAsWet : MethodName := ⟨RX6, "countsAsWet", "(I)Z"⟩
abbrev cX6_isWet : ByteArray := prog_8_method_13_code
def yX6_isWet : MethodName := ⟨RX6, "isWet", "(I)Z"⟩
def RX7 : String := "CampWeek$Shows"
def TX7 : u_T := fun k => match k with
  | 0 => ("CampWeek$Shows", "hours", "[I", true)
  | 1 => ("CampWeek$Shows", "chosen", "[I", true)
  | 2 => ("CampWeek$Shows", "turnedAway", "[I", true)
  | 3 => ("CampWeek$Shows", "count", "I", false)
  | 4 => ("CampWeek$Shows", "halls", "[I", true)
  | 5 => ("CampWeek$Shows", "wetHalls", "[I", true)
  | 6 => ("CampWeek$Shows", "rooms", "[I", true)
  | 7 => ("CampWeek$Shows", "roomLeft", "[I", true)
  | 8 => ("CampWeek$Shows", "wishes", "[I", true)
  | _ => ("CampWeek$Shows", "wishCounts", "[I", true)
def tyX7 : Nat → FieldType := fun k => match k with
  | 0 => .array .int
  | 1 => .array .int
  | 2 => .array .int
  | 3 => .int
  | 4 => .array .int
  | 5 => .array .int
  | 6 => .array .int
  | 7 => .array .int
  | 8 => .array .int
  | _ => .array .int
abbrev wsX70 : List Cond := u_ws RX7 TX7 10
theorem nmX7 : ∀ a, a < 10 → ∀ b, b < 10 → a ≠ b → (TX7 a).2.1 ≠ (TX7 b).2.1 := by decide +kernel
theorem tyX7_ok : ∀ k, k < 10 → parseFieldDescriptor (TX7 k).2.2.1 = some (tyX7 k) := by decide +kernel
abbrev cX7_init : ByteArray := prog_9_method_1_code
def yX7_init : MethodName := ⟨RX7, "<init>", "()V"⟩
abbrev cX7_has : ByteArray := prog_9_method_2_code
def yX7_has : MethodName := ⟨RX7, "has", "(I)Z"⟩
abbrev cX7_setRoom : ByteArray := prog_9_method_3_code
def yX7_setRoom : MethodName := ⟨RX7, "setRoom", "(II)I"⟩
abbrev cX7_add : ByteArray := prog_9_method_4_code
def yX7_add : MethodName := ⟨RX7, "add", "(III)I"⟩
abbrev cX7_addWish : ByteArray := prog_9_method_5_code
def yX7_addWish : MethodName := ⟨RX7, "addWish", "(II)I"⟩
abbrev cX7_isWished : ByteArray := prog_9_method_6_code
def yX7_isWished : MethodName := ⟨RX7, "isWished", "(II)Z"⟩
abbrev cX7_place : ByteArray := prog_9_method_7_code
def yX7_place : MethodName := ⟨RX7, "place", "(IZ)I"⟩
abbrev cX7_send : ByteArray := prog_9_method_8_code
def yX7_send : MethodName := ⟨RX7, "send", "(LCampWeek$Parties;IIZ)V"⟩
abbrev cX7_sendParty : ByteArray := prog_9_method_9_code
def yX7_sendParty : MethodName := ⟨RX7, "sendParty", "(IIIZ)V"⟩
abbrev cX7_peopleIn : ByteArray := prog_9_method_10_code
def yX7_peopleIn : MethodName := ⟨RX7, "peopleIn", "(ILCampWeek$Parties;)I"⟩
def RX8 : String := "CampWeek$Sittings"
def TX8 : u_T := fun k => match k with
  | 0 => ("CampWeek$Sittings", "firstSeats", "I", false)
  | 1 => ("CampWeek$Sittings", "secondSeats", "I", false)
  | 2 => ("CampWeek$Sittings", "difference", "I", false)
  | 3 => ("CampWeek$Sittings", "benches", "I", false)
  | 4 => ("CampWeek$Sittings", "people", "I", false)
  | 5 => ("CampWeek$Sittings", "benchOf", "[I", true)
  | 6 => ("CampWeek$Sittings", "benchOfTable", "[I", true)
  | 7 => ("CampWeek$Sittings", "benchSize", "[I", true)
  | 8 => ("CampWeek$Sittings", "benchSitting", "[I", true)
  | _ => ("CampWeek$Sittings", "madeFrom", "[I", true)
def tyX8 : Nat → FieldType := fun k => match k with
  | 0 => .int
  | 1 => .int
  | 2 => .int
  | 3 => .int
  | 4 => .int
  | 5 => .array .int
  | 6 => .array .int
  | 7 => .array .int
  | 8 => .array .int
  | _ => .array .int
abbrev wsX80 : List Cond := u_ws RX8 TX8 10
theorem nmX8 : ∀ a, a < 10 → ∀ b, b < 10 → a ≠ b → (TX8 a).2.1 ≠ (TX8 b).2.1 := by decide +kernel
theorem tyX8_ok : ∀ k, k < 10 → parseFieldDescriptor (TX8 k).2.2.1 = some (tyX8 k) := by decide +kernel
abbrev cX8_init : ByteArray := prog_10_method_1_code
def yX8_init : MethodName := ⟨RX8, "<init>", "()V"⟩
abbrev cX8_setSeats : ByteArray := prog_10_method_2_code
def yX8_setSeats : MethodName := ⟨RX8, "setSeats", "(II)I"⟩
abbrev cX8_arrange : ByteArray := prog_10_method_3_code
def yX8_arrange : MethodName := ⟨RX8, "arrange", "(LCampWeek$Parties;I)V"⟩
abbrev cX8_fillBenches : ByteArray := prog_10_method_4_code
def yX8_fillBenches : MethodName := ⟨RX8, "fillBenches", "(LCampWeek$Parties;I)V"⟩
abbrev cX8_benchFor : ByteArray := prog_10_method_5_code
def yX8_benchFor : MethodName := ⟨RX8, "benchFor", "(I)I"⟩
abbrev cX8_findNumbers : ByteArray := prog_10_method_6_code
def yX8_findNumbers : MethodName := ⟨RX8, "findNumbers", "()V"⟩
abbrev cX8_findDifference : ByteArray := prog_10_method_7_code
def yX8_findDifference : MethodName := ⟨RX8, "findDifference", "()V"⟩
abbrev cX8_isWay : ByteArray := prog_10_method_8_code
def yX8_isWay : MethodName := ⟨RX8, "isWay", "(I)Z"⟩
abbrev cX8_partBenches : ByteArray := prog_10_method_9_code
def yX8_partBenches : MethodName := ⟨RX8, "partBenches", "()V"⟩
abbrev cX8_leadsToBest : ByteArray := prog_10_method_10_code
def yX8_leadsToBest : MethodName := ⟨RX8, "leadsToBest", "(II)Z"⟩
abbrev cX8_canBecome : ByteArray := prog_10_method_11_code
def yX8_canBecome : MethodName := ⟨RX8, "canBecome", "(III)Z"⟩
abbrev cX8_sittingOf : ByteArray := prog_10_method_12_code
def yX8_sittingOf : MethodName := ⟨RX8, "sittingOf", "(I)I"⟩
abbrev cX8_dinners : ByteArray := prog_10_method_13_code
def yX8_dinners : MethodName := ⟨RX8, "dinners", "(LCampWeek$Parties;I)I"⟩
def RX9 : String := "CampWeek"
def TX9 : u_T := fun k => match k with
  | 0 => ("CampWeek", "lodgings", "LCampWeek$Lodgings;", true)
  | 1 => ("CampWeek", "sittings", "LCampWeek$Sittings;", true)
  | 2 => ("CampWeek", "kitchen", "LCampWeek$Kitchen;", true)
  | 3 => ("CampWeek", "shows", "LCampWeek$Shows;", true)
  | 4 => ("CampWeek", "groups", "LCampWeek$Groups;", true)
  | 5 => ("CampWeek", "paybacks", "LCampWeek$PaybackLists;", true)
  | _ => ("CampWeek", "sheets", "LCampWeek$Sheets;", true)
def tyX9 : Nat → FieldType := fun k => match k with
  | 0 => .object "CampWeek$Lodgings"
  | 1 => .object "CampWeek$Sittings"
  | 2 => .object "CampWeek$Kitchen"
  | 3 => .object "CampWeek$Shows"
  | 4 => .object "CampWeek$Groups"
  | 5 => .object "CampWeek$PaybackLists"
  | _ => .object "CampWeek$Sheets"
abbrev wsX90 : List Cond := u_ws RX9 TX9 7
theorem nmX9 : ∀ a, a < 7 → ∀ b, b < 7 → a ≠ b → (TX9 a).2.1 ≠ (TX9 b).2.1 := by decide +kernel
theorem tyX9_ok : ∀ k, k < 7 → parseFieldDescriptor (TX9 k).2.2.1 = some (tyX9 k) := by decide +kernel
abbrev cX9_init : ByteArray := prog_1_method_1_code
def yX9_init : MethodName := ⟨RX9, "<init>", "()V"⟩
abbrev cX9_hut : ByteArray := prog_1_method_2_code
def yX9_hut : MethodName := ⟨RX9, "hut", "(II)I"⟩
abbrev cX9_party : ByteArray := prog_1_method_3_code
def yX9_party : MethodName := ⟨RX9, "party", "(IIIII)I"⟩
abbrev cX9_tell : ByteArray := prog_1_method_4_code
def yX9_tell : MethodName := ⟨RX9, "tell", "(III)I"⟩
abbrev cX9_lodge : ByteArray := prog_1_method_5_code
def yX9_lodge : MethodName := ⟨RX9, "lodge", "(I)I"⟩
abbrev cX9_moved : ByteArray := prog_1_method_6_code
def yX9_moved : MethodName := ⟨RX9, "moved", "()I"⟩
abbrev cX9_leave : ByteArray := prog_1_method_7_code
def yX9_leave : MethodName := ⟨RX9, "leave", "(I)I"⟩
abbrev cX9_about : ByteArray := prog_1_method_8_code
def yX9_about : MethodName := ⟨RX9, "about", "(II)I"⟩
abbrev cX9_in : ByteArray := prog_1_method_9_code
def yX9_in : MethodName := ⟨RX9, "in", "(II)I"⟩
abbrev cX9_empty : ByteArray := prog_1_method_10_code
def yX9_empty : MethodName := ⟨RX9, "empty", "(I)I"⟩
abbrev cX9_seats : ByteArray := prog_1_method_11_code
def yX9_seats : MethodName := ⟨RX9, "seats", "(II)I"⟩
abbrev cX9_apart : ByteArray := prog_1_method_12_code
def yX9_apart : MethodName := ⟨RX9, "apart", "(I)I"⟩
abbrev cX9_sits : ByteArray := prog_1_method_13_code
def yX9_sits : MethodName := ⟨RX9, "sits", "(II)I"⟩
abbrev cX9_more : ByteArray := prog_1_method_14_code
def yX9_more : MethodName := ⟨RX9, "more", "(I)I"⟩
abbrev cX9_foretell : ByteArray := prog_1_method_15_code
def yX9_foretell : MethodName := ⟨RX9, "foretell", "(II)I"⟩
abbrev cX9_cook : ByteArray := prog_1_method_16_code
def yX9_cook : MethodName := ⟨RX9, "cook", "(III)I"⟩
abbrev cX9_line : ByteArray := prog_1_method_17_code
def yX9_line : MethodName := ⟨RX9, "line", "(II)I"⟩
abbrev cX9_hall : ByteArray := prog_1_method_18_code
def yX9_hall : MethodName := ⟨RX9, "hall", "(II)I"⟩
abbrev cX9_show : ByteArray := prog_1_method_19_code
def yX9_show : MethodName := ⟨RX9, "show", "(III)I"⟩
abbrev cX9_wish : ByteArray := prog_1_method_20_code
def yX9_wish : MethodName := ⟨RX9, "wish", "(II)I"⟩
abbrev cX9_wet : ByteArray := prog_1_method_21_code
def yX9_wet : MethodName := ⟨RX9, "wet", "(I)I"⟩
abbrev cX9_where : ByteArray := prog_1_method_22_code
def yX9_where : MethodName := ⟨RX9, "where", "(I)I"⟩
abbrev cX9_goes : ByteArray := prog_1_method_23_code
def yX9_goes : MethodName := ⟨RX9, "goes", "(III)I"⟩
abbrev cX9_turned : ByteArray := prog_1_method_24_code
def yX9_turned : MethodName := ⟨RX9, "turned", "(III)I"⟩
abbrev cX9_crowd : ByteArray := prog_1_method_25_code
def yX9_crowd : MethodName := ⟨RX9, "crowd", "(II)I"⟩
abbrev cX9_group : ByteArray := prog_1_method_26_code
def yX9_group : MethodName := ⟨RX9, "group", "(IIII)I"⟩
abbrev cX9_child : ByteArray := prog_1_method_27_code
def yX9_child : MethodName := ⟨RX9, "child", "(II)I"⟩
abbrev cX9_hand : ByteArray := prog_1_method_28_code
def yX9_hand : MethodName := ⟨RX9, "hand", "(I)I"⟩
abbrev cX9_fetch : ByteArray := prog_1_method_29_code
def yX9_fetch : MethodName := ⟨RX9, "fetch", "(II)I"⟩
abbrev cX9_with : ByteArray := prog_1_method_30_code
def yX9_with : MethodName := ⟨RX9, "with", "(I)I"⟩
abbrev cX9_list : ByteArray := prog_1_method_31_code
def yX9_list : MethodName := ⟨RX9, "list", "(III)I"⟩
abbrev cX9_pays : ByteArray := prog_1_method_32_code
def yX9_pays : MethodName := ⟨RX9, "pays", "(II)I"⟩
abbrev cX9_sheet : ByteArray := prog_1_method_33_code
def yX9_sheet : MethodName := ⟨RX9, "sheet", "(III)I"⟩
abbrev cX9_lose : ByteArray := prog_1_method_34_code
def yX9_lose : MethodName := ⟨RX9, "lose", "(I)I"⟩
abbrev cX9_put : ByteArray := prog_1_method_35_code
def yX9_put : MethodName := ⟨RX9, "put", "(IIII)I"⟩
abbrev cX9_get : ByteArray := prog_1_method_36_code
def yX9_get : MethodName := ⟨RX9, "get", "(III)I"⟩
abbrev cX9_copy : ByteArray := prog_1_method_37_code
def yX9_copy : MethodName := ⟨RX9, "copy", "(IIIII)I"⟩
abbrev cX9_count : ByteArray := prog_1_method_38_code
def yX9_count : MethodName := ⟨RX9, "count", "(I)I"⟩
abbrev cX9_digest : ByteArray := prog_1_method_39_code
def yX9_digest : MethodName := ⟨RX9, "digest", "()J"⟩
abbrev cX9_within : ByteArray := prog_1_method_40_code
def yX9_within : MethodName := ⟨RX9, "within", "(III)Z"⟩
abbrev cX9_isWeek : ByteArray := prog_1_method_41_code
def yX9_isWeek : MethodName := ⟨RX9, "isWeek", "(I)Z"⟩
abbrev cX9_isHour : ByteArray := prog_1_method_42_code
def yX9_isHour : MethodName := ⟨RX9, "isHour", "(I)Z"⟩
def RX10 : String := "CampWeekModel"
def TX10 : u_T := fun k => match k with
  | 0 => ("CampWeekModel", "huts", "I", false)
  | 1 => ("CampWeekModel", "row", "[I", true)
  | 2 => ("CampWeekModel", "beds", "[I", true)
  | 3 => ("CampWeekModel", "parties", "I", false)
  | 4 => ("CampWeekModel", "size", "[I", true)
  | 5 => ("CampWeekModel", "young", "[I", true)
  | 6 => ("CampWeekModel", "first", "[I", true)
  | 7 => ("CampWeekModel", "last", "[I", true)
  | 8 => ("CampWeekModel", "table", "[I", true)
  | 9 => ("CampWeekModel", "hut", "[I", true)
  | 10 => ("CampWeekModel", "pair", "[I", true)
  | 11 => ("CampWeekModel", "moved", "I", false)
  | 12 => ("CampWeekModel", "seats", "[I", true)
  | 13 => ("CampWeekModel", "units", "I", false)
  | 14 => ("CampWeekModel", "unitOf", "[I", true)
  | 15 => ("CampWeekModel", "people", "[I", true)
  | 16 => ("CampWeekModel", "can", "[Z", true)
  | 17 => ("CampWeekModel", "sitting", "[I", true)
  | 18 => ("CampWeekModel", "part", "I", false)
  | 19 => ("CampWeekModel", "lines", "I", false)
  | 20 => ("CampWeekModel", "book", "[I", true)
  | 21 => ("CampWeekModel", "hallRoom", "[I", true)
  | 22 => ("CampWeekModel", "shows", "I", false)
  | 23 => ("CampWeekModel", "showHall", "[I", true)
  | 24 => ("CampWeekModel", "showHour", "[I", true)
  | 25 => ("CampWeekModel", "showWet", "[I", true)
  | 26 => ("CampWeekModel", "wishes", "[I", true)
  | 27 => ("CampWeekModel", "wish", "[I", true)
  | 28 => ("CampWeekModel", "left", "[I", true)
  | 29 => ("CampWeekModel", "going", "[I", true)
  | 30 => ("CampWeekModel", "away", "[I", true)
  | 31 => ("CampWeekModel", "ageFrom", "[I", true)
  | 32 => ("CampWeekModel", "ageTo", "[I", true)
  | 33 => ("CampWeekModel", "most", "[I", true)
  | 34 => ("CampWeekModel", "children", "I", false)
  | 35 => ("CampWeekModel", "parent", "[I", true)
  | 36 => ("CampWeekModel", "age", "[I", true)
  | 37 => ("CampWeekModel", "inGroup", "[I", true)
  | 38 => ("CampWeekModel", "lists", "I", false)
  | 39 => ("CampWeekModel", "listDay", "[I", true)
  | 40 => ("CampWeekModel", "listNotice", "[I", true)
  | 41 => ("CampWeekModel", "listPays", "[I", true)
  | 42 => ("CampWeekModel", "forms", "[I", true)
  | 43 => ("CampWeekModel", "sizes", "[I", true)
  | 44 => ("CampWeekModel", "items", "[I", true)
  | 45 => ("CampWeekModel", "copied", "[I", true)
  | _ => ("CampWeekModel", "latest", "I", false)
def tyX10 : Nat → FieldType := fun k => match k with
  | 0 => .int
  | 1 => .array .int
  | 2 => .array .int
  | 3 => .int
  | 4 => .array .int
  | 5 => .array .int
  | 6 => .array .int
  | 7 => .array .int
  | 8 => .array .int
  | 9 => .array .int
  | 10 => .array .int
  | 11 => .int
  | 12 => .array .int
  | 13 => .int
  | 14 => .array .int
  | 15 => .array .int
  | 16 => .array .boolean
  | 17 => .array .int
  | 18 => .int
  | 19 => .int
  | 20 => .array .int
  | 21 => .array .int
  | 22 => .int
  | 23 => .array .int
  | 24 => .array .int
  | 25 => .array .int
  | 26 => .array .int
  | 27 => .array .int
  | 28 => .array .int
  | 29 => .array .int
  | 30 => .array .int
  | 31 => .array .int
  | 32 => .array .int
  | 33 => .array .int
  | 34 => .int
  | 35 => .array .int
  | 36 => .array .int
  | 37 => .array .int
  | 38 => .int
  | 39 => .array .int
  | 40 => .array .int
  | 41 => .array .int
  | 42 => .array .int
  | 43 => .array .int
  | 44 => .array .int
  | 45 => .array .int
  | _ => .int
abbrev wsX100 : List Cond := u_ws RX10 TX10 47
theorem nmX10 : ∀ a, a < 47 → ∀ b, b < 47 → a ≠ b → (TX10 a).2.1 ≠ (TX10 b).2.1 := by decide +kernel
theorem tyX10_ok : ∀ k, k < 47 → parseFieldDescriptor (TX10 k).2.2.1 = some (tyX10 k) := by decide +kernel
abbrev cX10_init : ByteArray := prog_12_method_1_code
def yX10_init : MethodName := ⟨RX10, "<init>", "()V"⟩
abbrev cX10_within : ByteArray := prog_12_method_3_code
def yX10_within : MethodName := ⟨RX10, "within", "(JJJ)Z"⟩
abbrev cX10_isHut : ByteArray := prog_12_method_4_code
def yX10_isHut : MethodName := ⟨RX10, "isHut", "(I)Z"⟩
abbrev cX10_isParty : ByteArray := prog_12_method_5_code
def yX10_isParty : MethodName := ⟨RX10, "isParty", "(I)Z"⟩
abbrev cX10_isWeek : ByteArray := prog_12_method_6_code
def yX10_isWeek : MethodName := ⟨RX10, "isWeek", "(I)Z"⟩
abbrev cX10_hut : ByteArray := prog_12_method_7_code
def yX10_hut : MethodName := ⟨RX10, "hut", "(II)I"⟩
abbrev cX10_party : ByteArray := prog_12_method_8_code
def yX10_party : MethodName := ⟨RX10, "party", "(IIIII)I"⟩
abbrev cX10_meet : ByteArray := prog_12_method_9_code
def yX10_meet : MethodName := ⟨RX10, "meet", "(II)Z"⟩
abbrev cX10_tell : ByteArray := prog_12_method_10_code
def yX10_tell : MethodName := ⟨RX10, "tell", "(III)I"⟩
abbrev cX10_isFree : ByteArray := prog_12_method_11_code
def yX10_isFree : MethodName := ⟨RX10, "isFree", "(II)Z"⟩
abbrev cX10_hasTold : ByteArray := prog_12_method_12_code
def yX10_hasTold : MethodName := ⟨RX10, "hasTold", "(III)Z"⟩
abbrev cX10_mayLodge : ByteArray := prog_12_method_13_code
def yX10_mayLodge : MethodName := ⟨RX10, "mayLodge", "(II)Z"⟩
abbrev cX10_dearest : ByteArray := prog_12_method_14_code
def yX10_dearest : MethodName := ⟨RX10, "dearest", "(II)I"⟩
abbrev cX10_lodge : ByteArray := prog_12_method_15_code
def yX10_lodge : MethodName := ⟨RX10, "lodge", "(I)I"⟩
abbrev cX10_moved : ByteArray := prog_12_method_16_code
def yX10_moved : MethodName := ⟨RX10, "moved", "()I"⟩
abbrev cX10_leave : ByteArray := prog_12_method_17_code
def yX10_leave : MethodName := ⟨RX10, "leave", "(I)I"⟩
abbrev cX10_about : ByteArray := prog_12_method_18_code
def yX10_about : MethodName := ⟨RX10, "about", "(II)I"⟩
abbrev cX10_isThere : ByteArray := prog_12_method_19_code
def yX10_isThere : MethodName := ⟨RX10, "isThere", "(II)Z"⟩
abbrev cX10_who : ByteArray := prog_12_method_20_code
def yX10_who : MethodName := ⟨RX10, "who", "(II)I"⟩
abbrev cX10_in : ByteArray := prog_12_method_21_code
def yX10_in : MethodName := ⟨RX10, "in", "(II)I"⟩
abbrev cX10_empty : ByteArray := prog_12_method_22_code
def yX10_empty : MethodName := ⟨RX10, "empty", "(I)I"⟩
abbrev cX10_seats : ByteArray := prog_12_method_23_code
def yX10_seats : MethodName := ⟨RX10, "seats", "(II)I"⟩
abbrev cX10_findUnits : ByteArray := prog_12_method_24_code
def yX10_findUnits : MethodName := ⟨RX10, "findUnits", "(I)V"⟩
abbrev cX10_findSittings : ByteArray := prog_12_method_25_code
def yX10_findSittings : MethodName := ⟨RX10, "findSittings", "(I)I"⟩
abbrev cX10_apart : ByteArray := prog_12_method_26_code
def yX10_apart : MethodName := ⟨RX10, "apart", "(I)I"⟩
abbrev cX10_sits : ByteArray := prog_12_method_27_code
def yX10_sits : MethodName := ⟨RX10, "sits", "(II)I"⟩
abbrev cX10_more : ByteArray := prog_12_method_28_code
def yX10_more : MethodName := ⟨RX10, "more", "(I)I"⟩
abbrev cX10_dinners : ByteArray := prog_12_method_29_code
def yX10_dinners : MethodName := ⟨RX10, "dinners", "(II)I"⟩
abbrev cX10_foretell : ByteArray := prog_12_method_30_code
def yX10_foretell : MethodName := ⟨RX10, "foretell", "(II)I"⟩
abbrev cX10_cook : ByteArray := prog_12_method_31_code
def yX10_cook : MethodName := ⟨RX10, "cook", "(III)I"⟩
abbrev cX10_line : ByteArray := prog_12_method_32_code
def yX10_line : MethodName := ⟨RX10, "line", "(II)I"⟩
abbrev cX10_hall : ByteArray := prog_12_method_33_code
def yX10_hall : MethodName := ⟨RX10, "hall", "(II)I"⟩
abbrev cX10_show : ByteArray := prog_12_method_34_code
def yX10_show : MethodName := ⟨RX10, "show", "(III)I"⟩
abbrev cX10_wish : ByteArray := prog_12_method_35_code
def yX10_wish : MethodName := ⟨RX10, "wish", "(II)I"⟩
abbrev cX10_isWet : ByteArray := prog_12_method_36_code
def yX10_isWet : MethodName := ⟨RX10, "isWet", "(I)Z"⟩
abbrev cX10_wet : ByteArray := prog_12_method_37_code
def yX10_wet : MethodName := ⟨RX10, "wet", "(I)I"⟩
abbrev cX10_placeOf : ByteArray := prog_12_method_38_code
def yX10_placeOf : MethodName := ⟨RX10, "placeOf", "(I)I"⟩
abbrev cX10_where : ByteArray := prog_12_method_39_code
def yX10_where : MethodName := ⟨RX10, "where", "(I)I"⟩
abbrev cX10_findCrowds : ByteArray := prog_12_method_40_code
def yX10_findCrowds : MethodName := ⟨RX10, "findCrowds", "(II)V"⟩
abbrev cX10_goes : ByteArray := prog_12_method_41_code
def yX10_goes : MethodName := ⟨RX10, "goes", "(III)I"⟩
abbrev cX10_turned : ByteArray := prog_12_method_42_code
def yX10_turned : MethodName := ⟨RX10, "turned", "(III)I"⟩
abbrev cX10_crowd : ByteArray := prog_12_method_43_code
def yX10_crowd : MethodName := ⟨RX10, "crowd", "(II)I"⟩
abbrev cX10_manyIn : ByteArray := prog_12_method_44_code
def yX10_manyIn : MethodName := ⟨RX10, "manyIn", "(I)I"⟩
abbrev cX10_group : ByteArray := prog_12_method_45_code
def yX10_group : MethodName := ⟨RX10, "group", "(IIII)I"⟩
abbrev cX10_isChild : ByteArray := prog_12_method_46_code
def yX10_isChild : MethodName := ⟨RX10, "isChild", "(I)Z"⟩
abbrev cX10_child : ByteArray := prog_12_method_47_code
def yX10_child : MethodName := ⟨RX10, "child", "(II)I"⟩
abbrev cX10_hand : ByteArray := prog_12_method_48_code
def yX10_hand : MethodName := ⟨RX10, "hand", "(I)I"⟩
abbrev cX10_fetch : ByteArray := prog_12_method_49_code
def yX10_fetch : MethodName := ⟨RX10, "fetch", "(II)I"⟩
abbrev cX10_with : ByteArray := prog_12_method_50_code
def yX10_with : MethodName := ⟨RX10, "with", "(I)I"⟩
abbrev cX10_list : ByteArray := prog_12_method_51_code
def yX10_list : MethodName := ⟨RX10, "list", "(III)I"⟩
abbrev cX10_pays : ByteArray := prog_12_method_52_code
def yX10_pays : MethodName := ⟨RX10, "pays", "(II)I"⟩
abbrev cX10_met : ByteArray := prog_12_method_53_code
def yX10_met : MethodName := ⟨RX10, "met", "(I)I"⟩
abbrev cX10_isSheet : ByteArray := prog_12_method_54_code
def yX10_isSheet : MethodName := ⟨RX10, "isSheet", "(I)Z"⟩
abbrev cX10_sheet : ByteArray := prog_12_method_55_code
def yX10_sheet : MethodName := ⟨RX10, "sheet", "(III)I"⟩
abbrev cX10_lose : ByteArray := prog_12_method_56_code
def yX10_lose : MethodName := ⟨RX10, "lose", "(I)I"⟩
abbrev cX10_lacks : ByteArray := prog_12_method_57_code
def yX10_lacks : MethodName := ⟨RX10, "lacks", "(III)I"⟩
abbrev cX10_put : ByteArray := prog_12_method_58_code
def yX10_put : MethodName := ⟨RX10, "put", "(IIII)I"⟩
abbrev cX10_get : ByteArray := prog_12_method_59_code
def yX10_get : MethodName := ⟨RX10, "get", "(III)I"⟩
abbrev cX10_copy : ByteArray := prog_12_method_60_code
def yX10_copy : MethodName := ⟨RX10, "copy", "(IIIII)I"⟩
abbrev cX10_count : ByteArray := prog_12_method_61_code
def yX10_count : MethodName := ⟨RX10, "count", "(I)I"⟩
abbrev cX10_digest : ByteArray := prog_12_method_62_code
def yX10_digest : MethodName := ⟨RX10, "digest", "()J"⟩
def RJ9 : String := "java/lang/Math"
abbrev cJ9_abs_0f7a4 : ByteArray := prog_13_method_59_code
def yJ9_abs_0f7a4 : MethodName := ⟨RJ9, "abs", "(I)I"⟩
abbrev cJ9_max_7cf53 : ByteArray := prog_13_method_65_code
def yJ9_max_7cf53 : MethodName := ⟨RJ9, "max", "(II)I"⟩
def RJ10 : String := "java/lang/System"
def RJ7 : String := "java/util/Arrays"
abbrev cJ7_rangeCheck_23922 : ByteArray := prog_15_method_30_code
def yJ7_rangeCheck_23922 : MethodName := ⟨RJ7, "rangeCheck", "(III)V"⟩
abbrev cJ7_fill_53178 : ByteArray := prog_15_method_103_code
def yJ7_fill_53178 : MethodName := ⟨RJ7, "fill", "([II)V"⟩
abbrev cJ7_fill_fda19 : ByteArray := prog_15_method_104_code
def yJ7_fill_fda19 : MethodName := ⟨RJ7, "fill", "([IIII)V"⟩
def RL : String := "CampWeekLaw"
abbrev cL_law : ByteArray := code
def yL_law : MethodName := ⟨RL, "law", "([I)Z"⟩
abbrev vwCl : List vw_C := [(RX0, TX0, 7), (RX1, TX1, 3), (RX2, TX2, 3), (RX3, TX3, 3), (RX4, TX4, 8), (RX5, TX5, 4), (RX6, TX6, 4), (RX7, TX7, 10), (RX8, TX8, 10), (RX9, TX9, 7), (RX10, TX10, 47)]
end
section
theorem dX0_init_0 : decode cX0_init 0 = .ok (.aload_n 0, 1) := by decide +kernel
theorem dX0_init_1 : decode cX0_init 1 = .ok (.invokespecial 3, 3) := by decide +kernel
theorem dX0_init_4 : decode cX0_init 4 = .ok (.aload_n 0, 1) := by decide +kernel
theorem dX0_init_5 : decode cX0_init 5 = .ok (.bipush 40, 2) := by decide +kernel
theorem dX0_init_7 : decode cX0_init 7 = .ok (.newarray .int, 2) := by decide +kernel
theorem dX0_init_9 : decode cX0_init 9 = .ok (.putfield 11, 3) := by decide +kernel
theorem dX0_init_12 : decode cX0_init 12 = .ok (.aload_n 0, 1) := by decide +kernel
theorem dX0_init_13 : decode cX0_init 13 = .ok (.iconst 0, 1) := by decide +kernel
theorem dX0_init_14 : decode cX0_init 14 = .ok (.putfield 15, 3) := by decide +kernel
theorem dX0_init_17 : decode cX0_init 17 = .ok (.aload_n 0, 1) := by decide +kernel
theorem dX0_init_18 : decode cX0_init 18 = .ok (.bipush 40, 2) := by decide +kernel
theorem dX0_init_20 : decode cX0_init 20 = .ok (.newarray .int, 2) := by decide +kernel
theorem dX0_init_22 : decode cX0_init 22 = .ok (.putfield 19, 3) := by decide +kernel
theorem dX0_init_25 : decode cX0_init 25 = .ok (.aload_n 0, 1) := by decide +kernel
theorem dX0_init_26 : decode cX0_init 26 = .ok (.bipush 40, 2) := by decide +kernel
theorem dX0_init_28 : decode cX0_init 28 = .ok (.newarray .int, 2) := by decide +kernel
theorem dX0_init_30 : decode cX0_init 30 = .ok (.putfield 22, 3) := by decide +kernel
theorem dX0_init_33 : decode cX0_init 33 = .ok (.aload_n 0, 1) := by decide +kernel
theorem dX0_init_34 : decode cX0_init 34 = .ok (.iconst 4, 1) := by decide +kernel
theorem dX0_init_35 : decode cX0_init 35 = .ok (.newarray .int, 2) := by decide +kernel
theorem dX0_init_37 : decode cX0_init 37 = .ok (.putfield 25, 3) := by decide +kernel
theorem dX0_init_40 : decode cX0_init 40 = .ok (.aload_n 0, 1) := by decide +kernel
theorem dX0_init_41 : decode cX0_init 41 = .ok (.iconst 4, 1) := by decide +kernel
theorem dX0_init_42 : decode cX0_init 42 = .ok (.newarray .int, 2) := by decide +kernel
theorem dX0_init_44 : decode cX0_init 44 = .ok (.putfield 28, 3) := by decide +kernel
theorem dX0_init_47 : decode cX0_init 47 = .ok (.aload_n 0, 1) := by decide +kernel
theorem dX0_init_48 : decode cX0_init 48 = .ok (.iconst 4, 1) := by decide +kernel
theorem dX0_init_49 : decode cX0_init 49 = .ok (.newarray .int, 2) := by decide +kernel
theorem dX0_init_51 : decode cX0_init 51 = .ok (.putfield 31, 3) := by decide +kernel
theorem dX0_init_54 : decode cX0_init 54 = .ok (.aload_n 0, 1) := by decide +kernel
theorem dX0_init_55 : decode cX0_init 55 = .ok (.getfield 28, 3) := by decide +kernel
theorem dX0_init_58 : decode cX0_init 58 = .ok (.iconst (-1), 1) := by decide +kernel
theorem dX0_init_59 : decode cX0_init 59 = .ok (.invokestatic 34, 3) := by decide +kernel
theorem dX0_init_62 : decode cX0_init 62 = .ok (.return_, 1) := by decide +kernel
theorem dX0_define_0 : decode cX0_define 0 = .ok (.iload_n 1, 1) := by decide +kernel
theorem dX0_define_1 : decode cX0_define 1 = .ok (.iconst 0, 1) := by decide +kernel
theorem dX0_define_2 : decode cX0_define 2 = .ok (.iconst 3, 1) := by decide +kernel
theorem dX0_define_3 : decode cX0_define 3 = .ok (.invokestatic 40, 3) := by decide +kernel
theorem dX0_define_6 : decode cX0_define 6 = .ok (.ifCond .eq 44, 3) := by decide +kernel
theorem dX0_define_9 : decode cX0_define 9 = .ok (.iload_n 2, 1) := by decide +kernel
theorem dX0_define_10 : decode cX0_define 10 = .ok (.iconst 0, 1) := by decide +kernel
theorem dX0_define_11 : decode cX0_define 11 = .ok (.bipush 17, 2) := by decide +kernel
theorem dX0_define_13 : decode cX0_define 13 = .ok (.invokestatic 40, 3) := by decide +kernel
theorem dX0_define_16 : decode cX0_define 16 = .ok (.ifCond .eq 34, 3) := by decide +kernel
theorem dX0_define_19 : decode cX0_define 19 = .ok (.iload_n 3, 1) := by decide +kernel
theorem dX0_define_20 : decode cX0_define 20 = .ok (.iload_n 2, 1) := by decide +kernel
theorem dX0_define_21 : decode cX0_define 21 = .ok (.bipush 17, 2) := by decide +kernel
theorem dX0_define_23 : decode cX0_define 23 = .ok (.invokestatic 40, 3) := by decide +kernel
theorem dX0_define_26 : decode cX0_define 26 = .ok (.ifCond .eq 24, 3) := by decide +kernel
theorem dX0_define_29 : decode cX0_define 29 = .ok (.iload 4, 2) := by decide +kernel
theorem dX0_define_31 : decode cX0_define 31 = .ok (.iconst 1, 1) := by decide +kernel
theorem dX0_define_32 : decode cX0_define 32 = .ok (.bipush 20, 2) := by decide +kernel
theorem dX0_define_34 : decode cX0_define 34 = .ok (.invokestatic 40, 3) := by decide +kernel
theorem dX0_define_37 : decode cX0_define 37 = .ok (.ifCond .eq 13, 3) := by decide +kernel
theorem dX0_define_40 : decode cX0_define 40 = .ok (.aload_n 0, 1) := by decide +kernel
theorem dX0_define_41 : decode cX0_define 41 = .ok (.iload_n 1, 1) := by decide +kernel
theorem dX0_define_42 : decode cX0_define 42 = .ok (.iload_n 2, 1) := by decide +kernel
theorem dX0_define_43 : decode cX0_define 43 = .ok (.iload_n 3, 1) := by decide +kernel
theorem dX0_define_44 : decode cX0_define 44 = .ok (.invokevirtual 44, 3) := by decide +kernel
theorem dX0_define_47 : decode cX0_define 47 = .ok (.ifCond .eq 6, 3) := by decide +kernel
theorem dX0_define_50 : decode cX0_define 50 = .ok (.bipush (-2), 2) := by decide +kernel
theorem dX0_define_52 : decode cX0_define 52 = .ok (.ireturn, 1) := by decide +kernel
theorem dX0_define_53 : decode cX0_define 53 = .ok (.aload_n 0, 1) := by decide +kernel
theorem dX0_define_54 : decode cX0_define 54 = .ok (.iload_n 1, 1) := by decide +kernel
theorem dX0_define_55 : decode cX0_define 55 = .ok (.invokevirtual 47, 3) := by decide +kernel
theorem dX0_define_58 : decode cX0_define 58 = .ok (.ifCond .le 6, 3) := by decide +kernel
theorem dX0_define_61 : decode cX0_define 61 = .ok (.bipush (-3), 2) := by decide +kernel
theorem dX0_define_63 : decode cX0_define 63 = .ok (.ireturn, 1) := by decide +kernel
theorem dX0_define_64 : decode cX0_define 64 = .ok (.aload_n 0, 1) := by decide +kernel
theorem dX0_define_65 : decode cX0_define 65 = .ok (.getfield 25, 3) := by decide +kernel
theorem dX0_define_68 : decode cX0_define 68 = .ok (.iload_n 1, 1) := by decide +kernel
theorem dX0_define_69 : decode cX0_define 69 = .ok (.iload_n 2, 1) := by decide +kernel
theorem dX0_define_70 : decode cX0_define 70 = .ok (.iastore, 1) := by decide +kernel
theorem dX0_define_71 : decode cX0_define 71 = .ok (.aload_n 0, 1) := by decide +kernel
theorem dX0_define_72 : decode cX0_define 72 = .ok (.getfield 28, 3) := by decide +kernel
theorem dX0_define_75 : decode cX0_define 75 = .ok (.iload_n 1, 1) := by decide +kernel
theorem dX0_define_76 : decode cX0_define 76 = .ok (.iload_n 3, 1) := by decide +kernel
theorem dX0_define_77 : decode cX0_define 77 = .ok (.iastore, 1) := by decide +kernel
theorem dX0_define_78 : decode cX0_define 78 = .ok (.aload_n 0, 1) := by decide +kernel
theorem dX0_define_79 : decode cX0_define 79 = .ok (.getfield 31, 3) := by decide +kernel
theorem dX0_define_82 : decode cX0_define 82 = .ok (.iload_n 1, 1) := by decide +kernel
theorem dX0_define_83 : decode cX0_define 83 = .ok (.iload 4, 2) := by decide +kernel
theorem dX0_define_85 : decode cX0_define 85 = .ok (.iastore, 1) := by decide +kernel
theorem dX0_define_86 : decode cX0_define 86 = .ok (.iconst 1, 1) := by decide +kernel
theorem dX0_define_87 : decode cX0_define 87 = .ok (.ireturn, 1) := by decide +kernel
theorem dX0_isOfAnother_0 : decode cX0_isOfAnother 0 = .ok (.iconst 0, 1) := by decide +kernel
theorem dX0_isOfAnother_1 : decode cX0_isOfAnother 1 = .ok (.istore 4, 2) := by decide +kernel
theorem dX0_isOfAnother_3 : decode cX0_isOfAnother 3 = .ok (.iload 4, 2) := by decide +kernel
theorem dX0_isOfAnother_5 : decode cX0_isOfAnother 5 = .ok (.iconst 4, 1) := by decide +kernel
theorem dX0_isOfAnother_6 : decode cX0_isOfAnother 6 = .ok (.if_icmp .ge 39, 3) := by decide +kernel
theorem dX0_isOfAnother_9 : decode cX0_isOfAnother 9 = .ok (.iload 4, 2) := by decide +kernel
theorem dX0_isOfAnother_11 : decode cX0_isOfAnother 11 = .ok (.iload_n 1, 1) := by decide +kernel
theorem dX0_isOfAnother_12 : decode cX0_isOfAnother 12 = .ok (.if_icmp .eq 27, 3) := by decide +kernel
theorem dX0_isOfAnother_15 : decode cX0_isOfAnother 15 = .ok (.iload_n 2, 1) := by decide +kernel
theorem dX0_isOfAnother_16 : decode cX0_isOfAnother 16 = .ok (.aload_n 0, 1) := by decide +kernel
theorem dX0_isOfAnother_17 : decode cX0_isOfAnother 17 = .ok (.getfield 28, 3) := by decide +kernel
theorem dX0_isOfAnother_20 : decode cX0_isOfAnother 20 = .ok (.iload 4, 2) := by decide +kernel
theorem dX0_isOfAnother_22 : decode cX0_isOfAnother 22 = .ok (.iaload, 1) := by decide +kernel
theorem dX0_isOfAnother_23 : decode cX0_isOfAnother 23 = .ok (.if_icmp .gt 16, 3) := by decide +kernel
theorem dX0_isOfAnother_26 : decode cX0_isOfAnother 26 = .ok (.aload_n 0, 1) := by decide +kernel
theorem dX0_isOfAnother_27 : decode cX0_isOfAnother 27 = .ok (.getfield 25, 3) := by decide +kernel
theorem dX0_isOfAnother_30 : decode cX0_isOfAnother 30 = .ok (.iload 4, 2) := by decide +kernel
theorem dX0_isOfAnother_32 : decode cX0_isOfAnother 32 = .ok (.iaload, 1) := by decide +kernel
theorem dX0_isOfAnother_33 : decode cX0_isOfAnother 33 = .ok (.iload_n 3, 1) := by decide +kernel
theorem dX0_isOfAnother_34 : decode cX0_isOfAnother 34 = .ok (.if_icmp .gt 5, 3) := by decide +kernel
theorem dX0_isOfAnother_37 : decode cX0_isOfAnother 37 = .ok (.iconst 1, 1) := by decide +kernel
theorem dX0_isOfAnother_38 : decode cX0_isOfAnother 38 = .ok (.ireturn, 1) := by decide +kernel
theorem dX0_isOfAnother_39 : decode cX0_isOfAnother 39 = .ok (.iinc 4 1, 3) := by decide +kernel
theorem dX0_isOfAnother_42 : decode cX0_isOfAnother 42 = .ok (.goto (-39), 3) := by decide +kernel
theorem dX0_isOfAnother_45 : decode cX0_isOfAnother 45 = .ok (.iconst 0, 1) := by decide +kernel
theorem dX0_isOfAnother_46 : decode cX0_isOfAnother 46 = .ok (.ireturn, 1) := by decide +kernel
theorem dX0_childrenIn_0 : decode cX0_childrenIn 0 = .ok (.iconst 0, 1) := by decide +kernel
theorem dX0_childrenIn_1 : decode cX0_childrenIn 1 = .ok (.istore_n 2, 1) := by decide +kernel
theorem dX0_childrenIn_2 : decode cX0_childrenIn 2 = .ok (.iconst 0, 1) := by decide +kernel
theorem dX0_childrenIn_3 : decode cX0_childrenIn 3 = .ok (.istore_n 3, 1) := by decide +kernel
theorem dX0_childrenIn_4 : decode cX0_childrenIn 4 = .ok (.iload_n 3, 1) := by decide +kernel
theorem dX0_childrenIn_5 : decode cX0_childrenIn 5 = .ok (.aload_n 0, 1) := by decide +kernel
theorem dX0_childrenIn_6 : decode cX0_childrenIn 6 = .ok (.getfield 15, 3) := by decide +kernel
theorem dX0_childrenIn_9 : decode cX0_childrenIn 9 = .ok (.if_icmp .ge 22, 3) := by decide +kernel
theorem dX0_childrenIn_12 : decode cX0_childrenIn 12 = .ok (.aload_n 0, 1) := by decide +kernel
theorem dX0_childrenIn_13 : decode cX0_childrenIn 13 = .ok (.getfield 11, 3) := by decide +kernel
theorem dX0_childrenIn_16 : decode cX0_childrenIn 16 = .ok (.iload_n 3, 1) := by decide +kernel
theorem dX0_childrenIn_17 : decode cX0_childrenIn 17 = .ok (.iaload, 1) := by decide +kernel
theorem dX0_childrenIn_18 : decode cX0_childrenIn 18 = .ok (.iload_n 1, 1) := by decide +kernel
theorem dX0_childrenIn_19 : decode cX0_childrenIn 19 = .ok (.if_icmp .ne 6, 3) := by decide +kernel
theorem dX0_childrenIn_22 : decode cX0_childrenIn 22 = .ok (.iinc 2 1, 3) := by decide +kernel
theorem dX0_childrenIn_25 : decode cX0_childrenIn 25 = .ok (.iinc 3 1, 3) := by decide +kernel
theorem dX0_childrenIn_28 : decode cX0_childrenIn 28 = .ok (.goto (-24), 3) := by decide +kernel
theorem dX0_childrenIn_31 : decode cX0_childrenIn 31 = .ok (.iload_n 2, 1) := by decide +kernel
theorem dX0_childrenIn_32 : decode cX0_childrenIn 32 = .ok (.ireturn, 1) := by decide +kernel
theorem dX0_hasChild_0 : decode cX0_hasChild 0 = .ok (.iload_n 1, 1) := by decide +kernel
theorem dX0_hasChild_1 : decode cX0_hasChild 1 = .ok (.iconst 0, 1) := by decide +kernel
theorem dX0_hasChild_2 : decode cX0_hasChild 2 = .ok (.aload_n 0, 1) := by decide +kernel
theorem dX0_hasChild_3 : decode cX0_hasChild 3 = .ok (.getfield 15, 3) := by decide +kernel
theorem dX0_hasChild_6 : decode cX0_hasChild 6 = .ok (.iconst 1, 1) := by decide +kernel
theorem dX0_hasChild_7 : decode cX0_hasChild 7 = .ok (.isub, 1) := by decide +kernel
theorem dX0_hasChild_8 : decode cX0_hasChild 8 = .ok (.invokestatic 40, 3) := by decide +kernel
theorem dX0_hasChild_11 : decode cX0_hasChild 11 = .ok (.ireturn, 1) := by decide +kernel
theorem dX0_addChild_0 : decode cX0_addChild 0 = .ok (.iload_n 2, 1) := by decide +kernel
theorem dX0_addChild_1 : decode cX0_addChild 1 = .ok (.iconst 0, 1) := by decide +kernel
theorem dX0_addChild_2 : decode cX0_addChild 2 = .ok (.bipush 17, 2) := by decide +kernel
theorem dX0_addChild_4 : decode cX0_addChild 4 = .ok (.invokestatic 40, 3) := by decide +kernel
theorem dX0_addChild_7 : decode cX0_addChild 7 = .ok (.ifCond .ne 6, 3) := by decide +kernel
theorem dX0_addChild_10 : decode cX0_addChild 10 = .ok (.bipush (-2), 2) := by decide +kernel
theorem dX0_addChild_12 : decode cX0_addChild 12 = .ok (.ireturn, 1) := by decide +kernel
theorem dX0_addChild_13 : decode cX0_addChild 13 = .ok (.aload_n 0, 1) := by decide +kernel
theorem dX0_addChild_14 : decode cX0_addChild 14 = .ok (.getfield 15, 3) := by decide +kernel
theorem dX0_addChild_17 : decode cX0_addChild 17 = .ok (.bipush 40, 2) := by decide +kernel
theorem dX0_addChild_19 : decode cX0_addChild 19 = .ok (.if_icmp .ge 12, 3) := by decide +kernel
theorem dX0_addChild_22 : decode cX0_addChild 22 = .ok (.aload_n 0, 1) := by decide +kernel
theorem dX0_addChild_23 : decode cX0_addChild 23 = .ok (.iload_n 1, 1) := by decide +kernel
theorem dX0_addChild_24 : decode cX0_addChild 24 = .ok (.invokevirtual 51, 3) := by decide +kernel
theorem dX0_addChild_27 : decode cX0_addChild 27 = .ok (.iload_n 3, 1) := by decide +kernel
theorem dX0_addChild_28 : decode cX0_addChild 28 = .ok (.if_icmp .lt 6, 3) := by decide +kernel
theorem dX0_addChild_31 : decode cX0_addChild 31 = .ok (.bipush (-4), 2) := by decide +kernel
theorem dX0_addChild_33 : decode cX0_addChild 33 = .ok (.ireturn, 1) := by decide +kernel
theorem dX0_addChild_34 : decode cX0_addChild 34 = .ok (.aload_n 0, 1) := by decide +kernel
theorem dX0_addChild_35 : decode cX0_addChild 35 = .ok (.getfield 19, 3) := by decide +kernel
theorem dX0_addChild_38 : decode cX0_addChild 38 = .ok (.aload_n 0, 1) := by decide +kernel
theorem dX0_addChild_39 : decode cX0_addChild 39 = .ok (.getfield 15, 3) := by decide +kernel
theorem dX0_addChild_42 : decode cX0_addChild 42 = .ok (.iload_n 1, 1) := by decide +kernel
theorem dX0_addChild_43 : decode cX0_addChild 43 = .ok (.iastore, 1) := by decide +kernel
theorem dX0_addChild_44 : decode cX0_addChild 44 = .ok (.aload_n 0, 1) := by decide +kernel
theorem dX0_addChild_45 : decode cX0_addChild 45 = .ok (.getfield 22, 3) := by decide +kernel
theorem dX0_addChild_48 : decode cX0_addChild 48 = .ok (.aload_n 0, 1) := by decide +kernel
theorem dX0_addChild_49 : decode cX0_addChild 49 = .ok (.getfield 15, 3) := by decide +kernel
theorem dX0_addChild_52 : decode cX0_addChild 52 = .ok (.iload_n 2, 1) := by decide +kernel
theorem dX0_addChild_53 : decode cX0_addChild 53 = .ok (.iastore, 1) := by decide +kernel
theorem dX0_addChild_54 : decode cX0_addChild 54 = .ok (.aload_n 0, 1) := by decide +kernel
theorem dX0_addChild_55 : decode cX0_addChild 55 = .ok (.getfield 11, 3) := by decide +kernel
theorem dX0_addChild_58 : decode cX0_addChild 58 = .ok (.aload_n 0, 1) := by decide +kernel
theorem dX0_addChild_59 : decode cX0_addChild 59 = .ok (.getfield 15, 3) := by decide +kernel
theorem dX0_addChild_62 : decode cX0_addChild 62 = .ok (.iconst (-1), 1) := by decide +kernel
theorem dX0_addChild_63 : decode cX0_addChild 63 = .ok (.iastore, 1) := by decide +kernel
theorem dX0_addChild_64 : decode cX0_addChild 64 = .ok (.aload_n 0, 1) := by decide +kernel
theorem dX0_addChild_65 : decode cX0_addChild 65 = .ok (.dup, 1) := by decide +kernel
theorem dX0_addChild_66 : decode cX0_addChild 66 = .ok (.getfield 15, 3) := by decide +kernel
theorem dX0_addChild_69 : decode cX0_addChild 69 = .ok (.iconst 1, 1) := by decide +kernel
theorem dX0_addChild_70 : decode cX0_addChild 70 = .ok (.iadd, 1) := by decide +kernel
theorem dX0_addChild_71 : decode cX0_addChild 71 = .ok (.putfield 15, 3) := by decide +kernel
theorem dX0_addChild_74 : decode cX0_addChild 74 = .ok (.aload_n 0, 1) := by decide +kernel
theorem dX0_addChild_75 : decode cX0_addChild 75 = .ok (.getfield 15, 3) := by decide +kernel
theorem dX0_addChild_78 : decode cX0_addChild 78 = .ok (.iconst 1, 1) := by decide +kernel
theorem dX0_addChild_79 : decode cX0_addChild 79 = .ok (.isub, 1) := by decide +kernel
theorem dX0_addChild_80 : decode cX0_addChild 80 = .ok (.ireturn, 1) := by decide +kernel
theorem dX0_childrenOf_0 : decode cX0_childrenOf 0 = .ok (.iconst 0, 1) := by decide +kernel
theorem dX0_childrenOf_1 : decode cX0_childrenOf 1 = .ok (.istore_n 2, 1) := by decide +kernel
theorem dX0_childrenOf_2 : decode cX0_childrenOf 2 = .ok (.iconst 0, 1) := by decide +kernel
theorem dX0_childrenOf_3 : decode cX0_childrenOf 3 = .ok (.istore_n 3, 1) := by decide +kernel
theorem dX0_childrenOf_4 : decode cX0_childrenOf 4 = .ok (.iload_n 3, 1) := by decide +kernel
theorem dX0_childrenOf_5 : decode cX0_childrenOf 5 = .ok (.aload_n 0, 1) := by decide +kernel
theorem dX0_childrenOf_6 : decode cX0_childrenOf 6 = .ok (.getfield 15, 3) := by decide +kernel
theorem dX0_childrenOf_9 : decode cX0_childrenOf 9 = .ok (.if_icmp .ge 22, 3) := by decide +kernel
theorem dX0_childrenOf_12 : decode cX0_childrenOf 12 = .ok (.aload_n 0, 1) := by decide +kernel
theorem dX0_childrenOf_13 : decode cX0_childrenOf 13 = .ok (.getfield 19, 3) := by decide +kernel
theorem dX0_childrenOf_16 : decode cX0_childrenOf 16 = .ok (.iload_n 3, 1) := by decide +kernel
theorem dX0_childrenOf_17 : decode cX0_childrenOf 17 = .ok (.iaload, 1) := by decide +kernel
theorem dX0_childrenOf_18 : decode cX0_childrenOf 18 = .ok (.iload_n 1, 1) := by decide +kernel
theorem dX0_childrenOf_19 : decode cX0_childrenOf 19 = .ok (.if_icmp .ne 6, 3) := by decide +kernel
theorem dX0_childrenOf_22 : decode cX0_childrenOf 22 = .ok (.iinc 2 1, 3) := by decide +kernel
theorem dX0_childrenOf_25 : decode cX0_childrenOf 25 = .ok (.iinc 3 1, 3) := by decide +kernel
theorem dX0_childrenOf_28 : decode cX0_childrenOf 28 = .ok (.goto (-24), 3) := by decide +kernel
theorem dX0_childrenOf_31 : decode cX0_childrenOf 31 = .ok (.iload_n 2, 1) := by decide +kernel
theorem dX0_childrenOf_32 : decode cX0_childrenOf 32 = .ok (.ireturn, 1) := by decide +kernel
theorem dX0_handOver_0 : decode cX0_handOver 0 = .ok (.aload_n 0, 1) := by decide +kernel
theorem dX0_handOver_1 : decode cX0_handOver 1 = .ok (.iload_n 1, 1) := by decide +kernel
theorem dX0_handOver_2 : decode cX0_handOver 2 = .ok (.invokevirtual 54, 3) := by decide +kernel
theorem dX0_handOver_5 : decode cX0_handOver 5 = .ok (.ifCond .ne 6, 3) := by decide +kernel
theorem dX0_handOver_8 : decode cX0_handOver 8 = .ok (.bipush (-2), 2) := by decide +kernel
theorem dX0_handOver_10 : decode cX0_handOver 10 = .ok (.ireturn, 1) := by decide +kernel
theorem dX0_handOver_11 : decode cX0_handOver 11 = .ok (.aload_n 0, 1) := by decide +kernel
theorem dX0_handOver_12 : decode cX0_handOver 12 = .ok (.aload_n 0, 1) := by decide +kernel
theorem dX0_handOver_13 : decode cX0_handOver 13 = .ok (.getfield 22, 3) := by decide +kernel
theorem dX0_handOver_16 : decode cX0_handOver 16 = .ok (.iload_n 1, 1) := by decide +kernel
theorem dX0_handOver_17 : decode cX0_handOver 17 = .ok (.iaload, 1) := by decide +kernel
theorem dX0_handOver_18 : decode cX0_handOver 18 = .ok (.invokevirtual 58, 3) := by decide +kernel
theorem dX0_handOver_21 : decode cX0_handOver 21 = .ok (.istore_n 2, 1) := by decide +kernel
theorem dX0_handOver_22 : decode cX0_handOver 22 = .ok (.iload_n 2, 1) := by decide +kernel
theorem dX0_handOver_23 : decode cX0_handOver 23 = .ok (.iconst (-1), 1) := by decide +kernel
theorem dX0_handOver_24 : decode cX0_handOver 24 = .ok (.if_icmp .eq 13, 3) := by decide +kernel
theorem dX0_handOver_27 : decode cX0_handOver 27 = .ok (.aload_n 0, 1) := by decide +kernel
theorem dX0_handOver_28 : decode cX0_handOver 28 = .ok (.getfield 11, 3) := by decide +kernel
theorem dX0_handOver_31 : decode cX0_handOver 31 = .ok (.iload_n 1, 1) := by decide +kernel
theorem dX0_handOver_32 : decode cX0_handOver 32 = .ok (.iaload, 1) := by decide +kernel
theorem dX0_handOver_33 : decode cX0_handOver 33 = .ok (.iload_n 2, 1) := by decide +kernel
theorem dX0_handOver_34 : decode cX0_handOver 34 = .ok (.if_icmp .ne 6, 3) := by decide +kernel
theorem dX0_handOver_37 : decode cX0_handOver 37 = .ok (.bipush (-3), 2) := by decide +kernel
theorem dX0_handOver_39 : decode cX0_handOver 39 = .ok (.ireturn, 1) := by decide +kernel
theorem dX0_handOver_40 : decode cX0_handOver 40 = .ok (.aload_n 0, 1) := by decide +kernel
theorem dX0_handOver_41 : decode cX0_handOver 41 = .ok (.iload_n 2, 1) := by decide +kernel
theorem dX0_handOver_42 : decode cX0_handOver 42 = .ok (.invokevirtual 47, 3) := by decide +kernel
theorem dX0_handOver_45 : decode cX0_handOver 45 = .ok (.aload_n 0, 1) := by decide +kernel
theorem dX0_handOver_46 : decode cX0_handOver 46 = .ok (.getfield 31, 3) := by decide +kernel
theorem dX0_handOver_49 : decode cX0_handOver 49 = .ok (.iload_n 2, 1) := by decide +kernel
theorem dX0_handOver_50 : decode cX0_handOver 50 = .ok (.iaload, 1) := by decide +kernel
theorem dX0_handOver_51 : decode cX0_handOver 51 = .ok (.if_icmp .lt 6, 3) := by decide +kernel
theorem dX0_handOver_54 : decode cX0_handOver 54 = .ok (.bipush (-4), 2) := by decide +kernel
theorem dX0_handOver_56 : decode cX0_handOver 56 = .ok (.ireturn, 1) := by decide +kernel
theorem dX0_handOver_57 : decode cX0_handOver 57 = .ok (.aload_n 0, 1) := by decide +kernel
theorem dX0_handOver_58 : decode cX0_handOver 58 = .ok (.getfield 11, 3) := by decide +kernel
theorem dX0_handOver_61 : decode cX0_handOver 61 = .ok (.iload_n 1, 1) := by decide +kernel
theorem dX0_handOver_62 : decode cX0_handOver 62 = .ok (.iload_n 2, 1) := by decide +kernel
theorem dX0_handOver_63 : decode cX0_handOver 63 = .ok (.iastore, 1) := by decide +kernel
theorem dX0_handOver_64 : decode cX0_handOver 64 = .ok (.iload_n 2, 1) := by decide +kernel
theorem dX0_handOver_65 : decode cX0_handOver 65 = .ok (.ireturn, 1) := by decide +kernel
theorem dX0_groupFor_0 : decode cX0_groupFor 0 = .ok (.iconst 0, 1) := by decide +kernel
theorem dX0_groupFor_1 : decode cX0_groupFor 1 = .ok (.istore_n 2, 1) := by decide +kernel
theorem dX0_groupFor_2 : decode cX0_groupFor 2 = .ok (.iload_n 2, 1) := by decide +kernel
theorem dX0_groupFor_3 : decode cX0_groupFor 3 = .ok (.iconst 4, 1) := by decide +kernel
theorem dX0_groupFor_4 : decode cX0_groupFor 4 = .ok (.if_icmp .ge 30, 3) := by decide +kernel
theorem dX0_groupFor_7 : decode cX0_groupFor 7 = .ok (.iload_n 1, 1) := by decide +kernel
theorem dX0_groupFor_8 : decode cX0_groupFor 8 = .ok (.aload_n 0, 1) := by decide +kernel
theorem dX0_groupFor_9 : decode cX0_groupFor 9 = .ok (.getfield 25, 3) := by decide +kernel
theorem dX0_groupFor_12 : decode cX0_groupFor 12 = .ok (.iload_n 2, 1) := by decide +kernel
theorem dX0_groupFor_13 : decode cX0_groupFor 13 = .ok (.iaload, 1) := by decide +kernel
theorem dX0_groupFor_14 : decode cX0_groupFor 14 = .ok (.aload_n 0, 1) := by decide +kernel
theorem dX0_groupFor_15 : decode cX0_groupFor 15 = .ok (.getfield 28, 3) := by decide +kernel
theorem dX0_groupFor_18 : decode cX0_groupFor 18 = .ok (.iload_n 2, 1) := by decide +kernel
theorem dX0_groupFor_19 : decode cX0_groupFor 19 = .ok (.iaload, 1) := by decide +kernel
theorem dX0_groupFor_20 : decode cX0_groupFor 20 = .ok (.invokestatic 40, 3) := by decide +kernel
theorem dX0_groupFor_23 : decode cX0_groupFor 23 = .ok (.ifCond .eq 5, 3) := by decide +kernel
theorem dX0_groupFor_26 : decode cX0_groupFor 26 = .ok (.iload_n 2, 1) := by decide +kernel
theorem dX0_groupFor_27 : decode cX0_groupFor 27 = .ok (.ireturn, 1) := by decide +kernel
theorem dX0_groupFor_28 : decode cX0_groupFor 28 = .ok (.iinc 2 1, 3) := by decide +kernel
theorem dX0_groupFor_31 : decode cX0_groupFor 31 = .ok (.goto (-29), 3) := by decide +kernel
theorem dX0_groupFor_34 : decode cX0_groupFor 34 = .ok (.iconst (-1), 1) := by decide +kernel
theorem dX0_groupFor_35 : decode cX0_groupFor 35 = .ok (.ireturn, 1) := by decide +kernel
theorem dX0_giveBack_0 : decode cX0_giveBack 0 = .ok (.aload_n 0, 1) := by decide +kernel
theorem dX0_giveBack_1 : decode cX0_giveBack 1 = .ok (.iload_n 1, 1) := by decide +kernel
theorem dX0_giveBack_2 : decode cX0_giveBack 2 = .ok (.invokevirtual 54, 3) := by decide +kernel
theorem dX0_giveBack_5 : decode cX0_giveBack 5 = .ok (.ifCond .ne 6, 3) := by decide +kernel
theorem dX0_giveBack_8 : decode cX0_giveBack 8 = .ok (.bipush (-2), 2) := by decide +kernel
theorem dX0_giveBack_10 : decode cX0_giveBack 10 = .ok (.ireturn, 1) := by decide +kernel
theorem dX0_giveBack_11 : decode cX0_giveBack 11 = .ok (.aload_n 0, 1) := by decide +kernel
theorem dX0_giveBack_12 : decode cX0_giveBack 12 = .ok (.getfield 11, 3) := by decide +kernel
theorem dX0_giveBack_15 : decode cX0_giveBack 15 = .ok (.iload_n 1, 1) := by decide +kernel
theorem dX0_giveBack_16 : decode cX0_giveBack 16 = .ok (.iaload, 1) := by decide +kernel
theorem dX0_giveBack_17 : decode cX0_giveBack 17 = .ok (.iconst (-1), 1) := by decide +kernel
theorem dX0_giveBack_18 : decode cX0_giveBack 18 = .ok (.if_icmp .eq 13, 3) := by decide +kernel
theorem dX0_giveBack_21 : decode cX0_giveBack 21 = .ok (.aload_n 0, 1) := by decide +kernel
theorem dX0_giveBack_22 : decode cX0_giveBack 22 = .ok (.getfield 19, 3) := by decide +kernel
theorem dX0_giveBack_25 : decode cX0_giveBack 25 = .ok (.iload_n 1, 1) := by decide +kernel
theorem dX0_giveBack_26 : decode cX0_giveBack 26 = .ok (.iaload, 1) := by decide +kernel
theorem dX0_giveBack_27 : decode cX0_giveBack 27 = .ok (.iload_n 2, 1) := by decide +kernel
theorem dX0_giveBack_28 : decode cX0_giveBack 28 = .ok (.if_icmp .eq 6, 3) := by decide +kernel
theorem dX0_giveBack_31 : decode cX0_giveBack 31 = .ok (.bipush (-3), 2) := by decide +kernel
theorem dX0_giveBack_33 : decode cX0_giveBack 33 = .ok (.ireturn, 1) := by decide +kernel
theorem dX0_giveBack_34 : decode cX0_giveBack 34 = .ok (.aload_n 0, 1) := by decide +kernel
theorem dX0_giveBack_35 : decode cX0_giveBack 35 = .ok (.getfield 11, 3) := by decide +kernel
theorem dX0_giveBack_38 : decode cX0_giveBack 38 = .ok (.iload_n 1, 1) := by decide +kernel
theorem dX0_giveBack_39 : decode cX0_giveBack 39 = .ok (.iconst (-1), 1) := by decide +kernel
theorem dX0_giveBack_40 : decode cX0_giveBack 40 = .ok (.iastore, 1) := by decide +kernel
theorem dX0_giveBack_41 : decode cX0_giveBack 41 = .ok (.iconst 1, 1) := by decide +kernel
theorem dX0_giveBack_42 : decode cX0_giveBack 42 = .ok (.ireturn, 1) := by decide +kernel
theorem dX1_init_0 : decode cX1_init 0 = .ok (.aload_n 0, 1) := by decide +kernel
theorem dX1_init_1 : decode cX1_init 1 = .ok (.invokespecial 3, 3) := by decide +kernel
theorem dX1_init_4 : decode cX1_init 4 = .ok (.aload_n 0, 1) := by decide +kernel
theorem dX1_init_5 : decode cX1_init 5 = .ok (.bipush 30, 2) := by decide +kernel
theorem dX1_init_7 : decode cX1_init 7 = .ok (.newarray .int, 2) := by decide +kernel
theorem dX1_init_9 : decode cX1_init 9 = .ok (.putfield 11, 3) := by decide +kernel
theorem dX1_init_12 : decode cX1_init 12 = .ok (.aload_n 0, 1) := by decide +kernel
theorem dX1_init_13 : decode cX1_init 13 = .ok (.bipush 30, 2) := by decide +kernel
theorem dX1_init_15 : decode cX1_init 15 = .ok (.newarray .int, 2) := by decide +kernel
theorem dX1_init_17 : decode cX1_init 17 = .ok (.putfield 15, 3) := by decide +kernel
theorem dX1_init_20 : decode cX1_init 20 = .ok (.aload_n 0, 1) := by decide +kernel
theorem dX1_init_21 : decode cX1_init 21 = .ok (.iconst 0, 1) := by decide +kernel
theorem dX1_init_22 : decode cX1_init 22 = .ok (.putfield 18, 3) := by decide +kernel
theorem dX1_init_25 : decode cX1_init 25 = .ok (.return_, 1) := by decide +kernel
theorem dX1_has_0 : decode cX1_has 0 = .ok (.iload_n 1, 1) := by decide +kernel
theorem dX1_has_1 : decode cX1_has 1 = .ok (.iconst 0, 1) := by decide +kernel
theorem dX1_has_2 : decode cX1_has 2 = .ok (.aload_n 0, 1) := by decide +kernel
theorem dX1_has_3 : decode cX1_has 3 = .ok (.getfield 18, 3) := by decide +kernel
theorem dX1_has_6 : decode cX1_has 6 = .ok (.iconst 1, 1) := by decide +kernel
theorem dX1_has_7 : decode cX1_has 7 = .ok (.isub, 1) := by decide +kernel
theorem dX1_has_8 : decode cX1_has 8 = .ok (.invokestatic 22, 3) := by decide +kernel
theorem dX1_has_11 : decode cX1_has 11 = .ok (.ireturn, 1) := by decide +kernel
theorem dX1_add_0 : decode cX1_add 0 = .ok (.iload_n 1, 1) := by decide +kernel
theorem dX1_add_1 : decode cX1_add 1 = .ok (.iconst 0, 1) := by decide +kernel
theorem dX1_add_2 : decode cX1_add 2 = .ok (.iconst 5, 1) := by decide +kernel
theorem dX1_add_3 : decode cX1_add 3 = .ok (.invokestatic 22, 3) := by decide +kernel
theorem dX1_add_6 : decode cX1_add 6 = .ok (.ifCond .eq 13, 3) := by decide +kernel
theorem dX1_add_9 : decode cX1_add 9 = .ok (.iload_n 2, 1) := by decide +kernel
theorem dX1_add_10 : decode cX1_add 10 = .ok (.iconst 1, 1) := by decide +kernel
theorem dX1_add_11 : decode cX1_add 11 = .ok (.bipush 8, 2) := by decide +kernel
theorem dX1_add_13 : decode cX1_add 13 = .ok (.invokestatic 22, 3) := by decide +kernel
theorem dX1_add_16 : decode cX1_add 16 = .ok (.ifCond .ne 6, 3) := by decide +kernel
theorem dX1_add_19 : decode cX1_add 19 = .ok (.bipush (-2), 2) := by decide +kernel
theorem dX1_add_21 : decode cX1_add 21 = .ok (.ireturn, 1) := by decide +kernel
theorem dX1_add_22 : decode cX1_add 22 = .ok (.aload_n 0, 1) := by decide +kernel
theorem dX1_add_23 : decode cX1_add 23 = .ok (.getfield 18, 3) := by decide +kernel
theorem dX1_add_26 : decode cX1_add 26 = .ok (.bipush 30, 2) := by decide +kernel
theorem dX1_add_28 : decode cX1_add 28 = .ok (.if_icmp .lt 6, 3) := by decide +kernel
theorem dX1_add_31 : decode cX1_add 31 = .ok (.bipush (-4), 2) := by decide +kernel
theorem dX1_add_33 : decode cX1_add 33 = .ok (.ireturn, 1) := by decide +kernel
theorem dX1_add_34 : decode cX1_add 34 = .ok (.aload_n 0, 1) := by decide +kernel
theorem dX1_add_35 : decode cX1_add 35 = .ok (.getfield 11, 3) := by decide +kernel
theorem dX1_add_38 : decode cX1_add 38 = .ok (.aload_n 0, 1) := by decide +kernel
theorem dX1_add_39 : decode cX1_add 39 = .ok (.getfield 18, 3) := by decide +kernel
theorem dX1_add_42 : decode cX1_add 42 = .ok (.iload_n 1, 1) := by decide +kernel
theorem dX1_add_43 : decode cX1_add 43 = .ok (.iastore, 1) := by decide +kernel
theorem dX1_add_44 : decode cX1_add 44 = .ok (.aload_n 0, 1) := by decide +kernel
theorem dX1_add_45 : decode cX1_add 45 = .ok (.getfield 15, 3) := by decide +kernel
theorem dX1_add_48 : decode cX1_add 48 = .ok (.aload_n 0, 1) := by decide +kernel
theorem dX1_add_49 : decode cX1_add 49 = .ok (.getfield 18, 3) := by decide +kernel
theorem dX1_add_52 : decode cX1_add 52 = .ok (.iload_n 2, 1) := by decide +kernel
theorem dX1_add_53 : decode cX1_add 53 = .ok (.iastore, 1) := by decide +kernel
theorem dX1_add_54 : decode cX1_add 54 = .ok (.aload_n 0, 1) := by decide +kernel
theorem dX1_add_55 : decode cX1_add 55 = .ok (.dup, 1) := by decide +kernel
theorem dX1_add_56 : decode cX1_add 56 = .ok (.getfield 18, 3) := by decide +kernel
theorem dX1_add_59 : decode cX1_add 59 = .ok (.iconst 1, 1) := by decide +kernel
theorem dX1_add_60 : decode cX1_add 60 = .ok (.iadd, 1) := by decide +kernel
theorem dX1_add_61 : decode cX1_add 61 = .ok (.putfield 18, 3) := by decide +kernel
theorem dX1_add_64 : decode cX1_add 64 = .ok (.aload_n 0, 1) := by decide +kernel
theorem dX1_add_65 : decode cX1_add 65 = .ok (.getfield 18, 3) := by decide +kernel
theorem dX1_add_68 : decode cX1_add 68 = .ok (.iconst 1, 1) := by decide +kernel
theorem dX1_add_69 : decode cX1_add 69 = .ok (.isub, 1) := by decide +kernel
theorem dX1_add_70 : decode cX1_add 70 = .ok (.ireturn, 1) := by decide +kernel
theorem dX2_init_0 : decode cX2_init 0 = .ok (.aload_n 0, 1) := by decide +kernel
theorem dX2_init_1 : decode cX2_init 1 = .ok (.invokespecial 3, 3) := by decide +kernel
theorem dX2_init_4 : decode cX2_init 4 = .ok (.aload_n 0, 1) := by decide +kernel
theorem dX2_init_5 : decode cX2_init 5 = .ok (.bipush 10, 2) := by decide +kernel
theorem dX2_init_7 : decode cX2_init 7 = .ok (.putfield 9, 3) := by decide +kernel
theorem dX2_init_10 : decode cX2_init 10 = .ok (.aload_n 0, 1) := by decide +kernel
theorem dX2_init_11 : decode cX2_init 11 = .ok (.iconst 0, 1) := by decide +kernel
theorem dX2_init_12 : decode cX2_init 12 = .ok (.putfield 15, 3) := by decide +kernel
theorem dX2_init_15 : decode cX2_init 15 = .ok (.aload_n 0, 1) := by decide +kernel
theorem dX2_init_16 : decode cX2_init 16 = .ok (.sipush 200, 3) := by decide +kernel
theorem dX2_init_19 : decode cX2_init 19 = .ok (.newarray .int, 2) := by decide +kernel
theorem dX2_init_21 : decode cX2_init 21 = .ok (.putfield 18, 3) := by decide +kernel
theorem dX2_init_24 : decode cX2_init 24 = .ok (.return_, 1) := by decide +kernel
theorem dX2_setPart_0 : decode cX2_setPart 0 = .ok (.iload_n 1, 1) := by decide +kernel
theorem dX2_setPart_1 : decode cX2_setPart 1 = .ok (.iconst 0, 1) := by decide +kernel
theorem dX2_setPart_2 : decode cX2_setPart 2 = .ok (.bipush 50, 2) := by decide +kernel
theorem dX2_setPart_4 : decode cX2_setPart 4 = .ok (.invokestatic 22, 3) := by decide +kernel
theorem dX2_setPart_7 : decode cX2_setPart 7 = .ok (.ifCond .ne 6, 3) := by decide +kernel
theorem dX2_setPart_10 : decode cX2_setPart 10 = .ok (.bipush (-2), 2) := by decide +kernel
theorem dX2_setPart_12 : decode cX2_setPart 12 = .ok (.ireturn, 1) := by decide +kernel
theorem dX2_setPart_13 : decode cX2_setPart 13 = .ok (.aload_n 0, 1) := by decide +kernel
theorem dX2_setPart_14 : decode cX2_setPart 14 = .ok (.getfield 9, 3) := by decide +kernel
theorem dX2_setPart_17 : decode cX2_setPart 17 = .ok (.istore_n 2, 1) := by decide +kernel
theorem dX2_setPart_18 : decode cX2_setPart 18 = .ok (.aload_n 0, 1) := by decide +kernel
theorem dX2_setPart_19 : decode cX2_setPart 19 = .ok (.iload_n 1, 1) := by decide +kernel
theorem dX2_setPart_20 : decode cX2_setPart 20 = .ok (.putfield 9, 3) := by decide +kernel
theorem dX2_setPart_23 : decode cX2_setPart 23 = .ok (.iload_n 2, 1) := by decide +kernel
theorem dX2_setPart_24 : decode cX2_setPart 24 = .ok (.ireturn, 1) := by decide +kernel
theorem dX2_serve_0 : decode cX2_serve 0 = .ok (.aload_n 0, 1) := by decide +kernel
theorem dX2_serve_1 : decode cX2_serve 1 = .ok (.getfield 15, 3) := by decide +kernel
theorem dX2_serve_4 : decode cX2_serve 4 = .ok (.bipush 40, 2) := by decide +kernel
theorem dX2_serve_6 : decode cX2_serve 6 = .ok (.if_icmp .lt 6, 3) := by decide +kernel
theorem dX2_serve_9 : decode cX2_serve 9 = .ok (.bipush (-4), 2) := by decide +kernel
theorem dX2_serve_11 : decode cX2_serve 11 = .ok (.ireturn, 1) := by decide +kernel
theorem dX2_serve_12 : decode cX2_serve 12 = .ok (.iload_n 3, 1) := by decide +kernel
theorem dX2_serve_13 : decode cX2_serve 13 = .ok (.bipush 100, 2) := by decide +kernel
theorem dX2_serve_15 : decode cX2_serve 15 = .ok (.aload_n 0, 1) := by decide +kernel
theorem dX2_serve_16 : decode cX2_serve 16 = .ok (.getfield 9, 3) := by decide +kernel
theorem dX2_serve_19 : decode cX2_serve 19 = .ok (.iadd, 1) := by decide +kernel
theorem dX2_serve_20 : decode cX2_serve 20 = .ok (.imul, 1) := by decide +kernel
theorem dX2_serve_21 : decode cX2_serve 21 = .ok (.bipush 100, 2) := by decide +kernel
theorem dX2_serve_23 : decode cX2_serve 23 = .ok (.idiv, 1) := by decide +kernel
theorem dX2_serve_24 : decode cX2_serve 24 = .ok (.istore 5, 2) := by decide +kernel
theorem dX2_serve_26 : decode cX2_serve 26 = .ok (.aload_n 0, 1) := by decide +kernel
theorem dX2_serve_27 : decode cX2_serve 27 = .ok (.getfield 15, 3) := by decide +kernel
theorem dX2_serve_30 : decode cX2_serve 30 = .ok (.iconst 5, 1) := by decide +kernel
theorem dX2_serve_31 : decode cX2_serve 31 = .ok (.imul, 1) := by decide +kernel
theorem dX2_serve_32 : decode cX2_serve 32 = .ok (.istore 6, 2) := by decide +kernel
theorem dX2_serve_34 : decode cX2_serve 34 = .ok (.aload_n 0, 1) := by decide +kernel
theorem dX2_serve_35 : decode cX2_serve 35 = .ok (.getfield 18, 3) := by decide +kernel
theorem dX2_serve_38 : decode cX2_serve 38 = .ok (.iload 6, 2) := by decide +kernel
theorem dX2_serve_40 : decode cX2_serve 40 = .ok (.iload_n 1, 1) := by decide +kernel
theorem dX2_serve_41 : decode cX2_serve 41 = .ok (.iastore, 1) := by decide +kernel
theorem dX2_serve_42 : decode cX2_serve 42 = .ok (.aload_n 0, 1) := by decide +kernel
theorem dX2_serve_43 : decode cX2_serve 43 = .ok (.getfield 18, 3) := by decide +kernel
theorem dX2_serve_46 : decode cX2_serve 46 = .ok (.iload 6, 2) := by decide +kernel
theorem dX2_serve_48 : decode cX2_serve 48 = .ok (.iconst 1, 1) := by decide +kernel
theorem dX2_serve_49 : decode cX2_serve 49 = .ok (.iadd, 1) := by decide +kernel
theorem dX2_serve_50 : decode cX2_serve 50 = .ok (.iload_n 2, 1) := by decide +kernel
theorem dX2_serve_51 : decode cX2_serve 51 = .ok (.iastore, 1) := by decide +kernel
theorem dX2_serve_52 : decode cX2_serve 52 = .ok (.aload_n 0, 1) := by decide +kernel
theorem dX2_serve_53 : decode cX2_serve 53 = .ok (.getfield 18, 3) := by decide +kernel
theorem dX2_serve_56 : decode cX2_serve 56 = .ok (.iload 6, 2) := by decide +kernel
theorem dX2_serve_58 : decode cX2_serve 58 = .ok (.iconst 2, 1) := by decide +kernel
theorem dX2_serve_59 : decode cX2_serve 59 = .ok (.iadd, 1) := by decide +kernel
theorem dX2_serve_60 : decode cX2_serve 60 = .ok (.iload_n 3, 1) := by decide +kernel
theorem dX2_serve_61 : decode cX2_serve 61 = .ok (.iastore, 1) := by decide +kernel
theorem dX2_serve_62 : decode cX2_serve 62 = .ok (.aload_n 0, 1) := by decide +kernel
theorem dX2_serve_63 : decode cX2_serve 63 = .ok (.getfield 18, 3) := by decide +kernel
theorem dX2_serve_66 : decode cX2_serve 66 = .ok (.iload 6, 2) := by decide +kernel
theorem dX2_serve_68 : decode cX2_serve 68 = .ok (.iconst 3, 1) := by decide +kernel
theorem dX2_serve_69 : decode cX2_serve 69 = .ok (.iadd, 1) := by decide +kernel
theorem dX2_serve_70 : decode cX2_serve 70 = .ok (.iload 5, 2) := by decide +kernel
theorem dX2_serve_72 : decode cX2_serve 72 = .ok (.iastore, 1) := by decide +kernel
theorem dX2_serve_73 : decode cX2_serve 73 = .ok (.aload_n 0, 1) := by decide +kernel
theorem dX2_serve_74 : decode cX2_serve 74 = .ok (.getfield 18, 3) := by decide +kernel
theorem dX2_serve_77 : decode cX2_serve 77 = .ok (.iload 6, 2) := by decide +kernel
theorem dX2_serve_79 : decode cX2_serve 79 = .ok (.iconst 4, 1) := by decide +kernel
theorem dX2_serve_80 : decode cX2_serve 80 = .ok (.iadd, 1) := by decide +kernel
theorem dX2_serve_81 : decode cX2_serve 81 = .ok (.iload 4, 2) := by decide +kernel
theorem dX2_serve_83 : decode cX2_serve 83 = .ok (.iastore, 1) := by decide +kernel
theorem dX2_serve_84 : decode cX2_serve 84 = .ok (.aload_n 0, 1) := by decide +kernel
theorem dX2_serve_85 : decode cX2_serve 85 = .ok (.dup, 1) := by decide +kernel
theorem dX2_serve_86 : decode cX2_serve 86 = .ok (.getfield 15, 3) := by decide +kernel
theorem dX2_serve_89 : decode cX2_serve 89 = .ok (.iconst 1, 1) := by decide +kernel
theorem dX2_serve_90 : decode cX2_serve 90 = .ok (.iadd, 1) := by decide +kernel
theorem dX2_serve_91 : decode cX2_serve 91 = .ok (.putfield 15, 3) := by decide +kernel
theorem dX2_serve_94 : decode cX2_serve 94 = .ok (.iload 5, 2) := by decide +kernel
theorem dX2_serve_96 : decode cX2_serve 96 = .ok (.iload 4, 2) := by decide +kernel
theorem dX2_serve_98 : decode cX2_serve 98 = .ok (.if_icmp .lt 11, 3) := by decide +kernel
theorem dX2_serve_101 : decode cX2_serve 101 = .ok (.iload 5, 2) := by decide +kernel
theorem dX2_serve_103 : decode cX2_serve 103 = .ok (.iload 4, 2) := by decide +kernel
theorem dX2_serve_105 : decode cX2_serve 105 = .ok (.isub, 1) := by decide +kernel
theorem dX2_serve_106 : decode cX2_serve 106 = .ok (.goto 12, 3) := by decide +kernel
theorem dX2_serve_109 : decode cX2_serve 109 = .ok (.sipush (-1000), 3) := by decide +kernel
theorem dX2_serve_112 : decode cX2_serve 112 = .ok (.iload 4, 2) := by decide +kernel
theorem dX2_serve_114 : decode cX2_serve 114 = .ok (.iload 5, 2) := by decide +kernel
theorem dX2_serve_116 : decode cX2_serve 116 = .ok (.isub, 1) := by decide +kernel
theorem dX2_serve_117 : decode cX2_serve 117 = .ok (.isub, 1) := by decide +kernel
theorem dX2_serve_118 : decode cX2_serve 118 = .ok (.ireturn, 1) := by decide +kernel
theorem dX2_entry_0 : decode cX2_entry 0 = .ok (.iload_n 1, 1) := by decide +kernel
theorem dX2_entry_1 : decode cX2_entry 1 = .ok (.iconst 0, 1) := by decide +kernel
theorem dX2_entry_2 : decode cX2_entry 2 = .ok (.aload_n 0, 1) := by decide +kernel
theorem dX2_entry_3 : decode cX2_entry 3 = .ok (.getfield 15, 3) := by decide +kernel
theorem dX2_entry_6 : decode cX2_entry 6 = .ok (.iconst 1, 1) := by decide +kernel
theorem dX2_entry_7 : decode cX2_entry 7 = .ok (.isub, 1) := by decide +kernel
theorem dX2_entry_8 : decode cX2_entry 8 = .ok (.invokestatic 22, 3) := by decide +kernel
theorem dX2_entry_11 : decode cX2_entry 11 = .ok (.ifCond .eq 12, 3) := by decide +kernel
theorem dX2_entry_14 : decode cX2_entry 14 = .ok (.iload_n 2, 1) := by decide +kernel
theorem dX2_entry_15 : decode cX2_entry 15 = .ok (.iconst 0, 1) := by decide +kernel
theorem dX2_entry_16 : decode cX2_entry 16 = .ok (.iconst 4, 1) := by decide +kernel
theorem dX2_entry_17 : decode cX2_entry 17 = .ok (.invokestatic 22, 3) := by decide +kernel
theorem dX2_entry_20 : decode cX2_entry 20 = .ok (.ifCond .ne 6, 3) := by decide +kernel
theorem dX2_entry_23 : decode cX2_entry 23 = .ok (.bipush (-2), 2) := by decide +kernel
theorem dX2_entry_25 : decode cX2_entry 25 = .ok (.ireturn, 1) := by decide +kernel
theorem dX2_entry_26 : decode cX2_entry 26 = .ok (.aload_n 0, 1) := by decide +kernel
theorem dX2_entry_27 : decode cX2_entry 27 = .ok (.getfield 18, 3) := by decide +kernel
theorem dX2_entry_30 : decode cX2_entry 30 = .ok (.iload_n 1, 1) := by decide +kernel
theorem dX2_entry_31 : decode cX2_entry 31 = .ok (.iconst 5, 1) := by decide +kernel
theorem dX2_entry_32 : decode cX2_entry 32 = .ok (.imul, 1) := by decide +kernel
theorem dX2_entry_33 : decode cX2_entry 33 = .ok (.iload_n 2, 1) := by decide +kernel
theorem dX2_entry_34 : decode cX2_entry 34 = .ok (.iadd, 1) := by decide +kernel
theorem dX2_entry_35 : decode cX2_entry 35 = .ok (.iaload, 1) := by decide +kernel
theorem dX2_entry_36 : decode cX2_entry 36 = .ok (.ireturn, 1) := by decide +kernel
theorem dX3_init_0 : decode cX3_init 0 = .ok (.aload_n 0, 1) := by decide +kernel
theorem dX3_init_1 : decode cX3_init 1 = .ok (.invokespecial 3, 3) := by decide +kernel
theorem dX3_init_4 : decode cX3_init 4 = .ok (.aload_n 0, 1) := by decide +kernel
theorem dX3_init_5 : decode cX3_init 5 = .ok (.new 9, 3) := by decide +kernel
theorem dX3_init_8 : decode cX3_init 8 = .ok (.dup, 1) := by decide +kernel
theorem dX3_init_9 : decode cX3_init 9 = .ok (.invokespecial 11, 3) := by decide +kernel
theorem dX3_init_12 : decode cX3_init 12 = .ok (.putfield 12, 3) := by decide +kernel
theorem dX3_init_15 : decode cX3_init 15 = .ok (.aload_n 0, 1) := by decide +kernel
theorem dX3_init_16 : decode cX3_init 16 = .ok (.new 18, 3) := by decide +kernel
theorem dX3_init_19 : decode cX3_init 19 = .ok (.dup, 1) := by decide +kernel
theorem dX3_init_20 : decode cX3_init 20 = .ok (.invokespecial 20, 3) := by decide +kernel
theorem dX3_init_23 : decode cX3_init 23 = .ok (.putfield 21, 3) := by decide +kernel
theorem dX3_init_26 : decode cX3_init 26 = .ok (.aload_n 0, 1) := by decide +kernel
theorem dX3_init_27 : decode cX3_init 27 = .ok (.iconst (-1), 1) := by decide +kernel
theorem dX3_init_28 : decode cX3_init 28 = .ok (.putfield 25, 3) := by decide +kernel
theorem dX3_init_31 : decode cX3_init 31 = .ok (.return_, 1) := by decide +kernel
theorem dX3_relate_0 : decode cX3_relate 0 = .ok (.aload_n 0, 1) := by decide +kernel
theorem dX3_relate_1 : decode cX3_relate 1 = .ok (.getfield 21, 3) := by decide +kernel
theorem dX3_relate_4 : decode cX3_relate 4 = .ok (.iload_n 1, 1) := by decide +kernel
theorem dX3_relate_5 : decode cX3_relate 5 = .ok (.invokevirtual 29, 3) := by decide +kernel
theorem dX3_relate_8 : decode cX3_relate 8 = .ok (.ifCond .eq 28, 3) := by decide +kernel
theorem dX3_relate_11 : decode cX3_relate 11 = .ok (.aload_n 0, 1) := by decide +kernel
theorem dX3_relate_12 : decode cX3_relate 12 = .ok (.getfield 21, 3) := by decide +kernel
theorem dX3_relate_15 : decode cX3_relate 15 = .ok (.iload_n 2, 1) := by decide +kernel
theorem dX3_relate_16 : decode cX3_relate 16 = .ok (.invokevirtual 29, 3) := by decide +kernel
theorem dX3_relate_19 : decode cX3_relate 19 = .ok (.ifCond .eq 17, 3) := by decide +kernel
theorem dX3_relate_22 : decode cX3_relate 22 = .ok (.iload_n 1, 1) := by decide +kernel
theorem dX3_relate_23 : decode cX3_relate 23 = .ok (.iload_n 2, 1) := by decide +kernel
theorem dX3_relate_24 : decode cX3_relate 24 = .ok (.if_icmp .eq 12, 3) := by decide +kernel
theorem dX3_relate_27 : decode cX3_relate 27 = .ok (.iload_n 3, 1) := by decide +kernel
theorem dX3_relate_28 : decode cX3_relate 28 = .ok (.iconst 0, 1) := by decide +kernel
theorem dX3_relate_29 : decode cX3_relate 29 = .ok (.iconst 2, 1) := by decide +kernel
theorem dX3_relate_30 : decode cX3_relate 30 = .ok (.invokestatic 33, 3) := by decide +kernel
theorem dX3_relate_33 : decode cX3_relate 33 = .ok (.ifCond .ne 6, 3) := by decide +kernel
theorem dX3_relate_36 : decode cX3_relate 36 = .ok (.bipush (-2), 2) := by decide +kernel
theorem dX3_relate_38 : decode cX3_relate 38 = .ok (.ireturn, 1) := by decide +kernel
theorem dX3_relate_39 : decode cX3_relate 39 = .ok (.iload_n 3, 1) := by decide +kernel
theorem dX3_relate_40 : decode cX3_relate 40 = .ok (.iconst 1, 1) := by decide +kernel
theorem dX3_relate_41 : decode cX3_relate 41 = .ok (.if_icmp .ne 15, 3) := by decide +kernel
theorem dX3_relate_44 : decode cX3_relate 44 = .ok (.aload_n 0, 1) := by decide +kernel
theorem dX3_relate_45 : decode cX3_relate 45 = .ok (.iload_n 1, 1) := by decide +kernel
theorem dX3_relate_46 : decode cX3_relate 46 = .ok (.iload_n 2, 1) := by decide +kernel
theorem dX3_relate_47 : decode cX3_relate 47 = .ok (.invokevirtual 37, 3) := by decide +kernel
theorem dX3_relate_50 : decode cX3_relate 50 = .ok (.ifCond .eq 6, 3) := by decide +kernel
theorem dX3_relate_53 : decode cX3_relate 53 = .ok (.bipush (-3), 2) := by decide +kernel
theorem dX3_relate_55 : decode cX3_relate 55 = .ok (.ireturn, 1) := by decide +kernel
theorem dX3_relate_56 : decode cX3_relate 56 = .ok (.aload_n 0, 1) := by decide +kernel
theorem dX3_relate_57 : decode cX3_relate 57 = .ok (.getfield 21, 3) := by decide +kernel
theorem dX3_relate_60 : decode cX3_relate 60 = .ok (.iload_n 1, 1) := by decide +kernel
theorem dX3_relate_61 : decode cX3_relate 61 = .ok (.iload_n 2, 1) := by decide +kernel
theorem dX3_relate_62 : decode cX3_relate 62 = .ok (.iload_n 3, 1) := by decide +kernel
theorem dX3_relate_63 : decode cX3_relate 63 = .ok (.invokevirtual 41, 3) := by decide +kernel
theorem dX3_relate_66 : decode cX3_relate 66 = .ok (.ireturn, 1) := by decide +kernel
theorem dX3_liveInOneRow_0 : decode cX3_liveInOneRow 0 = .ok (.aload_n 0, 1) := by decide +kernel
theorem dX3_liveInOneRow_1 : decode cX3_liveInOneRow 1 = .ok (.getfield 21, 3) := by decide +kernel
theorem dX3_liveInOneRow_4 : decode cX3_liveInOneRow 4 = .ok (.iload_n 1, 1) := by decide +kernel
theorem dX3_liveInOneRow_5 : decode cX3_liveInOneRow 5 = .ok (.invokevirtual 45, 3) := by decide +kernel
theorem dX3_liveInOneRow_8 : decode cX3_liveInOneRow 8 = .ok (.ifCond .eq 44, 3) := by decide +kernel
theorem dX3_liveInOneRow_11 : decode cX3_liveInOneRow 11 = .ok (.aload_n 0, 1) := by decide +kernel
theorem dX3_liveInOneRow_12 : decode cX3_liveInOneRow 12 = .ok (.iload_n 2, 1) := by decide +kernel
theorem dX3_liveInOneRow_13 : decode cX3_liveInOneRow 13 = .ok (.aload_n 0, 1) := by decide +kernel
theorem dX3_liveInOneRow_14 : decode cX3_liveInOneRow 14 = .ok (.getfield 12, 3) := by decide +kernel
theorem dX3_liveInOneRow_17 : decode cX3_liveInOneRow 17 = .ok (.getfield 48, 3) := by decide +kernel
theorem dX3_liveInOneRow_20 : decode cX3_liveInOneRow 20 = .ok (.aload_n 0, 1) := by decide +kernel
theorem dX3_liveInOneRow_21 : decode cX3_liveInOneRow 21 = .ok (.getfield 21, 3) := by decide +kernel
theorem dX3_liveInOneRow_24 : decode cX3_liveInOneRow 24 = .ok (.getfield 52, 3) := by decide +kernel
theorem dX3_liveInOneRow_27 : decode cX3_liveInOneRow 27 = .ok (.iload_n 1, 1) := by decide +kernel
theorem dX3_liveInOneRow_28 : decode cX3_liveInOneRow 28 = .ok (.iaload, 1) := by decide +kernel
theorem dX3_liveInOneRow_29 : decode cX3_liveInOneRow 29 = .ok (.iaload, 1) := by decide +kernel
theorem dX3_liveInOneRow_30 : decode cX3_liveInOneRow 30 = .ok (.invokevirtual 55, 3) := by decide +kernel
theorem dX3_liveInOneRow_33 : decode cX3_liveInOneRow 33 = .ok (.ifCond .eq 19, 3) := by decide +kernel
theorem dX3_liveInOneRow_36 : decode cX3_liveInOneRow 36 = .ok (.aload_n 0, 1) := by decide +kernel
theorem dX3_liveInOneRow_37 : decode cX3_liveInOneRow 37 = .ok (.getfield 21, 3) := by decide +kernel
theorem dX3_liveInOneRow_40 : decode cX3_liveInOneRow 40 = .ok (.iload_n 1, 1) := by decide +kernel
theorem dX3_liveInOneRow_41 : decode cX3_liveInOneRow 41 = .ok (.iload_n 2, 1) := by decide +kernel
theorem dX3_liveInOneRow_42 : decode cX3_liveInOneRow 42 = .ok (.invokevirtual 58, 3) := by decide +kernel
theorem dX3_liveInOneRow_45 : decode cX3_liveInOneRow 45 = .ok (.ifCond .eq 7, 3) := by decide +kernel
theorem dX3_liveInOneRow_48 : decode cX3_liveInOneRow 48 = .ok (.iconst 1, 1) := by decide +kernel
theorem dX3_liveInOneRow_49 : decode cX3_liveInOneRow 49 = .ok (.goto 4, 3) := by decide +kernel
theorem dX3_liveInOneRow_52 : decode cX3_liveInOneRow 52 = .ok (.iconst 0, 1) := by decide +kernel
theorem dX3_liveInOneRow_53 : decode cX3_liveInOneRow 53 = .ok (.ireturn, 1) := by decide +kernel
theorem dX3_isInRow_0 : decode cX3_isInRow 0 = .ok (.aload_n 0, 1) := by decide +kernel
theorem dX3_isInRow_1 : decode cX3_isInRow 1 = .ok (.getfield 21, 3) := by decide +kernel
theorem dX3_isInRow_4 : decode cX3_isInRow 4 = .ok (.iload_n 1, 1) := by decide +kernel
theorem dX3_isInRow_5 : decode cX3_isInRow 5 = .ok (.invokevirtual 45, 3) := by decide +kernel
theorem dX3_isInRow_8 : decode cX3_isInRow 8 = .ok (.ifCond .eq 28, 3) := by decide +kernel
theorem dX3_isInRow_11 : decode cX3_isInRow 11 = .ok (.aload_n 0, 1) := by decide +kernel
theorem dX3_isInRow_12 : decode cX3_isInRow 12 = .ok (.getfield 12, 3) := by decide +kernel
theorem dX3_isInRow_15 : decode cX3_isInRow 15 = .ok (.getfield 48, 3) := by decide +kernel
theorem dX3_isInRow_18 : decode cX3_isInRow 18 = .ok (.aload_n 0, 1) := by decide +kernel
theorem dX3_isInRow_19 : decode cX3_isInRow 19 = .ok (.getfield 21, 3) := by decide +kernel
theorem dX3_isInRow_22 : decode cX3_isInRow 22 = .ok (.getfield 52, 3) := by decide +kernel
theorem dX3_isInRow_25 : decode cX3_isInRow 25 = .ok (.iload_n 1, 1) := by decide +kernel
theorem dX3_isInRow_26 : decode cX3_isInRow 26 = .ok (.iaload, 1) := by decide +kernel
theorem dX3_isInRow_27 : decode cX3_isInRow 27 = .ok (.iaload, 1) := by decide +kernel
theorem dX3_isInRow_28 : decode cX3_isInRow 28 = .ok (.iload_n 2, 1) := by decide +kernel
theorem dX3_isInRow_29 : decode cX3_isInRow 29 = .ok (.if_icmp .ne 7, 3) := by decide +kernel
theorem dX3_isInRow_32 : decode cX3_isInRow 32 = .ok (.iconst 1, 1) := by decide +kernel
theorem dX3_isInRow_33 : decode cX3_isInRow 33 = .ok (.goto 4, 3) := by decide +kernel
theorem dX3_isInRow_36 : decode cX3_isInRow 36 = .ok (.iconst 0, 1) := by decide +kernel
theorem dX3_isInRow_37 : decode cX3_isInRow 37 = .ok (.ireturn, 1) := by decide +kernel
theorem dX3_takeIn_0 : decode cX3_takeIn 0 = .ok (.aload_n 0, 1) := by decide +kernel
theorem dX3_takeIn_1 : decode cX3_takeIn 1 = .ok (.getfield 21, 3) := by decide +kernel
theorem dX3_takeIn_4 : decode cX3_takeIn 4 = .ok (.iload_n 1, 1) := by decide +kernel
theorem dX3_takeIn_5 : decode cX3_takeIn 5 = .ok (.invokevirtual 29, 3) := by decide +kernel
theorem dX3_takeIn_8 : decode cX3_takeIn 8 = .ok (.ifCond .ne 6, 3) := by decide +kernel
theorem dX3_takeIn_11 : decode cX3_takeIn 11 = .ok (.bipush (-2), 2) := by decide +kernel
theorem dX3_takeIn_13 : decode cX3_takeIn 13 = .ok (.ireturn, 1) := by decide +kernel
theorem dX3_takeIn_14 : decode cX3_takeIn 14 = .ok (.aload_n 0, 1) := by decide +kernel
theorem dX3_takeIn_15 : decode cX3_takeIn 15 = .ok (.getfield 21, 3) := by decide +kernel
theorem dX3_takeIn_18 : decode cX3_takeIn 18 = .ok (.iload_n 1, 1) := by decide +kernel
theorem dX3_takeIn_19 : decode cX3_takeIn 19 = .ok (.invokevirtual 45, 3) := by decide +kernel
theorem dX3_takeIn_22 : decode cX3_takeIn 22 = .ok (.ifCond .eq 6, 3) := by decide +kernel
theorem dX3_takeIn_25 : decode cX3_takeIn 25 = .ok (.bipush (-3), 2) := by decide +kernel
theorem dX3_takeIn_27 : decode cX3_takeIn 27 = .ok (.ireturn, 1) := by decide +kernel
theorem dX3_takeIn_28 : decode cX3_takeIn 28 = .ok (.aload_n 0, 1) := by decide +kernel
theorem dX3_takeIn_29 : decode cX3_takeIn 29 = .ok (.iload_n 1, 1) := by decide +kernel
theorem dX3_takeIn_30 : decode cX3_takeIn 30 = .ok (.invokevirtual 61, 3) := by decide +kernel
theorem dX3_takeIn_33 : decode cX3_takeIn 33 = .ok (.istore_n 2, 1) := by decide +kernel
theorem dX3_takeIn_34 : decode cX3_takeIn 34 = .ok (.iload_n 2, 1) := by decide +kernel
theorem dX3_takeIn_35 : decode cX3_takeIn 35 = .ok (.iconst (-1), 1) := by decide +kernel
theorem dX3_takeIn_36 : decode cX3_takeIn 36 = .ok (.if_icmp .eq 20, 3) := by decide +kernel
theorem dX3_takeIn_39 : decode cX3_takeIn 39 = .ok (.aload_n 0, 1) := by decide +kernel
theorem dX3_takeIn_40 : decode cX3_takeIn 40 = .ok (.getfield 21, 3) := by decide +kernel
theorem dX3_takeIn_43 : decode cX3_takeIn 43 = .ok (.getfield 52, 3) := by decide +kernel
theorem dX3_takeIn_46 : decode cX3_takeIn 46 = .ok (.iload_n 1, 1) := by decide +kernel
theorem dX3_takeIn_47 : decode cX3_takeIn 47 = .ok (.iload_n 2, 1) := by decide +kernel
theorem dX3_takeIn_48 : decode cX3_takeIn 48 = .ok (.iastore, 1) := by decide +kernel
theorem dX3_takeIn_49 : decode cX3_takeIn 49 = .ok (.aload_n 0, 1) := by decide +kernel
theorem dX3_takeIn_50 : decode cX3_takeIn 50 = .ok (.iconst (-1), 1) := by decide +kernel
theorem dX3_takeIn_51 : decode cX3_takeIn 51 = .ok (.putfield 25, 3) := by decide +kernel
theorem dX3_takeIn_54 : decode cX3_takeIn 54 = .ok (.iload_n 2, 1) := by decide +kernel
theorem dX3_takeIn_55 : decode cX3_takeIn 55 = .ok (.ireturn, 1) := by decide +kernel
theorem dX3_takeIn_56 : decode cX3_takeIn 56 = .ok (.iconst 0, 1) := by decide +kernel
theorem dX3_takeIn_57 : decode cX3_takeIn 57 = .ok (.istore_n 3, 1) := by decide +kernel
theorem dX3_takeIn_58 : decode cX3_takeIn 58 = .ok (.iload_n 3, 1) := by decide +kernel
theorem dX3_takeIn_59 : decode cX3_takeIn 59 = .ok (.aload_n 0, 1) := by decide +kernel
theorem dX3_takeIn_60 : decode cX3_takeIn 60 = .ok (.getfield 21, 3) := by decide +kernel
theorem dX3_takeIn_63 : decode cX3_takeIn 63 = .ok (.getfield 65, 3) := by decide +kernel
theorem dX3_takeIn_66 : decode cX3_takeIn 66 = .ok (.if_icmp .ge 44, 3) := by decide +kernel
theorem dX3_takeIn_69 : decode cX3_takeIn 69 = .ok (.aload_n 0, 1) := by decide +kernel
theorem dX3_takeIn_70 : decode cX3_takeIn 70 = .ok (.getfield 21, 3) := by decide +kernel
theorem dX3_takeIn_73 : decode cX3_takeIn 73 = .ok (.iload_n 3, 1) := by decide +kernel
theorem dX3_takeIn_74 : decode cX3_takeIn 74 = .ok (.invokevirtual 45, 3) := by decide +kernel
theorem dX3_takeIn_77 : decode cX3_takeIn 77 = .ok (.ifCond .eq 27, 3) := by decide +kernel
theorem dX3_takeIn_80 : decode cX3_takeIn 80 = .ok (.aload_n 0, 1) := by decide +kernel
theorem dX3_takeIn_81 : decode cX3_takeIn 81 = .ok (.iload_n 3, 1) := by decide +kernel
theorem dX3_takeIn_82 : decode cX3_takeIn 82 = .ok (.iload_n 1, 1) := by decide +kernel
theorem dX3_takeIn_83 : decode cX3_takeIn 83 = .ok (.invokevirtual 68, 3) := by decide +kernel
theorem dX3_takeIn_86 : decode cX3_takeIn 86 = .ok (.ifCond .eq 18, 3) := by decide +kernel
theorem dX3_takeIn_89 : decode cX3_takeIn 89 = .ok (.aload_n 0, 1) := by decide +kernel
theorem dX3_takeIn_90 : decode cX3_takeIn 90 = .ok (.iload_n 3, 1) := by decide +kernel
theorem dX3_takeIn_91 : decode cX3_takeIn 91 = .ok (.putfield 25, 3) := by decide +kernel
theorem dX3_takeIn_94 : decode cX3_takeIn 94 = .ok (.aload_n 0, 1) := by decide +kernel
theorem dX3_takeIn_95 : decode cX3_takeIn 95 = .ok (.getfield 21, 3) := by decide +kernel
theorem dX3_takeIn_98 : decode cX3_takeIn 98 = .ok (.getfield 52, 3) := by decide +kernel
theorem dX3_takeIn_101 : decode cX3_takeIn 101 = .ok (.iload_n 1, 1) := by decide +kernel
theorem dX3_takeIn_102 : decode cX3_takeIn 102 = .ok (.iaload, 1) := by decide +kernel
theorem dX3_takeIn_103 : decode cX3_takeIn 103 = .ok (.ireturn, 1) := by decide +kernel
theorem dX3_takeIn_104 : decode cX3_takeIn 104 = .ok (.iinc 3 1, 3) := by decide +kernel
theorem dX3_takeIn_107 : decode cX3_takeIn 107 = .ok (.goto (-49), 3) := by decide +kernel
theorem dX3_takeIn_110 : decode cX3_takeIn 110 = .ok (.iconst (-1), 1) := by decide +kernel
theorem dX3_takeIn_111 : decode cX3_takeIn 111 = .ok (.ireturn, 1) := by decide +kernel
theorem dX3_dearestHut_0 : decode cX3_dearestHut 0 = .ok (.iconst (-1), 1) := by decide +kernel
theorem dX3_dearestHut_1 : decode cX3_dearestHut 1 = .ok (.istore_n 2, 1) := by decide +kernel
theorem dX3_dearestHut_2 : decode cX3_dearestHut 2 = .ok (.iconst 0, 1) := by decide +kernel
theorem dX3_dearestHut_3 : decode cX3_dearestHut 3 = .ok (.istore_n 3, 1) := by decide +kernel
theorem dX3_dearestHut_4 : decode cX3_dearestHut 4 = .ok (.iconst 0, 1) := by decide +kernel
theorem dX3_dearestHut_5 : decode cX3_dearestHut 5 = .ok (.istore 4, 2) := by decide +kernel
theorem dX3_dearestHut_7 : decode cX3_dearestHut 7 = .ok (.iload 4, 2) := by decide +kernel
theorem dX3_dearestHut_9 : decode cX3_dearestHut 9 = .ok (.aload_n 0, 1) := by decide +kernel
theorem dX3_dearestHut_10 : decode cX3_dearestHut 10 = .ok (.getfield 12, 3) := by decide +kernel
theorem dX3_dearestHut_13 : decode cX3_dearestHut 13 = .ok (.getfield 71, 3) := by decide +kernel
theorem dX3_dearestHut_16 : decode cX3_dearestHut 16 = .ok (.if_icmp .ge 45, 3) := by decide +kernel
theorem dX3_dearestHut_19 : decode cX3_dearestHut 19 = .ok (.aload_n 0, 1) := by decide +kernel
theorem dX3_dearestHut_20 : decode cX3_dearestHut 20 = .ok (.iload_n 1, 1) := by decide +kernel
theorem dX3_dearestHut_21 : decode cX3_dearestHut 21 = .ok (.iload 4, 2) := by decide +kernel
theorem dX3_dearestHut_23 : decode cX3_dearestHut 23 = .ok (.invokevirtual 72, 3) := by decide +kernel
theorem dX3_dearestHut_26 : decode cX3_dearestHut 26 = .ok (.ifCond .eq 29, 3) := by decide +kernel
theorem dX3_dearestHut_29 : decode cX3_dearestHut 29 = .ok (.aload_n 0, 1) := by decide +kernel
theorem dX3_dearestHut_30 : decode cX3_dearestHut 30 = .ok (.iload_n 1, 1) := by decide +kernel
theorem dX3_dearestHut_31 : decode cX3_dearestHut 31 = .ok (.iload 4, 2) := by decide +kernel
theorem dX3_dearestHut_33 : decode cX3_dearestHut 33 = .ok (.invokevirtual 75, 3) := by decide +kernel
theorem dX3_dearestHut_36 : decode cX3_dearestHut 36 = .ok (.istore 5, 2) := by decide +kernel
theorem dX3_dearestHut_38 : decode cX3_dearestHut 38 = .ok (.iload_n 2, 1) := by decide +kernel
theorem dX3_dearestHut_39 : decode cX3_dearestHut 39 = .ok (.iconst (-1), 1) := by decide +kernel
theorem dX3_dearestHut_40 : decode cX3_dearestHut 40 = .ok (.if_icmp .eq 9, 3) := by decide +kernel
theorem dX3_dearestHut_43 : decode cX3_dearestHut 43 = .ok (.iload 5, 2) := by decide +kernel
theorem dX3_dearestHut_45 : decode cX3_dearestHut 45 = .ok (.iload_n 3, 1) := by decide +kernel
theorem dX3_dearestHut_46 : decode cX3_dearestHut 46 = .ok (.if_icmp .ge 9, 3) := by decide +kernel
theorem dX3_dearestHut_49 : decode cX3_dearestHut 49 = .ok (.iload 4, 2) := by decide +kernel
theorem dX3_dearestHut_51 : decode cX3_dearestHut 51 = .ok (.istore_n 2, 1) := by decide +kernel
theorem dX3_dearestHut_52 : decode cX3_dearestHut 52 = .ok (.iload 5, 2) := by decide +kernel
theorem dX3_dearestHut_54 : decode cX3_dearestHut 54 = .ok (.istore_n 3, 1) := by decide +kernel
theorem dX3_dearestHut_55 : decode cX3_dearestHut 55 = .ok (.iinc 4 1, 3) := by decide +kernel
theorem dX3_dearestHut_58 : decode cX3_dearestHut 58 = .ok (.goto (-51), 3) := by decide +kernel
theorem dX3_dearestHut_61 : decode cX3_dearestHut 61 = .ok (.iload_n 2, 1) := by decide +kernel
theorem dX3_dearestHut_62 : decode cX3_dearestHut 62 = .ok (.ireturn, 1) := by decide +kernel
theorem dX3_mayHave_0 : decode cX3_mayHave 0 = .ok (.aload_n 0, 1) := by decide +kernel
theorem dX3_mayHave_1 : decode cX3_mayHave 1 = .ok (.getfield 12, 3) := by decide +kernel
theorem dX3_mayHave_4 : decode cX3_mayHave 4 = .ok (.getfield 79, 3) := by decide +kernel
theorem dX3_mayHave_7 : decode cX3_mayHave 7 = .ok (.iload_n 2, 1) := by decide +kernel
theorem dX3_mayHave_8 : decode cX3_mayHave 8 = .ok (.iaload, 1) := by decide +kernel
theorem dX3_mayHave_9 : decode cX3_mayHave 9 = .ok (.aload_n 0, 1) := by decide +kernel
theorem dX3_mayHave_10 : decode cX3_mayHave 10 = .ok (.getfield 21, 3) := by decide +kernel
theorem dX3_mayHave_13 : decode cX3_mayHave 13 = .ok (.getfield 82, 3) := by decide +kernel
theorem dX3_mayHave_16 : decode cX3_mayHave 16 = .ok (.iload_n 1, 1) := by decide +kernel
theorem dX3_mayHave_17 : decode cX3_mayHave 17 = .ok (.iaload, 1) := by decide +kernel
theorem dX3_mayHave_18 : decode cX3_mayHave 18 = .ok (.if_icmp .ge 5, 3) := by decide +kernel
theorem dX3_mayHave_21 : decode cX3_mayHave 21 = .ok (.iconst 0, 1) := by decide +kernel
theorem dX3_mayHave_22 : decode cX3_mayHave 22 = .ok (.ireturn, 1) := by decide +kernel
theorem dX3_mayHave_23 : decode cX3_mayHave 23 = .ok (.iconst 0, 1) := by decide +kernel
theorem dX3_mayHave_24 : decode cX3_mayHave 24 = .ok (.istore_n 3, 1) := by decide +kernel
theorem dX3_mayHave_25 : decode cX3_mayHave 25 = .ok (.iload_n 3, 1) := by decide +kernel
theorem dX3_mayHave_26 : decode cX3_mayHave 26 = .ok (.aload_n 0, 1) := by decide +kernel
theorem dX3_mayHave_27 : decode cX3_mayHave 27 = .ok (.getfield 21, 3) := by decide +kernel
theorem dX3_mayHave_30 : decode cX3_mayHave 30 = .ok (.getfield 65, 3) := by decide +kernel
theorem dX3_mayHave_33 : decode cX3_mayHave 33 = .ok (.if_icmp .ge 71, 3) := by decide +kernel
theorem dX3_mayHave_36 : decode cX3_mayHave 36 = .ok (.iload_n 3, 1) := by decide +kernel
theorem dX3_mayHave_37 : decode cX3_mayHave 37 = .ok (.iload_n 1, 1) := by decide +kernel
theorem dX3_mayHave_38 : decode cX3_mayHave 38 = .ok (.if_icmp .eq 60, 3) := by decide +kernel
theorem dX3_mayHave_41 : decode cX3_mayHave 41 = .ok (.aload_n 0, 1) := by decide +kernel
theorem dX3_mayHave_42 : decode cX3_mayHave 42 = .ok (.iload_n 3, 1) := by decide +kernel
theorem dX3_mayHave_43 : decode cX3_mayHave 43 = .ok (.aload_n 0, 1) := by decide +kernel
theorem dX3_mayHave_44 : decode cX3_mayHave 44 = .ok (.getfield 12, 3) := by decide +kernel
theorem dX3_mayHave_47 : decode cX3_mayHave 47 = .ok (.getfield 48, 3) := by decide +kernel
theorem dX3_mayHave_50 : decode cX3_mayHave 50 = .ok (.iload_n 2, 1) := by decide +kernel
theorem dX3_mayHave_51 : decode cX3_mayHave 51 = .ok (.iaload, 1) := by decide +kernel
theorem dX3_mayHave_52 : decode cX3_mayHave 52 = .ok (.invokevirtual 55, 3) := by decide +kernel
theorem dX3_mayHave_55 : decode cX3_mayHave 55 = .ok (.ifCond .eq 43, 3) := by decide +kernel
theorem dX3_mayHave_58 : decode cX3_mayHave 58 = .ok (.aload_n 0, 1) := by decide +kernel
theorem dX3_mayHave_59 : decode cX3_mayHave 59 = .ok (.getfield 21, 3) := by decide +kernel
theorem dX3_mayHave_62 : decode cX3_mayHave 62 = .ok (.iload_n 1, 1) := by decide +kernel
theorem dX3_mayHave_63 : decode cX3_mayHave 63 = .ok (.iload_n 3, 1) := by decide +kernel
theorem dX3_mayHave_64 : decode cX3_mayHave 64 = .ok (.invokevirtual 58, 3) := by decide +kernel
theorem dX3_mayHave_67 : decode cX3_mayHave 67 = .ok (.ifCond .eq 31, 3) := by decide +kernel
theorem dX3_mayHave_70 : decode cX3_mayHave 70 = .ok (.aload_n 0, 1) := by decide +kernel
theorem dX3_mayHave_71 : decode cX3_mayHave 71 = .ok (.getfield 21, 3) := by decide +kernel
theorem dX3_mayHave_74 : decode cX3_mayHave 74 = .ok (.getfield 52, 3) := by decide +kernel
theorem dX3_mayHave_77 : decode cX3_mayHave 77 = .ok (.iload_n 3, 1) := by decide +kernel
theorem dX3_mayHave_78 : decode cX3_mayHave 78 = .ok (.iaload, 1) := by decide +kernel
theorem dX3_mayHave_79 : decode cX3_mayHave 79 = .ok (.iload_n 2, 1) := by decide +kernel
theorem dX3_mayHave_80 : decode cX3_mayHave 80 = .ok (.if_icmp .eq 16, 3) := by decide +kernel
theorem dX3_mayHave_83 : decode cX3_mayHave 83 = .ok (.aload_n 0, 1) := by decide +kernel
theorem dX3_mayHave_84 : decode cX3_mayHave 84 = .ok (.getfield 21, 3) := by decide +kernel
theorem dX3_mayHave_87 : decode cX3_mayHave 87 = .ok (.iload_n 1, 1) := by decide +kernel
theorem dX3_mayHave_88 : decode cX3_mayHave 88 = .ok (.iload_n 3, 1) := by decide +kernel
theorem dX3_mayHave_89 : decode cX3_mayHave 89 = .ok (.iconst 1, 1) := by decide +kernel
theorem dX3_mayHave_90 : decode cX3_mayHave 90 = .ok (.invokevirtual 85, 3) := by decide +kernel
theorem dX3_mayHave_93 : decode cX3_mayHave 93 = .ok (.ifCond .eq 5, 3) := by decide +kernel
theorem dX3_mayHave_96 : decode cX3_mayHave 96 = .ok (.iconst 0, 1) := by decide +kernel
theorem dX3_mayHave_97 : decode cX3_mayHave 97 = .ok (.ireturn, 1) := by decide +kernel
theorem dX3_mayHave_98 : decode cX3_mayHave 98 = .ok (.iinc 3 1, 3) := by decide +kernel
theorem dX3_mayHave_101 : decode cX3_mayHave 101 = .ok (.goto (-76), 3) := by decide +kernel
theorem dX3_mayHave_104 : decode cX3_mayHave 104 = .ok (.iconst 1, 1) := by decide +kernel
theorem dX3_mayHave_105 : decode cX3_mayHave 105 = .ok (.ireturn, 1) := by decide +kernel
theorem dX3_cost_0 : decode cX3_cost 0 = .ok (.aload_n 0, 1) := by decide +kernel
theorem dX3_cost_1 : decode cX3_cost 1 = .ok (.getfield 12, 3) := by decide +kernel
theorem dX3_cost_4 : decode cX3_cost 4 = .ok (.getfield 79, 3) := by decide +kernel
theorem dX3_cost_7 : decode cX3_cost 7 = .ok (.iload_n 2, 1) := by decide +kernel
theorem dX3_cost_8 : decode cX3_cost 8 = .ok (.iaload, 1) := by decide +kernel
theorem dX3_cost_9 : decode cX3_cost 9 = .ok (.aload_n 0, 1) := by decide +kernel
theorem dX3_cost_10 : decode cX3_cost 10 = .ok (.getfield 21, 3) := by decide +kernel
theorem dX3_cost_13 : decode cX3_cost 13 = .ok (.getfield 82, 3) := by decide +kernel
theorem dX3_cost_16 : decode cX3_cost 16 = .ok (.iload_n 1, 1) := by decide +kernel
theorem dX3_cost_17 : decode cX3_cost 17 = .ok (.iaload, 1) := by decide +kernel
theorem dX3_cost_18 : decode cX3_cost 18 = .ok (.isub, 1) := by decide +kernel
theorem dX3_cost_19 : decode cX3_cost 19 = .ok (.istore_n 3, 1) := by decide +kernel
theorem dX3_cost_20 : decode cX3_cost 20 = .ok (.aload_n 0, 1) := by decide +kernel
theorem dX3_cost_21 : decode cX3_cost 21 = .ok (.iload_n 1, 1) := by decide +kernel
theorem dX3_cost_22 : decode cX3_cost 22 = .ok (.aload_n 0, 1) := by decide +kernel
theorem dX3_cost_23 : decode cX3_cost 23 = .ok (.getfield 12, 3) := by decide +kernel
theorem dX3_cost_26 : decode cX3_cost 26 = .ok (.getfield 48, 3) := by decide +kernel
theorem dX3_cost_29 : decode cX3_cost 29 = .ok (.iload_n 2, 1) := by decide +kernel
theorem dX3_cost_30 : decode cX3_cost 30 = .ok (.iaload, 1) := by decide +kernel
theorem dX3_cost_31 : decode cX3_cost 31 = .ok (.invokevirtual 88, 3) := by decide +kernel
theorem dX3_cost_34 : decode cX3_cost 34 = .ok (.ifCond .eq 7, 3) := by decide +kernel
theorem dX3_cost_37 : decode cX3_cost 37 = .ok (.iload_n 3, 1) := by decide +kernel
theorem dX3_cost_38 : decode cX3_cost 38 = .ok (.goto 7, 3) := by decide +kernel
theorem dX3_cost_41 : decode cX3_cost 41 = .ok (.iload_n 3, 1) := by decide +kernel
theorem dX3_cost_42 : decode cX3_cost 42 = .ok (.bipush 8, 2) := by decide +kernel
theorem dX3_cost_44 : decode cX3_cost 44 = .ok (.iadd, 1) := by decide +kernel
theorem dX3_cost_45 : decode cX3_cost 45 = .ok (.ireturn, 1) := by decide +kernel
theorem dX3_isNextTo_0 : decode cX3_isNextTo 0 = .ok (.iconst 0, 1) := by decide +kernel
theorem dX3_isNextTo_1 : decode cX3_isNextTo 1 = .ok (.istore_n 3, 1) := by decide +kernel
theorem dX3_isNextTo_2 : decode cX3_isNextTo 2 = .ok (.iload_n 3, 1) := by decide +kernel
theorem dX3_isNextTo_3 : decode cX3_isNextTo 3 = .ok (.aload_n 0, 1) := by decide +kernel
theorem dX3_isNextTo_4 : decode cX3_isNextTo 4 = .ok (.getfield 21, 3) := by decide +kernel
theorem dX3_isNextTo_7 : decode cX3_isNextTo 7 = .ok (.getfield 65, 3) := by decide +kernel
theorem dX3_isNextTo_10 : decode cX3_isNextTo 10 = .ok (.if_icmp .ge 45, 3) := by decide +kernel
theorem dX3_isNextTo_13 : decode cX3_isNextTo 13 = .ok (.aload_n 0, 1) := by decide +kernel
theorem dX3_isNextTo_14 : decode cX3_isNextTo 14 = .ok (.getfield 21, 3) := by decide +kernel
theorem dX3_isNextTo_17 : decode cX3_isNextTo 17 = .ok (.iload_n 1, 1) := by decide +kernel
theorem dX3_isNextTo_18 : decode cX3_isNextTo 18 = .ok (.iload_n 3, 1) := by decide +kernel
theorem dX3_isNextTo_19 : decode cX3_isNextTo 19 = .ok (.iconst 0, 1) := by decide +kernel
theorem dX3_isNextTo_20 : decode cX3_isNextTo 20 = .ok (.invokevirtual 85, 3) := by decide +kernel
theorem dX3_isNextTo_23 : decode cX3_isNextTo 23 = .ok (.ifCond .eq 26, 3) := by decide +kernel
theorem dX3_isNextTo_26 : decode cX3_isNextTo 26 = .ok (.aload_n 0, 1) := by decide +kernel
theorem dX3_isNextTo_27 : decode cX3_isNextTo 27 = .ok (.iload_n 3, 1) := by decide +kernel
theorem dX3_isNextTo_28 : decode cX3_isNextTo 28 = .ok (.iload_n 2, 1) := by decide +kernel
theorem dX3_isNextTo_29 : decode cX3_isNextTo 29 = .ok (.invokevirtual 55, 3) := by decide +kernel
theorem dX3_isNextTo_32 : decode cX3_isNextTo 32 = .ok (.ifCond .eq 17, 3) := by decide +kernel
theorem dX3_isNextTo_35 : decode cX3_isNextTo 35 = .ok (.aload_n 0, 1) := by decide +kernel
theorem dX3_isNextTo_36 : decode cX3_isNextTo 36 = .ok (.getfield 21, 3) := by decide +kernel
theorem dX3_isNextTo_39 : decode cX3_isNextTo 39 = .ok (.iload_n 1, 1) := by decide +kernel
theorem dX3_isNextTo_40 : decode cX3_isNextTo 40 = .ok (.iload_n 3, 1) := by decide +kernel
theorem dX3_isNextTo_41 : decode cX3_isNextTo 41 = .ok (.invokevirtual 58, 3) := by decide +kernel
theorem dX3_isNextTo_44 : decode cX3_isNextTo 44 = .ok (.ifCond .eq 5, 3) := by decide +kernel
theorem dX3_isNextTo_47 : decode cX3_isNextTo 47 = .ok (.iconst 1, 1) := by decide +kernel
theorem dX3_isNextTo_48 : decode cX3_isNextTo 48 = .ok (.ireturn, 1) := by decide +kernel
theorem dX3_isNextTo_49 : decode cX3_isNextTo 49 = .ok (.iinc 3 1, 3) := by decide +kernel
theorem dX3_isNextTo_52 : decode cX3_isNextTo 52 = .ok (.goto (-50), 3) := by decide +kernel
theorem dX3_isNextTo_55 : decode cX3_isNextTo 55 = .ok (.iconst 0, 1) := by decide +kernel
theorem dX3_isNextTo_56 : decode cX3_isNextTo 56 = .ok (.ireturn, 1) := by decide +kernel
theorem dX3_makesRoom_0 : decode cX3_makesRoom 0 = .ok (.aload_n 0, 1) := by decide +kernel
theorem dX3_makesRoom_1 : decode cX3_makesRoom 1 = .ok (.getfield 21, 3) := by decide +kernel
theorem dX3_makesRoom_4 : decode cX3_makesRoom 4 = .ok (.getfield 52, 3) := by decide +kernel
theorem dX3_makesRoom_7 : decode cX3_makesRoom 7 = .ok (.iload_n 1, 1) := by decide +kernel
theorem dX3_makesRoom_8 : decode cX3_makesRoom 8 = .ok (.iaload, 1) := by decide +kernel
theorem dX3_makesRoom_9 : decode cX3_makesRoom 9 = .ok (.istore_n 3, 1) := by decide +kernel
theorem dX3_makesRoom_10 : decode cX3_makesRoom 10 = .ok (.aload_n 0, 1) := by decide +kernel
theorem dX3_makesRoom_11 : decode cX3_makesRoom 11 = .ok (.getfield 21, 3) := by decide +kernel
theorem dX3_makesRoom_14 : decode cX3_makesRoom 14 = .ok (.getfield 52, 3) := by decide +kernel
theorem dX3_makesRoom_17 : decode cX3_makesRoom 17 = .ok (.iload_n 1, 1) := by decide +kernel
theorem dX3_makesRoom_18 : decode cX3_makesRoom 18 = .ok (.iconst (-1), 1) := by decide +kernel
theorem dX3_makesRoom_19 : decode cX3_makesRoom 19 = .ok (.iastore, 1) := by decide +kernel
theorem dX3_makesRoom_20 : decode cX3_makesRoom 20 = .ok (.aload_n 0, 1) := by decide +kernel
theorem dX3_makesRoom_21 : decode cX3_makesRoom 21 = .ok (.iload_n 2, 1) := by decide +kernel
theorem dX3_makesRoom_22 : decode cX3_makesRoom 22 = .ok (.iload_n 3, 1) := by decide +kernel
theorem dX3_makesRoom_23 : decode cX3_makesRoom 23 = .ok (.invokevirtual 72, 3) := by decide +kernel
theorem dX3_makesRoom_26 : decode cX3_makesRoom 26 = .ok (.ifCond .eq 49, 3) := by decide +kernel
theorem dX3_makesRoom_29 : decode cX3_makesRoom 29 = .ok (.aload_n 0, 1) := by decide +kernel
theorem dX3_makesRoom_30 : decode cX3_makesRoom 30 = .ok (.getfield 21, 3) := by decide +kernel
theorem dX3_makesRoom_33 : decode cX3_makesRoom 33 = .ok (.getfield 52, 3) := by decide +kernel
theorem dX3_makesRoom_36 : decode cX3_makesRoom 36 = .ok (.iload_n 2, 1) := by decide +kernel
theorem dX3_makesRoom_37 : decode cX3_makesRoom 37 = .ok (.iload_n 3, 1) := by decide +kernel
theorem dX3_makesRoom_38 : decode cX3_makesRoom 38 = .ok (.iastore, 1) := by decide +kernel
theorem dX3_makesRoom_39 : decode cX3_makesRoom 39 = .ok (.aload_n 0, 1) := by decide +kernel
theorem dX3_makesRoom_40 : decode cX3_makesRoom 40 = .ok (.iload_n 1, 1) := by decide +kernel
theorem dX3_makesRoom_41 : decode cX3_makesRoom 41 = .ok (.invokevirtual 61, 3) := by decide +kernel
theorem dX3_makesRoom_44 : decode cX3_makesRoom 44 = .ok (.istore 4, 2) := by decide +kernel
theorem dX3_makesRoom_46 : decode cX3_makesRoom 46 = .ok (.iload 4, 2) := by decide +kernel
theorem dX3_makesRoom_48 : decode cX3_makesRoom 48 = .ok (.iconst (-1), 1) := by decide +kernel
theorem dX3_makesRoom_49 : decode cX3_makesRoom 49 = .ok (.if_icmp .eq 16, 3) := by decide +kernel
theorem dX3_makesRoom_52 : decode cX3_makesRoom 52 = .ok (.aload_n 0, 1) := by decide +kernel
theorem dX3_makesRoom_53 : decode cX3_makesRoom 53 = .ok (.getfield 21, 3) := by decide +kernel
theorem dX3_makesRoom_56 : decode cX3_makesRoom 56 = .ok (.getfield 52, 3) := by decide +kernel
theorem dX3_makesRoom_59 : decode cX3_makesRoom 59 = .ok (.iload_n 1, 1) := by decide +kernel
theorem dX3_makesRoom_60 : decode cX3_makesRoom 60 = .ok (.iload 4, 2) := by decide +kernel
theorem dX3_makesRoom_62 : decode cX3_makesRoom 62 = .ok (.iastore, 1) := by decide +kernel
theorem dX3_makesRoom_63 : decode cX3_makesRoom 63 = .ok (.iconst 1, 1) := by decide +kernel
theorem dX3_makesRoom_64 : decode cX3_makesRoom 64 = .ok (.ireturn, 1) := by decide +kernel
theorem dX3_makesRoom_65 : decode cX3_makesRoom 65 = .ok (.aload_n 0, 1) := by decide +kernel
theorem dX3_makesRoom_66 : decode cX3_makesRoom 66 = .ok (.getfield 21, 3) := by decide +kernel
theorem dX3_makesRoom_69 : decode cX3_makesRoom 69 = .ok (.getfield 52, 3) := by decide +kernel
theorem dX3_makesRoom_72 : decode cX3_makesRoom 72 = .ok (.iload_n 2, 1) := by decide +kernel
theorem dX3_makesRoom_73 : decode cX3_makesRoom 73 = .ok (.iconst (-1), 1) := by decide +kernel
theorem dX3_makesRoom_74 : decode cX3_makesRoom 74 = .ok (.iastore, 1) := by decide +kernel
theorem dX3_makesRoom_75 : decode cX3_makesRoom 75 = .ok (.aload_n 0, 1) := by decide +kernel
theorem dX3_makesRoom_76 : decode cX3_makesRoom 76 = .ok (.getfield 21, 3) := by decide +kernel
theorem dX3_makesRoom_79 : decode cX3_makesRoom 79 = .ok (.getfield 52, 3) := by decide +kernel
theorem dX3_makesRoom_82 : decode cX3_makesRoom 82 = .ok (.iload_n 1, 1) := by decide +kernel
theorem dX3_makesRoom_83 : decode cX3_makesRoom 83 = .ok (.iload_n 3, 1) := by decide +kernel
theorem dX3_makesRoom_84 : decode cX3_makesRoom 84 = .ok (.iastore, 1) := by decide +kernel
theorem dX3_makesRoom_85 : decode cX3_makesRoom 85 = .ok (.iconst 0, 1) := by decide +kernel
theorem dX3_makesRoom_86 : decode cX3_makesRoom 86 = .ok (.ireturn, 1) := by decide +kernel
theorem dX3_guest_0 : decode cX3_guest 0 = .ok (.aload_n 0, 1) := by decide +kernel
theorem dX3_guest_1 : decode cX3_guest 1 = .ok (.getfield 12, 3) := by decide +kernel
theorem dX3_guest_4 : decode cX3_guest 4 = .ok (.iload_n 1, 1) := by decide +kernel
theorem dX3_guest_5 : decode cX3_guest 5 = .ok (.invokevirtual 91, 3) := by decide +kernel
theorem dX3_guest_8 : decode cX3_guest 8 = .ok (.ifCond .eq 19, 3) := by decide +kernel
theorem dX3_guest_11 : decode cX3_guest 11 = .ok (.iload_n 2, 1) := by decide +kernel
theorem dX3_guest_12 : decode cX3_guest 12 = .ok (.invokestatic 92, 3) := by decide +kernel
theorem dX3_guest_15 : decode cX3_guest 15 = .ok (.ifCond .eq 12, 3) := by decide +kernel
theorem dX3_guest_18 : decode cX3_guest 18 = .ok (.aload_n 0, 1) := by decide +kernel
theorem dX3_guest_19 : decode cX3_guest 19 = .ok (.iload_n 1, 1) := by decide +kernel
theorem dX3_guest_20 : decode cX3_guest 20 = .ok (.iload_n 2, 1) := by decide +kernel
theorem dX3_guest_21 : decode cX3_guest 21 = .ok (.invokevirtual 95, 3) := by decide +kernel
theorem dX3_guest_24 : decode cX3_guest 24 = .ok (.goto 5, 3) := by decide +kernel
theorem dX3_guest_27 : decode cX3_guest 27 = .ok (.bipush (-2), 2) := by decide +kernel
theorem dX3_guest_29 : decode cX3_guest 29 = .ok (.ireturn, 1) := by decide +kernel
theorem dX3_whoIsIn_0 : decode cX3_whoIsIn 0 = .ok (.iconst 0, 1) := by decide +kernel
theorem dX3_whoIsIn_1 : decode cX3_whoIsIn 1 = .ok (.istore_n 3, 1) := by decide +kernel
theorem dX3_whoIsIn_2 : decode cX3_whoIsIn 2 = .ok (.iload_n 3, 1) := by decide +kernel
theorem dX3_whoIsIn_3 : decode cX3_whoIsIn 3 = .ok (.aload_n 0, 1) := by decide +kernel
theorem dX3_whoIsIn_4 : decode cX3_whoIsIn 4 = .ok (.getfield 21, 3) := by decide +kernel
theorem dX3_whoIsIn_7 : decode cX3_whoIsIn 7 = .ok (.getfield 65, 3) := by decide +kernel
theorem dX3_whoIsIn_10 : decode cX3_whoIsIn 10 = .ok (.if_icmp .ge 36, 3) := by decide +kernel
theorem dX3_whoIsIn_13 : decode cX3_whoIsIn 13 = .ok (.aload_n 0, 1) := by decide +kernel
theorem dX3_whoIsIn_14 : decode cX3_whoIsIn 14 = .ok (.getfield 21, 3) := by decide +kernel
theorem dX3_whoIsIn_17 : decode cX3_whoIsIn 17 = .ok (.getfield 52, 3) := by decide +kernel
theorem dX3_whoIsIn_20 : decode cX3_whoIsIn 20 = .ok (.iload_n 3, 1) := by decide +kernel
theorem dX3_whoIsIn_21 : decode cX3_whoIsIn 21 = .ok (.iaload, 1) := by decide +kernel
theorem dX3_whoIsIn_22 : decode cX3_whoIsIn 22 = .ok (.iload_n 1, 1) := by decide +kernel
theorem dX3_whoIsIn_23 : decode cX3_whoIsIn 23 = .ok (.if_icmp .ne 17, 3) := by decide +kernel
theorem dX3_whoIsIn_26 : decode cX3_whoIsIn 26 = .ok (.aload_n 0, 1) := by decide +kernel
theorem dX3_whoIsIn_27 : decode cX3_whoIsIn 27 = .ok (.getfield 21, 3) := by decide +kernel
theorem dX3_whoIsIn_30 : decode cX3_whoIsIn 30 = .ok (.iload_n 3, 1) := by decide +kernel
theorem dX3_whoIsIn_31 : decode cX3_whoIsIn 31 = .ok (.iload_n 2, 1) := by decide +kernel
theorem dX3_whoIsIn_32 : decode cX3_whoIsIn 32 = .ok (.invokevirtual 98, 3) := by decide +kernel
theorem dX3_whoIsIn_35 : decode cX3_whoIsIn 35 = .ok (.ifCond .eq 5, 3) := by decide +kernel
theorem dX3_whoIsIn_38 : decode cX3_whoIsIn 38 = .ok (.iload_n 3, 1) := by decide +kernel
theorem dX3_whoIsIn_39 : decode cX3_whoIsIn 39 = .ok (.ireturn, 1) := by decide +kernel
theorem dX3_whoIsIn_40 : decode cX3_whoIsIn 40 = .ok (.iinc 3 1, 3) := by decide +kernel
theorem dX3_whoIsIn_43 : decode cX3_whoIsIn 43 = .ok (.goto (-41), 3) := by decide +kernel
theorem dX3_whoIsIn_46 : decode cX3_whoIsIn 46 = .ok (.iconst (-1), 1) := by decide +kernel
theorem dX3_whoIsIn_47 : decode cX3_whoIsIn 47 = .ok (.ireturn, 1) := by decide +kernel
theorem dX3_emptyBeds_0 : decode cX3_emptyBeds 0 = .ok (.iload_n 1, 1) := by decide +kernel
theorem dX3_emptyBeds_1 : decode cX3_emptyBeds 1 = .ok (.invokestatic 92, 3) := by decide +kernel
theorem dX3_emptyBeds_4 : decode cX3_emptyBeds 4 = .ok (.ifCond .ne 6, 3) := by decide +kernel
theorem dX3_emptyBeds_7 : decode cX3_emptyBeds 7 = .ok (.bipush (-2), 2) := by decide +kernel
theorem dX3_emptyBeds_9 : decode cX3_emptyBeds 9 = .ok (.ireturn, 1) := by decide +kernel
theorem dX3_emptyBeds_10 : decode cX3_emptyBeds 10 = .ok (.iconst 0, 1) := by decide +kernel
theorem dX3_emptyBeds_11 : decode cX3_emptyBeds 11 = .ok (.istore_n 2, 1) := by decide +kernel
theorem dX3_emptyBeds_12 : decode cX3_emptyBeds 12 = .ok (.iconst 0, 1) := by decide +kernel
theorem dX3_emptyBeds_13 : decode cX3_emptyBeds 13 = .ok (.istore_n 3, 1) := by decide +kernel
theorem dX3_emptyBeds_14 : decode cX3_emptyBeds 14 = .ok (.iload_n 3, 1) := by decide +kernel
theorem dX3_emptyBeds_15 : decode cX3_emptyBeds 15 = .ok (.aload_n 0, 1) := by decide +kernel
theorem dX3_emptyBeds_16 : decode cX3_emptyBeds 16 = .ok (.getfield 12, 3) := by decide +kernel
theorem dX3_emptyBeds_19 : decode cX3_emptyBeds 19 = .ok (.getfield 71, 3) := by decide +kernel
theorem dX3_emptyBeds_22 : decode cX3_emptyBeds 22 = .ok (.if_icmp .ge 31, 3) := by decide +kernel
theorem dX3_emptyBeds_25 : decode cX3_emptyBeds 25 = .ok (.aload_n 0, 1) := by decide +kernel
theorem dX3_emptyBeds_26 : decode cX3_emptyBeds 26 = .ok (.iload_n 3, 1) := by decide +kernel
theorem dX3_emptyBeds_27 : decode cX3_emptyBeds 27 = .ok (.iload_n 1, 1) := by decide +kernel
theorem dX3_emptyBeds_28 : decode cX3_emptyBeds 28 = .ok (.invokevirtual 95, 3) := by decide +kernel
theorem dX3_emptyBeds_31 : decode cX3_emptyBeds 31 = .ok (.iconst (-1), 1) := by decide +kernel
theorem dX3_emptyBeds_32 : decode cX3_emptyBeds 32 = .ok (.if_icmp .ne 15, 3) := by decide +kernel
theorem dX3_emptyBeds_35 : decode cX3_emptyBeds 35 = .ok (.iload_n 2, 1) := by decide +kernel
theorem dX3_emptyBeds_36 : decode cX3_emptyBeds 36 = .ok (.aload_n 0, 1) := by decide +kernel
theorem dX3_emptyBeds_37 : decode cX3_emptyBeds 37 = .ok (.getfield 12, 3) := by decide +kernel
theorem dX3_emptyBeds_40 : decode cX3_emptyBeds 40 = .ok (.getfield 79, 3) := by decide +kernel
theorem dX3_emptyBeds_43 : decode cX3_emptyBeds 43 = .ok (.iload_n 3, 1) := by decide +kernel
theorem dX3_emptyBeds_44 : decode cX3_emptyBeds 44 = .ok (.iaload, 1) := by decide +kernel
theorem dX3_emptyBeds_45 : decode cX3_emptyBeds 45 = .ok (.iadd, 1) := by decide +kernel
theorem dX3_emptyBeds_46 : decode cX3_emptyBeds 46 = .ok (.istore_n 2, 1) := by decide +kernel
theorem dX3_emptyBeds_47 : decode cX3_emptyBeds 47 = .ok (.iinc 3 1, 3) := by decide +kernel
theorem dX3_emptyBeds_50 : decode cX3_emptyBeds 50 = .ok (.goto (-36), 3) := by decide +kernel
theorem dX3_emptyBeds_53 : decode cX3_emptyBeds 53 = .ok (.iload_n 2, 1) := by decide +kernel
theorem dX3_emptyBeds_54 : decode cX3_emptyBeds 54 = .ok (.ireturn, 1) := by decide +kernel
theorem dX4_init_0 : decode cX4_init 0 = .ok (.aload_n 0, 1) := by decide +kernel
theorem dX4_init_1 : decode cX4_init 1 = .ok (.invokespecial 3, 3) := by decide +kernel
theorem dX4_init_4 : decode cX4_init 4 = .ok (.aload_n 0, 1) := by decide +kernel
theorem dX4_init_5 : decode cX4_init 5 = .ok (.bipush 24, 2) := by decide +kernel
theorem dX4_init_7 : decode cX4_init 7 = .ok (.newarray .int, 2) := by decide +kernel
theorem dX4_init_9 : decode cX4_init 9 = .ok (.putfield 11, 3) := by decide +kernel
theorem dX4_init_12 : decode cX4_init 12 = .ok (.aload_n 0, 1) := by decide +kernel
theorem dX4_init_13 : decode cX4_init 13 = .ok (.bipush 24, 2) := by decide +kernel
theorem dX4_init_15 : decode cX4_init 15 = .ok (.newarray .int, 2) := by decide +kernel
theorem dX4_init_17 : decode cX4_init 17 = .ok (.putfield 15, 3) := by decide +kernel
theorem dX4_init_20 : decode cX4_init 20 = .ok (.aload_n 0, 1) := by decide +kernel
theorem dX4_init_21 : decode cX4_init 21 = .ok (.bipush 24, 2) := by decide +kernel
theorem dX4_init_23 : decode cX4_init 23 = .ok (.newarray .int, 2) := by decide +kernel
theorem dX4_init_25 : decode cX4_init 25 = .ok (.putfield 18, 3) := by decide +kernel
theorem dX4_init_28 : decode cX4_init 28 = .ok (.aload_n 0, 1) := by decide +kernel
theorem dX4_init_29 : decode cX4_init 29 = .ok (.bipush 24, 2) := by decide +kernel
theorem dX4_init_31 : decode cX4_init 31 = .ok (.newarray .int, 2) := by decide +kernel
theorem dX4_init_33 : decode cX4_init 33 = .ok (.putfield 21, 3) := by decide +kernel
theorem dX4_init_36 : decode cX4_init 36 = .ok (.aload_n 0, 1) := by decide +kernel
theorem dX4_init_37 : decode cX4_init 37 = .ok (.bipush 24, 2) := by decide +kernel
theorem dX4_init_39 : decode cX4_init 39 = .ok (.newarray .int, 2) := by decide +kernel
theorem dX4_init_41 : decode cX4_init 41 = .ok (.putfield 24, 3) := by decide +kernel
theorem dX4_init_44 : decode cX4_init 44 = .ok (.aload_n 0, 1) := by decide +kernel
theorem dX4_init_45 : decode cX4_init 45 = .ok (.bipush 24, 2) := by decide +kernel
theorem dX4_init_47 : decode cX4_init 47 = .ok (.newarray .int, 2) := by decide +kernel
theorem dX4_init_49 : decode cX4_init 49 = .ok (.putfield 27, 3) := by decide +kernel
theorem dX4_init_52 : decode cX4_init 52 = .ok (.aload_n 0, 1) := by decide +kernel
theorem dX4_init_53 : decode cX4_init 53 = .ok (.sipush 576, 3) := by decide +kernel
theorem dX4_init_56 : decode cX4_init 56 = .ok (.newarray .int, 2) := by decide +kernel
theorem dX4_init_58 : decode cX4_init 58 = .ok (.putfield 30, 3) := by decide +kernel
theorem dX4_init_61 : decode cX4_init 61 = .ok (.aload_n 0, 1) := by decide +kernel
theorem dX4_init_62 : decode cX4_init 62 = .ok (.iconst 0, 1) := by decide +kernel
theorem dX4_init_63 : decode cX4_init 63 = .ok (.putfield 33, 3) := by decide +kernel
theorem dX4_init_66 : decode cX4_init 66 = .ok (.aload_n 0, 1) := by decide +kernel
theorem dX4_init_67 : decode cX4_init 67 = .ok (.getfield 27, 3) := by decide +kernel
theorem dX4_init_70 : decode cX4_init 70 = .ok (.iconst (-1), 1) := by decide +kernel
theorem dX4_init_71 : decode cX4_init 71 = .ok (.invokestatic 37, 3) := by decide +kernel
theorem dX4_init_74 : decode cX4_init 74 = .ok (.aload_n 0, 1) := by decide +kernel
theorem dX4_init_75 : decode cX4_init 75 = .ok (.getfield 30, 3) := by decide +kernel
theorem dX4_init_78 : decode cX4_init 78 = .ok (.iconst 2, 1) := by decide +kernel
theorem dX4_init_79 : decode cX4_init 79 = .ok (.invokestatic 37, 3) := by decide +kernel
theorem dX4_init_82 : decode cX4_init 82 = .ok (.return_, 1) := by decide +kernel
theorem dX4_has_0 : decode cX4_has 0 = .ok (.iload_n 1, 1) := by decide +kernel
theorem dX4_has_1 : decode cX4_has 1 = .ok (.iconst 0, 1) := by decide +kernel
theorem dX4_has_2 : decode cX4_has 2 = .ok (.aload_n 0, 1) := by decide +kernel
theorem dX4_has_3 : decode cX4_has 3 = .ok (.getfield 33, 3) := by decide +kernel
theorem dX4_has_6 : decode cX4_has 6 = .ok (.iconst 1, 1) := by decide +kernel
theorem dX4_has_7 : decode cX4_has 7 = .ok (.isub, 1) := by decide +kernel
theorem dX4_has_8 : decode cX4_has 8 = .ok (.invokestatic 43, 3) := by decide +kernel
theorem dX4_has_11 : decode cX4_has 11 = .ok (.ireturn, 1) := by decide +kernel
theorem dX4_add_0 : decode cX4_add 0 = .ok (.iload_n 1, 1) := by decide +kernel
theorem dX4_add_1 : decode cX4_add 1 = .ok (.iconst 1, 1) := by decide +kernel
theorem dX4_add_2 : decode cX4_add 2 = .ok (.bipush 8, 2) := by decide +kernel
theorem dX4_add_4 : decode cX4_add 4 = .ok (.invokestatic 43, 3) := by decide +kernel
theorem dX4_add_7 : decode cX4_add 7 = .ok (.ifCond .eq 44, 3) := by decide +kernel
theorem dX4_add_10 : decode cX4_add 10 = .ok (.iload_n 2, 1) := by decide +kernel
theorem dX4_add_11 : decode cX4_add 11 = .ok (.iconst 0, 1) := by decide +kernel
theorem dX4_add_12 : decode cX4_add 12 = .ok (.iload_n 1, 1) := by decide +kernel
theorem dX4_add_13 : decode cX4_add 13 = .ok (.invokestatic 43, 3) := by decide +kernel
theorem dX4_add_16 : decode cX4_add 16 = .ok (.ifCond .eq 35, 3) := by decide +kernel
theorem dX4_add_19 : decode cX4_add 19 = .ok (.iload_n 3, 1) := by decide +kernel
theorem dX4_add_20 : decode cX4_add 20 = .ok (.invokestatic 47, 3) := by decide +kernel
theorem dX4_add_23 : decode cX4_add 23 = .ok (.ifCond .eq 28, 3) := by decide +kernel
theorem dX4_add_26 : decode cX4_add 26 = .ok (.iload 4, 2) := by decide +kernel
theorem dX4_add_28 : decode cX4_add 28 = .ok (.invokestatic 47, 3) := by decide +kernel
theorem dX4_add_31 : decode cX4_add 31 = .ok (.ifCond .eq 20, 3) := by decide +kernel
theorem dX4_add_34 : decode cX4_add 34 = .ok (.iload_n 3, 1) := by decide +kernel
theorem dX4_add_35 : decode cX4_add 35 = .ok (.iload 4, 2) := by decide +kernel
theorem dX4_add_37 : decode cX4_add 37 = .ok (.if_icmp .gt 14, 3) := by decide +kernel
theorem dX4_add_40 : decode cX4_add 40 = .ok (.iload 5, 2) := by decide +kernel
theorem dX4_add_42 : decode cX4_add 42 = .ok (.iconst (-1), 1) := by decide +kernel
theorem dX4_add_43 : decode cX4_add 43 = .ok (.bipush 9, 2) := by decide +kernel
theorem dX4_add_45 : decode cX4_add 45 = .ok (.invokestatic 43, 3) := by decide +kernel
theorem dX4_add_48 : decode cX4_add 48 = .ok (.ifCond .ne 6, 3) := by decide +kernel
theorem dX4_add_51 : decode cX4_add 51 = .ok (.bipush (-2), 2) := by decide +kernel
theorem dX4_add_53 : decode cX4_add 53 = .ok (.ireturn, 1) := by decide +kernel
theorem dX4_add_54 : decode cX4_add 54 = .ok (.aload_n 0, 1) := by decide +kernel
theorem dX4_add_55 : decode cX4_add 55 = .ok (.getfield 33, 3) := by decide +kernel
theorem dX4_add_58 : decode cX4_add 58 = .ok (.bipush 24, 2) := by decide +kernel
theorem dX4_add_60 : decode cX4_add 60 = .ok (.if_icmp .lt 6, 3) := by decide +kernel
theorem dX4_add_63 : decode cX4_add 63 = .ok (.bipush (-4), 2) := by decide +kernel
theorem dX4_add_65 : decode cX4_add 65 = .ok (.ireturn, 1) := by decide +kernel
theorem dX4_add_66 : decode cX4_add 66 = .ok (.aload_n 0, 1) := by decide +kernel
theorem dX4_add_67 : decode cX4_add 67 = .ok (.getfield 11, 3) := by decide +kernel
theorem dX4_add_70 : decode cX4_add 70 = .ok (.aload_n 0, 1) := by decide +kernel
theorem dX4_add_71 : decode cX4_add 71 = .ok (.getfield 33, 3) := by decide +kernel
theorem dX4_add_74 : decode cX4_add 74 = .ok (.iload_n 1, 1) := by decide +kernel
theorem dX4_add_75 : decode cX4_add 75 = .ok (.iastore, 1) := by decide +kernel
theorem dX4_add_76 : decode cX4_add 76 = .ok (.aload_n 0, 1) := by decide +kernel
theorem dX4_add_77 : decode cX4_add 77 = .ok (.getfield 15, 3) := by decide +kernel
theorem dX4_add_80 : decode cX4_add 80 = .ok (.aload_n 0, 1) := by decide +kernel
theorem dX4_add_81 : decode cX4_add 81 = .ok (.getfield 33, 3) := by decide +kernel
theorem dX4_add_84 : decode cX4_add 84 = .ok (.iload_n 2, 1) := by decide +kernel
theorem dX4_add_85 : decode cX4_add 85 = .ok (.iastore, 1) := by decide +kernel
theorem dX4_add_86 : decode cX4_add 86 = .ok (.aload_n 0, 1) := by decide +kernel
theorem dX4_add_87 : decode cX4_add 87 = .ok (.getfield 18, 3) := by decide +kernel
theorem dX4_add_90 : decode cX4_add 90 = .ok (.aload_n 0, 1) := by decide +kernel
theorem dX4_add_91 : decode cX4_add 91 = .ok (.getfield 33, 3) := by decide +kernel
theorem dX4_add_94 : decode cX4_add 94 = .ok (.iload_n 3, 1) := by decide +kernel
theorem dX4_add_95 : decode cX4_add 95 = .ok (.iastore, 1) := by decide +kernel
theorem dX4_add_96 : decode cX4_add 96 = .ok (.aload_n 0, 1) := by decide +kernel
theorem dX4_add_97 : decode cX4_add 97 = .ok (.getfield 21, 3) := by decide +kernel
theorem dX4_add_100 : decode cX4_add 100 = .ok (.aload_n 0, 1) := by decide +kernel
theorem dX4_add_101 : decode cX4_add 101 = .ok (.getfield 33, 3) := by decide +kernel
theorem dX4_add_104 : decode cX4_add 104 = .ok (.iload 4, 2) := by decide +kernel
theorem dX4_add_106 : decode cX4_add 106 = .ok (.iastore, 1) := by decide +kernel
theorem dX4_add_107 : decode cX4_add 107 = .ok (.aload_n 0, 1) := by decide +kernel
theorem dX4_add_108 : decode cX4_add 108 = .ok (.getfield 24, 3) := by decide +kernel
theorem dX4_add_111 : decode cX4_add 111 = .ok (.aload_n 0, 1) := by decide +kernel
theorem dX4_add_112 : decode cX4_add 112 = .ok (.getfield 33, 3) := by decide +kernel
theorem dX4_add_115 : decode cX4_add 115 = .ok (.iload 5, 2) := by decide +kernel
theorem dX4_add_117 : decode cX4_add 117 = .ok (.iastore, 1) := by decide +kernel
theorem dX4_add_118 : decode cX4_add 118 = .ok (.aload_n 0, 1) := by decide +kernel
theorem dX4_add_119 : decode cX4_add 119 = .ok (.dup, 1) := by decide +kernel
theorem dX4_add_120 : decode cX4_add 120 = .ok (.getfield 33, 3) := by decide +kernel
theorem dX4_add_123 : decode cX4_add 123 = .ok (.iconst 1, 1) := by decide +kernel
theorem dX4_add_124 : decode cX4_add 124 = .ok (.iadd, 1) := by decide +kernel
theorem dX4_add_125 : decode cX4_add 125 = .ok (.putfield 33, 3) := by decide +kernel
theorem dX4_add_128 : decode cX4_add 128 = .ok (.aload_n 0, 1) := by decide +kernel
theorem dX4_add_129 : decode cX4_add 129 = .ok (.getfield 33, 3) := by decide +kernel
theorem dX4_add_132 : decode cX4_add 132 = .ok (.iconst 1, 1) := by decide +kernel
theorem dX4_add_133 : decode cX4_add 133 = .ok (.isub, 1) := by decide +kernel
theorem dX4_add_134 : decode cX4_add 134 = .ok (.ireturn, 1) := by decide +kernel
theorem dX4_isLodged_0 : decode cX4_isLodged 0 = .ok (.aload_n 0, 1) := by decide +kernel
theorem dX4_isLodged_1 : decode cX4_isLodged 1 = .ok (.getfield 27, 3) := by decide +kernel
theorem dX4_isLodged_4 : decode cX4_isLodged 4 = .ok (.iload_n 1, 1) := by decide +kernel
theorem dX4_isLodged_5 : decode cX4_isLodged 5 = .ok (.iaload, 1) := by decide +kernel
theorem dX4_isLodged_6 : decode cX4_isLodged 6 = .ok (.iconst (-1), 1) := by decide +kernel
theorem dX4_isLodged_7 : decode cX4_isLodged 7 = .ok (.if_icmp .eq 7, 3) := by decide +kernel
theorem dX4_isLodged_10 : decode cX4_isLodged 10 = .ok (.iconst 1, 1) := by decide +kernel
theorem dX4_isLodged_11 : decode cX4_isLodged 11 = .ok (.goto 4, 3) := by decide +kernel
theorem dX4_isLodged_14 : decode cX4_isLodged 14 = .ok (.iconst 0, 1) := by decide +kernel
theorem dX4_isLodged_15 : decode cX4_isLodged 15 = .ok (.ireturn, 1) := by decide +kernel
theorem dX4_isThere_0 : decode cX4_isThere 0 = .ok (.aload_n 0, 1) := by decide +kernel
theorem dX4_isThere_1 : decode cX4_isThere 1 = .ok (.iload_n 1, 1) := by decide +kernel
theorem dX4_isThere_2 : decode cX4_isThere 2 = .ok (.invokevirtual 51, 3) := by decide +kernel
theorem dX4_isThere_5 : decode cX4_isThere 5 = .ok (.ifCond .eq 26, 3) := by decide +kernel
theorem dX4_isThere_8 : decode cX4_isThere 8 = .ok (.iload_n 2, 1) := by decide +kernel
theorem dX4_isThere_9 : decode cX4_isThere 9 = .ok (.aload_n 0, 1) := by decide +kernel
theorem dX4_isThere_10 : decode cX4_isThere 10 = .ok (.getfield 18, 3) := by decide +kernel
theorem dX4_isThere_13 : decode cX4_isThere 13 = .ok (.iload_n 1, 1) := by decide +kernel
theorem dX4_isThere_14 : decode cX4_isThere 14 = .ok (.iaload, 1) := by decide +kernel
theorem dX4_isThere_15 : decode cX4_isThere 15 = .ok (.aload_n 0, 1) := by decide +kernel
theorem dX4_isThere_16 : decode cX4_isThere 16 = .ok (.getfield 21, 3) := by decide +kernel
theorem dX4_isThere_19 : decode cX4_isThere 19 = .ok (.iload_n 1, 1) := by decide +kernel
theorem dX4_isThere_20 : decode cX4_isThere 20 = .ok (.iaload, 1) := by decide +kernel
theorem dX4_isThere_21 : decode cX4_isThere 21 = .ok (.invokestatic 43, 3) := by decide +kernel
theorem dX4_isThere_24 : decode cX4_isThere 24 = .ok (.ifCond .eq 7, 3) := by decide +kernel
theorem dX4_isThere_27 : decode cX4_isThere 27 = .ok (.iconst 1, 1) := by decide +kernel
theorem dX4_isThere_28 : decode cX4_isThere 28 = .ok (.goto 4, 3) := by decide +kernel
theorem dX4_isThere_31 : decode cX4_isThere 31 = .ok (.iconst 0, 1) := by decide +kernel
theorem dX4_isThere_32 : decode cX4_isThere 32 = .ok (.ireturn, 1) := by decide +kernel
theorem dX4_shareWeek_0 : decode cX4_shareWeek 0 = .ok (.aload_n 0, 1) := by decide +kernel
theorem dX4_shareWeek_1 : decode cX4_shareWeek 1 = .ok (.getfield 18, 3) := by decide +kernel
theorem dX4_shareWeek_4 : decode cX4_shareWeek 4 = .ok (.iload_n 1, 1) := by decide +kernel
theorem dX4_shareWeek_5 : decode cX4_shareWeek 5 = .ok (.iaload, 1) := by decide +kernel
theorem dX4_shareWeek_6 : decode cX4_shareWeek 6 = .ok (.aload_n 0, 1) := by decide +kernel
theorem dX4_shareWeek_7 : decode cX4_shareWeek 7 = .ok (.getfield 21, 3) := by decide +kernel
theorem dX4_shareWeek_10 : decode cX4_shareWeek 10 = .ok (.iload_n 2, 1) := by decide +kernel
theorem dX4_shareWeek_11 : decode cX4_shareWeek 11 = .ok (.iaload, 1) := by decide +kernel
theorem dX4_shareWeek_12 : decode cX4_shareWeek 12 = .ok (.if_icmp .gt 22, 3) := by decide +kernel
theorem dX4_shareWeek_15 : decode cX4_shareWeek 15 = .ok (.aload_n 0, 1) := by decide +kernel
theorem dX4_shareWeek_16 : decode cX4_shareWeek 16 = .ok (.getfield 18, 3) := by decide +kernel
theorem dX4_shareWeek_19 : decode cX4_shareWeek 19 = .ok (.iload_n 2, 1) := by decide +kernel
theorem dX4_shareWeek_20 : decode cX4_shareWeek 20 = .ok (.iaload, 1) := by decide +kernel
theorem dX4_shareWeek_21 : decode cX4_shareWeek 21 = .ok (.aload_n 0, 1) := by decide +kernel
theorem dX4_shareWeek_22 : decode cX4_shareWeek 22 = .ok (.getfield 21, 3) := by decide +kernel
theorem dX4_shareWeek_25 : decode cX4_shareWeek 25 = .ok (.iload_n 1, 1) := by decide +kernel
theorem dX4_shareWeek_26 : decode cX4_shareWeek 26 = .ok (.iaload, 1) := by decide +kernel
theorem dX4_shareWeek_27 : decode cX4_shareWeek 27 = .ok (.if_icmp .gt 7, 3) := by decide +kernel
theorem dX4_shareWeek_30 : decode cX4_shareWeek 30 = .ok (.iconst 1, 1) := by decide +kernel
theorem dX4_shareWeek_31 : decode cX4_shareWeek 31 = .ok (.goto 4, 3) := by decide +kernel
theorem dX4_shareWeek_34 : decode cX4_shareWeek 34 = .ok (.iconst 0, 1) := by decide +kernel
theorem dX4_shareWeek_35 : decode cX4_shareWeek 35 = .ok (.ireturn, 1) := by decide +kernel
theorem dX4_areTold_0 : decode cX4_areTold 0 = .ok (.aload_n 0, 1) := by decide +kernel
theorem dX4_areTold_1 : decode cX4_areTold 1 = .ok (.getfield 30, 3) := by decide +kernel
theorem dX4_areTold_4 : decode cX4_areTold 4 = .ok (.iload_n 1, 1) := by decide +kernel
theorem dX4_areTold_5 : decode cX4_areTold 5 = .ok (.bipush 24, 2) := by decide +kernel
theorem dX4_areTold_7 : decode cX4_areTold 7 = .ok (.imul, 1) := by decide +kernel
theorem dX4_areTold_8 : decode cX4_areTold 8 = .ok (.iload_n 2, 1) := by decide +kernel
theorem dX4_areTold_9 : decode cX4_areTold 9 = .ok (.iadd, 1) := by decide +kernel
theorem dX4_areTold_10 : decode cX4_areTold 10 = .ok (.iaload, 1) := by decide +kernel
theorem dX4_areTold_11 : decode cX4_areTold 11 = .ok (.iload_n 3, 1) := by decide +kernel
theorem dX4_areTold_12 : decode cX4_areTold 12 = .ok (.if_icmp .ne 7, 3) := by decide +kernel
theorem dX4_areTold_15 : decode cX4_areTold 15 = .ok (.iconst 1, 1) := by decide +kernel
theorem dX4_areTold_16 : decode cX4_areTold 16 = .ok (.goto 4, 3) := by decide +kernel
theorem dX4_areTold_19 : decode cX4_areTold 19 = .ok (.iconst 0, 1) := by decide +kernel
theorem dX4_areTold_20 : decode cX4_areTold 20 = .ok (.ireturn, 1) := by decide +kernel
theorem dX4_setTold_0 : decode cX4_setTold 0 = .ok (.aload_n 0, 1) := by decide +kernel
theorem dX4_setTold_1 : decode cX4_setTold 1 = .ok (.getfield 30, 3) := by decide +kernel
theorem dX4_setTold_4 : decode cX4_setTold 4 = .ok (.iload_n 1, 1) := by decide +kernel
theorem dX4_setTold_5 : decode cX4_setTold 5 = .ok (.bipush 24, 2) := by decide +kernel
theorem dX4_setTold_7 : decode cX4_setTold 7 = .ok (.imul, 1) := by decide +kernel
theorem dX4_setTold_8 : decode cX4_setTold 8 = .ok (.iload_n 2, 1) := by decide +kernel
theorem dX4_setTold_9 : decode cX4_setTold 9 = .ok (.iadd, 1) := by decide +kernel
theorem dX4_setTold_10 : decode cX4_setTold 10 = .ok (.iaload, 1) := by decide +kernel
theorem dX4_setTold_11 : decode cX4_setTold 11 = .ok (.istore 4, 2) := by decide +kernel
theorem dX4_setTold_13 : decode cX4_setTold 13 = .ok (.aload_n 0, 1) := by decide +kernel
theorem dX4_setTold_14 : decode cX4_setTold 14 = .ok (.getfield 30, 3) := by decide +kernel
theorem dX4_setTold_17 : decode cX4_setTold 17 = .ok (.iload_n 1, 1) := by decide +kernel
theorem dX4_setTold_18 : decode cX4_setTold 18 = .ok (.bipush 24, 2) := by decide +kernel
theorem dX4_setTold_20 : decode cX4_setTold 20 = .ok (.imul, 1) := by decide +kernel
theorem dX4_setTold_21 : decode cX4_setTold 21 = .ok (.iload_n 2, 1) := by decide +kernel
theorem dX4_setTold_22 : decode cX4_setTold 22 = .ok (.iadd, 1) := by decide +kernel
theorem dX4_setTold_23 : decode cX4_setTold 23 = .ok (.iload_n 3, 1) := by decide +kernel
theorem dX4_setTold_24 : decode cX4_setTold 24 = .ok (.iastore, 1) := by decide +kernel
theorem dX4_setTold_25 : decode cX4_setTold 25 = .ok (.aload_n 0, 1) := by decide +kernel
theorem dX4_setTold_26 : decode cX4_setTold 26 = .ok (.getfield 30, 3) := by decide +kernel
theorem dX4_setTold_29 : decode cX4_setTold 29 = .ok (.iload_n 2, 1) := by decide +kernel
theorem dX4_setTold_30 : decode cX4_setTold 30 = .ok (.bipush 24, 2) := by decide +kernel
theorem dX4_setTold_32 : decode cX4_setTold 32 = .ok (.imul, 1) := by decide +kernel
theorem dX4_setTold_33 : decode cX4_setTold 33 = .ok (.iload_n 1, 1) := by decide +kernel
theorem dX4_setTold_34 : decode cX4_setTold 34 = .ok (.iadd, 1) := by decide +kernel
theorem dX4_setTold_35 : decode cX4_setTold 35 = .ok (.iload_n 3, 1) := by decide +kernel
theorem dX4_setTold_36 : decode cX4_setTold 36 = .ok (.iastore, 1) := by decide +kernel
theorem dX4_setTold_37 : decode cX4_setTold 37 = .ok (.iload 4, 2) := by decide +kernel
theorem dX4_setTold_39 : decode cX4_setTold 39 = .ok (.ireturn, 1) := by decide +kernel
theorem dX4_giveUpHut_0 : decode cX4_giveUpHut 0 = .ok (.aload_n 0, 1) := by decide +kernel
theorem dX4_giveUpHut_1 : decode cX4_giveUpHut 1 = .ok (.iload_n 1, 1) := by decide +kernel
theorem dX4_giveUpHut_2 : decode cX4_giveUpHut 2 = .ok (.invokevirtual 54, 3) := by decide +kernel
theorem dX4_giveUpHut_5 : decode cX4_giveUpHut 5 = .ok (.ifCond .ne 6, 3) := by decide +kernel
theorem dX4_giveUpHut_8 : decode cX4_giveUpHut 8 = .ok (.bipush (-2), 2) := by decide +kernel
theorem dX4_giveUpHut_10 : decode cX4_giveUpHut 10 = .ok (.ireturn, 1) := by decide +kernel
theorem dX4_giveUpHut_11 : decode cX4_giveUpHut 11 = .ok (.aload_n 0, 1) := by decide +kernel
theorem dX4_giveUpHut_12 : decode cX4_giveUpHut 12 = .ok (.iload_n 1, 1) := by decide +kernel
theorem dX4_giveUpHut_13 : decode cX4_giveUpHut 13 = .ok (.invokevirtual 51, 3) := by decide +kernel
theorem dX4_giveUpHut_16 : decode cX4_giveUpHut 16 = .ok (.ifCond .ne 6, 3) := by decide +kernel
theorem dX4_giveUpHut_19 : decode cX4_giveUpHut 19 = .ok (.bipush (-3), 2) := by decide +kernel
theorem dX4_giveUpHut_21 : decode cX4_giveUpHut 21 = .ok (.ireturn, 1) := by decide +kernel
theorem dX4_giveUpHut_22 : decode cX4_giveUpHut 22 = .ok (.aload_n 0, 1) := by decide +kernel
theorem dX4_giveUpHut_23 : decode cX4_giveUpHut 23 = .ok (.getfield 27, 3) := by decide +kernel
theorem dX4_giveUpHut_26 : decode cX4_giveUpHut 26 = .ok (.iload_n 1, 1) := by decide +kernel
theorem dX4_giveUpHut_27 : decode cX4_giveUpHut 27 = .ok (.iaload, 1) := by decide +kernel
theorem dX4_giveUpHut_28 : decode cX4_giveUpHut 28 = .ok (.istore_n 2, 1) := by decide +kernel
theorem dX4_giveUpHut_29 : decode cX4_giveUpHut 29 = .ok (.aload_n 0, 1) := by decide +kernel
theorem dX4_giveUpHut_30 : decode cX4_giveUpHut 30 = .ok (.getfield 27, 3) := by decide +kernel
theorem dX4_giveUpHut_33 : decode cX4_giveUpHut 33 = .ok (.iload_n 1, 1) := by decide +kernel
theorem dX4_giveUpHut_34 : decode cX4_giveUpHut 34 = .ok (.iconst (-1), 1) := by decide +kernel
theorem dX4_giveUpHut_35 : decode cX4_giveUpHut 35 = .ok (.iastore, 1) := by decide +kernel
theorem dX4_giveUpHut_36 : decode cX4_giveUpHut 36 = .ok (.iload_n 2, 1) := by decide +kernel
theorem dX4_giveUpHut_37 : decode cX4_giveUpHut 37 = .ok (.ireturn, 1) := by decide +kernel
theorem dX4_fact_0 : decode cX4_fact 0 = .ok (.aload_n 0, 1) := by decide +kernel
theorem dX4_fact_1 : decode cX4_fact 1 = .ok (.iload_n 1, 1) := by decide +kernel
theorem dX4_fact_2 : decode cX4_fact 2 = .ok (.invokevirtual 54, 3) := by decide +kernel
theorem dX4_fact_5 : decode cX4_fact 5 = .ok (.ifCond .ne 6, 3) := by decide +kernel
theorem dX4_fact_8 : decode cX4_fact 8 = .ok (.bipush (-2), 2) := by decide +kernel
theorem dX4_fact_10 : decode cX4_fact 10 = .ok (.ireturn, 1) := by decide +kernel
theorem dX4_fact_11 : decode cX4_fact 11 = .ok (.iload_n 2, 1) := by decide +kernel
theorem dX4_fact_12 : decode cX4_fact 12 = .ok (.tableswitch 82 0 5 #[40, 47, 54, 61, 68, 75], 40) := by decide +kernel
theorem dX4_fact_52 : decode cX4_fact 52 = .ok (.aload_n 0, 1) := by decide +kernel
theorem dX4_fact_53 : decode cX4_fact 53 = .ok (.getfield 11, 3) := by decide +kernel
theorem dX4_fact_56 : decode cX4_fact 56 = .ok (.iload_n 1, 1) := by decide +kernel
theorem dX4_fact_57 : decode cX4_fact 57 = .ok (.iaload, 1) := by decide +kernel
theorem dX4_fact_58 : decode cX4_fact 58 = .ok (.ireturn, 1) := by decide +kernel
theorem dX4_fact_59 : decode cX4_fact 59 = .ok (.aload_n 0, 1) := by decide +kernel
theorem dX4_fact_60 : decode cX4_fact 60 = .ok (.getfield 15, 3) := by decide +kernel
theorem dX4_fact_63 : decode cX4_fact 63 = .ok (.iload_n 1, 1) := by decide +kernel
theorem dX4_fact_64 : decode cX4_fact 64 = .ok (.iaload, 1) := by decide +kernel
theorem dX4_fact_65 : decode cX4_fact 65 = .ok (.ireturn, 1) := by decide +kernel
theorem dX4_fact_66 : decode cX4_fact 66 = .ok (.aload_n 0, 1) := by decide +kernel
theorem dX4_fact_67 : decode cX4_fact 67 = .ok (.getfield 18, 3) := by decide +kernel
theorem dX4_fact_70 : decode cX4_fact 70 = .ok (.iload_n 1, 1) := by decide +kernel
theorem dX4_fact_71 : decode cX4_fact 71 = .ok (.iaload, 1) := by decide +kernel
theorem dX4_fact_72 : decode cX4_fact 72 = .ok (.ireturn, 1) := by decide +kernel
theorem dX4_fact_73 : decode cX4_fact 73 = .ok (.aload_n 0, 1) := by decide +kernel
theorem dX4_fact_74 : decode cX4_fact 74 = .ok (.getfield 21, 3) := by decide +kernel
theorem dX4_fact_77 : decode cX4_fact 77 = .ok (.iload_n 1, 1) := by decide +kernel
theorem dX4_fact_78 : decode cX4_fact 78 = .ok (.iaload, 1) := by decide +kernel
theorem dX4_fact_79 : decode cX4_fact 79 = .ok (.ireturn, 1) := by decide +kernel
theorem dX4_fact_80 : decode cX4_fact 80 = .ok (.aload_n 0, 1) := by decide +kernel
theorem dX4_fact_81 : decode cX4_fact 81 = .ok (.getfield 24, 3) := by decide +kernel
theorem dX4_fact_84 : decode cX4_fact 84 = .ok (.iload_n 1, 1) := by decide +kernel
theorem dX4_fact_85 : decode cX4_fact 85 = .ok (.iaload, 1) := by decide +kernel
theorem dX4_fact_86 : decode cX4_fact 86 = .ok (.ireturn, 1) := by decide +kernel
theorem dX4_fact_87 : decode cX4_fact 87 = .ok (.aload_n 0, 1) := by decide +kernel
theorem dX4_fact_88 : decode cX4_fact 88 = .ok (.getfield 27, 3) := by decide +kernel
theorem dX4_fact_91 : decode cX4_fact 91 = .ok (.iload_n 1, 1) := by decide +kernel
theorem dX4_fact_92 : decode cX4_fact 92 = .ok (.iaload, 1) := by decide +kernel
theorem dX4_fact_93 : decode cX4_fact 93 = .ok (.ireturn, 1) := by decide +kernel
theorem dX4_fact_94 : decode cX4_fact 94 = .ok (.bipush (-2), 2) := by decide +kernel
theorem dX4_fact_96 : decode cX4_fact 96 = .ok (.ireturn, 1) := by decide +kernel
theorem dX4_lodgedCount_0 : decode cX4_lodgedCount 0 = .ok (.iconst 0, 1) := by decide +kernel
theorem dX4_lodgedCount_1 : decode cX4_lodgedCount 1 = .ok (.istore_n 1, 1) := by decide +kernel
theorem dX4_lodgedCount_2 : decode cX4_lodgedCount 2 = .ok (.iconst 0, 1) := by decide +kernel
theorem dX4_lodgedCount_3 : decode cX4_lodgedCount 3 = .ok (.istore_n 2, 1) := by decide +kernel
theorem dX4_lodgedCount_4 : decode cX4_lodgedCount 4 = .ok (.iload_n 2, 1) := by decide +kernel
theorem dX4_lodgedCount_5 : decode cX4_lodgedCount 5 = .ok (.aload_n 0, 1) := by decide +kernel
theorem dX4_lodgedCount_6 : decode cX4_lodgedCount 6 = .ok (.getfield 33, 3) := by decide +kernel
theorem dX4_lodgedCount_9 : decode cX4_lodgedCount 9 = .ok (.if_icmp .ge 20, 3) := by decide +kernel
theorem dX4_lodgedCount_12 : decode cX4_lodgedCount 12 = .ok (.aload_n 0, 1) := by decide +kernel
theorem dX4_lodgedCount_13 : decode cX4_lodgedCount 13 = .ok (.iload_n 2, 1) := by decide +kernel
theorem dX4_lodgedCount_14 : decode cX4_lodgedCount 14 = .ok (.invokevirtual 51, 3) := by decide +kernel
theorem dX4_lodgedCount_17 : decode cX4_lodgedCount 17 = .ok (.ifCond .eq 6, 3) := by decide +kernel
theorem dX4_lodgedCount_20 : decode cX4_lodgedCount 20 = .ok (.iinc 1 1, 3) := by decide +kernel
theorem dX4_lodgedCount_23 : decode cX4_lodgedCount 23 = .ok (.iinc 2 1, 3) := by decide +kernel
theorem dX4_lodgedCount_26 : decode cX4_lodgedCount 26 = .ok (.goto (-22), 3) := by decide +kernel
theorem dX4_lodgedCount_29 : decode cX4_lodgedCount 29 = .ok (.iload_n 1, 1) := by decide +kernel
theorem dX4_lodgedCount_30 : decode cX4_lodgedCount 30 = .ok (.ireturn, 1) := by decide +kernel
end
section
theorem dX5_init_0 : decode cX5_init 0 = .ok (.aload_n 0, 1) := by decide +kernel
theorem dX5_init_1 : decode cX5_init 1 = .ok (.invokespecial 3, 3) := by decide +kernel
theorem dX5_init_4 : decode cX5_init 4 = .ok (.aload_n 0, 1) := by decide +kernel
theorem dX5_init_5 : decode cX5_init 5 = .ok (.iconst 0, 1) := by decide +kernel
theorem dX5_init_6 : decode cX5_init 6 = .ok (.putfield 9, 3) := by decide +kernel
theorem dX5_init_9 : decode cX5_init 9 = .ok (.aload_n 0, 1) := by decide +kernel
theorem dX5_init_10 : decode cX5_init 10 = .ok (.bipush 30, 2) := by decide +kernel
theorem dX5_init_12 : decode cX5_init 12 = .ok (.newarray .int, 2) := by decide +kernel
theorem dX5_init_14 : decode cX5_init 14 = .ok (.putfield 15, 3) := by decide +kernel
theorem dX5_init_17 : decode cX5_init 17 = .ok (.aload_n 0, 1) := by decide +kernel
theorem dX5_init_18 : decode cX5_init 18 = .ok (.bipush 30, 2) := by decide +kernel
theorem dX5_init_20 : decode cX5_init 20 = .ok (.newarray .int, 2) := by decide +kernel
theorem dX5_init_22 : decode cX5_init 22 = .ok (.putfield 19, 3) := by decide +kernel
theorem dX5_init_25 : decode cX5_init 25 = .ok (.aload_n 0, 1) := by decide +kernel
theorem dX5_init_26 : decode cX5_init 26 = .ok (.bipush 30, 2) := by decide +kernel
theorem dX5_init_28 : decode cX5_init 28 = .ok (.newarray .int, 2) := by decide +kernel
theorem dX5_init_30 : decode cX5_init 30 = .ok (.putfield 22, 3) := by decide +kernel
theorem dX5_init_33 : decode cX5_init 33 = .ok (.return_, 1) := by decide +kernel
theorem dX5_add_0 : decode cX5_add 0 = .ok (.iload_n 1, 1) := by decide +kernel
theorem dX5_add_1 : decode cX5_add 1 = .ok (.iconst 0, 1) := by decide +kernel
theorem dX5_add_2 : decode cX5_add 2 = .ok (.sipush 999, 3) := by decide +kernel
theorem dX5_add_5 : decode cX5_add 5 = .ok (.invokestatic 25, 3) := by decide +kernel
theorem dX5_add_8 : decode cX5_add 8 = .ok (.ifCond .eq 23, 3) := by decide +kernel
theorem dX5_add_11 : decode cX5_add 11 = .ok (.iload_n 2, 1) := by decide +kernel
theorem dX5_add_12 : decode cX5_add 12 = .ok (.iconst 0, 1) := by decide +kernel
theorem dX5_add_13 : decode cX5_add 13 = .ok (.bipush 99, 2) := by decide +kernel
theorem dX5_add_15 : decode cX5_add 15 = .ok (.invokestatic 25, 3) := by decide +kernel
theorem dX5_add_18 : decode cX5_add 18 = .ok (.ifCond .eq 13, 3) := by decide +kernel
theorem dX5_add_21 : decode cX5_add 21 = .ok (.iload_n 3, 1) := by decide +kernel
theorem dX5_add_22 : decode cX5_add 22 = .ok (.iconst 0, 1) := by decide +kernel
theorem dX5_add_23 : decode cX5_add 23 = .ok (.bipush 100, 2) := by decide +kernel
theorem dX5_add_25 : decode cX5_add 25 = .ok (.invokestatic 25, 3) := by decide +kernel
theorem dX5_add_28 : decode cX5_add 28 = .ok (.ifCond .ne 6, 3) := by decide +kernel
theorem dX5_add_31 : decode cX5_add 31 = .ok (.bipush (-2), 2) := by decide +kernel
theorem dX5_add_33 : decode cX5_add 33 = .ok (.ireturn, 1) := by decide +kernel
theorem dX5_add_34 : decode cX5_add 34 = .ok (.aload_n 0, 1) := by decide +kernel
theorem dX5_add_35 : decode cX5_add 35 = .ok (.getfield 9, 3) := by decide +kernel
theorem dX5_add_38 : decode cX5_add 38 = .ok (.bipush 30, 2) := by decide +kernel
theorem dX5_add_40 : decode cX5_add 40 = .ok (.if_icmp .lt 6, 3) := by decide +kernel
theorem dX5_add_43 : decode cX5_add 43 = .ok (.bipush (-4), 2) := by decide +kernel
theorem dX5_add_45 : decode cX5_add 45 = .ok (.ireturn, 1) := by decide +kernel
theorem dX5_add_46 : decode cX5_add 46 = .ok (.aload_n 0, 1) := by decide +kernel
theorem dX5_add_47 : decode cX5_add 47 = .ok (.getfield 15, 3) := by decide +kernel
theorem dX5_add_50 : decode cX5_add 50 = .ok (.aload_n 0, 1) := by decide +kernel
theorem dX5_add_51 : decode cX5_add 51 = .ok (.getfield 9, 3) := by decide +kernel
theorem dX5_add_54 : decode cX5_add 54 = .ok (.iload_n 1, 1) := by decide +kernel
theorem dX5_add_55 : decode cX5_add 55 = .ok (.iastore, 1) := by decide +kernel
theorem dX5_add_56 : decode cX5_add 56 = .ok (.aload_n 0, 1) := by decide +kernel
theorem dX5_add_57 : decode cX5_add 57 = .ok (.getfield 19, 3) := by decide +kernel
theorem dX5_add_60 : decode cX5_add 60 = .ok (.aload_n 0, 1) := by decide +kernel
theorem dX5_add_61 : decode cX5_add 61 = .ok (.getfield 9, 3) := by decide +kernel
theorem dX5_add_64 : decode cX5_add 64 = .ok (.iload_n 2, 1) := by decide +kernel
theorem dX5_add_65 : decode cX5_add 65 = .ok (.iastore, 1) := by decide +kernel
theorem dX5_add_66 : decode cX5_add 66 = .ok (.aload_n 0, 1) := by decide +kernel
theorem dX5_add_67 : decode cX5_add 67 = .ok (.getfield 22, 3) := by decide +kernel
theorem dX5_add_70 : decode cX5_add 70 = .ok (.aload_n 0, 1) := by decide +kernel
theorem dX5_add_71 : decode cX5_add 71 = .ok (.getfield 9, 3) := by decide +kernel
theorem dX5_add_74 : decode cX5_add 74 = .ok (.iload_n 3, 1) := by decide +kernel
theorem dX5_add_75 : decode cX5_add 75 = .ok (.iastore, 1) := by decide +kernel
theorem dX5_add_76 : decode cX5_add 76 = .ok (.aload_n 0, 1) := by decide +kernel
theorem dX5_add_77 : decode cX5_add 77 = .ok (.dup, 1) := by decide +kernel
theorem dX5_add_78 : decode cX5_add 78 = .ok (.getfield 9, 3) := by decide +kernel
theorem dX5_add_81 : decode cX5_add 81 = .ok (.iconst 1, 1) := by decide +kernel
theorem dX5_add_82 : decode cX5_add 82 = .ok (.iadd, 1) := by decide +kernel
theorem dX5_add_83 : decode cX5_add 83 = .ok (.putfield 9, 3) := by decide +kernel
theorem dX5_add_86 : decode cX5_add 86 = .ok (.aload_n 0, 1) := by decide +kernel
theorem dX5_add_87 : decode cX5_add 87 = .ok (.getfield 9, 3) := by decide +kernel
theorem dX5_add_90 : decode cX5_add 90 = .ok (.ireturn, 1) := by decide +kernel
theorem dX5_paidBack_0 : decode cX5_paidBack 0 = .ok (.iload_n 1, 1) := by decide +kernel
theorem dX5_paidBack_1 : decode cX5_paidBack 1 = .ok (.iconst 0, 1) := by decide +kernel
theorem dX5_paidBack_2 : decode cX5_paidBack 2 = .ok (.sipush 999, 3) := by decide +kernel
theorem dX5_paidBack_5 : decode cX5_paidBack 5 = .ok (.invokestatic 25, 3) := by decide +kernel
theorem dX5_paidBack_8 : decode cX5_paidBack 8 = .ok (.ifCond .eq 14, 3) := by decide +kernel
theorem dX5_paidBack_11 : decode cX5_paidBack 11 = .ok (.iload_n 2, 1) := by decide +kernel
theorem dX5_paidBack_12 : decode cX5_paidBack 12 = .ok (.iconst 0, 1) := by decide +kernel
theorem dX5_paidBack_13 : decode cX5_paidBack 13 = .ok (.sipush 999, 3) := by decide +kernel
theorem dX5_paidBack_16 : decode cX5_paidBack 16 = .ok (.invokestatic 25, 3) := by decide +kernel
theorem dX5_paidBack_19 : decode cX5_paidBack 19 = .ok (.ifCond .ne 6, 3) := by decide +kernel
theorem dX5_paidBack_22 : decode cX5_paidBack 22 = .ok (.bipush (-2), 2) := by decide +kernel
theorem dX5_paidBack_24 : decode cX5_paidBack 24 = .ok (.ireturn, 1) := by decide +kernel
theorem dX5_paidBack_25 : decode cX5_paidBack 25 = .ok (.aload_n 0, 1) := by decide +kernel
theorem dX5_paidBack_26 : decode cX5_paidBack 26 = .ok (.iload_n 1, 1) := by decide +kernel
theorem dX5_paidBack_27 : decode cX5_paidBack 27 = .ok (.invokevirtual 29, 3) := by decide +kernel
theorem dX5_paidBack_30 : decode cX5_paidBack 30 = .ok (.istore_n 3, 1) := by decide +kernel
theorem dX5_paidBack_31 : decode cX5_paidBack 31 = .ok (.iconst 0, 1) := by decide +kernel
theorem dX5_paidBack_32 : decode cX5_paidBack 32 = .ok (.istore 4, 2) := by decide +kernel
theorem dX5_paidBack_34 : decode cX5_paidBack 34 = .ok (.iconst 0, 1) := by decide +kernel
theorem dX5_paidBack_35 : decode cX5_paidBack 35 = .ok (.istore 5, 2) := by decide +kernel
theorem dX5_paidBack_37 : decode cX5_paidBack 37 = .ok (.iload 5, 2) := by decide +kernel
theorem dX5_paidBack_39 : decode cX5_paidBack 39 = .ok (.aload_n 0, 1) := by decide +kernel
theorem dX5_paidBack_40 : decode cX5_paidBack 40 = .ok (.getfield 9, 3) := by decide +kernel
theorem dX5_paidBack_43 : decode cX5_paidBack 43 = .ok (.if_icmp .ge 45, 3) := by decide +kernel
theorem dX5_paidBack_46 : decode cX5_paidBack 46 = .ok (.aload_n 0, 1) := by decide +kernel
theorem dX5_paidBack_47 : decode cX5_paidBack 47 = .ok (.getfield 15, 3) := by decide +kernel
theorem dX5_paidBack_50 : decode cX5_paidBack 50 = .ok (.iload 5, 2) := by decide +kernel
theorem dX5_paidBack_52 : decode cX5_paidBack 52 = .ok (.iaload, 1) := by decide +kernel
theorem dX5_paidBack_53 : decode cX5_paidBack 53 = .ok (.iload_n 3, 1) := by decide +kernel
theorem dX5_paidBack_54 : decode cX5_paidBack 54 = .ok (.if_icmp .ne 28, 3) := by decide +kernel
theorem dX5_paidBack_57 : decode cX5_paidBack 57 = .ok (.aload_n 0, 1) := by decide +kernel
theorem dX5_paidBack_58 : decode cX5_paidBack 58 = .ok (.getfield 19, 3) := by decide +kernel
theorem dX5_paidBack_61 : decode cX5_paidBack 61 = .ok (.iload 5, 2) := by decide +kernel
theorem dX5_paidBack_63 : decode cX5_paidBack 63 = .ok (.iaload, 1) := by decide +kernel
theorem dX5_paidBack_64 : decode cX5_paidBack 64 = .ok (.iload_n 2, 1) := by decide +kernel
theorem dX5_paidBack_65 : decode cX5_paidBack 65 = .ok (.if_icmp .gt 17, 3) := by decide +kernel
theorem dX5_paidBack_68 : decode cX5_paidBack 68 = .ok (.iload 4, 2) := by decide +kernel
theorem dX5_paidBack_70 : decode cX5_paidBack 70 = .ok (.aload_n 0, 1) := by decide +kernel
theorem dX5_paidBack_71 : decode cX5_paidBack 71 = .ok (.getfield 22, 3) := by decide +kernel
theorem dX5_paidBack_74 : decode cX5_paidBack 74 = .ok (.iload 5, 2) := by decide +kernel
theorem dX5_paidBack_76 : decode cX5_paidBack 76 = .ok (.iaload, 1) := by decide +kernel
theorem dX5_paidBack_77 : decode cX5_paidBack 77 = .ok (.invokestatic 33, 3) := by decide +kernel
theorem dX5_paidBack_80 : decode cX5_paidBack 80 = .ok (.istore 4, 2) := by decide +kernel
theorem dX5_paidBack_82 : decode cX5_paidBack 82 = .ok (.iinc 5 1, 3) := by decide +kernel
theorem dX5_paidBack_85 : decode cX5_paidBack 85 = .ok (.goto (-48), 3) := by decide +kernel
theorem dX5_paidBack_88 : decode cX5_paidBack 88 = .ok (.iload 4, 2) := by decide +kernel
theorem dX5_paidBack_90 : decode cX5_paidBack 90 = .ok (.ireturn, 1) := by decide +kernel
theorem dX5_latestDay_0 : decode cX5_latestDay 0 = .ok (.iconst (-1), 1) := by decide +kernel
theorem dX5_latestDay_1 : decode cX5_latestDay 1 = .ok (.istore_n 2, 1) := by decide +kernel
theorem dX5_latestDay_2 : decode cX5_latestDay 2 = .ok (.iconst 0, 1) := by decide +kernel
theorem dX5_latestDay_3 : decode cX5_latestDay 3 = .ok (.istore_n 3, 1) := by decide +kernel
theorem dX5_latestDay_4 : decode cX5_latestDay 4 = .ok (.iload_n 3, 1) := by decide +kernel
theorem dX5_latestDay_5 : decode cX5_latestDay 5 = .ok (.aload_n 0, 1) := by decide +kernel
theorem dX5_latestDay_6 : decode cX5_latestDay 6 = .ok (.getfield 9, 3) := by decide +kernel
theorem dX5_latestDay_9 : decode cX5_latestDay 9 = .ok (.if_icmp .ge 30, 3) := by decide +kernel
theorem dX5_latestDay_12 : decode cX5_latestDay 12 = .ok (.aload_n 0, 1) := by decide +kernel
theorem dX5_latestDay_13 : decode cX5_latestDay 13 = .ok (.getfield 15, 3) := by decide +kernel
theorem dX5_latestDay_16 : decode cX5_latestDay 16 = .ok (.iload_n 3, 1) := by decide +kernel
theorem dX5_latestDay_17 : decode cX5_latestDay 17 = .ok (.iaload, 1) := by decide +kernel
theorem dX5_latestDay_18 : decode cX5_latestDay 18 = .ok (.iload_n 1, 1) := by decide +kernel
theorem dX5_latestDay_19 : decode cX5_latestDay 19 = .ok (.if_icmp .gt 14, 3) := by decide +kernel
theorem dX5_latestDay_22 : decode cX5_latestDay 22 = .ok (.iload_n 2, 1) := by decide +kernel
theorem dX5_latestDay_23 : decode cX5_latestDay 23 = .ok (.aload_n 0, 1) := by decide +kernel
theorem dX5_latestDay_24 : decode cX5_latestDay 24 = .ok (.getfield 15, 3) := by decide +kernel
theorem dX5_latestDay_27 : decode cX5_latestDay 27 = .ok (.iload_n 3, 1) := by decide +kernel
theorem dX5_latestDay_28 : decode cX5_latestDay 28 = .ok (.iaload, 1) := by decide +kernel
theorem dX5_latestDay_29 : decode cX5_latestDay 29 = .ok (.invokestatic 33, 3) := by decide +kernel
theorem dX5_latestDay_32 : decode cX5_latestDay 32 = .ok (.istore_n 2, 1) := by decide +kernel
theorem dX5_latestDay_33 : decode cX5_latestDay 33 = .ok (.iinc 3 1, 3) := by decide +kernel
theorem dX5_latestDay_36 : decode cX5_latestDay 36 = .ok (.goto (-32), 3) := by decide +kernel
theorem dX5_latestDay_39 : decode cX5_latestDay 39 = .ok (.iload_n 2, 1) := by decide +kernel
theorem dX5_latestDay_40 : decode cX5_latestDay 40 = .ok (.ireturn, 1) := by decide +kernel
theorem dX6_init_0 : decode cX6_init 0 = .ok (.aload_n 0, 1) := by decide +kernel
theorem dX6_init_1 : decode cX6_init 1 = .ok (.invokespecial 3, 3) := by decide +kernel
theorem dX6_init_4 : decode cX6_init 4 = .ok (.aload_n 0, 1) := by decide +kernel
theorem dX6_init_5 : decode cX6_init 5 = .ok (.iconst 0, 1) := by decide +kernel
theorem dX6_init_6 : decode cX6_init 6 = .ok (.putfield 9, 3) := by decide +kernel
theorem dX6_init_9 : decode cX6_init 9 = .ok (.aload_n 0, 1) := by decide +kernel
theorem dX6_init_10 : decode cX6_init 10 = .ok (.iconst 4, 1) := by decide +kernel
theorem dX6_init_11 : decode cX6_init 11 = .ok (.newarray .int, 2) := by decide +kernel
theorem dX6_init_13 : decode cX6_init 13 = .ok (.putfield 15, 3) := by decide +kernel
theorem dX6_init_16 : decode cX6_init 16 = .ok (.aload_n 0, 1) := by decide +kernel
theorem dX6_init_17 : decode cX6_init 17 = .ok (.iconst 4, 1) := by decide +kernel
theorem dX6_init_18 : decode cX6_init 18 = .ok (.newarray .int, 2) := by decide +kernel
theorem dX6_init_20 : decode cX6_init 20 = .ok (.putfield 19, 3) := by decide +kernel
theorem dX6_init_23 : decode cX6_init 23 = .ok (.aload_n 0, 1) := by decide +kernel
theorem dX6_init_24 : decode cX6_init 24 = .ok (.sipush 240, 3) := by decide +kernel
theorem dX6_init_27 : decode cX6_init 27 = .ok (.newarray .int, 2) := by decide +kernel
theorem dX6_init_29 : decode cX6_init 29 = .ok (.putfield 22, 3) := by decide +kernel
theorem dX6_init_32 : decode cX6_init 32 = .ok (.aload_n 0, 1) := by decide +kernel
theorem dX6_init_33 : decode cX6_init 33 = .ok (.getfield 15, 3) := by decide +kernel
theorem dX6_init_36 : decode cX6_init 36 = .ok (.iconst (-1), 1) := by decide +kernel
theorem dX6_init_37 : decode cX6_init 37 = .ok (.invokestatic 25, 3) := by decide +kernel
theorem dX6_init_40 : decode cX6_init 40 = .ok (.return_, 1) := by decide +kernel
theorem dX6_has_0 : decode cX6_has 0 = .ok (.iload_n 1, 1) := by decide +kernel
theorem dX6_has_1 : decode cX6_has 1 = .ok (.iconst 0, 1) := by decide +kernel
theorem dX6_has_2 : decode cX6_has 2 = .ok (.iconst 3, 1) := by decide +kernel
theorem dX6_has_3 : decode cX6_has 3 = .ok (.invokestatic 31, 3) := by decide +kernel
theorem dX6_has_6 : decode cX6_has 6 = .ok (.ireturn, 1) := by decide +kernel
theorem dX6_find_0 : decode cX6_find 0 = .ok (.aload_n 0, 1) := by decide +kernel
theorem dX6_find_1 : decode cX6_find 1 = .ok (.iload_n 1, 1) := by decide +kernel
theorem dX6_find_2 : decode cX6_find 2 = .ok (.putfield 9, 3) := by decide +kernel
theorem dX6_find_5 : decode cX6_find 5 = .ok (.bipush (-10), 2) := by decide +kernel
theorem dX6_find_7 : decode cX6_find 7 = .ok (.iload_n 1, 1) := by decide +kernel
theorem dX6_find_8 : decode cX6_find 8 = .ok (.isub, 1) := by decide +kernel
theorem dX6_find_9 : decode cX6_find 9 = .ok (.ireturn, 1) := by decide +kernel
theorem dX6_renew_0 : decode cX6_renew 0 = .ok (.aload_n 0, 1) := by decide +kernel
theorem dX6_renew_1 : decode cX6_renew 1 = .ok (.iload_n 1, 1) := by decide +kernel
theorem dX6_renew_2 : decode cX6_renew 2 = .ok (.invokevirtual 35, 3) := by decide +kernel
theorem dX6_renew_5 : decode cX6_renew 5 = .ok (.ifCond .eq 18, 3) := by decide +kernel
theorem dX6_renew_8 : decode cX6_renew 8 = .ok (.iload_n 2, 1) := by decide +kernel
theorem dX6_renew_9 : decode cX6_renew 9 = .ok (.iconst 0, 1) := by decide +kernel
theorem dX6_renew_10 : decode cX6_renew 10 = .ok (.iconst 2, 1) := by decide +kernel
theorem dX6_renew_11 : decode cX6_renew 11 = .ok (.invokestatic 31, 3) := by decide +kernel
theorem dX6_renew_14 : decode cX6_renew 14 = .ok (.ifCond .eq 9, 3) := by decide +kernel
theorem dX6_renew_17 : decode cX6_renew 17 = .ok (.iload_n 3, 1) := by decide +kernel
theorem dX6_renew_18 : decode cX6_renew 18 = .ok (.bipush 60, 2) := by decide +kernel
theorem dX6_renew_20 : decode cX6_renew 20 = .ok (.if_icmp .le 6, 3) := by decide +kernel
theorem dX6_renew_23 : decode cX6_renew 23 = .ok (.bipush (-2), 2) := by decide +kernel
theorem dX6_renew_25 : decode cX6_renew 25 = .ok (.ireturn, 1) := by decide +kernel
theorem dX6_renew_26 : decode cX6_renew 26 = .ok (.iload_n 3, 1) := by decide +kernel
theorem dX6_renew_27 : decode cX6_renew 27 = .ok (.ifCond .ge 9, 3) := by decide +kernel
theorem dX6_renew_30 : decode cX6_renew 30 = .ok (.aload_n 0, 1) := by decide +kernel
theorem dX6_renew_31 : decode cX6_renew 31 = .ok (.iconst 5, 1) := by decide +kernel
theorem dX6_renew_32 : decode cX6_renew 32 = .ok (.invokevirtual 39, 3) := by decide +kernel
theorem dX6_renew_35 : decode cX6_renew 35 = .ok (.ireturn, 1) := by decide +kernel
theorem dX6_renew_36 : decode cX6_renew 36 = .ok (.aload_n 0, 1) := by decide +kernel
theorem dX6_renew_37 : decode cX6_renew 37 = .ok (.getfield 15, 3) := by decide +kernel
theorem dX6_renew_40 : decode cX6_renew 40 = .ok (.iload_n 1, 1) := by decide +kernel
theorem dX6_renew_41 : decode cX6_renew 41 = .ok (.iload_n 2, 1) := by decide +kernel
theorem dX6_renew_42 : decode cX6_renew 42 = .ok (.iastore, 1) := by decide +kernel
theorem dX6_renew_43 : decode cX6_renew 43 = .ok (.aload_n 0, 1) := by decide +kernel
theorem dX6_renew_44 : decode cX6_renew 44 = .ok (.getfield 19, 3) := by decide +kernel
theorem dX6_renew_47 : decode cX6_renew 47 = .ok (.iload_n 1, 1) := by decide +kernel
theorem dX6_renew_48 : decode cX6_renew 48 = .ok (.iload_n 3, 1) := by decide +kernel
theorem dX6_renew_49 : decode cX6_renew 49 = .ok (.iastore, 1) := by decide +kernel
theorem dX6_renew_50 : decode cX6_renew 50 = .ok (.aload_n 0, 1) := by decide +kernel
theorem dX6_renew_51 : decode cX6_renew 51 = .ok (.getfield 22, 3) := by decide +kernel
theorem dX6_renew_54 : decode cX6_renew 54 = .ok (.iload_n 1, 1) := by decide +kernel
theorem dX6_renew_55 : decode cX6_renew 55 = .ok (.bipush 60, 2) := by decide +kernel
theorem dX6_renew_57 : decode cX6_renew 57 = .ok (.imul, 1) := by decide +kernel
theorem dX6_renew_58 : decode cX6_renew 58 = .ok (.iload_n 1, 1) := by decide +kernel
theorem dX6_renew_59 : decode cX6_renew 59 = .ok (.bipush 60, 2) := by decide +kernel
theorem dX6_renew_61 : decode cX6_renew 61 = .ok (.imul, 1) := by decide +kernel
theorem dX6_renew_62 : decode cX6_renew 62 = .ok (.iload_n 3, 1) := by decide +kernel
theorem dX6_renew_63 : decode cX6_renew 63 = .ok (.iadd, 1) := by decide +kernel
theorem dX6_renew_64 : decode cX6_renew 64 = .ok (.iconst 0, 1) := by decide +kernel
theorem dX6_renew_65 : decode cX6_renew 65 = .ok (.invokestatic 43, 3) := by decide +kernel
theorem dX6_renew_68 : decode cX6_renew 68 = .ok (.iload_n 3, 1) := by decide +kernel
theorem dX6_renew_69 : decode cX6_renew 69 = .ok (.ireturn, 1) := by decide +kernel
theorem dX6_drop_0 : decode cX6_drop 0 = .ok (.aload_n 0, 1) := by decide +kernel
theorem dX6_drop_1 : decode cX6_drop 1 = .ok (.iload_n 1, 1) := by decide +kernel
theorem dX6_drop_2 : decode cX6_drop 2 = .ok (.invokevirtual 35, 3) := by decide +kernel
theorem dX6_drop_5 : decode cX6_drop 5 = .ok (.ifCond .ne 6, 3) := by decide +kernel
theorem dX6_drop_8 : decode cX6_drop 8 = .ok (.bipush (-2), 2) := by decide +kernel
theorem dX6_drop_10 : decode cX6_drop 10 = .ok (.ireturn, 1) := by decide +kernel
theorem dX6_drop_11 : decode cX6_drop 11 = .ok (.aload_n 0, 1) := by decide +kernel
theorem dX6_drop_12 : decode cX6_drop 12 = .ok (.getfield 15, 3) := by decide +kernel
theorem dX6_drop_15 : decode cX6_drop 15 = .ok (.iload_n 1, 1) := by decide +kernel
theorem dX6_drop_16 : decode cX6_drop 16 = .ok (.iaload, 1) := by decide +kernel
theorem dX6_drop_17 : decode cX6_drop 17 = .ok (.iconst (-1), 1) := by decide +kernel
theorem dX6_drop_18 : decode cX6_drop 18 = .ok (.if_icmp .ne 9, 3) := by decide +kernel
theorem dX6_drop_21 : decode cX6_drop 21 = .ok (.aload_n 0, 1) := by decide +kernel
theorem dX6_drop_22 : decode cX6_drop 22 = .ok (.iconst 1, 1) := by decide +kernel
theorem dX6_drop_23 : decode cX6_drop 23 = .ok (.invokevirtual 39, 3) := by decide +kernel
theorem dX6_drop_26 : decode cX6_drop 26 = .ok (.ireturn, 1) := by decide +kernel
theorem dX6_drop_27 : decode cX6_drop 27 = .ok (.aload_n 0, 1) := by decide +kernel
theorem dX6_drop_28 : decode cX6_drop 28 = .ok (.getfield 15, 3) := by decide +kernel
theorem dX6_drop_31 : decode cX6_drop 31 = .ok (.iload_n 1, 1) := by decide +kernel
theorem dX6_drop_32 : decode cX6_drop 32 = .ok (.iconst (-1), 1) := by decide +kernel
theorem dX6_drop_33 : decode cX6_drop 33 = .ok (.iastore, 1) := by decide +kernel
theorem dX6_drop_34 : decode cX6_drop 34 = .ok (.aload_n 0, 1) := by decide +kernel
theorem dX6_drop_35 : decode cX6_drop 35 = .ok (.getfield 19, 3) := by decide +kernel
theorem dX6_drop_38 : decode cX6_drop 38 = .ok (.iload_n 1, 1) := by decide +kernel
theorem dX6_drop_39 : decode cX6_drop 39 = .ok (.iaload, 1) := by decide +kernel
theorem dX6_drop_40 : decode cX6_drop 40 = .ok (.ireturn, 1) := by decide +kernel
theorem dX6_store_0 : decode cX6_store 0 = .ok (.aload_n 0, 1) := by decide +kernel
theorem dX6_store_1 : decode cX6_store 1 = .ok (.iload_n 1, 1) := by decide +kernel
theorem dX6_store_2 : decode cX6_store 2 = .ok (.iload_n 2, 1) := by decide +kernel
theorem dX6_store_3 : decode cX6_store 3 = .ok (.iload_n 3, 1) := by decide +kernel
theorem dX6_store_4 : decode cX6_store 4 = .ok (.invokevirtual 46, 3) := by decide +kernel
theorem dX6_store_7 : decode cX6_store 7 = .ok (.istore 5, 2) := by decide +kernel
theorem dX6_store_9 : decode cX6_store 9 = .ok (.iload 5, 2) := by decide +kernel
theorem dX6_store_11 : decode cX6_store 11 = .ok (.ifCond .eq 6, 3) := by decide +kernel
theorem dX6_store_14 : decode cX6_store 14 = .ok (.iload 5, 2) := by decide +kernel
theorem dX6_store_16 : decode cX6_store 16 = .ok (.ireturn, 1) := by decide +kernel
theorem dX6_store_17 : decode cX6_store 17 = .ok (.aload_n 0, 1) := by decide +kernel
theorem dX6_store_18 : decode cX6_store 18 = .ok (.getfield 22, 3) := by decide +kernel
theorem dX6_store_21 : decode cX6_store 21 = .ok (.iload_n 1, 1) := by decide +kernel
theorem dX6_store_22 : decode cX6_store 22 = .ok (.bipush 60, 2) := by decide +kernel
theorem dX6_store_24 : decode cX6_store 24 = .ok (.imul, 1) := by decide +kernel
theorem dX6_store_25 : decode cX6_store 25 = .ok (.iload_n 3, 1) := by decide +kernel
theorem dX6_store_26 : decode cX6_store 26 = .ok (.iadd, 1) := by decide +kernel
theorem dX6_store_27 : decode cX6_store 27 = .ok (.iload_n 2, 1) := by decide +kernel
theorem dX6_store_28 : decode cX6_store 28 = .ok (.iload 4, 2) := by decide +kernel
theorem dX6_store_30 : decode cX6_store 30 = .ok (.invokestatic 50, 3) := by decide +kernel
theorem dX6_store_33 : decode cX6_store 33 = .ok (.iastore, 1) := by decide +kernel
theorem dX6_store_34 : decode cX6_store 34 = .ok (.iconst 1, 1) := by decide +kernel
theorem dX6_store_35 : decode cX6_store 35 = .ok (.ireturn, 1) := by decide +kernel
theorem dX6_read_0 : decode cX6_read 0 = .ok (.aload_n 0, 1) := by decide +kernel
theorem dX6_read_1 : decode cX6_read 1 = .ok (.iload_n 1, 1) := by decide +kernel
theorem dX6_read_2 : decode cX6_read 2 = .ok (.iload_n 2, 1) := by decide +kernel
theorem dX6_read_3 : decode cX6_read 3 = .ok (.iload_n 3, 1) := by decide +kernel
theorem dX6_read_4 : decode cX6_read 4 = .ok (.invokevirtual 46, 3) := by decide +kernel
theorem dX6_read_7 : decode cX6_read 7 = .ok (.ifCond .ne 17, 3) := by decide +kernel
theorem dX6_read_10 : decode cX6_read 10 = .ok (.aload_n 0, 1) := by decide +kernel
theorem dX6_read_11 : decode cX6_read 11 = .ok (.getfield 22, 3) := by decide +kernel
theorem dX6_read_14 : decode cX6_read 14 = .ok (.iload_n 1, 1) := by decide +kernel
theorem dX6_read_15 : decode cX6_read 15 = .ok (.bipush 60, 2) := by decide +kernel
theorem dX6_read_17 : decode cX6_read 17 = .ok (.imul, 1) := by decide +kernel
theorem dX6_read_18 : decode cX6_read 18 = .ok (.iload_n 3, 1) := by decide +kernel
theorem dX6_read_19 : decode cX6_read 19 = .ok (.iadd, 1) := by decide +kernel
theorem dX6_read_20 : decode cX6_read 20 = .ok (.iaload, 1) := by decide +kernel
theorem dX6_read_21 : decode cX6_read 21 = .ok (.goto 5, 3) := by decide +kernel
theorem dX6_read_24 : decode cX6_read 24 = .ok (.ldc 54, 2) := by decide +kernel
theorem dX6_read_26 : decode cX6_read 26 = .ok (.ireturn, 1) := by decide +kernel
theorem dX6_refusal_0 : decode cX6_refusal 0 = .ok (.aload_n 0, 1) := by decide +kernel
theorem dX6_refusal_1 : decode cX6_refusal 1 = .ok (.iload_n 1, 1) := by decide +kernel
theorem dX6_refusal_2 : decode cX6_refusal 2 = .ok (.invokevirtual 35, 3) := by decide +kernel
theorem dX6_refusal_5 : decode cX6_refusal 5 = .ok (.ifCond .eq 12, 3) := by decide +kernel
theorem dX6_refusal_8 : decode cX6_refusal 8 = .ok (.iload_n 2, 1) := by decide +kernel
theorem dX6_refusal_9 : decode cX6_refusal 9 = .ok (.iconst 0, 1) := by decide +kernel
theorem dX6_refusal_10 : decode cX6_refusal 10 = .ok (.iconst 2, 1) := by decide +kernel
theorem dX6_refusal_11 : decode cX6_refusal 11 = .ok (.invokestatic 31, 3) := by decide +kernel
theorem dX6_refusal_14 : decode cX6_refusal 14 = .ok (.ifCond .ne 6, 3) := by decide +kernel
theorem dX6_refusal_17 : decode cX6_refusal 17 = .ok (.bipush (-2), 2) := by decide +kernel
theorem dX6_refusal_19 : decode cX6_refusal 19 = .ok (.ireturn, 1) := by decide +kernel
theorem dX6_refusal_20 : decode cX6_refusal 20 = .ok (.aload_n 0, 1) := by decide +kernel
theorem dX6_refusal_21 : decode cX6_refusal 21 = .ok (.getfield 15, 3) := by decide +kernel
theorem dX6_refusal_24 : decode cX6_refusal 24 = .ok (.iload_n 1, 1) := by decide +kernel
theorem dX6_refusal_25 : decode cX6_refusal 25 = .ok (.iaload, 1) := by decide +kernel
theorem dX6_refusal_26 : decode cX6_refusal 26 = .ok (.iconst (-1), 1) := by decide +kernel
theorem dX6_refusal_27 : decode cX6_refusal 27 = .ok (.if_icmp .ne 9, 3) := by decide +kernel
theorem dX6_refusal_30 : decode cX6_refusal 30 = .ok (.aload_n 0, 1) := by decide +kernel
theorem dX6_refusal_31 : decode cX6_refusal 31 = .ok (.iconst 1, 1) := by decide +kernel
theorem dX6_refusal_32 : decode cX6_refusal 32 = .ok (.invokevirtual 39, 3) := by decide +kernel
theorem dX6_refusal_35 : decode cX6_refusal 35 = .ok (.ireturn, 1) := by decide +kernel
theorem dX6_refusal_36 : decode cX6_refusal 36 = .ok (.aload_n 0, 1) := by decide +kernel
theorem dX6_refusal_37 : decode cX6_refusal 37 = .ok (.getfield 15, 3) := by decide +kernel
theorem dX6_refusal_40 : decode cX6_refusal 40 = .ok (.iload_n 1, 1) := by decide +kernel
theorem dX6_refusal_41 : decode cX6_refusal 41 = .ok (.iaload, 1) := by decide +kernel
theorem dX6_refusal_42 : decode cX6_refusal 42 = .ok (.iload_n 2, 1) := by decide +kernel
theorem dX6_refusal_43 : decode cX6_refusal 43 = .ok (.if_icmp .eq 9, 3) := by decide +kernel
theorem dX6_refusal_46 : decode cX6_refusal 46 = .ok (.aload_n 0, 1) := by decide +kernel
theorem dX6_refusal_47 : decode cX6_refusal 47 = .ok (.iconst 3, 1) := by decide +kernel
theorem dX6_refusal_48 : decode cX6_refusal 48 = .ok (.invokevirtual 39, 3) := by decide +kernel
theorem dX6_refusal_51 : decode cX6_refusal 51 = .ok (.ireturn, 1) := by decide +kernel
theorem dX6_refusal_52 : decode cX6_refusal 52 = .ok (.iload_n 3, 1) := by decide +kernel
theorem dX6_refusal_53 : decode cX6_refusal 53 = .ok (.iconst 0, 1) := by decide +kernel
theorem dX6_refusal_54 : decode cX6_refusal 54 = .ok (.aload_n 0, 1) := by decide +kernel
theorem dX6_refusal_55 : decode cX6_refusal 55 = .ok (.getfield 19, 3) := by decide +kernel
theorem dX6_refusal_58 : decode cX6_refusal 58 = .ok (.iload_n 1, 1) := by decide +kernel
theorem dX6_refusal_59 : decode cX6_refusal 59 = .ok (.iaload, 1) := by decide +kernel
theorem dX6_refusal_60 : decode cX6_refusal 60 = .ok (.iconst 1, 1) := by decide +kernel
theorem dX6_refusal_61 : decode cX6_refusal 61 = .ok (.isub, 1) := by decide +kernel
theorem dX6_refusal_62 : decode cX6_refusal 62 = .ok (.invokestatic 31, 3) := by decide +kernel
theorem dX6_refusal_65 : decode cX6_refusal 65 = .ok (.ifCond .eq 7, 3) := by decide +kernel
theorem dX6_refusal_68 : decode cX6_refusal 68 = .ok (.iconst 0, 1) := by decide +kernel
theorem dX6_refusal_69 : decode cX6_refusal 69 = .ok (.goto 8, 3) := by decide +kernel
theorem dX6_refusal_72 : decode cX6_refusal 72 = .ok (.aload_n 0, 1) := by decide +kernel
theorem dX6_refusal_73 : decode cX6_refusal 73 = .ok (.iconst 2, 1) := by decide +kernel
theorem dX6_refusal_74 : decode cX6_refusal 74 = .ok (.invokevirtual 39, 3) := by decide +kernel
theorem dX6_refusal_77 : decode cX6_refusal 77 = .ok (.ireturn, 1) := by decide +kernel
theorem dX6_cut_0 : decode cX6_cut 0 = .ok (.iload_n 0, 1) := by decide +kernel
theorem dX6_cut_1 : decode cX6_cut 1 = .ok (.ifCond .ne 6, 3) := by decide +kernel
theorem dX6_cut_4 : decode cX6_cut 4 = .ok (.iload_n 1, 1) := by decide +kernel
theorem dX6_cut_5 : decode cX6_cut 5 = .ok (.i2b, 1) := by decide +kernel
theorem dX6_cut_6 : decode cX6_cut 6 = .ok (.ireturn, 1) := by decide +kernel
theorem dX6_cut_7 : decode cX6_cut 7 = .ok (.iload_n 0, 1) := by decide +kernel
theorem dX6_cut_8 : decode cX6_cut 8 = .ok (.iconst 1, 1) := by decide +kernel
theorem dX6_cut_9 : decode cX6_cut 9 = .ok (.if_icmp .ne 8, 3) := by decide +kernel
theorem dX6_cut_12 : decode cX6_cut 12 = .ok (.iload_n 1, 1) := by decide +kernel
theorem dX6_cut_13 : decode cX6_cut 13 = .ok (.i2s, 1) := by decide +kernel
theorem dX6_cut_14 : decode cX6_cut 14 = .ok (.goto 4, 3) := by decide +kernel
theorem dX6_cut_17 : decode cX6_cut 17 = .ok (.iload_n 1, 1) := by decide +kernel
theorem dX6_cut_18 : decode cX6_cut 18 = .ok (.ireturn, 1) := by decide +kernel
theorem dX6_transfer_0 : decode cX6_transfer 0 = .ok (.aload_n 0, 1) := by decide +kernel
theorem dX6_transfer_1 : decode cX6_transfer 1 = .ok (.iload_n 1, 1) := by decide +kernel
theorem dX6_transfer_2 : decode cX6_transfer 2 = .ok (.invokevirtual 35, 3) := by decide +kernel
theorem dX6_transfer_5 : decode cX6_transfer 5 = .ok (.ifCond .eq 11, 3) := by decide +kernel
theorem dX6_transfer_8 : decode cX6_transfer 8 = .ok (.aload_n 0, 1) := by decide +kernel
theorem dX6_transfer_9 : decode cX6_transfer 9 = .ok (.iload_n 3, 1) := by decide +kernel
theorem dX6_transfer_10 : decode cX6_transfer 10 = .ok (.invokevirtual 35, 3) := by decide +kernel
theorem dX6_transfer_13 : decode cX6_transfer 13 = .ok (.ifCond .ne 6, 3) := by decide +kernel
theorem dX6_transfer_16 : decode cX6_transfer 16 = .ok (.bipush (-2), 2) := by decide +kernel
theorem dX6_transfer_18 : decode cX6_transfer 18 = .ok (.ireturn, 1) := by decide +kernel
theorem dX6_transfer_19 : decode cX6_transfer 19 = .ok (.aload_n 0, 1) := by decide +kernel
theorem dX6_transfer_20 : decode cX6_transfer 20 = .ok (.getfield 15, 3) := by decide +kernel
theorem dX6_transfer_23 : decode cX6_transfer 23 = .ok (.iload_n 1, 1) := by decide +kernel
theorem dX6_transfer_24 : decode cX6_transfer 24 = .ok (.iaload, 1) := by decide +kernel
theorem dX6_transfer_25 : decode cX6_transfer 25 = .ok (.iconst (-1), 1) := by decide +kernel
theorem dX6_transfer_26 : decode cX6_transfer 26 = .ok (.if_icmp .eq 13, 3) := by decide +kernel
theorem dX6_transfer_29 : decode cX6_transfer 29 = .ok (.aload_n 0, 1) := by decide +kernel
theorem dX6_transfer_30 : decode cX6_transfer 30 = .ok (.getfield 15, 3) := by decide +kernel
theorem dX6_transfer_33 : decode cX6_transfer 33 = .ok (.iload_n 3, 1) := by decide +kernel
theorem dX6_transfer_34 : decode cX6_transfer 34 = .ok (.iaload, 1) := by decide +kernel
theorem dX6_transfer_35 : decode cX6_transfer 35 = .ok (.iconst (-1), 1) := by decide +kernel
theorem dX6_transfer_36 : decode cX6_transfer 36 = .ok (.if_icmp .ne 9, 3) := by decide +kernel
theorem dX6_transfer_39 : decode cX6_transfer 39 = .ok (.aload_n 0, 1) := by decide +kernel
theorem dX6_transfer_40 : decode cX6_transfer 40 = .ok (.iconst 1, 1) := by decide +kernel
theorem dX6_transfer_41 : decode cX6_transfer 41 = .ok (.invokevirtual 39, 3) := by decide +kernel
theorem dX6_transfer_44 : decode cX6_transfer 44 = .ok (.ireturn, 1) := by decide +kernel
theorem dX6_transfer_45 : decode cX6_transfer 45 = .ok (.aload_n 0, 1) := by decide +kernel
theorem dX6_transfer_46 : decode cX6_transfer 46 = .ok (.getfield 15, 3) := by decide +kernel
theorem dX6_transfer_49 : decode cX6_transfer 49 = .ok (.iload_n 1, 1) := by decide +kernel
theorem dX6_transfer_50 : decode cX6_transfer 50 = .ok (.iaload, 1) := by decide +kernel
theorem dX6_transfer_51 : decode cX6_transfer 51 = .ok (.aload_n 0, 1) := by decide +kernel
theorem dX6_transfer_52 : decode cX6_transfer 52 = .ok (.getfield 15, 3) := by decide +kernel
theorem dX6_transfer_55 : decode cX6_transfer 55 = .ok (.iload_n 3, 1) := by decide +kernel
theorem dX6_transfer_56 : decode cX6_transfer 56 = .ok (.iaload, 1) := by decide +kernel
theorem dX6_transfer_57 : decode cX6_transfer 57 = .ok (.if_icmp .eq 9, 3) := by decide +kernel
theorem dX6_transfer_60 : decode cX6_transfer 60 = .ok (.aload_n 0, 1) := by decide +kernel
theorem dX6_transfer_61 : decode cX6_transfer 61 = .ok (.iconst 4, 1) := by decide +kernel
theorem dX6_transfer_62 : decode cX6_transfer 62 = .ok (.invokevirtual 39, 3) := by decide +kernel
theorem dX6_transfer_65 : decode cX6_transfer 65 = .ok (.ireturn, 1) := by decide +kernel
theorem dX6_transfer_66 : decode cX6_transfer 66 = .ok (.aload_n 0, 1) := by decide +kernel
theorem dX6_transfer_67 : decode cX6_transfer 67 = .ok (.iload_n 1, 1) := by decide +kernel
theorem dX6_transfer_68 : decode cX6_transfer 68 = .ok (.iload_n 2, 1) := by decide +kernel
theorem dX6_transfer_69 : decode cX6_transfer 69 = .ok (.iload 5, 2) := by decide +kernel
theorem dX6_transfer_71 : decode cX6_transfer 71 = .ok (.invokevirtual 55, 3) := by decide +kernel
theorem dX6_transfer_74 : decode cX6_transfer 74 = .ok (.ifCond .eq 15, 3) := by decide +kernel
theorem dX6_transfer_77 : decode cX6_transfer 77 = .ok (.aload_n 0, 1) := by decide +kernel
theorem dX6_transfer_78 : decode cX6_transfer 78 = .ok (.iload_n 3, 1) := by decide +kernel
theorem dX6_transfer_79 : decode cX6_transfer 79 = .ok (.iload 4, 2) := by decide +kernel
theorem dX6_transfer_81 : decode cX6_transfer 81 = .ok (.iload 5, 2) := by decide +kernel
theorem dX6_transfer_83 : decode cX6_transfer 83 = .ok (.invokevirtual 55, 3) := by decide +kernel
theorem dX6_transfer_86 : decode cX6_transfer 86 = .ok (.ifCond .ne 9, 3) := by decide +kernel
theorem dX6_transfer_89 : decode cX6_transfer 89 = .ok (.aload_n 0, 1) := by decide +kernel
theorem dX6_transfer_90 : decode cX6_transfer 90 = .ok (.iconst 2, 1) := by decide +kernel
theorem dX6_transfer_91 : decode cX6_transfer 91 = .ok (.invokevirtual 39, 3) := by decide +kernel
theorem dX6_transfer_94 : decode cX6_transfer 94 = .ok (.ireturn, 1) := by decide +kernel
theorem dX6_transfer_95 : decode cX6_transfer 95 = .ok (.aload_n 0, 1) := by decide +kernel
theorem dX6_transfer_96 : decode cX6_transfer 96 = .ok (.getfield 22, 3) := by decide +kernel
theorem dX6_transfer_99 : decode cX6_transfer 99 = .ok (.iload_n 1, 1) := by decide +kernel
theorem dX6_transfer_100 : decode cX6_transfer 100 = .ok (.bipush 60, 2) := by decide +kernel
theorem dX6_transfer_102 : decode cX6_transfer 102 = .ok (.imul, 1) := by decide +kernel
theorem dX6_transfer_103 : decode cX6_transfer 103 = .ok (.iload_n 2, 1) := by decide +kernel
theorem dX6_transfer_104 : decode cX6_transfer 104 = .ok (.iadd, 1) := by decide +kernel
theorem dX6_transfer_105 : decode cX6_transfer 105 = .ok (.aload_n 0, 1) := by decide +kernel
theorem dX6_transfer_106 : decode cX6_transfer 106 = .ok (.getfield 22, 3) := by decide +kernel
theorem dX6_transfer_109 : decode cX6_transfer 109 = .ok (.iload_n 3, 1) := by decide +kernel
theorem dX6_transfer_110 : decode cX6_transfer 110 = .ok (.bipush 60, 2) := by decide +kernel
theorem dX6_transfer_112 : decode cX6_transfer 112 = .ok (.imul, 1) := by decide +kernel
theorem dX6_transfer_113 : decode cX6_transfer 113 = .ok (.iload 4, 2) := by decide +kernel
theorem dX6_transfer_115 : decode cX6_transfer 115 = .ok (.iadd, 1) := by decide +kernel
theorem dX6_transfer_116 : decode cX6_transfer 116 = .ok (.iload 5, 2) := by decide +kernel
theorem dX6_transfer_118 : decode cX6_transfer 118 = .ok (.invokestatic 58, 3) := by decide +kernel
theorem dX6_transfer_121 : decode cX6_transfer 121 = .ok (.iconst 1, 1) := by decide +kernel
theorem dX6_transfer_122 : decode cX6_transfer 122 = .ok (.ireturn, 1) := by decide +kernel
theorem dX6_hasItems_0 : decode cX6_hasItems 0 = .ok (.iload_n 2, 1) := by decide +kernel
theorem dX6_hasItems_1 : decode cX6_hasItems 1 = .ok (.ifCond .lt 33, 3) := by decide +kernel
theorem dX6_hasItems_4 : decode cX6_hasItems 4 = .ok (.iload_n 3, 1) := by decide +kernel
theorem dX6_hasItems_5 : decode cX6_hasItems 5 = .ok (.ifCond .lt 29, 3) := by decide +kernel
theorem dX6_hasItems_8 : decode cX6_hasItems 8 = .ok (.iload_n 2, 1) := by decide +kernel
theorem dX6_hasItems_9 : decode cX6_hasItems 9 = .ok (.aload_n 0, 1) := by decide +kernel
theorem dX6_hasItems_10 : decode cX6_hasItems 10 = .ok (.getfield 19, 3) := by decide +kernel
theorem dX6_hasItems_13 : decode cX6_hasItems 13 = .ok (.iload_n 1, 1) := by decide +kernel
theorem dX6_hasItems_14 : decode cX6_hasItems 14 = .ok (.iaload, 1) := by decide +kernel
theorem dX6_hasItems_15 : decode cX6_hasItems 15 = .ok (.if_icmp .gt 19, 3) := by decide +kernel
theorem dX6_hasItems_18 : decode cX6_hasItems 18 = .ok (.iload_n 3, 1) := by decide +kernel
theorem dX6_hasItems_19 : decode cX6_hasItems 19 = .ok (.aload_n 0, 1) := by decide +kernel
theorem dX6_hasItems_20 : decode cX6_hasItems 20 = .ok (.getfield 19, 3) := by decide +kernel
theorem dX6_hasItems_23 : decode cX6_hasItems 23 = .ok (.iload_n 1, 1) := by decide +kernel
theorem dX6_hasItems_24 : decode cX6_hasItems 24 = .ok (.iaload, 1) := by decide +kernel
theorem dX6_hasItems_25 : decode cX6_hasItems 25 = .ok (.iload_n 2, 1) := by decide +kernel
theorem dX6_hasItems_26 : decode cX6_hasItems 26 = .ok (.isub, 1) := by decide +kernel
theorem dX6_hasItems_27 : decode cX6_hasItems 27 = .ok (.if_icmp .gt 7, 3) := by decide +kernel
theorem dX6_hasItems_30 : decode cX6_hasItems 30 = .ok (.iconst 1, 1) := by decide +kernel
theorem dX6_hasItems_31 : decode cX6_hasItems 31 = .ok (.goto 4, 3) := by decide +kernel
theorem dX6_hasItems_34 : decode cX6_hasItems 34 = .ok (.iconst 0, 1) := by decide +kernel
theorem dX6_hasItems_35 : decode cX6_hasItems 35 = .ok (.ireturn, 1) := by decide +kernel
theorem dX6_countsAsWet_0 : decode cX6_countsAsWet 0 = .ok (.iload_n 1, 1) := by decide +kernel
theorem dX6_countsAsWet_1 : decode cX6_countsAsWet 1 = .ok (.iload_n 1, 1) := by decide +kernel
theorem dX6_countsAsWet_2 : decode cX6_countsAsWet 2 = .ok (.bipush 8, 2) := by decide +kernel
theorem dX6_countsAsWet_4 : decode cX6_countsAsWet 4 = .ok (.irem, 1) := by decide +kernel
theorem dX6_countsAsWet_5 : decode cX6_countsAsWet 5 = .ok (.isub, 1) := by decide +kernel
theorem dX6_countsAsWet_6 : decode cX6_countsAsWet 6 = .ok (.istore_n 2, 1) := by decide +kernel
theorem dX6_countsAsWet_7 : decode cX6_countsAsWet 7 = .ok (.iload_n 2, 1) := by decide +kernel
theorem dX6_countsAsWet_8 : decode cX6_countsAsWet 8 = .ok (.iload_n 1, 1) := by decide +kernel
theorem dX6_countsAsWet_9 : decode cX6_countsAsWet 9 = .ok (.if_icmp .gt 19, 3) := by decide +kernel
theorem dX6_countsAsWet_12 : decode cX6_countsAsWet 12 = .ok (.aload_n 0, 1) := by decide +kernel
theorem dX6_countsAsWet_13 : decode cX6_countsAsWet 13 = .ok (.iload_n 2, 1) := by decide +kernel
theorem dX6_countsAsWet_14 : decode cX6_countsAsWet 14 = .ok (.invokevirtual 64, 3) := by decide +kernel
theorem dX6_countsAsWet_17 : decode cX6_countsAsWet 17 = .ok (.ifCond .eq 5, 3) := by decide +kernel
theorem dX6_countsAsWet_20 : decode cX6_countsAsWet 20 = .ok (.iconst 1, 1) := by decide +kernel
theorem dX6_countsAsWet_21 : decode cX6_countsAsWet 21 = .ok (.ireturn, 1) := by decide +kernel
theorem dX6_countsAsWet_22 : decode cX6_countsAsWet 22 = .ok (.iinc 2 1, 3) := by decide +kernel
theorem dX6_countsAsWet_25 : decode cX6_countsAsWet 25 = .ok (.goto (-18), 3) := by decide +kernel
theorem dX6_countsAsWet_28 : decode cX6_countsAsWet 28 = .ok (.iconst 0, 1) := by decide +kernel
theorem dX6_countsAsWet_29 : decode cX6_countsAsWet 29 = .ok (.ireturn, 1) := by decide +kernel
theorem dX6_isWet_0 : decode cX6_isWet 0 = .ok (.aload_n 0, 1) := by decide +kernel
theorem dX6_isWet_1 : decode cX6_isWet 1 = .ok (.getfield 15, 3) := by decide +kernel
theorem dX6_isWet_4 : decode cX6_isWet 4 = .ok (.iconst 0, 1) := by decide +kernel
theorem dX6_isWet_5 : decode cX6_isWet 5 = .ok (.iaload, 1) := by decide +kernel
theorem dX6_isWet_6 : decode cX6_isWet 6 = .ok (.iconst (-1), 1) := by decide +kernel
theorem dX6_isWet_7 : decode cX6_isWet 7 = .ok (.if_icmp .eq 28, 3) := by decide +kernel
theorem dX6_isWet_10 : decode cX6_isWet 10 = .ok (.iload_n 1, 1) := by decide +kernel
theorem dX6_isWet_11 : decode cX6_isWet 11 = .ok (.aload_n 0, 1) := by decide +kernel
theorem dX6_isWet_12 : decode cX6_isWet 12 = .ok (.getfield 19, 3) := by decide +kernel
theorem dX6_isWet_15 : decode cX6_isWet 15 = .ok (.iconst 0, 1) := by decide +kernel
theorem dX6_isWet_16 : decode cX6_isWet 16 = .ok (.iaload, 1) := by decide +kernel
theorem dX6_isWet_17 : decode cX6_isWet 17 = .ok (.if_icmp .ge 18, 3) := by decide +kernel
theorem dX6_isWet_20 : decode cX6_isWet 20 = .ok (.aload_n 0, 1) := by decide +kernel
theorem dX6_isWet_21 : decode cX6_isWet 21 = .ok (.getfield 22, 3) := by decide +kernel
theorem dX6_isWet_24 : decode cX6_isWet 24 = .ok (.iconst 0, 1) := by decide +kernel
theorem dX6_isWet_25 : decode cX6_isWet 25 = .ok (.iload_n 1, 1) := by decide +kernel
theorem dX6_isWet_26 : decode cX6_isWet 26 = .ok (.iadd, 1) := by decide +kernel
theorem dX6_isWet_27 : decode cX6_isWet 27 = .ok (.iaload, 1) := by decide +kernel
theorem dX6_isWet_28 : decode cX6_isWet 28 = .ok (.ifCond .le 7, 3) := by decide +kernel
theorem dX6_isWet_31 : decode cX6_isWet 31 = .ok (.iconst 1, 1) := by decide +kernel
theorem dX6_isWet_32 : decode cX6_isWet 32 = .ok (.goto 4, 3) := by decide +kernel
theorem dX6_isWet_35 : decode cX6_isWet 35 = .ok (.iconst 0, 1) := by decide +kernel
theorem dX6_isWet_36 : decode cX6_isWet 36 = .ok (.ireturn, 1) := by decide +kernel
theorem dX7_init_0 : decode cX7_init 0 = .ok (.aload_n 0, 1) := by decide +kernel
theorem dX7_init_1 : decode cX7_init 1 = .ok (.invokespecial 3, 3) := by decide +kernel
theorem dX7_init_4 : decode cX7_init 4 = .ok (.aload_n 0, 1) := by decide +kernel
theorem dX7_init_5 : decode cX7_init 5 = .ok (.bipush 12, 2) := by decide +kernel
theorem dX7_init_7 : decode cX7_init 7 = .ok (.newarray .int, 2) := by decide +kernel
theorem dX7_init_9 : decode cX7_init 9 = .ok (.putfield 11, 3) := by decide +kernel
theorem dX7_init_12 : decode cX7_init 12 = .ok (.aload_n 0, 1) := by decide +kernel
theorem dX7_init_13 : decode cX7_init 13 = .ok (.bipush 24, 2) := by decide +kernel
theorem dX7_init_15 : decode cX7_init 15 = .ok (.newarray .int, 2) := by decide +kernel
theorem dX7_init_17 : decode cX7_init 17 = .ok (.putfield 17, 3) := by decide +kernel
theorem dX7_init_20 : decode cX7_init 20 = .ok (.aload_n 0, 1) := by decide +kernel
theorem dX7_init_21 : decode cX7_init 21 = .ok (.bipush 24, 2) := by decide +kernel
theorem dX7_init_23 : decode cX7_init 23 = .ok (.newarray .int, 2) := by decide +kernel
theorem dX7_init_25 : decode cX7_init 25 = .ok (.putfield 20, 3) := by decide +kernel
theorem dX7_init_28 : decode cX7_init 28 = .ok (.aload_n 0, 1) := by decide +kernel
theorem dX7_init_29 : decode cX7_init 29 = .ok (.iconst 0, 1) := by decide +kernel
theorem dX7_init_30 : decode cX7_init 30 = .ok (.putfield 23, 3) := by decide +kernel
theorem dX7_init_33 : decode cX7_init 33 = .ok (.aload_n 0, 1) := by decide +kernel
theorem dX7_init_34 : decode cX7_init 34 = .ok (.bipush 12, 2) := by decide +kernel
theorem dX7_init_36 : decode cX7_init 36 = .ok (.newarray .int, 2) := by decide +kernel
theorem dX7_init_38 : decode cX7_init 38 = .ok (.putfield 27, 3) := by decide +kernel
theorem dX7_init_41 : decode cX7_init 41 = .ok (.aload_n 0, 1) := by decide +kernel
theorem dX7_init_42 : decode cX7_init 42 = .ok (.bipush 12, 2) := by decide +kernel
theorem dX7_init_44 : decode cX7_init 44 = .ok (.newarray .int, 2) := by decide +kernel
theorem dX7_init_46 : decode cX7_init 46 = .ok (.putfield 30, 3) := by decide +kernel
theorem dX7_init_49 : decode cX7_init 49 = .ok (.aload_n 0, 1) := by decide +kernel
theorem dX7_init_50 : decode cX7_init 50 = .ok (.bipush 7, 2) := by decide +kernel
theorem dX7_init_52 : decode cX7_init 52 = .ok (.newarray .int, 2) := by decide +kernel
theorem dX7_init_54 : decode cX7_init 54 = .ok (.putfield 33, 3) := by decide +kernel
theorem dX7_init_57 : decode cX7_init 57 = .ok (.aload_n 0, 1) := by decide +kernel
theorem dX7_init_58 : decode cX7_init 58 = .ok (.bipush 7, 2) := by decide +kernel
theorem dX7_init_60 : decode cX7_init 60 = .ok (.newarray .int, 2) := by decide +kernel
theorem dX7_init_62 : decode cX7_init 62 = .ok (.putfield 36, 3) := by decide +kernel
theorem dX7_init_65 : decode cX7_init 65 = .ok (.aload_n 0, 1) := by decide +kernel
theorem dX7_init_66 : decode cX7_init 66 = .ok (.sipush 144, 3) := by decide +kernel
theorem dX7_init_69 : decode cX7_init 69 = .ok (.newarray .int, 2) := by decide +kernel
theorem dX7_init_71 : decode cX7_init 71 = .ok (.putfield 39, 3) := by decide +kernel
theorem dX7_init_74 : decode cX7_init 74 = .ok (.aload_n 0, 1) := by decide +kernel
theorem dX7_init_75 : decode cX7_init 75 = .ok (.bipush 24, 2) := by decide +kernel
theorem dX7_init_77 : decode cX7_init 77 = .ok (.newarray .int, 2) := by decide +kernel
theorem dX7_init_79 : decode cX7_init 79 = .ok (.putfield 42, 3) := by decide +kernel
theorem dX7_init_82 : decode cX7_init 82 = .ok (.aload_n 0, 1) := by decide +kernel
theorem dX7_init_83 : decode cX7_init 83 = .ok (.getfield 33, 3) := by decide +kernel
theorem dX7_init_86 : decode cX7_init 86 = .ok (.bipush 6, 2) := by decide +kernel
theorem dX7_init_88 : decode cX7_init 88 = .ok (.sipush 1000, 3) := by decide +kernel
theorem dX7_init_91 : decode cX7_init 91 = .ok (.iastore, 1) := by decide +kernel
theorem dX7_init_92 : decode cX7_init 92 = .ok (.return_, 1) := by decide +kernel
theorem dX7_has_0 : decode cX7_has 0 = .ok (.iload_n 1, 1) := by decide +kernel
theorem dX7_has_1 : decode cX7_has 1 = .ok (.iconst 0, 1) := by decide +kernel
theorem dX7_has_2 : decode cX7_has 2 = .ok (.aload_n 0, 1) := by decide +kernel
theorem dX7_has_3 : decode cX7_has 3 = .ok (.getfield 23, 3) := by decide +kernel
theorem dX7_has_6 : decode cX7_has 6 = .ok (.iconst 1, 1) := by decide +kernel
theorem dX7_has_7 : decode cX7_has 7 = .ok (.isub, 1) := by decide +kernel
theorem dX7_has_8 : decode cX7_has 8 = .ok (.invokestatic 45, 3) := by decide +kernel
theorem dX7_has_11 : decode cX7_has 11 = .ok (.ireturn, 1) := by decide +kernel
theorem dX7_setRoom_0 : decode cX7_setRoom 0 = .ok (.iload_n 1, 1) := by decide +kernel
theorem dX7_setRoom_1 : decode cX7_setRoom 1 = .ok (.iconst 0, 1) := by decide +kernel
theorem dX7_setRoom_2 : decode cX7_setRoom 2 = .ok (.iconst 5, 1) := by decide +kernel
theorem dX7_setRoom_3 : decode cX7_setRoom 3 = .ok (.invokestatic 45, 3) := by decide +kernel
theorem dX7_setRoom_6 : decode cX7_setRoom 6 = .ok (.ifCond .eq 14, 3) := by decide +kernel
theorem dX7_setRoom_9 : decode cX7_setRoom 9 = .ok (.iload_n 2, 1) := by decide +kernel
theorem dX7_setRoom_10 : decode cX7_setRoom 10 = .ok (.iconst 0, 1) := by decide +kernel
theorem dX7_setRoom_11 : decode cX7_setRoom 11 = .ok (.sipush 500, 3) := by decide +kernel
theorem dX7_setRoom_14 : decode cX7_setRoom 14 = .ok (.invokestatic 45, 3) := by decide +kernel
theorem dX7_setRoom_17 : decode cX7_setRoom 17 = .ok (.ifCond .ne 6, 3) := by decide +kernel
theorem dX7_setRoom_20 : decode cX7_setRoom 20 = .ok (.bipush (-2), 2) := by decide +kernel
theorem dX7_setRoom_22 : decode cX7_setRoom 22 = .ok (.ireturn, 1) := by decide +kernel
theorem dX7_setRoom_23 : decode cX7_setRoom 23 = .ok (.aload_n 0, 1) := by decide +kernel
theorem dX7_setRoom_24 : decode cX7_setRoom 24 = .ok (.getfield 33, 3) := by decide +kernel
theorem dX7_setRoom_27 : decode cX7_setRoom 27 = .ok (.iload_n 1, 1) := by decide +kernel
theorem dX7_setRoom_28 : decode cX7_setRoom 28 = .ok (.iaload, 1) := by decide +kernel
theorem dX7_setRoom_29 : decode cX7_setRoom 29 = .ok (.istore_n 3, 1) := by decide +kernel
theorem dX7_setRoom_30 : decode cX7_setRoom 30 = .ok (.aload_n 0, 1) := by decide +kernel
theorem dX7_setRoom_31 : decode cX7_setRoom 31 = .ok (.getfield 33, 3) := by decide +kernel
theorem dX7_setRoom_34 : decode cX7_setRoom 34 = .ok (.iload_n 1, 1) := by decide +kernel
theorem dX7_setRoom_35 : decode cX7_setRoom 35 = .ok (.iload_n 2, 1) := by decide +kernel
theorem dX7_setRoom_36 : decode cX7_setRoom 36 = .ok (.iastore, 1) := by decide +kernel
theorem dX7_setRoom_37 : decode cX7_setRoom 37 = .ok (.iload_n 3, 1) := by decide +kernel
theorem dX7_setRoom_38 : decode cX7_setRoom 38 = .ok (.ireturn, 1) := by decide +kernel
theorem dX7_add_0 : decode cX7_add 0 = .ok (.iload_n 1, 1) := by decide +kernel
theorem dX7_add_1 : decode cX7_add 1 = .ok (.iconst (-1), 1) := by decide +kernel
theorem dX7_add_2 : decode cX7_add 2 = .ok (.iconst 5, 1) := by decide +kernel
theorem dX7_add_3 : decode cX7_add 3 = .ok (.invokestatic 45, 3) := by decide +kernel
theorem dX7_add_6 : decode cX7_add 6 = .ok (.ifCond .eq 29, 3) := by decide +kernel
theorem dX7_add_9 : decode cX7_add 9 = .ok (.iload_n 2, 1) := by decide +kernel
theorem dX7_add_10 : decode cX7_add 10 = .ok (.invokestatic 49, 3) := by decide +kernel
theorem dX7_add_13 : decode cX7_add 13 = .ok (.ifCond .eq 22, 3) := by decide +kernel
theorem dX7_add_16 : decode cX7_add 16 = .ok (.iload_n 3, 1) := by decide +kernel
theorem dX7_add_17 : decode cX7_add 17 = .ok (.iconst (-1), 1) := by decide +kernel
theorem dX7_add_18 : decode cX7_add 18 = .ok (.iconst 5, 1) := by decide +kernel
theorem dX7_add_19 : decode cX7_add 19 = .ok (.invokestatic 45, 3) := by decide +kernel
theorem dX7_add_22 : decode cX7_add 22 = .ok (.ifCond .eq 13, 3) := by decide +kernel
theorem dX7_add_25 : decode cX7_add 25 = .ok (.iload_n 1, 1) := by decide +kernel
theorem dX7_add_26 : decode cX7_add 26 = .ok (.iconst (-1), 1) := by decide +kernel
theorem dX7_add_27 : decode cX7_add 27 = .ok (.if_icmp .eq 11, 3) := by decide +kernel
theorem dX7_add_30 : decode cX7_add 30 = .ok (.iload_n 3, 1) := by decide +kernel
theorem dX7_add_31 : decode cX7_add 31 = .ok (.iconst (-1), 1) := by decide +kernel
theorem dX7_add_32 : decode cX7_add 32 = .ok (.if_icmp .eq 6, 3) := by decide +kernel
theorem dX7_add_35 : decode cX7_add 35 = .ok (.bipush (-2), 2) := by decide +kernel
theorem dX7_add_37 : decode cX7_add 37 = .ok (.ireturn, 1) := by decide +kernel
theorem dX7_add_38 : decode cX7_add 38 = .ok (.aload_n 0, 1) := by decide +kernel
theorem dX7_add_39 : decode cX7_add 39 = .ok (.getfield 23, 3) := by decide +kernel
theorem dX7_add_42 : decode cX7_add 42 = .ok (.bipush 12, 2) := by decide +kernel
theorem dX7_add_44 : decode cX7_add 44 = .ok (.if_icmp .lt 6, 3) := by decide +kernel
theorem dX7_add_47 : decode cX7_add 47 = .ok (.bipush (-4), 2) := by decide +kernel
theorem dX7_add_49 : decode cX7_add 49 = .ok (.ireturn, 1) := by decide +kernel
theorem dX7_add_50 : decode cX7_add 50 = .ok (.aload_n 0, 1) := by decide +kernel
theorem dX7_add_51 : decode cX7_add 51 = .ok (.getfield 27, 3) := by decide +kernel
theorem dX7_add_54 : decode cX7_add 54 = .ok (.aload_n 0, 1) := by decide +kernel
theorem dX7_add_55 : decode cX7_add 55 = .ok (.getfield 23, 3) := by decide +kernel
theorem dX7_add_58 : decode cX7_add 58 = .ok (.iload_n 1, 1) := by decide +kernel
theorem dX7_add_59 : decode cX7_add 59 = .ok (.iastore, 1) := by decide +kernel
theorem dX7_add_60 : decode cX7_add 60 = .ok (.aload_n 0, 1) := by decide +kernel
theorem dX7_add_61 : decode cX7_add 61 = .ok (.getfield 11, 3) := by decide +kernel
theorem dX7_add_64 : decode cX7_add 64 = .ok (.aload_n 0, 1) := by decide +kernel
theorem dX7_add_65 : decode cX7_add 65 = .ok (.getfield 23, 3) := by decide +kernel
theorem dX7_add_68 : decode cX7_add 68 = .ok (.iload_n 2, 1) := by decide +kernel
theorem dX7_add_69 : decode cX7_add 69 = .ok (.iastore, 1) := by decide +kernel
theorem dX7_add_70 : decode cX7_add 70 = .ok (.aload_n 0, 1) := by decide +kernel
theorem dX7_add_71 : decode cX7_add 71 = .ok (.getfield 30, 3) := by decide +kernel
theorem dX7_add_74 : decode cX7_add 74 = .ok (.aload_n 0, 1) := by decide +kernel
theorem dX7_add_75 : decode cX7_add 75 = .ok (.getfield 23, 3) := by decide +kernel
theorem dX7_add_78 : decode cX7_add 78 = .ok (.iload_n 3, 1) := by decide +kernel
theorem dX7_add_79 : decode cX7_add 79 = .ok (.iastore, 1) := by decide +kernel
theorem dX7_add_80 : decode cX7_add 80 = .ok (.aload_n 0, 1) := by decide +kernel
theorem dX7_add_81 : decode cX7_add 81 = .ok (.dup, 1) := by decide +kernel
theorem dX7_add_82 : decode cX7_add 82 = .ok (.getfield 23, 3) := by decide +kernel
theorem dX7_add_85 : decode cX7_add 85 = .ok (.iconst 1, 1) := by decide +kernel
theorem dX7_add_86 : decode cX7_add 86 = .ok (.iadd, 1) := by decide +kernel
theorem dX7_add_87 : decode cX7_add 87 = .ok (.putfield 23, 3) := by decide +kernel
theorem dX7_add_90 : decode cX7_add 90 = .ok (.aload_n 0, 1) := by decide +kernel
theorem dX7_add_91 : decode cX7_add 91 = .ok (.getfield 23, 3) := by decide +kernel
theorem dX7_add_94 : decode cX7_add 94 = .ok (.iconst 1, 1) := by decide +kernel
theorem dX7_add_95 : decode cX7_add 95 = .ok (.isub, 1) := by decide +kernel
theorem dX7_add_96 : decode cX7_add 96 = .ok (.ireturn, 1) := by decide +kernel
theorem dX7_addWish_0 : decode cX7_addWish 0 = .ok (.aload_n 0, 1) := by decide +kernel
theorem dX7_addWish_1 : decode cX7_addWish 1 = .ok (.iload_n 2, 1) := by decide +kernel
theorem dX7_addWish_2 : decode cX7_addWish 2 = .ok (.invokevirtual 53, 3) := by decide +kernel
theorem dX7_addWish_5 : decode cX7_addWish 5 = .ok (.ifCond .eq 12, 3) := by decide +kernel
theorem dX7_addWish_8 : decode cX7_addWish 8 = .ok (.aload_n 0, 1) := by decide +kernel
theorem dX7_addWish_9 : decode cX7_addWish 9 = .ok (.iload_n 1, 1) := by decide +kernel
theorem dX7_addWish_10 : decode cX7_addWish 10 = .ok (.iload_n 2, 1) := by decide +kernel
theorem dX7_addWish_11 : decode cX7_addWish 11 = .ok (.invokevirtual 56, 3) := by decide +kernel
theorem dX7_addWish_14 : decode cX7_addWish 14 = .ok (.ifCond .eq 6, 3) := by decide +kernel
theorem dX7_addWish_17 : decode cX7_addWish 17 = .ok (.bipush (-2), 2) := by decide +kernel
theorem dX7_addWish_19 : decode cX7_addWish 19 = .ok (.ireturn, 1) := by decide +kernel
theorem dX7_addWish_20 : decode cX7_addWish 20 = .ok (.aload_n 0, 1) := by decide +kernel
theorem dX7_addWish_21 : decode cX7_addWish 21 = .ok (.getfield 42, 3) := by decide +kernel
theorem dX7_addWish_24 : decode cX7_addWish 24 = .ok (.iload_n 1, 1) := by decide +kernel
theorem dX7_addWish_25 : decode cX7_addWish 25 = .ok (.iaload, 1) := by decide +kernel
theorem dX7_addWish_26 : decode cX7_addWish 26 = .ok (.bipush 6, 2) := by decide +kernel
theorem dX7_addWish_28 : decode cX7_addWish 28 = .ok (.if_icmp .lt 6, 3) := by decide +kernel
theorem dX7_addWish_31 : decode cX7_addWish 31 = .ok (.bipush (-4), 2) := by decide +kernel
theorem dX7_addWish_33 : decode cX7_addWish 33 = .ok (.ireturn, 1) := by decide +kernel
theorem dX7_addWish_34 : decode cX7_addWish 34 = .ok (.aload_n 0, 1) := by decide +kernel
theorem dX7_addWish_35 : decode cX7_addWish 35 = .ok (.getfield 39, 3) := by decide +kernel
theorem dX7_addWish_38 : decode cX7_addWish 38 = .ok (.iload_n 1, 1) := by decide +kernel
theorem dX7_addWish_39 : decode cX7_addWish 39 = .ok (.bipush 6, 2) := by decide +kernel
theorem dX7_addWish_41 : decode cX7_addWish 41 = .ok (.imul, 1) := by decide +kernel
theorem dX7_addWish_42 : decode cX7_addWish 42 = .ok (.aload_n 0, 1) := by decide +kernel
theorem dX7_addWish_43 : decode cX7_addWish 43 = .ok (.getfield 42, 3) := by decide +kernel
theorem dX7_addWish_46 : decode cX7_addWish 46 = .ok (.iload_n 1, 1) := by decide +kernel
theorem dX7_addWish_47 : decode cX7_addWish 47 = .ok (.iaload, 1) := by decide +kernel
theorem dX7_addWish_48 : decode cX7_addWish 48 = .ok (.iadd, 1) := by decide +kernel
theorem dX7_addWish_49 : decode cX7_addWish 49 = .ok (.iload_n 2, 1) := by decide +kernel
theorem dX7_addWish_50 : decode cX7_addWish 50 = .ok (.iastore, 1) := by decide +kernel
theorem dX7_addWish_51 : decode cX7_addWish 51 = .ok (.aload_n 0, 1) := by decide +kernel
theorem dX7_addWish_52 : decode cX7_addWish 52 = .ok (.getfield 42, 3) := by decide +kernel
theorem dX7_addWish_55 : decode cX7_addWish 55 = .ok (.iload_n 1, 1) := by decide +kernel
theorem dX7_addWish_56 : decode cX7_addWish 56 = .ok (.dup2, 1) := by decide +kernel
theorem dX7_addWish_57 : decode cX7_addWish 57 = .ok (.iaload, 1) := by decide +kernel
theorem dX7_addWish_58 : decode cX7_addWish 58 = .ok (.iconst 1, 1) := by decide +kernel
theorem dX7_addWish_59 : decode cX7_addWish 59 = .ok (.iadd, 1) := by decide +kernel
theorem dX7_addWish_60 : decode cX7_addWish 60 = .ok (.iastore, 1) := by decide +kernel
theorem dX7_addWish_61 : decode cX7_addWish 61 = .ok (.aload_n 0, 1) := by decide +kernel
theorem dX7_addWish_62 : decode cX7_addWish 62 = .ok (.getfield 42, 3) := by decide +kernel
theorem dX7_addWish_65 : decode cX7_addWish 65 = .ok (.iload_n 1, 1) := by decide +kernel
theorem dX7_addWish_66 : decode cX7_addWish 66 = .ok (.iaload, 1) := by decide +kernel
theorem dX7_addWish_67 : decode cX7_addWish 67 = .ok (.ireturn, 1) := by decide +kernel
theorem dX7_isWished_0 : decode cX7_isWished 0 = .ok (.iconst 0, 1) := by decide +kernel
theorem dX7_isWished_1 : decode cX7_isWished 1 = .ok (.istore_n 3, 1) := by decide +kernel
theorem dX7_isWished_2 : decode cX7_isWished 2 = .ok (.iload_n 3, 1) := by decide +kernel
theorem dX7_isWished_3 : decode cX7_isWished 3 = .ok (.aload_n 0, 1) := by decide +kernel
theorem dX7_isWished_4 : decode cX7_isWished 4 = .ok (.getfield 42, 3) := by decide +kernel
theorem dX7_isWished_7 : decode cX7_isWished 7 = .ok (.iload_n 1, 1) := by decide +kernel
theorem dX7_isWished_8 : decode cX7_isWished 8 = .ok (.iaload, 1) := by decide +kernel
theorem dX7_isWished_9 : decode cX7_isWished 9 = .ok (.if_icmp .ge 26, 3) := by decide +kernel
theorem dX7_isWished_12 : decode cX7_isWished 12 = .ok (.aload_n 0, 1) := by decide +kernel
theorem dX7_isWished_13 : decode cX7_isWished 13 = .ok (.getfield 39, 3) := by decide +kernel
theorem dX7_isWished_16 : decode cX7_isWished 16 = .ok (.iload_n 1, 1) := by decide +kernel
theorem dX7_isWished_17 : decode cX7_isWished 17 = .ok (.bipush 6, 2) := by decide +kernel
theorem dX7_isWished_19 : decode cX7_isWished 19 = .ok (.imul, 1) := by decide +kernel
theorem dX7_isWished_20 : decode cX7_isWished 20 = .ok (.iload_n 3, 1) := by decide +kernel
theorem dX7_isWished_21 : decode cX7_isWished 21 = .ok (.iadd, 1) := by decide +kernel
theorem dX7_isWished_22 : decode cX7_isWished 22 = .ok (.iaload, 1) := by decide +kernel
theorem dX7_isWished_23 : decode cX7_isWished 23 = .ok (.iload_n 2, 1) := by decide +kernel
theorem dX7_isWished_24 : decode cX7_isWished 24 = .ok (.if_icmp .ne 5, 3) := by decide +kernel
theorem dX7_isWished_27 : decode cX7_isWished 27 = .ok (.iconst 1, 1) := by decide +kernel
theorem dX7_isWished_28 : decode cX7_isWished 28 = .ok (.ireturn, 1) := by decide +kernel
theorem dX7_isWished_29 : decode cX7_isWished 29 = .ok (.iinc 3 1, 3) := by decide +kernel
theorem dX7_isWished_32 : decode cX7_isWished 32 = .ok (.goto (-30), 3) := by decide +kernel
theorem dX7_isWished_35 : decode cX7_isWished 35 = .ok (.iconst 0, 1) := by decide +kernel
theorem dX7_isWished_36 : decode cX7_isWished 36 = .ok (.ireturn, 1) := by decide +kernel
theorem dX7_place_0 : decode cX7_place 0 = .ok (.aload_n 0, 1) := by decide +kernel
theorem dX7_place_1 : decode cX7_place 1 = .ok (.getfield 27, 3) := by decide +kernel
theorem dX7_place_4 : decode cX7_place 4 = .ok (.iload_n 1, 1) := by decide +kernel
theorem dX7_place_5 : decode cX7_place 5 = .ok (.iaload, 1) := by decide +kernel
theorem dX7_place_6 : decode cX7_place 6 = .ok (.iconst (-1), 1) := by decide +kernel
theorem dX7_place_7 : decode cX7_place 7 = .ok (.if_icmp .eq 10, 3) := by decide +kernel
theorem dX7_place_10 : decode cX7_place 10 = .ok (.aload_n 0, 1) := by decide +kernel
theorem dX7_place_11 : decode cX7_place 11 = .ok (.getfield 27, 3) := by decide +kernel
theorem dX7_place_14 : decode cX7_place 14 = .ok (.iload_n 1, 1) := by decide +kernel
theorem dX7_place_15 : decode cX7_place 15 = .ok (.iaload, 1) := by decide +kernel
theorem dX7_place_16 : decode cX7_place 16 = .ok (.ireturn, 1) := by decide +kernel
theorem dX7_place_17 : decode cX7_place 17 = .ok (.iload_n 2, 1) := by decide +kernel
theorem dX7_place_18 : decode cX7_place 18 = .ok (.ifCond .eq 12, 3) := by decide +kernel
theorem dX7_place_21 : decode cX7_place 21 = .ok (.aload_n 0, 1) := by decide +kernel
theorem dX7_place_22 : decode cX7_place 22 = .ok (.getfield 30, 3) := by decide +kernel
theorem dX7_place_25 : decode cX7_place 25 = .ok (.iload_n 1, 1) := by decide +kernel
theorem dX7_place_26 : decode cX7_place 26 = .ok (.iaload, 1) := by decide +kernel
theorem dX7_place_27 : decode cX7_place 27 = .ok (.goto 5, 3) := by decide +kernel
theorem dX7_place_30 : decode cX7_place 30 = .ok (.bipush 6, 2) := by decide +kernel
theorem dX7_place_32 : decode cX7_place 32 = .ok (.ireturn, 1) := by decide +kernel
theorem dX7_send_0 : decode cX7_send 0 = .ok (.aload_n 0, 1) := by decide +kernel
theorem dX7_send_1 : decode cX7_send 1 = .ok (.getfield 33, 3) := by decide +kernel
theorem dX7_send_4 : decode cX7_send 4 = .ok (.iconst 0, 1) := by decide +kernel
theorem dX7_send_5 : decode cX7_send 5 = .ok (.aload_n 0, 1) := by decide +kernel
theorem dX7_send_6 : decode cX7_send 6 = .ok (.getfield 36, 3) := by decide +kernel
theorem dX7_send_9 : decode cX7_send 9 = .ok (.iconst 0, 1) := by decide +kernel
theorem dX7_send_10 : decode cX7_send 10 = .ok (.bipush 7, 2) := by decide +kernel
theorem dX7_send_12 : decode cX7_send 12 = .ok (.invokestatic 60, 3) := by decide +kernel
theorem dX7_send_15 : decode cX7_send 15 = .ok (.iconst 0, 1) := by decide +kernel
theorem dX7_send_16 : decode cX7_send 16 = .ok (.istore 5, 2) := by decide +kernel
theorem dX7_send_18 : decode cX7_send 18 = .ok (.iload 5, 2) := by decide +kernel
theorem dX7_send_20 : decode cX7_send 20 = .ok (.aload_n 1, 1) := by decide +kernel
theorem dX7_send_21 : decode cX7_send 21 = .ok (.getfield 66, 3) := by decide +kernel
theorem dX7_send_24 : decode cX7_send 24 = .ok (.if_icmp .ge 51, 3) := by decide +kernel
theorem dX7_send_27 : decode cX7_send 27 = .ok (.aload_n 0, 1) := by decide +kernel
theorem dX7_send_28 : decode cX7_send 28 = .ok (.getfield 17, 3) := by decide +kernel
theorem dX7_send_31 : decode cX7_send 31 = .ok (.iload 5, 2) := by decide +kernel
theorem dX7_send_33 : decode cX7_send 33 = .ok (.iconst (-1), 1) := by decide +kernel
theorem dX7_send_34 : decode cX7_send 34 = .ok (.iastore, 1) := by decide +kernel
theorem dX7_send_35 : decode cX7_send 35 = .ok (.aload_n 0, 1) := by decide +kernel
theorem dX7_send_36 : decode cX7_send 36 = .ok (.getfield 20, 3) := by decide +kernel
theorem dX7_send_39 : decode cX7_send 39 = .ok (.iload 5, 2) := by decide +kernel
theorem dX7_send_41 : decode cX7_send 41 = .ok (.iconst 0, 1) := by decide +kernel
theorem dX7_send_42 : decode cX7_send 42 = .ok (.iastore, 1) := by decide +kernel
theorem dX7_send_43 : decode cX7_send 43 = .ok (.aload_n 1, 1) := by decide +kernel
theorem dX7_send_44 : decode cX7_send 44 = .ok (.iload 5, 2) := by decide +kernel
theorem dX7_send_46 : decode cX7_send 46 = .ok (.iload_n 2, 1) := by decide +kernel
theorem dX7_send_47 : decode cX7_send 47 = .ok (.invokevirtual 67, 3) := by decide +kernel
theorem dX7_send_50 : decode cX7_send 50 = .ok (.ifCond .eq 19, 3) := by decide +kernel
theorem dX7_send_53 : decode cX7_send 53 = .ok (.aload_n 0, 1) := by decide +kernel
theorem dX7_send_54 : decode cX7_send 54 = .ok (.iload 5, 2) := by decide +kernel
theorem dX7_send_56 : decode cX7_send 56 = .ok (.aload_n 1, 1) := by decide +kernel
theorem dX7_send_57 : decode cX7_send 57 = .ok (.getfield 70, 3) := by decide +kernel
theorem dX7_send_60 : decode cX7_send 60 = .ok (.iload 5, 2) := by decide +kernel
theorem dX7_send_62 : decode cX7_send 62 = .ok (.iaload, 1) := by decide +kernel
theorem dX7_send_63 : decode cX7_send 63 = .ok (.iload_n 3, 1) := by decide +kernel
theorem dX7_send_64 : decode cX7_send 64 = .ok (.iload 4, 2) := by decide +kernel
theorem dX7_send_66 : decode cX7_send 66 = .ok (.invokevirtual 73, 3) := by decide +kernel
theorem dX7_send_69 : decode cX7_send 69 = .ok (.iinc 5 1, 3) := by decide +kernel
theorem dX7_send_72 : decode cX7_send 72 = .ok (.goto (-54), 3) := by decide +kernel
theorem dX7_send_75 : decode cX7_send 75 = .ok (.return_, 1) := by decide +kernel
theorem dX7_sendParty_0 : decode cX7_sendParty 0 = .ok (.iconst 0, 1) := by decide +kernel
theorem dX7_sendParty_1 : decode cX7_sendParty 1 = .ok (.istore 5, 2) := by decide +kernel
theorem dX7_sendParty_3 : decode cX7_sendParty 3 = .ok (.iload 5, 2) := by decide +kernel
theorem dX7_sendParty_5 : decode cX7_sendParty 5 = .ok (.aload_n 0, 1) := by decide +kernel
theorem dX7_sendParty_6 : decode cX7_sendParty 6 = .ok (.getfield 42, 3) := by decide +kernel
theorem dX7_sendParty_9 : decode cX7_sendParty 9 = .ok (.iload_n 1, 1) := by decide +kernel
theorem dX7_sendParty_10 : decode cX7_sendParty 10 = .ok (.iaload, 1) := by decide +kernel
theorem dX7_sendParty_11 : decode cX7_sendParty 11 = .ok (.if_icmp .ge 101, 3) := by decide +kernel
theorem dX7_sendParty_14 : decode cX7_sendParty 14 = .ok (.aload_n 0, 1) := by decide +kernel
theorem dX7_sendParty_15 : decode cX7_sendParty 15 = .ok (.getfield 39, 3) := by decide +kernel
theorem dX7_sendParty_18 : decode cX7_sendParty 18 = .ok (.iload_n 1, 1) := by decide +kernel
theorem dX7_sendParty_19 : decode cX7_sendParty 19 = .ok (.bipush 6, 2) := by decide +kernel
theorem dX7_sendParty_21 : decode cX7_sendParty 21 = .ok (.imul, 1) := by decide +kernel
theorem dX7_sendParty_22 : decode cX7_sendParty 22 = .ok (.iload 5, 2) := by decide +kernel
theorem dX7_sendParty_24 : decode cX7_sendParty 24 = .ok (.iadd, 1) := by decide +kernel
theorem dX7_sendParty_25 : decode cX7_sendParty 25 = .ok (.iaload, 1) := by decide +kernel
theorem dX7_sendParty_26 : decode cX7_sendParty 26 = .ok (.istore 6, 2) := by decide +kernel
theorem dX7_sendParty_28 : decode cX7_sendParty 28 = .ok (.aload_n 0, 1) := by decide +kernel
theorem dX7_sendParty_29 : decode cX7_sendParty 29 = .ok (.getfield 11, 3) := by decide +kernel
theorem dX7_sendParty_32 : decode cX7_sendParty 32 = .ok (.iload 6, 2) := by decide +kernel
theorem dX7_sendParty_34 : decode cX7_sendParty 34 = .ok (.iaload, 1) := by decide +kernel
theorem dX7_sendParty_35 : decode cX7_sendParty 35 = .ok (.iload_n 3, 1) := by decide +kernel
theorem dX7_sendParty_36 : decode cX7_sendParty 36 = .ok (.if_icmp .ne 14, 3) := by decide +kernel
theorem dX7_sendParty_39 : decode cX7_sendParty 39 = .ok (.aload_n 0, 1) := by decide +kernel
theorem dX7_sendParty_40 : decode cX7_sendParty 40 = .ok (.iload 6, 2) := by decide +kernel
theorem dX7_sendParty_42 : decode cX7_sendParty 42 = .ok (.iload 4, 2) := by decide +kernel
theorem dX7_sendParty_44 : decode cX7_sendParty 44 = .ok (.invokevirtual 77, 3) := by decide +kernel
theorem dX7_sendParty_47 : decode cX7_sendParty 47 = .ok (.goto 4, 3) := by decide +kernel
theorem dX7_sendParty_50 : decode cX7_sendParty 50 = .ok (.iconst (-1), 1) := by decide +kernel
theorem dX7_sendParty_51 : decode cX7_sendParty 51 = .ok (.istore 7, 2) := by decide +kernel
theorem dX7_sendParty_53 : decode cX7_sendParty 53 = .ok (.iload 7, 2) := by decide +kernel
theorem dX7_sendParty_55 : decode cX7_sendParty 55 = .ok (.iconst (-1), 1) := by decide +kernel
theorem dX7_sendParty_56 : decode cX7_sendParty 56 = .ok (.if_icmp .eq 34, 3) := by decide +kernel
theorem dX7_sendParty_59 : decode cX7_sendParty 59 = .ok (.aload_n 0, 1) := by decide +kernel
theorem dX7_sendParty_60 : decode cX7_sendParty 60 = .ok (.getfield 36, 3) := by decide +kernel
theorem dX7_sendParty_63 : decode cX7_sendParty 63 = .ok (.iload 7, 2) := by decide +kernel
theorem dX7_sendParty_65 : decode cX7_sendParty 65 = .ok (.iaload, 1) := by decide +kernel
theorem dX7_sendParty_66 : decode cX7_sendParty 66 = .ok (.iload_n 2, 1) := by decide +kernel
theorem dX7_sendParty_67 : decode cX7_sendParty 67 = .ok (.if_icmp .lt 23, 3) := by decide +kernel
theorem dX7_sendParty_70 : decode cX7_sendParty 70 = .ok (.aload_n 0, 1) := by decide +kernel
theorem dX7_sendParty_71 : decode cX7_sendParty 71 = .ok (.getfield 36, 3) := by decide +kernel
theorem dX7_sendParty_74 : decode cX7_sendParty 74 = .ok (.iload 7, 2) := by decide +kernel
theorem dX7_sendParty_76 : decode cX7_sendParty 76 = .ok (.dup2, 1) := by decide +kernel
theorem dX7_sendParty_77 : decode cX7_sendParty 77 = .ok (.iaload, 1) := by decide +kernel
theorem dX7_sendParty_78 : decode cX7_sendParty 78 = .ok (.iload_n 2, 1) := by decide +kernel
theorem dX7_sendParty_79 : decode cX7_sendParty 79 = .ok (.isub, 1) := by decide +kernel
theorem dX7_sendParty_80 : decode cX7_sendParty 80 = .ok (.iastore, 1) := by decide +kernel
theorem dX7_sendParty_81 : decode cX7_sendParty 81 = .ok (.aload_n 0, 1) := by decide +kernel
theorem dX7_sendParty_82 : decode cX7_sendParty 82 = .ok (.getfield 17, 3) := by decide +kernel
theorem dX7_sendParty_85 : decode cX7_sendParty 85 = .ok (.iload_n 1, 1) := by decide +kernel
theorem dX7_sendParty_86 : decode cX7_sendParty 86 = .ok (.iload 6, 2) := by decide +kernel
theorem dX7_sendParty_88 : decode cX7_sendParty 88 = .ok (.iastore, 1) := by decide +kernel
theorem dX7_sendParty_89 : decode cX7_sendParty 89 = .ok (.return_, 1) := by decide +kernel
theorem dX7_sendParty_90 : decode cX7_sendParty 90 = .ok (.iload 7, 2) := by decide +kernel
theorem dX7_sendParty_92 : decode cX7_sendParty 92 = .ok (.iconst (-1), 1) := by decide +kernel
theorem dX7_sendParty_93 : decode cX7_sendParty 93 = .ok (.if_icmp .eq 13, 3) := by decide +kernel
theorem dX7_sendParty_96 : decode cX7_sendParty 96 = .ok (.aload_n 0, 1) := by decide +kernel
theorem dX7_sendParty_97 : decode cX7_sendParty 97 = .ok (.getfield 20, 3) := by decide +kernel
theorem dX7_sendParty_100 : decode cX7_sendParty 100 = .ok (.iload_n 1, 1) := by decide +kernel
theorem dX7_sendParty_101 : decode cX7_sendParty 101 = .ok (.dup2, 1) := by decide +kernel
theorem dX7_sendParty_102 : decode cX7_sendParty 102 = .ok (.iaload, 1) := by decide +kernel
theorem dX7_sendParty_103 : decode cX7_sendParty 103 = .ok (.iconst 1, 1) := by decide +kernel
theorem dX7_sendParty_104 : decode cX7_sendParty 104 = .ok (.iadd, 1) := by decide +kernel
theorem dX7_sendParty_105 : decode cX7_sendParty 105 = .ok (.iastore, 1) := by decide +kernel
theorem dX7_sendParty_106 : decode cX7_sendParty 106 = .ok (.iinc 5 1, 3) := by decide +kernel
theorem dX7_sendParty_109 : decode cX7_sendParty 109 = .ok (.goto (-106), 3) := by decide +kernel
theorem dX7_sendParty_112 : decode cX7_sendParty 112 = .ok (.return_, 1) := by decide +kernel
theorem dX7_peopleIn_0 : decode cX7_peopleIn 0 = .ok (.iconst 0, 1) := by decide +kernel
theorem dX7_peopleIn_1 : decode cX7_peopleIn 1 = .ok (.istore_n 3, 1) := by decide +kernel
theorem dX7_peopleIn_2 : decode cX7_peopleIn 2 = .ok (.iconst 0, 1) := by decide +kernel
theorem dX7_peopleIn_3 : decode cX7_peopleIn 3 = .ok (.istore 4, 2) := by decide +kernel
theorem dX7_peopleIn_5 : decode cX7_peopleIn 5 = .ok (.iload 4, 2) := by decide +kernel
theorem dX7_peopleIn_7 : decode cX7_peopleIn 7 = .ok (.aload_n 2, 1) := by decide +kernel
theorem dX7_peopleIn_8 : decode cX7_peopleIn 8 = .ok (.getfield 66, 3) := by decide +kernel
theorem dX7_peopleIn_11 : decode cX7_peopleIn 11 = .ok (.if_icmp .ge 30, 3) := by decide +kernel
theorem dX7_peopleIn_14 : decode cX7_peopleIn 14 = .ok (.aload_n 0, 1) := by decide +kernel
theorem dX7_peopleIn_15 : decode cX7_peopleIn 15 = .ok (.getfield 17, 3) := by decide +kernel
theorem dX7_peopleIn_18 : decode cX7_peopleIn 18 = .ok (.iload 4, 2) := by decide +kernel
theorem dX7_peopleIn_20 : decode cX7_peopleIn 20 = .ok (.iaload, 1) := by decide +kernel
theorem dX7_peopleIn_21 : decode cX7_peopleIn 21 = .ok (.iload_n 1, 1) := by decide +kernel
theorem dX7_peopleIn_22 : decode cX7_peopleIn 22 = .ok (.if_icmp .ne 13, 3) := by decide +kernel
theorem dX7_peopleIn_25 : decode cX7_peopleIn 25 = .ok (.iload_n 3, 1) := by decide +kernel
theorem dX7_peopleIn_26 : decode cX7_peopleIn 26 = .ok (.aload_n 2, 1) := by decide +kernel
theorem dX7_peopleIn_27 : decode cX7_peopleIn 27 = .ok (.getfield 70, 3) := by decide +kernel
theorem dX7_peopleIn_30 : decode cX7_peopleIn 30 = .ok (.iload 4, 2) := by decide +kernel
theorem dX7_peopleIn_32 : decode cX7_peopleIn 32 = .ok (.iaload, 1) := by decide +kernel
theorem dX7_peopleIn_33 : decode cX7_peopleIn 33 = .ok (.iadd, 1) := by decide +kernel
theorem dX7_peopleIn_34 : decode cX7_peopleIn 34 = .ok (.istore_n 3, 1) := by decide +kernel
theorem dX7_peopleIn_35 : decode cX7_peopleIn 35 = .ok (.iinc 4 1, 3) := by decide +kernel
theorem dX7_peopleIn_38 : decode cX7_peopleIn 38 = .ok (.goto (-33), 3) := by decide +kernel
theorem dX7_peopleIn_41 : decode cX7_peopleIn 41 = .ok (.iload_n 3, 1) := by decide +kernel
theorem dX7_peopleIn_42 : decode cX7_peopleIn 42 = .ok (.ireturn, 1) := by decide +kernel
theorem dX8_init_0 : decode cX8_init 0 = .ok (.aload_n 0, 1) := by decide +kernel
theorem dX8_init_1 : decode cX8_init 1 = .ok (.invokespecial 5, 3) := by decide +kernel
theorem dX8_init_4 : decode cX8_init 4 = .ok (.aload_n 0, 1) := by decide +kernel
theorem dX8_init_5 : decode cX8_init 5 = .ok (.bipush 60, 2) := by decide +kernel
theorem dX8_init_7 : decode cX8_init 7 = .ok (.putfield 13, 3) := by decide +kernel
theorem dX8_init_10 : decode cX8_init 10 = .ok (.aload_n 0, 1) := by decide +kernel
theorem dX8_init_11 : decode cX8_init 11 = .ok (.bipush 60, 2) := by decide +kernel
theorem dX8_init_13 : decode cX8_init 13 = .ok (.putfield 17, 3) := by decide +kernel
theorem dX8_init_16 : decode cX8_init 16 = .ok (.aload_n 0, 1) := by decide +kernel
theorem dX8_init_17 : decode cX8_init 17 = .ok (.iconst (-1), 1) := by decide +kernel
theorem dX8_init_18 : decode cX8_init 18 = .ok (.putfield 20, 3) := by decide +kernel
theorem dX8_init_21 : decode cX8_init 21 = .ok (.aload_n 0, 1) := by decide +kernel
theorem dX8_init_22 : decode cX8_init 22 = .ok (.iconst 0, 1) := by decide +kernel
theorem dX8_init_23 : decode cX8_init 23 = .ok (.putfield 23, 3) := by decide +kernel
theorem dX8_init_26 : decode cX8_init 26 = .ok (.aload_n 0, 1) := by decide +kernel
theorem dX8_init_27 : decode cX8_init 27 = .ok (.iconst 0, 1) := by decide +kernel
theorem dX8_init_28 : decode cX8_init 28 = .ok (.putfield 26, 3) := by decide +kernel
theorem dX8_init_31 : decode cX8_init 31 = .ok (.aload_n 0, 1) := by decide +kernel
theorem dX8_init_32 : decode cX8_init 32 = .ok (.bipush 24, 2) := by decide +kernel
theorem dX8_init_34 : decode cX8_init 34 = .ok (.newarray .int, 2) := by decide +kernel
theorem dX8_init_36 : decode cX8_init 36 = .ok (.putfield 29, 3) := by decide +kernel
theorem dX8_init_39 : decode cX8_init 39 = .ok (.aload_n 0, 1) := by decide +kernel
theorem dX8_init_40 : decode cX8_init 40 = .ok (.bipush 10, 2) := by decide +kernel
theorem dX8_init_42 : decode cX8_init 42 = .ok (.newarray .int, 2) := by decide +kernel
theorem dX8_init_44 : decode cX8_init 44 = .ok (.putfield 33, 3) := by decide +kernel
theorem dX8_init_47 : decode cX8_init 47 = .ok (.aload_n 0, 1) := by decide +kernel
theorem dX8_init_48 : decode cX8_init 48 = .ok (.bipush 24, 2) := by decide +kernel
theorem dX8_init_50 : decode cX8_init 50 = .ok (.newarray .int, 2) := by decide +kernel
theorem dX8_init_52 : decode cX8_init 52 = .ok (.putfield 36, 3) := by decide +kernel
theorem dX8_init_55 : decode cX8_init 55 = .ok (.aload_n 0, 1) := by decide +kernel
theorem dX8_init_56 : decode cX8_init 56 = .ok (.bipush 24, 2) := by decide +kernel
theorem dX8_init_58 : decode cX8_init 58 = .ok (.newarray .int, 2) := by decide +kernel
theorem dX8_init_60 : decode cX8_init 60 = .ok (.putfield 39, 3) := by decide +kernel
theorem dX8_init_63 : decode cX8_init 63 = .ok (.aload_n 0, 1) := by decide +kernel
theorem dX8_init_64 : decode cX8_init 64 = .ok (.sipush 193, 3) := by decide +kernel
theorem dX8_init_67 : decode cX8_init 67 = .ok (.newarray .int, 2) := by decide +kernel
theorem dX8_init_69 : decode cX8_init 69 = .ok (.putfield 42, 3) := by decide +kernel
theorem dX8_init_72 : decode cX8_init 72 = .ok (.return_, 1) := by decide +kernel
theorem dX8_setSeats_0 : decode cX8_setSeats 0 = .ok (.iload_n 1, 1) := by decide +kernel
theorem dX8_setSeats_1 : decode cX8_setSeats 1 = .ok (.iconst 0, 1) := by decide +kernel
theorem dX8_setSeats_2 : decode cX8_setSeats 2 = .ok (.sipush 200, 3) := by decide +kernel
theorem dX8_setSeats_5 : decode cX8_setSeats 5 = .ok (.invokestatic 45, 3) := by decide +kernel
theorem dX8_setSeats_8 : decode cX8_setSeats 8 = .ok (.ifCond .eq 14, 3) := by decide +kernel
theorem dX8_setSeats_11 : decode cX8_setSeats 11 = .ok (.iload_n 2, 1) := by decide +kernel
theorem dX8_setSeats_12 : decode cX8_setSeats 12 = .ok (.iconst 0, 1) := by decide +kernel
theorem dX8_setSeats_13 : decode cX8_setSeats 13 = .ok (.sipush 200, 3) := by decide +kernel
theorem dX8_setSeats_16 : decode cX8_setSeats 16 = .ok (.invokestatic 45, 3) := by decide +kernel
theorem dX8_setSeats_19 : decode cX8_setSeats 19 = .ok (.ifCond .ne 6, 3) := by decide +kernel
theorem dX8_setSeats_22 : decode cX8_setSeats 22 = .ok (.bipush (-2), 2) := by decide +kernel
theorem dX8_setSeats_24 : decode cX8_setSeats 24 = .ok (.ireturn, 1) := by decide +kernel
theorem dX8_setSeats_25 : decode cX8_setSeats 25 = .ok (.aload_n 0, 1) := by decide +kernel
theorem dX8_setSeats_26 : decode cX8_setSeats 26 = .ok (.iload_n 1, 1) := by decide +kernel
theorem dX8_setSeats_27 : decode cX8_setSeats 27 = .ok (.putfield 13, 3) := by decide +kernel
theorem dX8_setSeats_30 : decode cX8_setSeats 30 = .ok (.aload_n 0, 1) := by decide +kernel
theorem dX8_setSeats_31 : decode cX8_setSeats 31 = .ok (.iload_n 2, 1) := by decide +kernel
theorem dX8_setSeats_32 : decode cX8_setSeats 32 = .ok (.putfield 17, 3) := by decide +kernel
theorem dX8_setSeats_35 : decode cX8_setSeats 35 = .ok (.iconst 1, 1) := by decide +kernel
theorem dX8_setSeats_36 : decode cX8_setSeats 36 = .ok (.ireturn, 1) := by decide +kernel
theorem dX8_arrange_0 : decode cX8_arrange 0 = .ok (.aload_n 0, 1) := by decide +kernel
theorem dX8_arrange_1 : decode cX8_arrange 1 = .ok (.aload_n 1, 1) := by decide +kernel
theorem dX8_arrange_2 : decode cX8_arrange 2 = .ok (.iload_n 2, 1) := by decide +kernel
theorem dX8_arrange_3 : decode cX8_arrange 3 = .ok (.invokevirtual 49, 3) := by decide +kernel
theorem dX8_arrange_6 : decode cX8_arrange 6 = .ok (.aload_n 0, 1) := by decide +kernel
theorem dX8_arrange_7 : decode cX8_arrange 7 = .ok (.invokevirtual 53, 3) := by decide +kernel
theorem dX8_arrange_10 : decode cX8_arrange 10 = .ok (.aload_n 0, 1) := by decide +kernel
theorem dX8_arrange_11 : decode cX8_arrange 11 = .ok (.invokevirtual 56, 3) := by decide +kernel
theorem dX8_arrange_14 : decode cX8_arrange 14 = .ok (.aload_n 0, 1) := by decide +kernel
theorem dX8_arrange_15 : decode cX8_arrange 15 = .ok (.invokevirtual 59, 3) := by decide +kernel
theorem dX8_arrange_18 : decode cX8_arrange 18 = .ok (.return_, 1) := by decide +kernel
theorem dX8_fillBenches_0 : decode cX8_fillBenches 0 = .ok (.aload_n 0, 1) := by decide +kernel
theorem dX8_fillBenches_1 : decode cX8_fillBenches 1 = .ok (.iconst 0, 1) := by decide +kernel
theorem dX8_fillBenches_2 : decode cX8_fillBenches 2 = .ok (.putfield 23, 3) := by decide +kernel
theorem dX8_fillBenches_5 : decode cX8_fillBenches 5 = .ok (.aload_n 0, 1) := by decide +kernel
theorem dX8_fillBenches_6 : decode cX8_fillBenches 6 = .ok (.iconst 0, 1) := by decide +kernel
theorem dX8_fillBenches_7 : decode cX8_fillBenches 7 = .ok (.putfield 26, 3) := by decide +kernel
theorem dX8_fillBenches_10 : decode cX8_fillBenches 10 = .ok (.aload_n 0, 1) := by decide +kernel
theorem dX8_fillBenches_11 : decode cX8_fillBenches 11 = .ok (.getfield 29, 3) := by decide +kernel
theorem dX8_fillBenches_14 : decode cX8_fillBenches 14 = .ok (.iconst (-1), 1) := by decide +kernel
theorem dX8_fillBenches_15 : decode cX8_fillBenches 15 = .ok (.invokestatic 62, 3) := by decide +kernel
theorem dX8_fillBenches_18 : decode cX8_fillBenches 18 = .ok (.aload_n 0, 1) := by decide +kernel
theorem dX8_fillBenches_19 : decode cX8_fillBenches 19 = .ok (.getfield 33, 3) := by decide +kernel
theorem dX8_fillBenches_22 : decode cX8_fillBenches 22 = .ok (.iconst (-1), 1) := by decide +kernel
theorem dX8_fillBenches_23 : decode cX8_fillBenches 23 = .ok (.invokestatic 62, 3) := by decide +kernel
theorem dX8_fillBenches_26 : decode cX8_fillBenches 26 = .ok (.iconst 0, 1) := by decide +kernel
theorem dX8_fillBenches_27 : decode cX8_fillBenches 27 = .ok (.istore_n 3, 1) := by decide +kernel
theorem dX8_fillBenches_28 : decode cX8_fillBenches 28 = .ok (.iload_n 3, 1) := by decide +kernel
theorem dX8_fillBenches_29 : decode cX8_fillBenches 29 = .ok (.aload_n 1, 1) := by decide +kernel
theorem dX8_fillBenches_30 : decode cX8_fillBenches 30 = .ok (.getfield 68, 3) := by decide +kernel
theorem dX8_fillBenches_33 : decode cX8_fillBenches 33 = .ok (.if_icmp .ge 69, 3) := by decide +kernel
theorem dX8_fillBenches_36 : decode cX8_fillBenches 36 = .ok (.aload_n 1, 1) := by decide +kernel
theorem dX8_fillBenches_37 : decode cX8_fillBenches 37 = .ok (.iload_n 3, 1) := by decide +kernel
theorem dX8_fillBenches_38 : decode cX8_fillBenches 38 = .ok (.iload_n 2, 1) := by decide +kernel
theorem dX8_fillBenches_39 : decode cX8_fillBenches 39 = .ok (.invokevirtual 71, 3) := by decide +kernel
theorem dX8_fillBenches_42 : decode cX8_fillBenches 42 = .ok (.ifCond .eq 54, 3) := by decide +kernel
theorem dX8_fillBenches_45 : decode cX8_fillBenches 45 = .ok (.aload_n 0, 1) := by decide +kernel
theorem dX8_fillBenches_46 : decode cX8_fillBenches 46 = .ok (.aload_n 1, 1) := by decide +kernel
theorem dX8_fillBenches_47 : decode cX8_fillBenches 47 = .ok (.getfield 75, 3) := by decide +kernel
theorem dX8_fillBenches_50 : decode cX8_fillBenches 50 = .ok (.iload_n 3, 1) := by decide +kernel
theorem dX8_fillBenches_51 : decode cX8_fillBenches 51 = .ok (.iaload, 1) := by decide +kernel
theorem dX8_fillBenches_52 : decode cX8_fillBenches 52 = .ok (.invokevirtual 78, 3) := by decide +kernel
theorem dX8_fillBenches_55 : decode cX8_fillBenches 55 = .ok (.istore 4, 2) := by decide +kernel
theorem dX8_fillBenches_57 : decode cX8_fillBenches 57 = .ok (.aload_n 0, 1) := by decide +kernel
theorem dX8_fillBenches_58 : decode cX8_fillBenches 58 = .ok (.getfield 29, 3) := by decide +kernel
theorem dX8_fillBenches_61 : decode cX8_fillBenches 61 = .ok (.iload_n 3, 1) := by decide +kernel
theorem dX8_fillBenches_62 : decode cX8_fillBenches 62 = .ok (.iload 4, 2) := by decide +kernel
theorem dX8_fillBenches_64 : decode cX8_fillBenches 64 = .ok (.iastore, 1) := by decide +kernel
theorem dX8_fillBenches_65 : decode cX8_fillBenches 65 = .ok (.aload_n 0, 1) := by decide +kernel
theorem dX8_fillBenches_66 : decode cX8_fillBenches 66 = .ok (.getfield 36, 3) := by decide +kernel
theorem dX8_fillBenches_69 : decode cX8_fillBenches 69 = .ok (.iload 4, 2) := by decide +kernel
theorem dX8_fillBenches_71 : decode cX8_fillBenches 71 = .ok (.dup2, 1) := by decide +kernel
theorem dX8_fillBenches_72 : decode cX8_fillBenches 72 = .ok (.iaload, 1) := by decide +kernel
theorem dX8_fillBenches_73 : decode cX8_fillBenches 73 = .ok (.aload_n 1, 1) := by decide +kernel
theorem dX8_fillBenches_74 : decode cX8_fillBenches 74 = .ok (.getfield 82, 3) := by decide +kernel
theorem dX8_fillBenches_77 : decode cX8_fillBenches 77 = .ok (.iload_n 3, 1) := by decide +kernel
theorem dX8_fillBenches_78 : decode cX8_fillBenches 78 = .ok (.iaload, 1) := by decide +kernel
theorem dX8_fillBenches_79 : decode cX8_fillBenches 79 = .ok (.iadd, 1) := by decide +kernel
theorem dX8_fillBenches_80 : decode cX8_fillBenches 80 = .ok (.iastore, 1) := by decide +kernel
theorem dX8_fillBenches_81 : decode cX8_fillBenches 81 = .ok (.aload_n 0, 1) := by decide +kernel
theorem dX8_fillBenches_82 : decode cX8_fillBenches 82 = .ok (.dup, 1) := by decide +kernel
theorem dX8_fillBenches_83 : decode cX8_fillBenches 83 = .ok (.getfield 26, 3) := by decide +kernel
theorem dX8_fillBenches_86 : decode cX8_fillBenches 86 = .ok (.aload_n 1, 1) := by decide +kernel
theorem dX8_fillBenches_87 : decode cX8_fillBenches 87 = .ok (.getfield 82, 3) := by decide +kernel
theorem dX8_fillBenches_90 : decode cX8_fillBenches 90 = .ok (.iload_n 3, 1) := by decide +kernel
theorem dX8_fillBenches_91 : decode cX8_fillBenches 91 = .ok (.iaload, 1) := by decide +kernel
theorem dX8_fillBenches_92 : decode cX8_fillBenches 92 = .ok (.iadd, 1) := by decide +kernel
theorem dX8_fillBenches_93 : decode cX8_fillBenches 93 = .ok (.putfield 26, 3) := by decide +kernel
theorem dX8_fillBenches_96 : decode cX8_fillBenches 96 = .ok (.iinc 3 1, 3) := by decide +kernel
theorem dX8_fillBenches_99 : decode cX8_fillBenches 99 = .ok (.goto (-71), 3) := by decide +kernel
theorem dX8_fillBenches_102 : decode cX8_fillBenches 102 = .ok (.return_, 1) := by decide +kernel
theorem dX8_benchFor_0 : decode cX8_benchFor 0 = .ok (.iload_n 1, 1) := by decide +kernel
theorem dX8_benchFor_1 : decode cX8_benchFor 1 = .ok (.iconst (-1), 1) := by decide +kernel
theorem dX8_benchFor_2 : decode cX8_benchFor 2 = .ok (.if_icmp .eq 20, 3) := by decide +kernel
theorem dX8_benchFor_5 : decode cX8_benchFor 5 = .ok (.aload_n 0, 1) := by decide +kernel
theorem dX8_benchFor_6 : decode cX8_benchFor 6 = .ok (.getfield 33, 3) := by decide +kernel
theorem dX8_benchFor_9 : decode cX8_benchFor 9 = .ok (.iload_n 1, 1) := by decide +kernel
theorem dX8_benchFor_10 : decode cX8_benchFor 10 = .ok (.iaload, 1) := by decide +kernel
theorem dX8_benchFor_11 : decode cX8_benchFor 11 = .ok (.iconst (-1), 1) := by decide +kernel
theorem dX8_benchFor_12 : decode cX8_benchFor 12 = .ok (.if_icmp .eq 10, 3) := by decide +kernel
theorem dX8_benchFor_15 : decode cX8_benchFor 15 = .ok (.aload_n 0, 1) := by decide +kernel
theorem dX8_benchFor_16 : decode cX8_benchFor 16 = .ok (.getfield 33, 3) := by decide +kernel
theorem dX8_benchFor_19 : decode cX8_benchFor 19 = .ok (.iload_n 1, 1) := by decide +kernel
theorem dX8_benchFor_20 : decode cX8_benchFor 20 = .ok (.iaload, 1) := by decide +kernel
theorem dX8_benchFor_21 : decode cX8_benchFor 21 = .ok (.ireturn, 1) := by decide +kernel
theorem dX8_benchFor_22 : decode cX8_benchFor 22 = .ok (.aload_n 0, 1) := by decide +kernel
theorem dX8_benchFor_23 : decode cX8_benchFor 23 = .ok (.getfield 23, 3) := by decide +kernel
theorem dX8_benchFor_26 : decode cX8_benchFor 26 = .ok (.istore_n 2, 1) := by decide +kernel
theorem dX8_benchFor_27 : decode cX8_benchFor 27 = .ok (.aload_n 0, 1) := by decide +kernel
theorem dX8_benchFor_28 : decode cX8_benchFor 28 = .ok (.dup, 1) := by decide +kernel
theorem dX8_benchFor_29 : decode cX8_benchFor 29 = .ok (.getfield 23, 3) := by decide +kernel
theorem dX8_benchFor_32 : decode cX8_benchFor 32 = .ok (.iconst 1, 1) := by decide +kernel
theorem dX8_benchFor_33 : decode cX8_benchFor 33 = .ok (.iadd, 1) := by decide +kernel
theorem dX8_benchFor_34 : decode cX8_benchFor 34 = .ok (.putfield 23, 3) := by decide +kernel
theorem dX8_benchFor_37 : decode cX8_benchFor 37 = .ok (.aload_n 0, 1) := by decide +kernel
theorem dX8_benchFor_38 : decode cX8_benchFor 38 = .ok (.getfield 36, 3) := by decide +kernel
theorem dX8_benchFor_41 : decode cX8_benchFor 41 = .ok (.iload_n 2, 1) := by decide +kernel
theorem dX8_benchFor_42 : decode cX8_benchFor 42 = .ok (.iconst 0, 1) := by decide +kernel
theorem dX8_benchFor_43 : decode cX8_benchFor 43 = .ok (.iastore, 1) := by decide +kernel
theorem dX8_benchFor_44 : decode cX8_benchFor 44 = .ok (.iload_n 1, 1) := by decide +kernel
theorem dX8_benchFor_45 : decode cX8_benchFor 45 = .ok (.iconst (-1), 1) := by decide +kernel
theorem dX8_benchFor_46 : decode cX8_benchFor 46 = .ok (.if_icmp .eq 10, 3) := by decide +kernel
theorem dX8_benchFor_49 : decode cX8_benchFor 49 = .ok (.aload_n 0, 1) := by decide +kernel
theorem dX8_benchFor_50 : decode cX8_benchFor 50 = .ok (.getfield 33, 3) := by decide +kernel
theorem dX8_benchFor_53 : decode cX8_benchFor 53 = .ok (.iload_n 1, 1) := by decide +kernel
theorem dX8_benchFor_54 : decode cX8_benchFor 54 = .ok (.iload_n 2, 1) := by decide +kernel
theorem dX8_benchFor_55 : decode cX8_benchFor 55 = .ok (.iastore, 1) := by decide +kernel
theorem dX8_benchFor_56 : decode cX8_benchFor 56 = .ok (.iload_n 2, 1) := by decide +kernel
theorem dX8_benchFor_57 : decode cX8_benchFor 57 = .ok (.ireturn, 1) := by decide +kernel
theorem dX8_findNumbers_0 : decode cX8_findNumbers 0 = .ok (.aload_n 0, 1) := by decide +kernel
theorem dX8_findNumbers_1 : decode cX8_findNumbers 1 = .ok (.getfield 42, 3) := by decide +kernel
theorem dX8_findNumbers_4 : decode cX8_findNumbers 4 = .ok (.iconst (-1), 1) := by decide +kernel
theorem dX8_findNumbers_5 : decode cX8_findNumbers 5 = .ok (.invokestatic 62, 3) := by decide +kernel
theorem dX8_findNumbers_8 : decode cX8_findNumbers 8 = .ok (.aload_n 0, 1) := by decide +kernel
theorem dX8_findNumbers_9 : decode cX8_findNumbers 9 = .ok (.getfield 42, 3) := by decide +kernel
theorem dX8_findNumbers_12 : decode cX8_findNumbers 12 = .ok (.iconst 0, 1) := by decide +kernel
theorem dX8_findNumbers_13 : decode cX8_findNumbers 13 = .ok (.aload_n 0, 1) := by decide +kernel
theorem dX8_findNumbers_14 : decode cX8_findNumbers 14 = .ok (.getfield 23, 3) := by decide +kernel
theorem dX8_findNumbers_17 : decode cX8_findNumbers 17 = .ok (.iastore, 1) := by decide +kernel
theorem dX8_findNumbers_18 : decode cX8_findNumbers 18 = .ok (.iconst 0, 1) := by decide +kernel
theorem dX8_findNumbers_19 : decode cX8_findNumbers 19 = .ok (.istore_n 1, 1) := by decide +kernel
theorem dX8_findNumbers_20 : decode cX8_findNumbers 20 = .ok (.aload_n 0, 1) := by decide +kernel
theorem dX8_findNumbers_21 : decode cX8_findNumbers 21 = .ok (.getfield 23, 3) := by decide +kernel
theorem dX8_findNumbers_24 : decode cX8_findNumbers 24 = .ok (.iconst 1, 1) := by decide +kernel
theorem dX8_findNumbers_25 : decode cX8_findNumbers 25 = .ok (.isub, 1) := by decide +kernel
theorem dX8_findNumbers_26 : decode cX8_findNumbers 26 = .ok (.istore_n 2, 1) := by decide +kernel
theorem dX8_findNumbers_27 : decode cX8_findNumbers 27 = .ok (.iload_n 2, 1) := by decide +kernel
theorem dX8_findNumbers_28 : decode cX8_findNumbers 28 = .ok (.ifCond .lt 67, 3) := by decide +kernel
theorem dX8_findNumbers_31 : decode cX8_findNumbers 31 = .ok (.aload_n 0, 1) := by decide +kernel
theorem dX8_findNumbers_32 : decode cX8_findNumbers 32 = .ok (.getfield 36, 3) := by decide +kernel
theorem dX8_findNumbers_35 : decode cX8_findNumbers 35 = .ok (.iload_n 2, 1) := by decide +kernel
theorem dX8_findNumbers_36 : decode cX8_findNumbers 36 = .ok (.iaload, 1) := by decide +kernel
theorem dX8_findNumbers_37 : decode cX8_findNumbers 37 = .ok (.istore_n 3, 1) := by decide +kernel
theorem dX8_findNumbers_38 : decode cX8_findNumbers 38 = .ok (.iload_n 1, 1) := by decide +kernel
theorem dX8_findNumbers_39 : decode cX8_findNumbers 39 = .ok (.iload_n 3, 1) := by decide +kernel
theorem dX8_findNumbers_40 : decode cX8_findNumbers 40 = .ok (.iadd, 1) := by decide +kernel
theorem dX8_findNumbers_41 : decode cX8_findNumbers 41 = .ok (.istore_n 1, 1) := by decide +kernel
theorem dX8_findNumbers_42 : decode cX8_findNumbers 42 = .ok (.iload_n 1, 1) := by decide +kernel
theorem dX8_findNumbers_43 : decode cX8_findNumbers 43 = .ok (.istore 4, 2) := by decide +kernel
theorem dX8_findNumbers_45 : decode cX8_findNumbers 45 = .ok (.iload 4, 2) := by decide +kernel
theorem dX8_findNumbers_47 : decode cX8_findNumbers 47 = .ok (.iload_n 3, 1) := by decide +kernel
theorem dX8_findNumbers_48 : decode cX8_findNumbers 48 = .ok (.if_icmp .lt 41, 3) := by decide +kernel
theorem dX8_findNumbers_51 : decode cX8_findNumbers 51 = .ok (.aload_n 0, 1) := by decide +kernel
theorem dX8_findNumbers_52 : decode cX8_findNumbers 52 = .ok (.getfield 42, 3) := by decide +kernel
theorem dX8_findNumbers_55 : decode cX8_findNumbers 55 = .ok (.iload 4, 2) := by decide +kernel
theorem dX8_findNumbers_57 : decode cX8_findNumbers 57 = .ok (.iaload, 1) := by decide +kernel
theorem dX8_findNumbers_58 : decode cX8_findNumbers 58 = .ok (.iconst (-1), 1) := by decide +kernel
theorem dX8_findNumbers_59 : decode cX8_findNumbers 59 = .ok (.if_icmp .ne 24, 3) := by decide +kernel
theorem dX8_findNumbers_62 : decode cX8_findNumbers 62 = .ok (.aload_n 0, 1) := by decide +kernel
theorem dX8_findNumbers_63 : decode cX8_findNumbers 63 = .ok (.getfield 42, 3) := by decide +kernel
theorem dX8_findNumbers_66 : decode cX8_findNumbers 66 = .ok (.iload 4, 2) := by decide +kernel
theorem dX8_findNumbers_68 : decode cX8_findNumbers 68 = .ok (.iload_n 3, 1) := by decide +kernel
theorem dX8_findNumbers_69 : decode cX8_findNumbers 69 = .ok (.isub, 1) := by decide +kernel
theorem dX8_findNumbers_70 : decode cX8_findNumbers 70 = .ok (.iaload, 1) := by decide +kernel
theorem dX8_findNumbers_71 : decode cX8_findNumbers 71 = .ok (.iconst (-1), 1) := by decide +kernel
theorem dX8_findNumbers_72 : decode cX8_findNumbers 72 = .ok (.if_icmp .eq 11, 3) := by decide +kernel
theorem dX8_findNumbers_75 : decode cX8_findNumbers 75 = .ok (.aload_n 0, 1) := by decide +kernel
theorem dX8_findNumbers_76 : decode cX8_findNumbers 76 = .ok (.getfield 42, 3) := by decide +kernel
theorem dX8_findNumbers_79 : decode cX8_findNumbers 79 = .ok (.iload 4, 2) := by decide +kernel
theorem dX8_findNumbers_81 : decode cX8_findNumbers 81 = .ok (.iload_n 2, 1) := by decide +kernel
theorem dX8_findNumbers_82 : decode cX8_findNumbers 82 = .ok (.iastore, 1) := by decide +kernel
theorem dX8_findNumbers_83 : decode cX8_findNumbers 83 = .ok (.iinc 4 (-1), 3) := by decide +kernel
theorem dX8_findNumbers_86 : decode cX8_findNumbers 86 = .ok (.goto (-41), 3) := by decide +kernel
theorem dX8_findNumbers_89 : decode cX8_findNumbers 89 = .ok (.iinc 2 (-1), 3) := by decide +kernel
theorem dX8_findNumbers_92 : decode cX8_findNumbers 92 = .ok (.goto (-65), 3) := by decide +kernel
theorem dX8_findNumbers_95 : decode cX8_findNumbers 95 = .ok (.return_, 1) := by decide +kernel
theorem dX8_findDifference_0 : decode cX8_findDifference 0 = .ok (.aload_n 0, 1) := by decide +kernel
theorem dX8_findDifference_1 : decode cX8_findDifference 1 = .ok (.iconst (-1), 1) := by decide +kernel
theorem dX8_findDifference_2 : decode cX8_findDifference 2 = .ok (.putfield 20, 3) := by decide +kernel
theorem dX8_findDifference_5 : decode cX8_findDifference 5 = .ok (.iconst 0, 1) := by decide +kernel
theorem dX8_findDifference_6 : decode cX8_findDifference 6 = .ok (.istore_n 1, 1) := by decide +kernel
theorem dX8_findDifference_7 : decode cX8_findDifference 7 = .ok (.iload_n 1, 1) := by decide +kernel
theorem dX8_findDifference_8 : decode cX8_findDifference 8 = .ok (.aload_n 0, 1) := by decide +kernel
theorem dX8_findDifference_9 : decode cX8_findDifference 9 = .ok (.getfield 26, 3) := by decide +kernel
theorem dX8_findDifference_12 : decode cX8_findDifference 12 = .ok (.if_icmp .gt 50, 3) := by decide +kernel
theorem dX8_findDifference_15 : decode cX8_findDifference 15 = .ok (.aload_n 0, 1) := by decide +kernel
theorem dX8_findDifference_16 : decode cX8_findDifference 16 = .ok (.getfield 26, 3) := by decide +kernel
theorem dX8_findDifference_19 : decode cX8_findDifference 19 = .ok (.iconst 2, 1) := by decide +kernel
theorem dX8_findDifference_20 : decode cX8_findDifference 20 = .ok (.iload_n 1, 1) := by decide +kernel
theorem dX8_findDifference_21 : decode cX8_findDifference 21 = .ok (.imul, 1) := by decide +kernel
theorem dX8_findDifference_22 : decode cX8_findDifference 22 = .ok (.isub, 1) := by decide +kernel
theorem dX8_findDifference_23 : decode cX8_findDifference 23 = .ok (.invokestatic 85, 3) := by decide +kernel
theorem dX8_findDifference_26 : decode cX8_findDifference 26 = .ok (.istore_n 2, 1) := by decide +kernel
theorem dX8_findDifference_27 : decode cX8_findDifference 27 = .ok (.aload_n 0, 1) := by decide +kernel
theorem dX8_findDifference_28 : decode cX8_findDifference 28 = .ok (.iload_n 1, 1) := by decide +kernel
theorem dX8_findDifference_29 : decode cX8_findDifference 29 = .ok (.invokevirtual 90, 3) := by decide +kernel
theorem dX8_findDifference_32 : decode cX8_findDifference 32 = .ok (.ifCond .eq 24, 3) := by decide +kernel
theorem dX8_findDifference_35 : decode cX8_findDifference 35 = .ok (.aload_n 0, 1) := by decide +kernel
theorem dX8_findDifference_36 : decode cX8_findDifference 36 = .ok (.getfield 20, 3) := by decide +kernel
theorem dX8_findDifference_39 : decode cX8_findDifference 39 = .ok (.iconst (-1), 1) := by decide +kernel
theorem dX8_findDifference_40 : decode cX8_findDifference 40 = .ok (.if_icmp .eq 11, 3) := by decide +kernel
theorem dX8_findDifference_43 : decode cX8_findDifference 43 = .ok (.iload_n 2, 1) := by decide +kernel
theorem dX8_findDifference_44 : decode cX8_findDifference 44 = .ok (.aload_n 0, 1) := by decide +kernel
theorem dX8_findDifference_45 : decode cX8_findDifference 45 = .ok (.getfield 20, 3) := by decide +kernel
theorem dX8_findDifference_48 : decode cX8_findDifference 48 = .ok (.if_icmp .ge 8, 3) := by decide +kernel
theorem dX8_findDifference_51 : decode cX8_findDifference 51 = .ok (.aload_n 0, 1) := by decide +kernel
theorem dX8_findDifference_52 : decode cX8_findDifference 52 = .ok (.iload_n 2, 1) := by decide +kernel
theorem dX8_findDifference_53 : decode cX8_findDifference 53 = .ok (.putfield 20, 3) := by decide +kernel
theorem dX8_findDifference_56 : decode cX8_findDifference 56 = .ok (.iinc 1 1, 3) := by decide +kernel
theorem dX8_findDifference_59 : decode cX8_findDifference 59 = .ok (.goto (-52), 3) := by decide +kernel
theorem dX8_findDifference_62 : decode cX8_findDifference 62 = .ok (.return_, 1) := by decide +kernel
theorem dX8_isWay_0 : decode cX8_isWay 0 = .ok (.aload_n 0, 1) := by decide +kernel
theorem dX8_isWay_1 : decode cX8_isWay 1 = .ok (.getfield 42, 3) := by decide +kernel
theorem dX8_isWay_4 : decode cX8_isWay 4 = .ok (.iload_n 1, 1) := by decide +kernel
theorem dX8_isWay_5 : decode cX8_isWay 5 = .ok (.iaload, 1) := by decide +kernel
theorem dX8_isWay_6 : decode cX8_isWay 6 = .ok (.iconst (-1), 1) := by decide +kernel
theorem dX8_isWay_7 : decode cX8_isWay 7 = .ok (.if_icmp .eq 28, 3) := by decide +kernel
theorem dX8_isWay_10 : decode cX8_isWay 10 = .ok (.iload_n 1, 1) := by decide +kernel
theorem dX8_isWay_11 : decode cX8_isWay 11 = .ok (.aload_n 0, 1) := by decide +kernel
theorem dX8_isWay_12 : decode cX8_isWay 12 = .ok (.getfield 13, 3) := by decide +kernel
theorem dX8_isWay_15 : decode cX8_isWay 15 = .ok (.if_icmp .gt 20, 3) := by decide +kernel
theorem dX8_isWay_18 : decode cX8_isWay 18 = .ok (.aload_n 0, 1) := by decide +kernel
theorem dX8_isWay_19 : decode cX8_isWay 19 = .ok (.getfield 26, 3) := by decide +kernel
theorem dX8_isWay_22 : decode cX8_isWay 22 = .ok (.iload_n 1, 1) := by decide +kernel
theorem dX8_isWay_23 : decode cX8_isWay 23 = .ok (.isub, 1) := by decide +kernel
theorem dX8_isWay_24 : decode cX8_isWay 24 = .ok (.aload_n 0, 1) := by decide +kernel
theorem dX8_isWay_25 : decode cX8_isWay 25 = .ok (.getfield 17, 3) := by decide +kernel
theorem dX8_isWay_28 : decode cX8_isWay 28 = .ok (.if_icmp .gt 7, 3) := by decide +kernel
theorem dX8_isWay_31 : decode cX8_isWay 31 = .ok (.iconst 1, 1) := by decide +kernel
theorem dX8_isWay_32 : decode cX8_isWay 32 = .ok (.goto 4, 3) := by decide +kernel
theorem dX8_isWay_35 : decode cX8_isWay 35 = .ok (.iconst 0, 1) := by decide +kernel
theorem dX8_isWay_36 : decode cX8_isWay 36 = .ok (.ireturn, 1) := by decide +kernel
theorem dX8_partBenches_0 : decode cX8_partBenches 0 = .ok (.iconst 0, 1) := by decide +kernel
theorem dX8_partBenches_1 : decode cX8_partBenches 1 = .ok (.istore_n 1, 1) := by decide +kernel
theorem dX8_partBenches_2 : decode cX8_partBenches 2 = .ok (.iconst 0, 1) := by decide +kernel
theorem dX8_partBenches_3 : decode cX8_partBenches 3 = .ok (.istore_n 2, 1) := by decide +kernel
theorem dX8_partBenches_4 : decode cX8_partBenches 4 = .ok (.iload_n 2, 1) := by decide +kernel
theorem dX8_partBenches_5 : decode cX8_partBenches 5 = .ok (.aload_n 0, 1) := by decide +kernel
theorem dX8_partBenches_6 : decode cX8_partBenches 6 = .ok (.getfield 23, 3) := by decide +kernel
theorem dX8_partBenches_9 : decode cX8_partBenches 9 = .ok (.if_icmp .ge 48, 3) := by decide +kernel
theorem dX8_partBenches_12 : decode cX8_partBenches 12 = .ok (.iload_n 1, 1) := by decide +kernel
theorem dX8_partBenches_13 : decode cX8_partBenches 13 = .ok (.aload_n 0, 1) := by decide +kernel
theorem dX8_partBenches_14 : decode cX8_partBenches 14 = .ok (.getfield 36, 3) := by decide +kernel
theorem dX8_partBenches_17 : decode cX8_partBenches 17 = .ok (.iload_n 2, 1) := by decide +kernel
theorem dX8_partBenches_18 : decode cX8_partBenches 18 = .ok (.iaload, 1) := by decide +kernel
theorem dX8_partBenches_19 : decode cX8_partBenches 19 = .ok (.iadd, 1) := by decide +kernel
theorem dX8_partBenches_20 : decode cX8_partBenches 20 = .ok (.istore_n 3, 1) := by decide +kernel
theorem dX8_partBenches_21 : decode cX8_partBenches 21 = .ok (.aload_n 0, 1) := by decide +kernel
theorem dX8_partBenches_22 : decode cX8_partBenches 22 = .ok (.iload_n 3, 1) := by decide +kernel
theorem dX8_partBenches_23 : decode cX8_partBenches 23 = .ok (.iload_n 2, 1) := by decide +kernel
theorem dX8_partBenches_24 : decode cX8_partBenches 24 = .ok (.iconst 1, 1) := by decide +kernel
theorem dX8_partBenches_25 : decode cX8_partBenches 25 = .ok (.iadd, 1) := by decide +kernel
theorem dX8_partBenches_26 : decode cX8_partBenches 26 = .ok (.invokevirtual 94, 3) := by decide +kernel
theorem dX8_partBenches_29 : decode cX8_partBenches 29 = .ok (.ifCond .eq 15, 3) := by decide +kernel
theorem dX8_partBenches_32 : decode cX8_partBenches 32 = .ok (.aload_n 0, 1) := by decide +kernel
theorem dX8_partBenches_33 : decode cX8_partBenches 33 = .ok (.getfield 39, 3) := by decide +kernel
theorem dX8_partBenches_36 : decode cX8_partBenches 36 = .ok (.iload_n 2, 1) := by decide +kernel
theorem dX8_partBenches_37 : decode cX8_partBenches 37 = .ok (.iconst 0, 1) := by decide +kernel
theorem dX8_partBenches_38 : decode cX8_partBenches 38 = .ok (.iastore, 1) := by decide +kernel
theorem dX8_partBenches_39 : decode cX8_partBenches 39 = .ok (.iload_n 3, 1) := by decide +kernel
theorem dX8_partBenches_40 : decode cX8_partBenches 40 = .ok (.istore_n 1, 1) := by decide +kernel
theorem dX8_partBenches_41 : decode cX8_partBenches 41 = .ok (.goto 10, 3) := by decide +kernel
theorem dX8_partBenches_44 : decode cX8_partBenches 44 = .ok (.aload_n 0, 1) := by decide +kernel
theorem dX8_partBenches_45 : decode cX8_partBenches 45 = .ok (.getfield 39, 3) := by decide +kernel
theorem dX8_partBenches_48 : decode cX8_partBenches 48 = .ok (.iload_n 2, 1) := by decide +kernel
theorem dX8_partBenches_49 : decode cX8_partBenches 49 = .ok (.iconst 1, 1) := by decide +kernel
theorem dX8_partBenches_50 : decode cX8_partBenches 50 = .ok (.iastore, 1) := by decide +kernel
theorem dX8_partBenches_51 : decode cX8_partBenches 51 = .ok (.iinc 2 1, 3) := by decide +kernel
theorem dX8_partBenches_54 : decode cX8_partBenches 54 = .ok (.goto (-50), 3) := by decide +kernel
theorem dX8_partBenches_57 : decode cX8_partBenches 57 = .ok (.return_, 1) := by decide +kernel
theorem dX8_leadsToBest_0 : decode cX8_leadsToBest 0 = .ok (.aload_n 0, 1) := by decide +kernel
theorem dX8_leadsToBest_1 : decode cX8_leadsToBest 1 = .ok (.getfield 20, 3) := by decide +kernel
theorem dX8_leadsToBest_4 : decode cX8_leadsToBest 4 = .ok (.iconst (-1), 1) := by decide +kernel
theorem dX8_leadsToBest_5 : decode cX8_leadsToBest 5 = .ok (.if_icmp .eq 47, 3) := by decide +kernel
theorem dX8_leadsToBest_8 : decode cX8_leadsToBest 8 = .ok (.aload_n 0, 1) := by decide +kernel
theorem dX8_leadsToBest_9 : decode cX8_leadsToBest 9 = .ok (.iload_n 1, 1) := by decide +kernel
theorem dX8_leadsToBest_10 : decode cX8_leadsToBest 10 = .ok (.aload_n 0, 1) := by decide +kernel
theorem dX8_leadsToBest_11 : decode cX8_leadsToBest 11 = .ok (.getfield 26, 3) := by decide +kernel
theorem dX8_leadsToBest_14 : decode cX8_leadsToBest 14 = .ok (.aload_n 0, 1) := by decide +kernel
theorem dX8_leadsToBest_15 : decode cX8_leadsToBest 15 = .ok (.getfield 20, 3) := by decide +kernel
theorem dX8_leadsToBest_18 : decode cX8_leadsToBest 18 = .ok (.isub, 1) := by decide +kernel
theorem dX8_leadsToBest_19 : decode cX8_leadsToBest 19 = .ok (.iconst 2, 1) := by decide +kernel
theorem dX8_leadsToBest_20 : decode cX8_leadsToBest 20 = .ok (.idiv, 1) := by decide +kernel
theorem dX8_leadsToBest_21 : decode cX8_leadsToBest 21 = .ok (.iload_n 2, 1) := by decide +kernel
theorem dX8_leadsToBest_22 : decode cX8_leadsToBest 22 = .ok (.invokevirtual 97, 3) := by decide +kernel
theorem dX8_leadsToBest_25 : decode cX8_leadsToBest 25 = .ok (.ifCond .ne 23, 3) := by decide +kernel
theorem dX8_leadsToBest_28 : decode cX8_leadsToBest 28 = .ok (.aload_n 0, 1) := by decide +kernel
theorem dX8_leadsToBest_29 : decode cX8_leadsToBest 29 = .ok (.iload_n 1, 1) := by decide +kernel
theorem dX8_leadsToBest_30 : decode cX8_leadsToBest 30 = .ok (.aload_n 0, 1) := by decide +kernel
theorem dX8_leadsToBest_31 : decode cX8_leadsToBest 31 = .ok (.getfield 26, 3) := by decide +kernel
theorem dX8_leadsToBest_34 : decode cX8_leadsToBest 34 = .ok (.aload_n 0, 1) := by decide +kernel
theorem dX8_leadsToBest_35 : decode cX8_leadsToBest 35 = .ok (.getfield 20, 3) := by decide +kernel
theorem dX8_leadsToBest_38 : decode cX8_leadsToBest 38 = .ok (.iadd, 1) := by decide +kernel
theorem dX8_leadsToBest_39 : decode cX8_leadsToBest 39 = .ok (.iconst 2, 1) := by decide +kernel
theorem dX8_leadsToBest_40 : decode cX8_leadsToBest 40 = .ok (.idiv, 1) := by decide +kernel
theorem dX8_leadsToBest_41 : decode cX8_leadsToBest 41 = .ok (.iload_n 2, 1) := by decide +kernel
theorem dX8_leadsToBest_42 : decode cX8_leadsToBest 42 = .ok (.invokevirtual 97, 3) := by decide +kernel
theorem dX8_leadsToBest_45 : decode cX8_leadsToBest 45 = .ok (.ifCond .eq 7, 3) := by decide +kernel
theorem dX8_leadsToBest_48 : decode cX8_leadsToBest 48 = .ok (.iconst 1, 1) := by decide +kernel
theorem dX8_leadsToBest_49 : decode cX8_leadsToBest 49 = .ok (.goto 4, 3) := by decide +kernel
theorem dX8_leadsToBest_52 : decode cX8_leadsToBest 52 = .ok (.iconst 0, 1) := by decide +kernel
theorem dX8_leadsToBest_53 : decode cX8_leadsToBest 53 = .ok (.ireturn, 1) := by decide +kernel
theorem dX8_canBecome_0 : decode cX8_canBecome 0 = .ok (.iload_n 1, 1) := by decide +kernel
theorem dX8_canBecome_1 : decode cX8_canBecome 1 = .ok (.iload_n 2, 1) := by decide +kernel
theorem dX8_canBecome_2 : decode cX8_canBecome 2 = .ok (.if_icmp .gt 27, 3) := by decide +kernel
theorem dX8_canBecome_5 : decode cX8_canBecome 5 = .ok (.aload_n 0, 1) := by decide +kernel
theorem dX8_canBecome_6 : decode cX8_canBecome 6 = .ok (.iload_n 2, 1) := by decide +kernel
theorem dX8_canBecome_7 : decode cX8_canBecome 7 = .ok (.invokevirtual 90, 3) := by decide +kernel
theorem dX8_canBecome_10 : decode cX8_canBecome 10 = .ok (.ifCond .eq 19, 3) := by decide +kernel
theorem dX8_canBecome_13 : decode cX8_canBecome 13 = .ok (.aload_n 0, 1) := by decide +kernel
theorem dX8_canBecome_14 : decode cX8_canBecome 14 = .ok (.getfield 42, 3) := by decide +kernel
theorem dX8_canBecome_17 : decode cX8_canBecome 17 = .ok (.iload_n 2, 1) := by decide +kernel
theorem dX8_canBecome_18 : decode cX8_canBecome 18 = .ok (.iload_n 1, 1) := by decide +kernel
theorem dX8_canBecome_19 : decode cX8_canBecome 19 = .ok (.isub, 1) := by decide +kernel
theorem dX8_canBecome_20 : decode cX8_canBecome 20 = .ok (.iaload, 1) := by decide +kernel
theorem dX8_canBecome_21 : decode cX8_canBecome 21 = .ok (.iload_n 3, 1) := by decide +kernel
theorem dX8_canBecome_22 : decode cX8_canBecome 22 = .ok (.if_icmp .lt 7, 3) := by decide +kernel
theorem dX8_canBecome_25 : decode cX8_canBecome 25 = .ok (.iconst 1, 1) := by decide +kernel
theorem dX8_canBecome_26 : decode cX8_canBecome 26 = .ok (.goto 4, 3) := by decide +kernel
theorem dX8_canBecome_29 : decode cX8_canBecome 29 = .ok (.iconst 0, 1) := by decide +kernel
theorem dX8_canBecome_30 : decode cX8_canBecome 30 = .ok (.ireturn, 1) := by decide +kernel
theorem dX8_sittingOf_0 : decode cX8_sittingOf 0 = .ok (.aload_n 0, 1) := by decide +kernel
theorem dX8_sittingOf_1 : decode cX8_sittingOf 1 = .ok (.getfield 20, 3) := by decide +kernel
theorem dX8_sittingOf_4 : decode cX8_sittingOf 4 = .ok (.iconst (-1), 1) := by decide +kernel
theorem dX8_sittingOf_5 : decode cX8_sittingOf 5 = .ok (.if_icmp .eq 13, 3) := by decide +kernel
theorem dX8_sittingOf_8 : decode cX8_sittingOf 8 = .ok (.aload_n 0, 1) := by decide +kernel
theorem dX8_sittingOf_9 : decode cX8_sittingOf 9 = .ok (.getfield 29, 3) := by decide +kernel
theorem dX8_sittingOf_12 : decode cX8_sittingOf 12 = .ok (.iload_n 1, 1) := by decide +kernel
theorem dX8_sittingOf_13 : decode cX8_sittingOf 13 = .ok (.iaload, 1) := by decide +kernel
theorem dX8_sittingOf_14 : decode cX8_sittingOf 14 = .ok (.iconst (-1), 1) := by decide +kernel
theorem dX8_sittingOf_15 : decode cX8_sittingOf 15 = .ok (.if_icmp .ne 7, 3) := by decide +kernel
theorem dX8_sittingOf_18 : decode cX8_sittingOf 18 = .ok (.iconst (-1), 1) := by decide +kernel
theorem dX8_sittingOf_19 : decode cX8_sittingOf 19 = .ok (.goto 14, 3) := by decide +kernel
theorem dX8_sittingOf_22 : decode cX8_sittingOf 22 = .ok (.aload_n 0, 1) := by decide +kernel
theorem dX8_sittingOf_23 : decode cX8_sittingOf 23 = .ok (.getfield 39, 3) := by decide +kernel
theorem dX8_sittingOf_26 : decode cX8_sittingOf 26 = .ok (.aload_n 0, 1) := by decide +kernel
theorem dX8_sittingOf_27 : decode cX8_sittingOf 27 = .ok (.getfield 29, 3) := by decide +kernel
theorem dX8_sittingOf_30 : decode cX8_sittingOf 30 = .ok (.iload_n 1, 1) := by decide +kernel
theorem dX8_sittingOf_31 : decode cX8_sittingOf 31 = .ok (.iaload, 1) := by decide +kernel
theorem dX8_sittingOf_32 : decode cX8_sittingOf 32 = .ok (.iaload, 1) := by decide +kernel
theorem dX8_sittingOf_33 : decode cX8_sittingOf 33 = .ok (.ireturn, 1) := by decide +kernel
theorem dX8_dinners_0 : decode cX8_dinners 0 = .ok (.aload_n 0, 1) := by decide +kernel
theorem dX8_dinners_1 : decode cX8_dinners 1 = .ok (.getfield 20, 3) := by decide +kernel
theorem dX8_dinners_4 : decode cX8_dinners 4 = .ok (.iconst (-1), 1) := by decide +kernel
theorem dX8_dinners_5 : decode cX8_dinners 5 = .ok (.if_icmp .ne 5, 3) := by decide +kernel
theorem dX8_dinners_8 : decode cX8_dinners 8 = .ok (.iconst (-1), 1) := by decide +kernel
theorem dX8_dinners_9 : decode cX8_dinners 9 = .ok (.ireturn, 1) := by decide +kernel
theorem dX8_dinners_10 : decode cX8_dinners 10 = .ok (.iconst 0, 1) := by decide +kernel
theorem dX8_dinners_11 : decode cX8_dinners 11 = .ok (.istore_n 3, 1) := by decide +kernel
theorem dX8_dinners_12 : decode cX8_dinners 12 = .ok (.iconst 0, 1) := by decide +kernel
theorem dX8_dinners_13 : decode cX8_dinners 13 = .ok (.istore 4, 2) := by decide +kernel
theorem dX8_dinners_15 : decode cX8_dinners 15 = .ok (.iconst 0, 1) := by decide +kernel
theorem dX8_dinners_16 : decode cX8_dinners 16 = .ok (.istore 5, 2) := by decide +kernel
theorem dX8_dinners_18 : decode cX8_dinners 18 = .ok (.iload 5, 2) := by decide +kernel
theorem dX8_dinners_20 : decode cX8_dinners 20 = .ok (.aload_n 1, 1) := by decide +kernel
theorem dX8_dinners_21 : decode cX8_dinners 21 = .ok (.getfield 68, 3) := by decide +kernel
theorem dX8_dinners_24 : decode cX8_dinners 24 = .ok (.if_icmp .ge 49, 3) := by decide +kernel
theorem dX8_dinners_27 : decode cX8_dinners 27 = .ok (.aload_n 0, 1) := by decide +kernel
theorem dX8_dinners_28 : decode cX8_dinners 28 = .ok (.iload 5, 2) := by decide +kernel
theorem dX8_dinners_30 : decode cX8_dinners 30 = .ok (.invokevirtual 100, 3) := by decide +kernel
theorem dX8_dinners_33 : decode cX8_dinners 33 = .ok (.iload_n 2, 1) := by decide +kernel
theorem dX8_dinners_34 : decode cX8_dinners 34 = .ok (.if_icmp .ne 33, 3) := by decide +kernel
theorem dX8_dinners_37 : decode cX8_dinners 37 = .ok (.iload_n 3, 1) := by decide +kernel
theorem dX8_dinners_38 : decode cX8_dinners 38 = .ok (.aload_n 1, 1) := by decide +kernel
theorem dX8_dinners_39 : decode cX8_dinners 39 = .ok (.getfield 82, 3) := by decide +kernel
theorem dX8_dinners_42 : decode cX8_dinners 42 = .ok (.iload 5, 2) := by decide +kernel
theorem dX8_dinners_44 : decode cX8_dinners 44 = .ok (.iaload, 1) := by decide +kernel
theorem dX8_dinners_45 : decode cX8_dinners 45 = .ok (.aload_n 1, 1) := by decide +kernel
theorem dX8_dinners_46 : decode cX8_dinners 46 = .ok (.getfield 103, 3) := by decide +kernel
theorem dX8_dinners_49 : decode cX8_dinners 49 = .ok (.iload 5, 2) := by decide +kernel
theorem dX8_dinners_51 : decode cX8_dinners 51 = .ok (.iaload, 1) := by decide +kernel
theorem dX8_dinners_52 : decode cX8_dinners 52 = .ok (.isub, 1) := by decide +kernel
theorem dX8_dinners_53 : decode cX8_dinners 53 = .ok (.iadd, 1) := by decide +kernel
theorem dX8_dinners_54 : decode cX8_dinners 54 = .ok (.istore_n 3, 1) := by decide +kernel
theorem dX8_dinners_55 : decode cX8_dinners 55 = .ok (.iload 4, 2) := by decide +kernel
theorem dX8_dinners_57 : decode cX8_dinners 57 = .ok (.aload_n 1, 1) := by decide +kernel
theorem dX8_dinners_58 : decode cX8_dinners 58 = .ok (.getfield 103, 3) := by decide +kernel
theorem dX8_dinners_61 : decode cX8_dinners 61 = .ok (.iload 5, 2) := by decide +kernel
theorem dX8_dinners_63 : decode cX8_dinners 63 = .ok (.iaload, 1) := by decide +kernel
theorem dX8_dinners_64 : decode cX8_dinners 64 = .ok (.iadd, 1) := by decide +kernel
theorem dX8_dinners_65 : decode cX8_dinners 65 = .ok (.istore 4, 2) := by decide +kernel
theorem dX8_dinners_67 : decode cX8_dinners 67 = .ok (.iinc 5 1, 3) := by decide +kernel
theorem dX8_dinners_70 : decode cX8_dinners 70 = .ok (.goto (-52), 3) := by decide +kernel
theorem dX8_dinners_73 : decode cX8_dinners 73 = .ok (.iload_n 3, 1) := by decide +kernel
theorem dX8_dinners_74 : decode cX8_dinners 74 = .ok (.iload 4, 2) := by decide +kernel
theorem dX8_dinners_76 : decode cX8_dinners 76 = .ok (.iconst 2, 1) := by decide +kernel
theorem dX8_dinners_77 : decode cX8_dinners 77 = .ok (.idiv, 1) := by decide +kernel
theorem dX8_dinners_78 : decode cX8_dinners 78 = .ok (.iadd, 1) := by decide +kernel
theorem dX8_dinners_79 : decode cX8_dinners 79 = .ok (.ireturn, 1) := by decide +kernel
end
section
theorem dX9_init_0 : decode cX9_init 0 = .ok (.aload_n 0, 1) := by decide +kernel
theorem dX9_init_1 : decode cX9_init 1 = .ok (.invokespecial 1, 3) := by decide +kernel
theorem dX9_init_4 : decode cX9_init 4 = .ok (.aload_n 0, 1) := by decide +kernel
theorem dX9_init_5 : decode cX9_init 5 = .ok (.new 7, 3) := by decide +kernel
theorem dX9_init_8 : decode cX9_init 8 = .ok (.dup, 1) := by decide +kernel
theorem dX9_init_9 : decode cX9_init 9 = .ok (.invokespecial 9, 3) := by decide +kernel
theorem dX9_init_12 : decode cX9_init 12 = .ok (.putfield 10, 3) := by decide +kernel
theorem dX9_init_15 : decode cX9_init 15 = .ok (.aload_n 0, 1) := by decide +kernel
theorem dX9_init_16 : decode cX9_init 16 = .ok (.new 16, 3) := by decide +kernel
theorem dX9_init_19 : decode cX9_init 19 = .ok (.dup, 1) := by decide +kernel
theorem dX9_init_20 : decode cX9_init 20 = .ok (.invokespecial 18, 3) := by decide +kernel
theorem dX9_init_23 : decode cX9_init 23 = .ok (.putfield 19, 3) := by decide +kernel
theorem dX9_init_26 : decode cX9_init 26 = .ok (.aload_n 0, 1) := by decide +kernel
theorem dX9_init_27 : decode cX9_init 27 = .ok (.new 23, 3) := by decide +kernel
theorem dX9_init_30 : decode cX9_init 30 = .ok (.dup, 1) := by decide +kernel
theorem dX9_init_31 : decode cX9_init 31 = .ok (.invokespecial 25, 3) := by decide +kernel
theorem dX9_init_34 : decode cX9_init 34 = .ok (.putfield 26, 3) := by decide +kernel
theorem dX9_init_37 : decode cX9_init 37 = .ok (.aload_n 0, 1) := by decide +kernel
theorem dX9_init_38 : decode cX9_init 38 = .ok (.new 30, 3) := by decide +kernel
theorem dX9_init_41 : decode cX9_init 41 = .ok (.dup, 1) := by decide +kernel
theorem dX9_init_42 : decode cX9_init 42 = .ok (.invokespecial 32, 3) := by decide +kernel
theorem dX9_init_45 : decode cX9_init 45 = .ok (.putfield 33, 3) := by decide +kernel
theorem dX9_init_48 : decode cX9_init 48 = .ok (.aload_n 0, 1) := by decide +kernel
theorem dX9_init_49 : decode cX9_init 49 = .ok (.new 37, 3) := by decide +kernel
theorem dX9_init_52 : decode cX9_init 52 = .ok (.dup, 1) := by decide +kernel
theorem dX9_init_53 : decode cX9_init 53 = .ok (.invokespecial 39, 3) := by decide +kernel
theorem dX9_init_56 : decode cX9_init 56 = .ok (.putfield 40, 3) := by decide +kernel
theorem dX9_init_59 : decode cX9_init 59 = .ok (.aload_n 0, 1) := by decide +kernel
theorem dX9_init_60 : decode cX9_init 60 = .ok (.new 44, 3) := by decide +kernel
theorem dX9_init_63 : decode cX9_init 63 = .ok (.dup, 1) := by decide +kernel
theorem dX9_init_64 : decode cX9_init 64 = .ok (.invokespecial 46, 3) := by decide +kernel
theorem dX9_init_67 : decode cX9_init 67 = .ok (.putfield 47, 3) := by decide +kernel
theorem dX9_init_70 : decode cX9_init 70 = .ok (.aload_n 0, 1) := by decide +kernel
theorem dX9_init_71 : decode cX9_init 71 = .ok (.new 51, 3) := by decide +kernel
theorem dX9_init_74 : decode cX9_init 74 = .ok (.dup, 1) := by decide +kernel
theorem dX9_init_75 : decode cX9_init 75 = .ok (.invokespecial 53, 3) := by decide +kernel
theorem dX9_init_78 : decode cX9_init 78 = .ok (.putfield 54, 3) := by decide +kernel
theorem dX9_init_81 : decode cX9_init 81 = .ok (.return_, 1) := by decide +kernel
theorem dX9_hut_0 : decode cX9_hut 0 = .ok (.aload_n 0, 1) := by decide +kernel
theorem dX9_hut_1 : decode cX9_hut 1 = .ok (.getfield 10, 3) := by decide +kernel
theorem dX9_hut_4 : decode cX9_hut 4 = .ok (.getfield 58, 3) := by decide +kernel
theorem dX9_hut_7 : decode cX9_hut 7 = .ok (.iload_n 1, 1) := by decide +kernel
theorem dX9_hut_8 : decode cX9_hut 8 = .ok (.iload_n 2, 1) := by decide +kernel
theorem dX9_hut_9 : decode cX9_hut 9 = .ok (.invokevirtual 62, 3) := by decide +kernel
theorem dX9_hut_12 : decode cX9_hut 12 = .ok (.ireturn, 1) := by decide +kernel
theorem dX9_party_0 : decode cX9_party 0 = .ok (.aload_n 0, 1) := by decide +kernel
theorem dX9_party_1 : decode cX9_party 1 = .ok (.getfield 10, 3) := by decide +kernel
theorem dX9_party_4 : decode cX9_party 4 = .ok (.getfield 68, 3) := by decide +kernel
theorem dX9_party_7 : decode cX9_party 7 = .ok (.iload_n 1, 1) := by decide +kernel
theorem dX9_party_8 : decode cX9_party 8 = .ok (.iload_n 2, 1) := by decide +kernel
theorem dX9_party_9 : decode cX9_party 9 = .ok (.iload_n 3, 1) := by decide +kernel
theorem dX9_party_10 : decode cX9_party 10 = .ok (.iload 4, 2) := by decide +kernel
theorem dX9_party_12 : decode cX9_party 12 = .ok (.iload 5, 2) := by decide +kernel
theorem dX9_party_14 : decode cX9_party 14 = .ok (.invokevirtual 72, 3) := by decide +kernel
theorem dX9_party_17 : decode cX9_party 17 = .ok (.ireturn, 1) := by decide +kernel
theorem dX9_tell_0 : decode cX9_tell 0 = .ok (.aload_n 0, 1) := by decide +kernel
theorem dX9_tell_1 : decode cX9_tell 1 = .ok (.getfield 10, 3) := by decide +kernel
theorem dX9_tell_4 : decode cX9_tell 4 = .ok (.iload_n 1, 1) := by decide +kernel
theorem dX9_tell_5 : decode cX9_tell 5 = .ok (.iload_n 2, 1) := by decide +kernel
theorem dX9_tell_6 : decode cX9_tell 6 = .ok (.iload_n 3, 1) := by decide +kernel
theorem dX9_tell_7 : decode cX9_tell 7 = .ok (.invokevirtual 77, 3) := by decide +kernel
theorem dX9_tell_10 : decode cX9_tell 10 = .ok (.ireturn, 1) := by decide +kernel
theorem dX9_lodge_0 : decode cX9_lodge 0 = .ok (.aload_n 0, 1) := by decide +kernel
theorem dX9_lodge_1 : decode cX9_lodge 1 = .ok (.getfield 10, 3) := by decide +kernel
theorem dX9_lodge_4 : decode cX9_lodge 4 = .ok (.iload_n 1, 1) := by decide +kernel
theorem dX9_lodge_5 : decode cX9_lodge 5 = .ok (.invokevirtual 81, 3) := by decide +kernel
theorem dX9_lodge_8 : decode cX9_lodge 8 = .ok (.ireturn, 1) := by decide +kernel
theorem dX9_moved_0 : decode cX9_moved 0 = .ok (.aload_n 0, 1) := by decide +kernel
theorem dX9_moved_1 : decode cX9_moved 1 = .ok (.getfield 10, 3) := by decide +kernel
theorem dX9_moved_4 : decode cX9_moved 4 = .ok (.getfield 85, 3) := by decide +kernel
theorem dX9_moved_7 : decode cX9_moved 7 = .ok (.ireturn, 1) := by decide +kernel
theorem dX9_leave_0 : decode cX9_leave 0 = .ok (.aload_n 0, 1) := by decide +kernel
theorem dX9_leave_1 : decode cX9_leave 1 = .ok (.getfield 10, 3) := by decide +kernel
theorem dX9_leave_4 : decode cX9_leave 4 = .ok (.getfield 68, 3) := by decide +kernel
theorem dX9_leave_7 : decode cX9_leave 7 = .ok (.iload_n 1, 1) := by decide +kernel
theorem dX9_leave_8 : decode cX9_leave 8 = .ok (.invokevirtual 89, 3) := by decide +kernel
theorem dX9_leave_11 : decode cX9_leave 11 = .ok (.ireturn, 1) := by decide +kernel
theorem dX9_about_0 : decode cX9_about 0 = .ok (.aload_n 0, 1) := by decide +kernel
theorem dX9_about_1 : decode cX9_about 1 = .ok (.getfield 10, 3) := by decide +kernel
theorem dX9_about_4 : decode cX9_about 4 = .ok (.getfield 68, 3) := by decide +kernel
theorem dX9_about_7 : decode cX9_about 7 = .ok (.iload_n 1, 1) := by decide +kernel
theorem dX9_about_8 : decode cX9_about 8 = .ok (.iload_n 2, 1) := by decide +kernel
theorem dX9_about_9 : decode cX9_about 9 = .ok (.invokevirtual 92, 3) := by decide +kernel
theorem dX9_about_12 : decode cX9_about 12 = .ok (.ireturn, 1) := by decide +kernel
theorem dX9_in_0 : decode cX9_in 0 = .ok (.aload_n 0, 1) := by decide +kernel
theorem dX9_in_1 : decode cX9_in 1 = .ok (.getfield 10, 3) := by decide +kernel
theorem dX9_in_4 : decode cX9_in 4 = .ok (.iload_n 1, 1) := by decide +kernel
theorem dX9_in_5 : decode cX9_in 5 = .ok (.iload_n 2, 1) := by decide +kernel
theorem dX9_in_6 : decode cX9_in 6 = .ok (.invokevirtual 95, 3) := by decide +kernel
theorem dX9_in_9 : decode cX9_in 9 = .ok (.ireturn, 1) := by decide +kernel
theorem dX9_empty_0 : decode cX9_empty 0 = .ok (.aload_n 0, 1) := by decide +kernel
theorem dX9_empty_1 : decode cX9_empty 1 = .ok (.getfield 10, 3) := by decide +kernel
theorem dX9_empty_4 : decode cX9_empty 4 = .ok (.iload_n 1, 1) := by decide +kernel
theorem dX9_empty_5 : decode cX9_empty 5 = .ok (.invokevirtual 98, 3) := by decide +kernel
theorem dX9_empty_8 : decode cX9_empty 8 = .ok (.ireturn, 1) := by decide +kernel
theorem dX9_seats_0 : decode cX9_seats 0 = .ok (.aload_n 0, 1) := by decide +kernel
theorem dX9_seats_1 : decode cX9_seats 1 = .ok (.getfield 19, 3) := by decide +kernel
theorem dX9_seats_4 : decode cX9_seats 4 = .ok (.iload_n 1, 1) := by decide +kernel
theorem dX9_seats_5 : decode cX9_seats 5 = .ok (.iload_n 2, 1) := by decide +kernel
theorem dX9_seats_6 : decode cX9_seats 6 = .ok (.invokevirtual 101, 3) := by decide +kernel
theorem dX9_seats_9 : decode cX9_seats 9 = .ok (.ireturn, 1) := by decide +kernel
theorem dX9_apart_0 : decode cX9_apart 0 = .ok (.iload_n 1, 1) := by decide +kernel
theorem dX9_apart_1 : decode cX9_apart 1 = .ok (.invokestatic 104, 3) := by decide +kernel
theorem dX9_apart_4 : decode cX9_apart 4 = .ok (.ifCond .ne 6, 3) := by decide +kernel
theorem dX9_apart_7 : decode cX9_apart 7 = .ok (.bipush (-2), 2) := by decide +kernel
theorem dX9_apart_9 : decode cX9_apart 9 = .ok (.ireturn, 1) := by decide +kernel
theorem dX9_apart_10 : decode cX9_apart 10 = .ok (.aload_n 0, 1) := by decide +kernel
theorem dX9_apart_11 : decode cX9_apart 11 = .ok (.getfield 19, 3) := by decide +kernel
theorem dX9_apart_14 : decode cX9_apart 14 = .ok (.aload_n 0, 1) := by decide +kernel
theorem dX9_apart_15 : decode cX9_apart 15 = .ok (.getfield 10, 3) := by decide +kernel
theorem dX9_apart_18 : decode cX9_apart 18 = .ok (.getfield 68, 3) := by decide +kernel
theorem dX9_apart_21 : decode cX9_apart 21 = .ok (.iload_n 1, 1) := by decide +kernel
theorem dX9_apart_22 : decode cX9_apart 22 = .ok (.invokevirtual 108, 3) := by decide +kernel
theorem dX9_apart_25 : decode cX9_apart 25 = .ok (.aload_n 0, 1) := by decide +kernel
theorem dX9_apart_26 : decode cX9_apart 26 = .ok (.getfield 19, 3) := by decide +kernel
theorem dX9_apart_29 : decode cX9_apart 29 = .ok (.getfield 112, 3) := by decide +kernel
theorem dX9_apart_32 : decode cX9_apart 32 = .ok (.ireturn, 1) := by decide +kernel
theorem dX9_sits_0 : decode cX9_sits 0 = .ok (.aload_n 0, 1) := by decide +kernel
theorem dX9_sits_1 : decode cX9_sits 1 = .ok (.getfield 10, 3) := by decide +kernel
theorem dX9_sits_4 : decode cX9_sits 4 = .ok (.getfield 68, 3) := by decide +kernel
theorem dX9_sits_7 : decode cX9_sits 7 = .ok (.iload_n 1, 1) := by decide +kernel
theorem dX9_sits_8 : decode cX9_sits 8 = .ok (.invokevirtual 115, 3) := by decide +kernel
theorem dX9_sits_11 : decode cX9_sits 11 = .ok (.ifCond .eq 10, 3) := by decide +kernel
theorem dX9_sits_14 : decode cX9_sits 14 = .ok (.iload_n 2, 1) := by decide +kernel
theorem dX9_sits_15 : decode cX9_sits 15 = .ok (.invokestatic 104, 3) := by decide +kernel
theorem dX9_sits_18 : decode cX9_sits 18 = .ok (.ifCond .ne 6, 3) := by decide +kernel
theorem dX9_sits_21 : decode cX9_sits 21 = .ok (.bipush (-2), 2) := by decide +kernel
theorem dX9_sits_23 : decode cX9_sits 23 = .ok (.ireturn, 1) := by decide +kernel
theorem dX9_sits_24 : decode cX9_sits 24 = .ok (.aload_n 0, 1) := by decide +kernel
theorem dX9_sits_25 : decode cX9_sits 25 = .ok (.getfield 19, 3) := by decide +kernel
theorem dX9_sits_28 : decode cX9_sits 28 = .ok (.aload_n 0, 1) := by decide +kernel
theorem dX9_sits_29 : decode cX9_sits 29 = .ok (.getfield 10, 3) := by decide +kernel
theorem dX9_sits_32 : decode cX9_sits 32 = .ok (.getfield 68, 3) := by decide +kernel
theorem dX9_sits_35 : decode cX9_sits 35 = .ok (.iload_n 2, 1) := by decide +kernel
theorem dX9_sits_36 : decode cX9_sits 36 = .ok (.invokevirtual 108, 3) := by decide +kernel
theorem dX9_sits_39 : decode cX9_sits 39 = .ok (.aload_n 0, 1) := by decide +kernel
theorem dX9_sits_40 : decode cX9_sits 40 = .ok (.getfield 19, 3) := by decide +kernel
theorem dX9_sits_43 : decode cX9_sits 43 = .ok (.iload_n 1, 1) := by decide +kernel
theorem dX9_sits_44 : decode cX9_sits 44 = .ok (.invokevirtual 118, 3) := by decide +kernel
theorem dX9_sits_47 : decode cX9_sits 47 = .ok (.ireturn, 1) := by decide +kernel
theorem dX9_more_0 : decode cX9_more 0 = .ok (.aload_n 0, 1) := by decide +kernel
theorem dX9_more_1 : decode cX9_more 1 = .ok (.getfield 26, 3) := by decide +kernel
theorem dX9_more_4 : decode cX9_more 4 = .ok (.iload_n 1, 1) := by decide +kernel
theorem dX9_more_5 : decode cX9_more 5 = .ok (.invokevirtual 121, 3) := by decide +kernel
theorem dX9_more_8 : decode cX9_more 8 = .ok (.ireturn, 1) := by decide +kernel
theorem dX9_foretell_0 : decode cX9_foretell 0 = .ok (.iload_n 1, 1) := by decide +kernel
theorem dX9_foretell_1 : decode cX9_foretell 1 = .ok (.invokestatic 104, 3) := by decide +kernel
theorem dX9_foretell_4 : decode cX9_foretell 4 = .ok (.ifCond .eq 12, 3) := by decide +kernel
theorem dX9_foretell_7 : decode cX9_foretell 7 = .ok (.iload_n 2, 1) := by decide +kernel
theorem dX9_foretell_8 : decode cX9_foretell 8 = .ok (.iconst 0, 1) := by decide +kernel
theorem dX9_foretell_9 : decode cX9_foretell 9 = .ok (.iconst 1, 1) := by decide +kernel
theorem dX9_foretell_10 : decode cX9_foretell 10 = .ok (.invokestatic 124, 3) := by decide +kernel
theorem dX9_foretell_13 : decode cX9_foretell 13 = .ok (.ifCond .ne 6, 3) := by decide +kernel
theorem dX9_foretell_16 : decode cX9_foretell 16 = .ok (.bipush (-2), 2) := by decide +kernel
theorem dX9_foretell_18 : decode cX9_foretell 18 = .ok (.ireturn, 1) := by decide +kernel
theorem dX9_foretell_19 : decode cX9_foretell 19 = .ok (.aload_n 0, 1) := by decide +kernel
theorem dX9_foretell_20 : decode cX9_foretell 20 = .ok (.getfield 19, 3) := by decide +kernel
theorem dX9_foretell_23 : decode cX9_foretell 23 = .ok (.aload_n 0, 1) := by decide +kernel
theorem dX9_foretell_24 : decode cX9_foretell 24 = .ok (.getfield 10, 3) := by decide +kernel
theorem dX9_foretell_27 : decode cX9_foretell 27 = .ok (.getfield 68, 3) := by decide +kernel
theorem dX9_foretell_30 : decode cX9_foretell 30 = .ok (.iload_n 1, 1) := by decide +kernel
theorem dX9_foretell_31 : decode cX9_foretell 31 = .ok (.invokevirtual 108, 3) := by decide +kernel
theorem dX9_foretell_34 : decode cX9_foretell 34 = .ok (.aload_n 0, 1) := by decide +kernel
theorem dX9_foretell_35 : decode cX9_foretell 35 = .ok (.getfield 19, 3) := by decide +kernel
theorem dX9_foretell_38 : decode cX9_foretell 38 = .ok (.aload_n 0, 1) := by decide +kernel
theorem dX9_foretell_39 : decode cX9_foretell 39 = .ok (.getfield 10, 3) := by decide +kernel
theorem dX9_foretell_42 : decode cX9_foretell 42 = .ok (.getfield 68, 3) := by decide +kernel
theorem dX9_foretell_45 : decode cX9_foretell 45 = .ok (.iload_n 2, 1) := by decide +kernel
theorem dX9_foretell_46 : decode cX9_foretell 46 = .ok (.invokevirtual 128, 3) := by decide +kernel
theorem dX9_foretell_49 : decode cX9_foretell 49 = .ok (.ireturn, 1) := by decide +kernel
theorem dX9_cook_0 : decode cX9_cook 0 = .ok (.iload_n 3, 1) := by decide +kernel
theorem dX9_cook_1 : decode cX9_cook 1 = .ok (.iconst 0, 1) := by decide +kernel
theorem dX9_cook_2 : decode cX9_cook 2 = .ok (.sipush 500, 3) := by decide +kernel
theorem dX9_cook_5 : decode cX9_cook 5 = .ok (.invokestatic 124, 3) := by decide +kernel
theorem dX9_cook_8 : decode cX9_cook 8 = .ok (.ifCond .ne 6, 3) := by decide +kernel
theorem dX9_cook_11 : decode cX9_cook 11 = .ok (.bipush (-2), 2) := by decide +kernel
theorem dX9_cook_13 : decode cX9_cook 13 = .ok (.ireturn, 1) := by decide +kernel
theorem dX9_cook_14 : decode cX9_cook 14 = .ok (.aload_n 0, 1) := by decide +kernel
theorem dX9_cook_15 : decode cX9_cook 15 = .ok (.iload_n 1, 1) := by decide +kernel
theorem dX9_cook_16 : decode cX9_cook 16 = .ok (.iload_n 2, 1) := by decide +kernel
theorem dX9_cook_17 : decode cX9_cook 17 = .ok (.invokevirtual 132, 3) := by decide +kernel
theorem dX9_cook_20 : decode cX9_cook 20 = .ok (.istore 4, 2) := by decide +kernel
theorem dX9_cook_22 : decode cX9_cook 22 = .ok (.iload 4, 2) := by decide +kernel
theorem dX9_cook_24 : decode cX9_cook 24 = .ok (.bipush (-2), 2) := by decide +kernel
theorem dX9_cook_26 : decode cX9_cook 26 = .ok (.if_icmp .ne 6, 3) := by decide +kernel
theorem dX9_cook_29 : decode cX9_cook 29 = .ok (.bipush (-2), 2) := by decide +kernel
theorem dX9_cook_31 : decode cX9_cook 31 = .ok (.ireturn, 1) := by decide +kernel
theorem dX9_cook_32 : decode cX9_cook 32 = .ok (.iload 4, 2) := by decide +kernel
theorem dX9_cook_34 : decode cX9_cook 34 = .ok (.iconst (-1), 1) := by decide +kernel
theorem dX9_cook_35 : decode cX9_cook 35 = .ok (.if_icmp .ne 8, 3) := by decide +kernel
theorem dX9_cook_38 : decode cX9_cook 38 = .ok (.bipush (-3), 2) := by decide +kernel
theorem dX9_cook_40 : decode cX9_cook 40 = .ok (.goto 15, 3) := by decide +kernel
theorem dX9_cook_43 : decode cX9_cook 43 = .ok (.aload_n 0, 1) := by decide +kernel
theorem dX9_cook_44 : decode cX9_cook 44 = .ok (.getfield 26, 3) := by decide +kernel
theorem dX9_cook_47 : decode cX9_cook 47 = .ok (.iload_n 1, 1) := by decide +kernel
theorem dX9_cook_48 : decode cX9_cook 48 = .ok (.iload_n 2, 1) := by decide +kernel
theorem dX9_cook_49 : decode cX9_cook 49 = .ok (.iload 4, 2) := by decide +kernel
theorem dX9_cook_51 : decode cX9_cook 51 = .ok (.iload_n 3, 1) := by decide +kernel
theorem dX9_cook_52 : decode cX9_cook 52 = .ok (.invokevirtual 135, 3) := by decide +kernel
theorem dX9_cook_55 : decode cX9_cook 55 = .ok (.ireturn, 1) := by decide +kernel
theorem dX9_line_0 : decode cX9_line 0 = .ok (.aload_n 0, 1) := by decide +kernel
theorem dX9_line_1 : decode cX9_line 1 = .ok (.getfield 26, 3) := by decide +kernel
theorem dX9_line_4 : decode cX9_line 4 = .ok (.iload_n 1, 1) := by decide +kernel
theorem dX9_line_5 : decode cX9_line 5 = .ok (.iload_n 2, 1) := by decide +kernel
theorem dX9_line_6 : decode cX9_line 6 = .ok (.invokevirtual 139, 3) := by decide +kernel
theorem dX9_line_9 : decode cX9_line 9 = .ok (.ireturn, 1) := by decide +kernel
theorem dX9_hall_0 : decode cX9_hall 0 = .ok (.aload_n 0, 1) := by decide +kernel
theorem dX9_hall_1 : decode cX9_hall 1 = .ok (.getfield 33, 3) := by decide +kernel
theorem dX9_hall_4 : decode cX9_hall 4 = .ok (.iload_n 1, 1) := by decide +kernel
theorem dX9_hall_5 : decode cX9_hall 5 = .ok (.iload_n 2, 1) := by decide +kernel
theorem dX9_hall_6 : decode cX9_hall 6 = .ok (.invokevirtual 142, 3) := by decide +kernel
theorem dX9_hall_9 : decode cX9_hall 9 = .ok (.ireturn, 1) := by decide +kernel
theorem dX9_show_0 : decode cX9_show 0 = .ok (.aload_n 0, 1) := by decide +kernel
theorem dX9_show_1 : decode cX9_show 1 = .ok (.getfield 33, 3) := by decide +kernel
theorem dX9_show_4 : decode cX9_show 4 = .ok (.iload_n 1, 1) := by decide +kernel
theorem dX9_show_5 : decode cX9_show 5 = .ok (.iload_n 2, 1) := by decide +kernel
theorem dX9_show_6 : decode cX9_show 6 = .ok (.iload_n 3, 1) := by decide +kernel
theorem dX9_show_7 : decode cX9_show 7 = .ok (.invokevirtual 145, 3) := by decide +kernel
theorem dX9_show_10 : decode cX9_show 10 = .ok (.ireturn, 1) := by decide +kernel
theorem dX9_wish_0 : decode cX9_wish 0 = .ok (.aload_n 0, 1) := by decide +kernel
theorem dX9_wish_1 : decode cX9_wish 1 = .ok (.getfield 10, 3) := by decide +kernel
theorem dX9_wish_4 : decode cX9_wish 4 = .ok (.getfield 68, 3) := by decide +kernel
theorem dX9_wish_7 : decode cX9_wish 7 = .ok (.iload_n 1, 1) := by decide +kernel
theorem dX9_wish_8 : decode cX9_wish 8 = .ok (.invokevirtual 115, 3) := by decide +kernel
theorem dX9_wish_11 : decode cX9_wish 11 = .ok (.ifCond .eq 15, 3) := by decide +kernel
theorem dX9_wish_14 : decode cX9_wish 14 = .ok (.aload_n 0, 1) := by decide +kernel
theorem dX9_wish_15 : decode cX9_wish 15 = .ok (.getfield 33, 3) := by decide +kernel
theorem dX9_wish_18 : decode cX9_wish 18 = .ok (.iload_n 1, 1) := by decide +kernel
theorem dX9_wish_19 : decode cX9_wish 19 = .ok (.iload_n 2, 1) := by decide +kernel
theorem dX9_wish_20 : decode cX9_wish 20 = .ok (.invokevirtual 147, 3) := by decide +kernel
theorem dX9_wish_23 : decode cX9_wish 23 = .ok (.goto 5, 3) := by decide +kernel
theorem dX9_wish_26 : decode cX9_wish 26 = .ok (.bipush (-2), 2) := by decide +kernel
theorem dX9_wish_28 : decode cX9_wish 28 = .ok (.ireturn, 1) := by decide +kernel
theorem dX9_wet_0 : decode cX9_wet 0 = .ok (.iload_n 1, 1) := by decide +kernel
theorem dX9_wet_1 : decode cX9_wet 1 = .ok (.invokestatic 150, 3) := by decide +kernel
theorem dX9_wet_4 : decode cX9_wet 4 = .ok (.ifCond .ne 6, 3) := by decide +kernel
theorem dX9_wet_7 : decode cX9_wet 7 = .ok (.bipush (-2), 2) := by decide +kernel
theorem dX9_wet_9 : decode cX9_wet 9 = .ok (.ireturn, 1) := by decide +kernel
theorem dX9_wet_10 : decode cX9_wet 10 = .ok (.aload_n 0, 1) := by decide +kernel
theorem dX9_wet_11 : decode cX9_wet 11 = .ok (.getfield 54, 3) := by decide +kernel
theorem dX9_wet_14 : decode cX9_wet 14 = .ok (.iload_n 1, 1) := by decide +kernel
theorem dX9_wet_15 : decode cX9_wet 15 = .ok (.invokevirtual 153, 3) := by decide +kernel
theorem dX9_wet_18 : decode cX9_wet 18 = .ok (.ifCond .eq 7, 3) := by decide +kernel
theorem dX9_wet_21 : decode cX9_wet 21 = .ok (.iconst 1, 1) := by decide +kernel
theorem dX9_wet_22 : decode cX9_wet 22 = .ok (.goto 4, 3) := by decide +kernel
theorem dX9_wet_25 : decode cX9_wet 25 = .ok (.iconst 0, 1) := by decide +kernel
theorem dX9_wet_26 : decode cX9_wet 26 = .ok (.ireturn, 1) := by decide +kernel
theorem dX9_where_0 : decode cX9_where 0 = .ok (.aload_n 0, 1) := by decide +kernel
theorem dX9_where_1 : decode cX9_where 1 = .ok (.getfield 33, 3) := by decide +kernel
theorem dX9_where_4 : decode cX9_where 4 = .ok (.iload_n 1, 1) := by decide +kernel
theorem dX9_where_5 : decode cX9_where 5 = .ok (.invokevirtual 156, 3) := by decide +kernel
theorem dX9_where_8 : decode cX9_where 8 = .ok (.ifCond .eq 30, 3) := by decide +kernel
theorem dX9_where_11 : decode cX9_where 11 = .ok (.aload_n 0, 1) := by decide +kernel
theorem dX9_where_12 : decode cX9_where 12 = .ok (.getfield 33, 3) := by decide +kernel
theorem dX9_where_15 : decode cX9_where 15 = .ok (.iload_n 1, 1) := by decide +kernel
theorem dX9_where_16 : decode cX9_where 16 = .ok (.aload_n 0, 1) := by decide +kernel
theorem dX9_where_17 : decode cX9_where 17 = .ok (.getfield 54, 3) := by decide +kernel
theorem dX9_where_20 : decode cX9_where 20 = .ok (.aload_n 0, 1) := by decide +kernel
theorem dX9_where_21 : decode cX9_where 21 = .ok (.getfield 33, 3) := by decide +kernel
theorem dX9_where_24 : decode cX9_where 24 = .ok (.getfield 157, 3) := by decide +kernel
theorem dX9_where_27 : decode cX9_where 27 = .ok (.iload_n 1, 1) := by decide +kernel
theorem dX9_where_28 : decode cX9_where 28 = .ok (.iaload, 1) := by decide +kernel
theorem dX9_where_29 : decode cX9_where 29 = .ok (.invokevirtual 153, 3) := by decide +kernel
theorem dX9_where_32 : decode cX9_where 32 = .ok (.invokevirtual 161, 3) := by decide +kernel
theorem dX9_where_35 : decode cX9_where 35 = .ok (.goto 5, 3) := by decide +kernel
theorem dX9_where_38 : decode cX9_where 38 = .ok (.bipush (-2), 2) := by decide +kernel
theorem dX9_where_40 : decode cX9_where 40 = .ok (.ireturn, 1) := by decide +kernel
theorem dX9_goes_0 : decode cX9_goes 0 = .ok (.aload_n 0, 1) := by decide +kernel
theorem dX9_goes_1 : decode cX9_goes 1 = .ok (.getfield 10, 3) := by decide +kernel
theorem dX9_goes_4 : decode cX9_goes 4 = .ok (.getfield 68, 3) := by decide +kernel
theorem dX9_goes_7 : decode cX9_goes 7 = .ok (.iload_n 1, 1) := by decide +kernel
theorem dX9_goes_8 : decode cX9_goes 8 = .ok (.invokevirtual 115, 3) := by decide +kernel
theorem dX9_goes_11 : decode cX9_goes 11 = .ok (.ifCond .eq 17, 3) := by decide +kernel
theorem dX9_goes_14 : decode cX9_goes 14 = .ok (.iload_n 2, 1) := by decide +kernel
theorem dX9_goes_15 : decode cX9_goes 15 = .ok (.invokestatic 104, 3) := by decide +kernel
theorem dX9_goes_18 : decode cX9_goes 18 = .ok (.ifCond .eq 10, 3) := by decide +kernel
theorem dX9_goes_21 : decode cX9_goes 21 = .ok (.iload_n 3, 1) := by decide +kernel
theorem dX9_goes_22 : decode cX9_goes 22 = .ok (.invokestatic 150, 3) := by decide +kernel
theorem dX9_goes_25 : decode cX9_goes 25 = .ok (.ifCond .ne 6, 3) := by decide +kernel
theorem dX9_goes_28 : decode cX9_goes 28 = .ok (.bipush (-2), 2) := by decide +kernel
theorem dX9_goes_30 : decode cX9_goes 30 = .ok (.ireturn, 1) := by decide +kernel
theorem dX9_goes_31 : decode cX9_goes 31 = .ok (.aload_n 0, 1) := by decide +kernel
theorem dX9_goes_32 : decode cX9_goes 32 = .ok (.getfield 33, 3) := by decide +kernel
theorem dX9_goes_35 : decode cX9_goes 35 = .ok (.aload_n 0, 1) := by decide +kernel
theorem dX9_goes_36 : decode cX9_goes 36 = .ok (.getfield 10, 3) := by decide +kernel
theorem dX9_goes_39 : decode cX9_goes 39 = .ok (.getfield 68, 3) := by decide +kernel
theorem dX9_goes_42 : decode cX9_goes 42 = .ok (.iload_n 2, 1) := by decide +kernel
theorem dX9_goes_43 : decode cX9_goes 43 = .ok (.iload_n 3, 1) := by decide +kernel
theorem dX9_goes_44 : decode cX9_goes 44 = .ok (.aload_n 0, 1) := by decide +kernel
theorem dX9_goes_45 : decode cX9_goes 45 = .ok (.getfield 54, 3) := by decide +kernel
theorem dX9_goes_48 : decode cX9_goes 48 = .ok (.iload_n 3, 1) := by decide +kernel
theorem dX9_goes_49 : decode cX9_goes 49 = .ok (.invokevirtual 153, 3) := by decide +kernel
theorem dX9_goes_52 : decode cX9_goes 52 = .ok (.invokevirtual 165, 3) := by decide +kernel
theorem dX9_goes_55 : decode cX9_goes 55 = .ok (.aload_n 0, 1) := by decide +kernel
theorem dX9_goes_56 : decode cX9_goes 56 = .ok (.getfield 33, 3) := by decide +kernel
theorem dX9_goes_59 : decode cX9_goes 59 = .ok (.getfield 169, 3) := by decide +kernel
theorem dX9_goes_62 : decode cX9_goes 62 = .ok (.iload_n 1, 1) := by decide +kernel
theorem dX9_goes_63 : decode cX9_goes 63 = .ok (.iaload, 1) := by decide +kernel
theorem dX9_goes_64 : decode cX9_goes 64 = .ok (.ireturn, 1) := by decide +kernel
theorem dX9_turned_0 : decode cX9_turned 0 = .ok (.aload_n 0, 1) := by decide +kernel
theorem dX9_turned_1 : decode cX9_turned 1 = .ok (.getfield 10, 3) := by decide +kernel
theorem dX9_turned_4 : decode cX9_turned 4 = .ok (.getfield 68, 3) := by decide +kernel
theorem dX9_turned_7 : decode cX9_turned 7 = .ok (.iload_n 1, 1) := by decide +kernel
theorem dX9_turned_8 : decode cX9_turned 8 = .ok (.invokevirtual 115, 3) := by decide +kernel
theorem dX9_turned_11 : decode cX9_turned 11 = .ok (.ifCond .eq 17, 3) := by decide +kernel
theorem dX9_turned_14 : decode cX9_turned 14 = .ok (.iload_n 2, 1) := by decide +kernel
theorem dX9_turned_15 : decode cX9_turned 15 = .ok (.invokestatic 104, 3) := by decide +kernel
theorem dX9_turned_18 : decode cX9_turned 18 = .ok (.ifCond .eq 10, 3) := by decide +kernel
theorem dX9_turned_21 : decode cX9_turned 21 = .ok (.iload_n 3, 1) := by decide +kernel
theorem dX9_turned_22 : decode cX9_turned 22 = .ok (.invokestatic 150, 3) := by decide +kernel
theorem dX9_turned_25 : decode cX9_turned 25 = .ok (.ifCond .ne 6, 3) := by decide +kernel
theorem dX9_turned_28 : decode cX9_turned 28 = .ok (.bipush (-2), 2) := by decide +kernel
theorem dX9_turned_30 : decode cX9_turned 30 = .ok (.ireturn, 1) := by decide +kernel
theorem dX9_turned_31 : decode cX9_turned 31 = .ok (.aload_n 0, 1) := by decide +kernel
theorem dX9_turned_32 : decode cX9_turned 32 = .ok (.getfield 33, 3) := by decide +kernel
theorem dX9_turned_35 : decode cX9_turned 35 = .ok (.aload_n 0, 1) := by decide +kernel
theorem dX9_turned_36 : decode cX9_turned 36 = .ok (.getfield 10, 3) := by decide +kernel
theorem dX9_turned_39 : decode cX9_turned 39 = .ok (.getfield 68, 3) := by decide +kernel
theorem dX9_turned_42 : decode cX9_turned 42 = .ok (.iload_n 2, 1) := by decide +kernel
theorem dX9_turned_43 : decode cX9_turned 43 = .ok (.iload_n 3, 1) := by decide +kernel
theorem dX9_turned_44 : decode cX9_turned 44 = .ok (.aload_n 0, 1) := by decide +kernel
theorem dX9_turned_45 : decode cX9_turned 45 = .ok (.getfield 54, 3) := by decide +kernel
theorem dX9_turned_48 : decode cX9_turned 48 = .ok (.iload_n 3, 1) := by decide +kernel
theorem dX9_turned_49 : decode cX9_turned 49 = .ok (.invokevirtual 153, 3) := by decide +kernel
theorem dX9_turned_52 : decode cX9_turned 52 = .ok (.invokevirtual 165, 3) := by decide +kernel
theorem dX9_turned_55 : decode cX9_turned 55 = .ok (.aload_n 0, 1) := by decide +kernel
theorem dX9_turned_56 : decode cX9_turned 56 = .ok (.getfield 33, 3) := by decide +kernel
theorem dX9_turned_59 : decode cX9_turned 59 = .ok (.getfield 172, 3) := by decide +kernel
theorem dX9_turned_62 : decode cX9_turned 62 = .ok (.iload_n 1, 1) := by decide +kernel
theorem dX9_turned_63 : decode cX9_turned 63 = .ok (.iaload, 1) := by decide +kernel
theorem dX9_turned_64 : decode cX9_turned 64 = .ok (.ireturn, 1) := by decide +kernel
theorem dX9_crowd_0 : decode cX9_crowd 0 = .ok (.aload_n 0, 1) := by decide +kernel
theorem dX9_crowd_1 : decode cX9_crowd 1 = .ok (.getfield 33, 3) := by decide +kernel
theorem dX9_crowd_4 : decode cX9_crowd 4 = .ok (.iload_n 1, 1) := by decide +kernel
theorem dX9_crowd_5 : decode cX9_crowd 5 = .ok (.invokevirtual 156, 3) := by decide +kernel
theorem dX9_crowd_8 : decode cX9_crowd 8 = .ok (.ifCond .eq 10, 3) := by decide +kernel
theorem dX9_crowd_11 : decode cX9_crowd 11 = .ok (.iload_n 2, 1) := by decide +kernel
theorem dX9_crowd_12 : decode cX9_crowd 12 = .ok (.invokestatic 104, 3) := by decide +kernel
theorem dX9_crowd_15 : decode cX9_crowd 15 = .ok (.ifCond .ne 6, 3) := by decide +kernel
theorem dX9_crowd_18 : decode cX9_crowd 18 = .ok (.bipush (-2), 2) := by decide +kernel
theorem dX9_crowd_20 : decode cX9_crowd 20 = .ok (.ireturn, 1) := by decide +kernel
theorem dX9_crowd_21 : decode cX9_crowd 21 = .ok (.aload_n 0, 1) := by decide +kernel
theorem dX9_crowd_22 : decode cX9_crowd 22 = .ok (.getfield 33, 3) := by decide +kernel
theorem dX9_crowd_25 : decode cX9_crowd 25 = .ok (.getfield 157, 3) := by decide +kernel
theorem dX9_crowd_28 : decode cX9_crowd 28 = .ok (.iload_n 1, 1) := by decide +kernel
theorem dX9_crowd_29 : decode cX9_crowd 29 = .ok (.iaload, 1) := by decide +kernel
theorem dX9_crowd_30 : decode cX9_crowd 30 = .ok (.istore_n 3, 1) := by decide +kernel
theorem dX9_crowd_31 : decode cX9_crowd 31 = .ok (.aload_n 0, 1) := by decide +kernel
theorem dX9_crowd_32 : decode cX9_crowd 32 = .ok (.getfield 33, 3) := by decide +kernel
theorem dX9_crowd_35 : decode cX9_crowd 35 = .ok (.aload_n 0, 1) := by decide +kernel
theorem dX9_crowd_36 : decode cX9_crowd 36 = .ok (.getfield 10, 3) := by decide +kernel
theorem dX9_crowd_39 : decode cX9_crowd 39 = .ok (.getfield 68, 3) := by decide +kernel
theorem dX9_crowd_42 : decode cX9_crowd 42 = .ok (.iload_n 2, 1) := by decide +kernel
theorem dX9_crowd_43 : decode cX9_crowd 43 = .ok (.iload_n 3, 1) := by decide +kernel
theorem dX9_crowd_44 : decode cX9_crowd 44 = .ok (.aload_n 0, 1) := by decide +kernel
theorem dX9_crowd_45 : decode cX9_crowd 45 = .ok (.getfield 54, 3) := by decide +kernel
theorem dX9_crowd_48 : decode cX9_crowd 48 = .ok (.iload_n 3, 1) := by decide +kernel
theorem dX9_crowd_49 : decode cX9_crowd 49 = .ok (.invokevirtual 153, 3) := by decide +kernel
theorem dX9_crowd_52 : decode cX9_crowd 52 = .ok (.invokevirtual 165, 3) := by decide +kernel
theorem dX9_crowd_55 : decode cX9_crowd 55 = .ok (.aload_n 0, 1) := by decide +kernel
theorem dX9_crowd_56 : decode cX9_crowd 56 = .ok (.getfield 33, 3) := by decide +kernel
theorem dX9_crowd_59 : decode cX9_crowd 59 = .ok (.iload_n 1, 1) := by decide +kernel
theorem dX9_crowd_60 : decode cX9_crowd 60 = .ok (.aload_n 0, 1) := by decide +kernel
theorem dX9_crowd_61 : decode cX9_crowd 61 = .ok (.getfield 10, 3) := by decide +kernel
theorem dX9_crowd_64 : decode cX9_crowd 64 = .ok (.getfield 68, 3) := by decide +kernel
theorem dX9_crowd_67 : decode cX9_crowd 67 = .ok (.invokevirtual 175, 3) := by decide +kernel
theorem dX9_crowd_70 : decode cX9_crowd 70 = .ok (.ireturn, 1) := by decide +kernel
theorem dX9_group_0 : decode cX9_group 0 = .ok (.aload_n 0, 1) := by decide +kernel
theorem dX9_group_1 : decode cX9_group 1 = .ok (.getfield 40, 3) := by decide +kernel
theorem dX9_group_4 : decode cX9_group 4 = .ok (.iload_n 1, 1) := by decide +kernel
theorem dX9_group_5 : decode cX9_group 5 = .ok (.iload_n 2, 1) := by decide +kernel
theorem dX9_group_6 : decode cX9_group 6 = .ok (.iload_n 3, 1) := by decide +kernel
theorem dX9_group_7 : decode cX9_group 7 = .ok (.iload 4, 2) := by decide +kernel
theorem dX9_group_9 : decode cX9_group 9 = .ok (.invokevirtual 179, 3) := by decide +kernel
theorem dX9_group_12 : decode cX9_group 12 = .ok (.ireturn, 1) := by decide +kernel
theorem dX9_child_0 : decode cX9_child 0 = .ok (.aload_n 0, 1) := by decide +kernel
theorem dX9_child_1 : decode cX9_child 1 = .ok (.getfield 10, 3) := by decide +kernel
theorem dX9_child_4 : decode cX9_child 4 = .ok (.getfield 68, 3) := by decide +kernel
theorem dX9_child_7 : decode cX9_child 7 = .ok (.iload_n 1, 1) := by decide +kernel
theorem dX9_child_8 : decode cX9_child 8 = .ok (.invokevirtual 115, 3) := by decide +kernel
theorem dX9_child_11 : decode cX9_child 11 = .ok (.ifCond .ne 6, 3) := by decide +kernel
theorem dX9_child_14 : decode cX9_child 14 = .ok (.bipush (-2), 2) := by decide +kernel
theorem dX9_child_16 : decode cX9_child 16 = .ok (.ireturn, 1) := by decide +kernel
theorem dX9_child_17 : decode cX9_child 17 = .ok (.aload_n 0, 1) := by decide +kernel
theorem dX9_child_18 : decode cX9_child 18 = .ok (.getfield 40, 3) := by decide +kernel
theorem dX9_child_21 : decode cX9_child 21 = .ok (.iload_n 1, 1) := by decide +kernel
theorem dX9_child_22 : decode cX9_child 22 = .ok (.iload_n 2, 1) := by decide +kernel
theorem dX9_child_23 : decode cX9_child 23 = .ok (.aload_n 0, 1) := by decide +kernel
theorem dX9_child_24 : decode cX9_child 24 = .ok (.getfield 10, 3) := by decide +kernel
theorem dX9_child_27 : decode cX9_child 27 = .ok (.getfield 68, 3) := by decide +kernel
theorem dX9_child_30 : decode cX9_child 30 = .ok (.getfield 182, 3) := by decide +kernel
theorem dX9_child_33 : decode cX9_child 33 = .ok (.iload_n 1, 1) := by decide +kernel
theorem dX9_child_34 : decode cX9_child 34 = .ok (.iaload, 1) := by decide +kernel
theorem dX9_child_35 : decode cX9_child 35 = .ok (.invokevirtual 185, 3) := by decide +kernel
theorem dX9_child_38 : decode cX9_child 38 = .ok (.ireturn, 1) := by decide +kernel
theorem dX9_hand_0 : decode cX9_hand 0 = .ok (.aload_n 0, 1) := by decide +kernel
theorem dX9_hand_1 : decode cX9_hand 1 = .ok (.getfield 40, 3) := by decide +kernel
theorem dX9_hand_4 : decode cX9_hand 4 = .ok (.iload_n 1, 1) := by decide +kernel
theorem dX9_hand_5 : decode cX9_hand 5 = .ok (.invokevirtual 188, 3) := by decide +kernel
theorem dX9_hand_8 : decode cX9_hand 8 = .ok (.ireturn, 1) := by decide +kernel
theorem dX9_fetch_0 : decode cX9_fetch 0 = .ok (.aload_n 0, 1) := by decide +kernel
theorem dX9_fetch_1 : decode cX9_fetch 1 = .ok (.getfield 10, 3) := by decide +kernel
theorem dX9_fetch_4 : decode cX9_fetch 4 = .ok (.getfield 68, 3) := by decide +kernel
theorem dX9_fetch_7 : decode cX9_fetch 7 = .ok (.iload_n 2, 1) := by decide +kernel
theorem dX9_fetch_8 : decode cX9_fetch 8 = .ok (.invokevirtual 115, 3) := by decide +kernel
theorem dX9_fetch_11 : decode cX9_fetch 11 = .ok (.ifCond .eq 15, 3) := by decide +kernel
theorem dX9_fetch_14 : decode cX9_fetch 14 = .ok (.aload_n 0, 1) := by decide +kernel
theorem dX9_fetch_15 : decode cX9_fetch 15 = .ok (.getfield 40, 3) := by decide +kernel
theorem dX9_fetch_18 : decode cX9_fetch 18 = .ok (.iload_n 1, 1) := by decide +kernel
theorem dX9_fetch_19 : decode cX9_fetch 19 = .ok (.iload_n 2, 1) := by decide +kernel
theorem dX9_fetch_20 : decode cX9_fetch 20 = .ok (.invokevirtual 191, 3) := by decide +kernel
theorem dX9_fetch_23 : decode cX9_fetch 23 = .ok (.goto 5, 3) := by decide +kernel
theorem dX9_fetch_26 : decode cX9_fetch 26 = .ok (.bipush (-2), 2) := by decide +kernel
theorem dX9_fetch_28 : decode cX9_fetch 28 = .ok (.ireturn, 1) := by decide +kernel
theorem dX9_with_0 : decode cX9_with 0 = .ok (.aload_n 0, 1) := by decide +kernel
theorem dX9_with_1 : decode cX9_with 1 = .ok (.getfield 40, 3) := by decide +kernel
theorem dX9_with_4 : decode cX9_with 4 = .ok (.iload_n 1, 1) := by decide +kernel
theorem dX9_with_5 : decode cX9_with 5 = .ok (.invokevirtual 194, 3) := by decide +kernel
theorem dX9_with_8 : decode cX9_with 8 = .ok (.ifCond .eq 15, 3) := by decide +kernel
theorem dX9_with_11 : decode cX9_with 11 = .ok (.aload_n 0, 1) := by decide +kernel
theorem dX9_with_12 : decode cX9_with 12 = .ok (.getfield 40, 3) := by decide +kernel
theorem dX9_with_15 : decode cX9_with 15 = .ok (.getfield 197, 3) := by decide +kernel
theorem dX9_with_18 : decode cX9_with 18 = .ok (.iload_n 1, 1) := by decide +kernel
theorem dX9_with_19 : decode cX9_with 19 = .ok (.iaload, 1) := by decide +kernel
theorem dX9_with_20 : decode cX9_with 20 = .ok (.goto 5, 3) := by decide +kernel
theorem dX9_with_23 : decode cX9_with 23 = .ok (.bipush (-2), 2) := by decide +kernel
theorem dX9_with_25 : decode cX9_with 25 = .ok (.ireturn, 1) := by decide +kernel
theorem dX9_list_0 : decode cX9_list 0 = .ok (.aload_n 0, 1) := by decide +kernel
theorem dX9_list_1 : decode cX9_list 1 = .ok (.getfield 47, 3) := by decide +kernel
theorem dX9_list_4 : decode cX9_list 4 = .ok (.iload_n 1, 1) := by decide +kernel
theorem dX9_list_5 : decode cX9_list 5 = .ok (.iload_n 2, 1) := by decide +kernel
theorem dX9_list_6 : decode cX9_list 6 = .ok (.iload_n 3, 1) := by decide +kernel
theorem dX9_list_7 : decode cX9_list 7 = .ok (.invokevirtual 200, 3) := by decide +kernel
theorem dX9_list_10 : decode cX9_list 10 = .ok (.ireturn, 1) := by decide +kernel
theorem dX9_pays_0 : decode cX9_pays 0 = .ok (.aload_n 0, 1) := by decide +kernel
theorem dX9_pays_1 : decode cX9_pays 1 = .ok (.getfield 47, 3) := by decide +kernel
theorem dX9_pays_4 : decode cX9_pays 4 = .ok (.iload_n 1, 1) := by decide +kernel
theorem dX9_pays_5 : decode cX9_pays 5 = .ok (.iload_n 2, 1) := by decide +kernel
theorem dX9_pays_6 : decode cX9_pays 6 = .ok (.invokevirtual 201, 3) := by decide +kernel
theorem dX9_pays_9 : decode cX9_pays 9 = .ok (.ireturn, 1) := by decide +kernel
theorem dX9_sheet_0 : decode cX9_sheet 0 = .ok (.aload_n 0, 1) := by decide +kernel
theorem dX9_sheet_1 : decode cX9_sheet 1 = .ok (.getfield 54, 3) := by decide +kernel
theorem dX9_sheet_4 : decode cX9_sheet 4 = .ok (.iload_n 1, 1) := by decide +kernel
theorem dX9_sheet_5 : decode cX9_sheet 5 = .ok (.iload_n 2, 1) := by decide +kernel
theorem dX9_sheet_6 : decode cX9_sheet 6 = .ok (.iload_n 3, 1) := by decide +kernel
theorem dX9_sheet_7 : decode cX9_sheet 7 = .ok (.invokevirtual 204, 3) := by decide +kernel
theorem dX9_sheet_10 : decode cX9_sheet 10 = .ok (.ireturn, 1) := by decide +kernel
theorem dX9_lose_0 : decode cX9_lose 0 = .ok (.aload_n 0, 1) := by decide +kernel
theorem dX9_lose_1 : decode cX9_lose 1 = .ok (.getfield 54, 3) := by decide +kernel
theorem dX9_lose_4 : decode cX9_lose 4 = .ok (.iload_n 1, 1) := by decide +kernel
theorem dX9_lose_5 : decode cX9_lose 5 = .ok (.invokevirtual 207, 3) := by decide +kernel
theorem dX9_lose_8 : decode cX9_lose 8 = .ok (.ireturn, 1) := by decide +kernel
theorem dX9_put_0 : decode cX9_put 0 = .ok (.aload_n 0, 1) := by decide +kernel
theorem dX9_put_1 : decode cX9_put 1 = .ok (.getfield 54, 3) := by decide +kernel
theorem dX9_put_4 : decode cX9_put 4 = .ok (.iload_n 1, 1) := by decide +kernel
theorem dX9_put_5 : decode cX9_put 5 = .ok (.iload_n 2, 1) := by decide +kernel
theorem dX9_put_6 : decode cX9_put 6 = .ok (.iload_n 3, 1) := by decide +kernel
theorem dX9_put_7 : decode cX9_put 7 = .ok (.iload 4, 2) := by decide +kernel
theorem dX9_put_9 : decode cX9_put 9 = .ok (.invokevirtual 210, 3) := by decide +kernel
theorem dX9_put_12 : decode cX9_put 12 = .ok (.ireturn, 1) := by decide +kernel
theorem dX9_get_0 : decode cX9_get 0 = .ok (.aload_n 0, 1) := by decide +kernel
theorem dX9_get_1 : decode cX9_get 1 = .ok (.getfield 54, 3) := by decide +kernel
theorem dX9_get_4 : decode cX9_get 4 = .ok (.iload_n 1, 1) := by decide +kernel
theorem dX9_get_5 : decode cX9_get 5 = .ok (.iload_n 2, 1) := by decide +kernel
theorem dX9_get_6 : decode cX9_get 6 = .ok (.iload_n 3, 1) := by decide +kernel
theorem dX9_get_7 : decode cX9_get 7 = .ok (.invokevirtual 213, 3) := by decide +kernel
theorem dX9_get_10 : decode cX9_get 10 = .ok (.ireturn, 1) := by decide +kernel
theorem dX9_copy_0 : decode cX9_copy 0 = .ok (.aload_n 0, 1) := by decide +kernel
theorem dX9_copy_1 : decode cX9_copy 1 = .ok (.getfield 54, 3) := by decide +kernel
theorem dX9_copy_4 : decode cX9_copy 4 = .ok (.iload_n 1, 1) := by decide +kernel
theorem dX9_copy_5 : decode cX9_copy 5 = .ok (.iload_n 2, 1) := by decide +kernel
theorem dX9_copy_6 : decode cX9_copy 6 = .ok (.iload_n 3, 1) := by decide +kernel
theorem dX9_copy_7 : decode cX9_copy 7 = .ok (.iload 4, 2) := by decide +kernel
theorem dX9_copy_9 : decode cX9_copy 9 = .ok (.iload 5, 2) := by decide +kernel
theorem dX9_copy_11 : decode cX9_copy 11 = .ok (.invokevirtual 216, 3) := by decide +kernel
theorem dX9_copy_14 : decode cX9_copy 14 = .ok (.ireturn, 1) := by decide +kernel
theorem dX9_count_0 : decode cX9_count 0 = .ok (.iload_n 1, 1) := by decide +kernel
theorem dX9_count_1 : decode cX9_count 1 = .ok (.tableswitch 120 0 7 #[47, 58, 69, 80, 88, 96, 104, 112], 47) := by decide +kernel
theorem dX9_count_48 : decode cX9_count 48 = .ok (.aload_n 0, 1) := by decide +kernel
theorem dX9_count_49 : decode cX9_count 49 = .ok (.getfield 10, 3) := by decide +kernel
theorem dX9_count_52 : decode cX9_count 52 = .ok (.getfield 58, 3) := by decide +kernel
theorem dX9_count_55 : decode cX9_count 55 = .ok (.getfield 219, 3) := by decide +kernel
theorem dX9_count_58 : decode cX9_count 58 = .ok (.ireturn, 1) := by decide +kernel
theorem dX9_count_59 : decode cX9_count 59 = .ok (.aload_n 0, 1) := by decide +kernel
theorem dX9_count_60 : decode cX9_count 60 = .ok (.getfield 10, 3) := by decide +kernel
theorem dX9_count_63 : decode cX9_count 63 = .ok (.getfield 68, 3) := by decide +kernel
theorem dX9_count_66 : decode cX9_count 66 = .ok (.getfield 222, 3) := by decide +kernel
theorem dX9_count_69 : decode cX9_count 69 = .ok (.ireturn, 1) := by decide +kernel
theorem dX9_count_70 : decode cX9_count 70 = .ok (.aload_n 0, 1) := by decide +kernel
theorem dX9_count_71 : decode cX9_count 71 = .ok (.getfield 10, 3) := by decide +kernel
theorem dX9_count_74 : decode cX9_count 74 = .ok (.getfield 68, 3) := by decide +kernel
theorem dX9_count_77 : decode cX9_count 77 = .ok (.invokevirtual 223, 3) := by decide +kernel
theorem dX9_count_80 : decode cX9_count 80 = .ok (.ireturn, 1) := by decide +kernel
theorem dX9_count_81 : decode cX9_count 81 = .ok (.aload_n 0, 1) := by decide +kernel
theorem dX9_count_82 : decode cX9_count 82 = .ok (.getfield 33, 3) := by decide +kernel
theorem dX9_count_85 : decode cX9_count 85 = .ok (.getfield 227, 3) := by decide +kernel
theorem dX9_count_88 : decode cX9_count 88 = .ok (.ireturn, 1) := by decide +kernel
theorem dX9_count_89 : decode cX9_count 89 = .ok (.aload_n 0, 1) := by decide +kernel
theorem dX9_count_90 : decode cX9_count 90 = .ok (.getfield 40, 3) := by decide +kernel
theorem dX9_count_93 : decode cX9_count 93 = .ok (.getfield 228, 3) := by decide +kernel
theorem dX9_count_96 : decode cX9_count 96 = .ok (.ireturn, 1) := by decide +kernel
theorem dX9_count_97 : decode cX9_count 97 = .ok (.aload_n 0, 1) := by decide +kernel
theorem dX9_count_98 : decode cX9_count 98 = .ok (.getfield 26, 3) := by decide +kernel
theorem dX9_count_101 : decode cX9_count 101 = .ok (.getfield 231, 3) := by decide +kernel
theorem dX9_count_104 : decode cX9_count 104 = .ok (.ireturn, 1) := by decide +kernel
theorem dX9_count_105 : decode cX9_count 105 = .ok (.aload_n 0, 1) := by decide +kernel
theorem dX9_count_106 : decode cX9_count 106 = .ok (.getfield 47, 3) := by decide +kernel
theorem dX9_count_109 : decode cX9_count 109 = .ok (.getfield 234, 3) := by decide +kernel
theorem dX9_count_112 : decode cX9_count 112 = .ok (.ireturn, 1) := by decide +kernel
theorem dX9_count_113 : decode cX9_count 113 = .ok (.aload_n 0, 1) := by decide +kernel
theorem dX9_count_114 : decode cX9_count 114 = .ok (.getfield 54, 3) := by decide +kernel
theorem dX9_count_117 : decode cX9_count 117 = .ok (.getfield 235, 3) := by decide +kernel
theorem dX9_count_120 : decode cX9_count 120 = .ok (.ireturn, 1) := by decide +kernel
theorem dX9_count_121 : decode cX9_count 121 = .ok (.bipush (-2), 2) := by decide +kernel
theorem dX9_count_123 : decode cX9_count 123 = .ok (.ireturn, 1) := by decide +kernel
theorem dX9_digest_0 : decode cX9_digest 0 = .ok (.ldc2_w 238, 3) := by decide +kernel
theorem dX9_digest_3 : decode cX9_digest 3 = .ok (.lstore_n 1, 1) := by decide +kernel
theorem dX9_digest_4 : decode cX9_digest 4 = .ok (.iconst 0, 1) := by decide +kernel
theorem dX9_digest_5 : decode cX9_digest 5 = .ok (.istore_n 3, 1) := by decide +kernel
theorem dX9_digest_6 : decode cX9_digest 6 = .ok (.iload_n 3, 1) := by decide +kernel
theorem dX9_digest_7 : decode cX9_digest 7 = .ok (.bipush 6, 2) := by decide +kernel
theorem dX9_digest_9 : decode cX9_digest 9 = .ok (.if_icmp .gt 22, 3) := by decide +kernel
theorem dX9_digest_12 : decode cX9_digest 12 = .ok (.ldc2_w 240, 3) := by decide +kernel
theorem dX9_digest_15 : decode cX9_digest 15 = .ok (.lload_n 1, 1) := by decide +kernel
theorem dX9_digest_16 : decode cX9_digest 16 = .ok (.lmul, 1) := by decide +kernel
theorem dX9_digest_17 : decode cX9_digest 17 = .ok (.aload_n 0, 1) := by decide +kernel
theorem dX9_digest_18 : decode cX9_digest 18 = .ok (.iload_n 3, 1) := by decide +kernel
theorem dX9_digest_19 : decode cX9_digest 19 = .ok (.invokevirtual 242, 3) := by decide +kernel
theorem dX9_digest_22 : decode cX9_digest 22 = .ok (.i2l, 1) := by decide +kernel
theorem dX9_digest_23 : decode cX9_digest 23 = .ok (.ladd, 1) := by decide +kernel
theorem dX9_digest_24 : decode cX9_digest 24 = .ok (.lstore_n 1, 1) := by decide +kernel
theorem dX9_digest_25 : decode cX9_digest 25 = .ok (.iinc 3 1, 3) := by decide +kernel
theorem dX9_digest_28 : decode cX9_digest 28 = .ok (.goto (-22), 3) := by decide +kernel
theorem dX9_digest_31 : decode cX9_digest 31 = .ok (.iconst 0, 1) := by decide +kernel
theorem dX9_digest_32 : decode cX9_digest 32 = .ok (.istore_n 3, 1) := by decide +kernel
theorem dX9_digest_33 : decode cX9_digest 33 = .ok (.iload_n 3, 1) := by decide +kernel
theorem dX9_digest_34 : decode cX9_digest 34 = .ok (.aload_n 0, 1) := by decide +kernel
theorem dX9_digest_35 : decode cX9_digest 35 = .ok (.getfield 10, 3) := by decide +kernel
theorem dX9_digest_38 : decode cX9_digest 38 = .ok (.getfield 68, 3) := by decide +kernel
theorem dX9_digest_41 : decode cX9_digest 41 = .ok (.getfield 222, 3) := by decide +kernel
theorem dX9_digest_44 : decode cX9_digest 44 = .ok (.if_icmp .ge 29, 3) := by decide +kernel
theorem dX9_digest_47 : decode cX9_digest 47 = .ok (.ldc2_w 240, 3) := by decide +kernel
theorem dX9_digest_50 : decode cX9_digest 50 = .ok (.lload_n 1, 1) := by decide +kernel
theorem dX9_digest_51 : decode cX9_digest 51 = .ok (.lmul, 1) := by decide +kernel
theorem dX9_digest_52 : decode cX9_digest 52 = .ok (.aload_n 0, 1) := by decide +kernel
theorem dX9_digest_53 : decode cX9_digest 53 = .ok (.getfield 10, 3) := by decide +kernel
theorem dX9_digest_56 : decode cX9_digest 56 = .ok (.getfield 68, 3) := by decide +kernel
theorem dX9_digest_59 : decode cX9_digest 59 = .ok (.getfield 244, 3) := by decide +kernel
theorem dX9_digest_62 : decode cX9_digest 62 = .ok (.iload_n 3, 1) := by decide +kernel
theorem dX9_digest_63 : decode cX9_digest 63 = .ok (.iaload, 1) := by decide +kernel
theorem dX9_digest_64 : decode cX9_digest 64 = .ok (.i2l, 1) := by decide +kernel
theorem dX9_digest_65 : decode cX9_digest 65 = .ok (.ladd, 1) := by decide +kernel
theorem dX9_digest_66 : decode cX9_digest 66 = .ok (.lstore_n 1, 1) := by decide +kernel
theorem dX9_digest_67 : decode cX9_digest 67 = .ok (.iinc 3 1, 3) := by decide +kernel
theorem dX9_digest_70 : decode cX9_digest 70 = .ok (.goto (-37), 3) := by decide +kernel
theorem dX9_digest_73 : decode cX9_digest 73 = .ok (.iconst 0, 1) := by decide +kernel
theorem dX9_digest_74 : decode cX9_digest 74 = .ok (.istore_n 3, 1) := by decide +kernel
theorem dX9_digest_75 : decode cX9_digest 75 = .ok (.iload_n 3, 1) := by decide +kernel
theorem dX9_digest_76 : decode cX9_digest 76 = .ok (.bipush 10, 2) := by decide +kernel
theorem dX9_digest_78 : decode cX9_digest 78 = .ok (.if_icmp .ge 22, 3) := by decide +kernel
theorem dX9_digest_81 : decode cX9_digest 81 = .ok (.ldc2_w 240, 3) := by decide +kernel
theorem dX9_digest_84 : decode cX9_digest 84 = .ok (.lload_n 1, 1) := by decide +kernel
theorem dX9_digest_85 : decode cX9_digest 85 = .ok (.lmul, 1) := by decide +kernel
theorem dX9_digest_86 : decode cX9_digest 86 = .ok (.aload_n 0, 1) := by decide +kernel
theorem dX9_digest_87 : decode cX9_digest 87 = .ok (.iload_n 3, 1) := by decide +kernel
theorem dX9_digest_88 : decode cX9_digest 88 = .ok (.invokevirtual 247, 3) := by decide +kernel
theorem dX9_digest_91 : decode cX9_digest 91 = .ok (.i2l, 1) := by decide +kernel
theorem dX9_digest_92 : decode cX9_digest 92 = .ok (.ladd, 1) := by decide +kernel
theorem dX9_digest_93 : decode cX9_digest 93 = .ok (.lstore_n 1, 1) := by decide +kernel
theorem dX9_digest_94 : decode cX9_digest 94 = .ok (.iinc 3 1, 3) := by decide +kernel
theorem dX9_digest_97 : decode cX9_digest 97 = .ok (.goto (-22), 3) := by decide +kernel
theorem dX9_digest_100 : decode cX9_digest 100 = .ok (.iconst 0, 1) := by decide +kernel
theorem dX9_digest_101 : decode cX9_digest 101 = .ok (.istore_n 3, 1) := by decide +kernel
theorem dX9_digest_102 : decode cX9_digest 102 = .ok (.iload_n 3, 1) := by decide +kernel
theorem dX9_digest_103 : decode cX9_digest 103 = .ok (.aload_n 0, 1) := by decide +kernel
theorem dX9_digest_104 : decode cX9_digest 104 = .ok (.getfield 33, 3) := by decide +kernel
theorem dX9_digest_107 : decode cX9_digest 107 = .ok (.getfield 227, 3) := by decide +kernel
theorem dX9_digest_110 : decode cX9_digest 110 = .ok (.if_icmp .ge 22, 3) := by decide +kernel
theorem dX9_digest_113 : decode cX9_digest 113 = .ok (.ldc2_w 240, 3) := by decide +kernel
theorem dX9_digest_116 : decode cX9_digest 116 = .ok (.lload_n 1, 1) := by decide +kernel
theorem dX9_digest_117 : decode cX9_digest 117 = .ok (.lmul, 1) := by decide +kernel
theorem dX9_digest_118 : decode cX9_digest 118 = .ok (.aload_n 0, 1) := by decide +kernel
theorem dX9_digest_119 : decode cX9_digest 119 = .ok (.iload_n 3, 1) := by decide +kernel
theorem dX9_digest_120 : decode cX9_digest 120 = .ok (.invokevirtual 250, 3) := by decide +kernel
theorem dX9_digest_123 : decode cX9_digest 123 = .ok (.i2l, 1) := by decide +kernel
theorem dX9_digest_124 : decode cX9_digest 124 = .ok (.ladd, 1) := by decide +kernel
theorem dX9_digest_125 : decode cX9_digest 125 = .ok (.lstore_n 1, 1) := by decide +kernel
theorem dX9_digest_126 : decode cX9_digest 126 = .ok (.iinc 3 1, 3) := by decide +kernel
theorem dX9_digest_129 : decode cX9_digest 129 = .ok (.goto (-27), 3) := by decide +kernel
theorem dX9_digest_132 : decode cX9_digest 132 = .ok (.iconst 0, 1) := by decide +kernel
theorem dX9_digest_133 : decode cX9_digest 133 = .ok (.istore_n 3, 1) := by decide +kernel
theorem dX9_digest_134 : decode cX9_digest 134 = .ok (.iload_n 3, 1) := by decide +kernel
theorem dX9_digest_135 : decode cX9_digest 135 = .ok (.aload_n 0, 1) := by decide +kernel
theorem dX9_digest_136 : decode cX9_digest 136 = .ok (.getfield 40, 3) := by decide +kernel
theorem dX9_digest_139 : decode cX9_digest 139 = .ok (.getfield 228, 3) := by decide +kernel
theorem dX9_digest_142 : decode cX9_digest 142 = .ok (.if_icmp .ge 26, 3) := by decide +kernel
theorem dX9_digest_145 : decode cX9_digest 145 = .ok (.ldc2_w 240, 3) := by decide +kernel
theorem dX9_digest_148 : decode cX9_digest 148 = .ok (.lload_n 1, 1) := by decide +kernel
theorem dX9_digest_149 : decode cX9_digest 149 = .ok (.lmul, 1) := by decide +kernel
theorem dX9_digest_150 : decode cX9_digest 150 = .ok (.aload_n 0, 1) := by decide +kernel
theorem dX9_digest_151 : decode cX9_digest 151 = .ok (.getfield 40, 3) := by decide +kernel
theorem dX9_digest_154 : decode cX9_digest 154 = .ok (.getfield 197, 3) := by decide +kernel
theorem dX9_digest_157 : decode cX9_digest 157 = .ok (.iload_n 3, 1) := by decide +kernel
theorem dX9_digest_158 : decode cX9_digest 158 = .ok (.iaload, 1) := by decide +kernel
theorem dX9_digest_159 : decode cX9_digest 159 = .ok (.i2l, 1) := by decide +kernel
theorem dX9_digest_160 : decode cX9_digest 160 = .ok (.ladd, 1) := by decide +kernel
theorem dX9_digest_161 : decode cX9_digest 161 = .ok (.lstore_n 1, 1) := by decide +kernel
theorem dX9_digest_162 : decode cX9_digest 162 = .ok (.iinc 3 1, 3) := by decide +kernel
theorem dX9_digest_165 : decode cX9_digest 165 = .ok (.goto (-31), 3) := by decide +kernel
theorem dX9_digest_168 : decode cX9_digest 168 = .ok (.lload_n 1, 1) := by decide +kernel
theorem dX9_digest_169 : decode cX9_digest 169 = .ok (.lreturn, 1) := by decide +kernel
theorem dX9_within_0 : decode cX9_within 0 = .ok (.iload_n 0, 1) := by decide +kernel
theorem dX9_within_1 : decode cX9_within 1 = .ok (.iload_n 1, 1) := by decide +kernel
theorem dX9_within_2 : decode cX9_within 2 = .ok (.if_icmp .lt 12, 3) := by decide +kernel
theorem dX9_within_5 : decode cX9_within 5 = .ok (.iload_n 0, 1) := by decide +kernel
theorem dX9_within_6 : decode cX9_within 6 = .ok (.iload_n 2, 1) := by decide +kernel
theorem dX9_within_7 : decode cX9_within 7 = .ok (.if_icmp .gt 7, 3) := by decide +kernel
theorem dX9_within_10 : decode cX9_within 10 = .ok (.iconst 1, 1) := by decide +kernel
theorem dX9_within_11 : decode cX9_within 11 = .ok (.goto 4, 3) := by decide +kernel
theorem dX9_within_14 : decode cX9_within 14 = .ok (.iconst 0, 1) := by decide +kernel
theorem dX9_within_15 : decode cX9_within 15 = .ok (.ireturn, 1) := by decide +kernel
theorem dX9_isWeek_0 : decode cX9_isWeek 0 = .ok (.iload_n 0, 1) := by decide +kernel
theorem dX9_isWeek_1 : decode cX9_isWeek 1 = .ok (.iconst 0, 1) := by decide +kernel
theorem dX9_isWeek_2 : decode cX9_isWeek 2 = .ok (.bipush 9, 2) := by decide +kernel
theorem dX9_isWeek_4 : decode cX9_isWeek 4 = .ok (.invokestatic 124, 3) := by decide +kernel
theorem dX9_isWeek_7 : decode cX9_isWeek 7 = .ok (.ireturn, 1) := by decide +kernel
theorem dX9_isHour_0 : decode cX9_isHour 0 = .ok (.iload_n 0, 1) := by decide +kernel
theorem dX9_isHour_1 : decode cX9_isHour 1 = .ok (.iconst 0, 1) := by decide +kernel
theorem dX9_isHour_2 : decode cX9_isHour 2 = .ok (.bipush 39, 2) := by decide +kernel
theorem dX9_isHour_4 : decode cX9_isHour 4 = .ok (.invokestatic 124, 3) := by decide +kernel
theorem dX9_isHour_7 : decode cX9_isHour 7 = .ok (.ireturn, 1) := by decide +kernel
end
section
theorem dX10_init_0 : decode cX10_init 0 = .ok (.aload_n 0, 1) := by decide +kernel
theorem dX10_init_1 : decode cX10_init 1 = .ok (.invokespecial 1, 3) := by decide +kernel
theorem dX10_init_4 : decode cX10_init 4 = .ok (.aload_n 0, 1) := by decide +kernel
theorem dX10_init_5 : decode cX10_init 5 = .ok (.bipush 30, 2) := by decide +kernel
theorem dX10_init_7 : decode cX10_init 7 = .ok (.newarray .int, 2) := by decide +kernel
theorem dX10_init_9 : decode cX10_init 9 = .ok (.putfield 7, 3) := by decide +kernel
theorem dX10_init_12 : decode cX10_init 12 = .ok (.aload_n 0, 1) := by decide +kernel
theorem dX10_init_13 : decode cX10_init 13 = .ok (.bipush 30, 2) := by decide +kernel
theorem dX10_init_15 : decode cX10_init 15 = .ok (.newarray .int, 2) := by decide +kernel
theorem dX10_init_17 : decode cX10_init 17 = .ok (.putfield 13, 3) := by decide +kernel
theorem dX10_init_20 : decode cX10_init 20 = .ok (.aload_n 0, 1) := by decide +kernel
theorem dX10_init_21 : decode cX10_init 21 = .ok (.bipush 24, 2) := by decide +kernel
theorem dX10_init_23 : decode cX10_init 23 = .ok (.newarray .int, 2) := by decide +kernel
theorem dX10_init_25 : decode cX10_init 25 = .ok (.putfield 16, 3) := by decide +kernel
theorem dX10_init_28 : decode cX10_init 28 = .ok (.aload_n 0, 1) := by decide +kernel
theorem dX10_init_29 : decode cX10_init 29 = .ok (.bipush 24, 2) := by decide +kernel
theorem dX10_init_31 : decode cX10_init 31 = .ok (.newarray .int, 2) := by decide +kernel
theorem dX10_init_33 : decode cX10_init 33 = .ok (.putfield 19, 3) := by decide +kernel
theorem dX10_init_36 : decode cX10_init 36 = .ok (.aload_n 0, 1) := by decide +kernel
theorem dX10_init_37 : decode cX10_init 37 = .ok (.bipush 24, 2) := by decide +kernel
theorem dX10_init_39 : decode cX10_init 39 = .ok (.newarray .int, 2) := by decide +kernel
theorem dX10_init_41 : decode cX10_init 41 = .ok (.putfield 22, 3) := by decide +kernel
theorem dX10_init_44 : decode cX10_init 44 = .ok (.aload_n 0, 1) := by decide +kernel
theorem dX10_init_45 : decode cX10_init 45 = .ok (.bipush 24, 2) := by decide +kernel
theorem dX10_init_47 : decode cX10_init 47 = .ok (.newarray .int, 2) := by decide +kernel
theorem dX10_init_49 : decode cX10_init 49 = .ok (.putfield 25, 3) := by decide +kernel
theorem dX10_init_52 : decode cX10_init 52 = .ok (.aload_n 0, 1) := by decide +kernel
theorem dX10_init_53 : decode cX10_init 53 = .ok (.bipush 24, 2) := by decide +kernel
theorem dX10_init_55 : decode cX10_init 55 = .ok (.newarray .int, 2) := by decide +kernel
theorem dX10_init_57 : decode cX10_init 57 = .ok (.putfield 28, 3) := by decide +kernel
theorem dX10_init_60 : decode cX10_init 60 = .ok (.aload_n 0, 1) := by decide +kernel
theorem dX10_init_61 : decode cX10_init 61 = .ok (.bipush 24, 2) := by decide +kernel
theorem dX10_init_63 : decode cX10_init 63 = .ok (.newarray .int, 2) := by decide +kernel
theorem dX10_init_65 : decode cX10_init 65 = .ok (.putfield 31, 3) := by decide +kernel
theorem dX10_init_68 : decode cX10_init 68 = .ok (.aload_n 0, 1) := by decide +kernel
theorem dX10_init_69 : decode cX10_init 69 = .ok (.sipush 576, 3) := by decide +kernel
theorem dX10_init_72 : decode cX10_init 72 = .ok (.newarray .int, 2) := by decide +kernel
theorem dX10_init_74 : decode cX10_init 74 = .ok (.putfield 34, 3) := by decide +kernel
theorem dX10_init_77 : decode cX10_init 77 = .ok (.aload_n 0, 1) := by decide +kernel
theorem dX10_init_78 : decode cX10_init 78 = .ok (.iconst (-1), 1) := by decide +kernel
theorem dX10_init_79 : decode cX10_init 79 = .ok (.putfield 37, 3) := by decide +kernel
theorem dX10_init_82 : decode cX10_init 82 = .ok (.aload_n 0, 1) := by decide +kernel
theorem dX10_init_83 : decode cX10_init 83 = .ok (.iconst 2, 1) := by decide +kernel
theorem dX10_init_84 : decode cX10_init 84 = .ok (.newarray .int, 2) := by decide +kernel
theorem dX10_init_86 : decode cX10_init 86 = .ok (.putfield 41, 3) := by decide +kernel
theorem dX10_init_89 : decode cX10_init 89 = .ok (.aload_n 0, 1) := by decide +kernel
theorem dX10_init_90 : decode cX10_init 90 = .ok (.bipush 24, 2) := by decide +kernel
theorem dX10_init_92 : decode cX10_init 92 = .ok (.newarray .int, 2) := by decide +kernel
theorem dX10_init_94 : decode cX10_init 94 = .ok (.putfield 44, 3) := by decide +kernel
theorem dX10_init_97 : decode cX10_init 97 = .ok (.aload_n 0, 1) := by decide +kernel
theorem dX10_init_98 : decode cX10_init 98 = .ok (.bipush 24, 2) := by decide +kernel
theorem dX10_init_100 : decode cX10_init 100 = .ok (.newarray .int, 2) := by decide +kernel
theorem dX10_init_102 : decode cX10_init 102 = .ok (.putfield 47, 3) := by decide +kernel
theorem dX10_init_105 : decode cX10_init 105 = .ok (.aload_n 0, 1) := by decide +kernel
theorem dX10_init_106 : decode cX10_init 106 = .ok (.sipush 5000, 3) := by decide +kernel
theorem dX10_init_109 : decode cX10_init 109 = .ok (.newarray .boolean, 2) := by decide +kernel
theorem dX10_init_111 : decode cX10_init 111 = .ok (.putfield 50, 3) := by decide +kernel
theorem dX10_init_114 : decode cX10_init 114 = .ok (.aload_n 0, 1) := by decide +kernel
theorem dX10_init_115 : decode cX10_init 115 = .ok (.bipush 24, 2) := by decide +kernel
theorem dX10_init_117 : decode cX10_init 117 = .ok (.newarray .int, 2) := by decide +kernel
theorem dX10_init_119 : decode cX10_init 119 = .ok (.putfield 54, 3) := by decide +kernel
theorem dX10_init_122 : decode cX10_init 122 = .ok (.aload_n 0, 1) := by decide +kernel
theorem dX10_init_123 : decode cX10_init 123 = .ok (.bipush 10, 2) := by decide +kernel
theorem dX10_init_125 : decode cX10_init 125 = .ok (.putfield 57, 3) := by decide +kernel
theorem dX10_init_128 : decode cX10_init 128 = .ok (.aload_n 0, 1) := by decide +kernel
theorem dX10_init_129 : decode cX10_init 129 = .ok (.sipush 200, 3) := by decide +kernel
theorem dX10_init_132 : decode cX10_init 132 = .ok (.newarray .int, 2) := by decide +kernel
theorem dX10_init_134 : decode cX10_init 134 = .ok (.putfield 60, 3) := by decide +kernel
theorem dX10_init_137 : decode cX10_init 137 = .ok (.aload_n 0, 1) := by decide +kernel
theorem dX10_init_138 : decode cX10_init 138 = .ok (.bipush 7, 2) := by decide +kernel
theorem dX10_init_140 : decode cX10_init 140 = .ok (.newarray .int, 2) := by decide +kernel
theorem dX10_init_142 : decode cX10_init 142 = .ok (.putfield 63, 3) := by decide +kernel
theorem dX10_init_145 : decode cX10_init 145 = .ok (.aload_n 0, 1) := by decide +kernel
theorem dX10_init_146 : decode cX10_init 146 = .ok (.bipush 12, 2) := by decide +kernel
theorem dX10_init_148 : decode cX10_init 148 = .ok (.newarray .int, 2) := by decide +kernel
theorem dX10_init_150 : decode cX10_init 150 = .ok (.putfield 66, 3) := by decide +kernel
theorem dX10_init_153 : decode cX10_init 153 = .ok (.aload_n 0, 1) := by decide +kernel
theorem dX10_init_154 : decode cX10_init 154 = .ok (.bipush 12, 2) := by decide +kernel
theorem dX10_init_156 : decode cX10_init 156 = .ok (.newarray .int, 2) := by decide +kernel
theorem dX10_init_158 : decode cX10_init 158 = .ok (.putfield 69, 3) := by decide +kernel
theorem dX10_init_161 : decode cX10_init 161 = .ok (.aload_n 0, 1) := by decide +kernel
theorem dX10_init_162 : decode cX10_init 162 = .ok (.bipush 12, 2) := by decide +kernel
theorem dX10_init_164 : decode cX10_init 164 = .ok (.newarray .int, 2) := by decide +kernel
theorem dX10_init_166 : decode cX10_init 166 = .ok (.putfield 72, 3) := by decide +kernel
theorem dX10_init_169 : decode cX10_init 169 = .ok (.aload_n 0, 1) := by decide +kernel
theorem dX10_init_170 : decode cX10_init 170 = .ok (.bipush 24, 2) := by decide +kernel
theorem dX10_init_172 : decode cX10_init 172 = .ok (.newarray .int, 2) := by decide +kernel
theorem dX10_init_174 : decode cX10_init 174 = .ok (.putfield 75, 3) := by decide +kernel
theorem dX10_init_177 : decode cX10_init 177 = .ok (.aload_n 0, 1) := by decide +kernel
theorem dX10_init_178 : decode cX10_init 178 = .ok (.sipush 144, 3) := by decide +kernel
theorem dX10_init_181 : decode cX10_init 181 = .ok (.newarray .int, 2) := by decide +kernel
theorem dX10_init_183 : decode cX10_init 183 = .ok (.putfield 78, 3) := by decide +kernel
theorem dX10_init_186 : decode cX10_init 186 = .ok (.aload_n 0, 1) := by decide +kernel
theorem dX10_init_187 : decode cX10_init 187 = .ok (.bipush 7, 2) := by decide +kernel
theorem dX10_init_189 : decode cX10_init 189 = .ok (.newarray .int, 2) := by decide +kernel
theorem dX10_init_191 : decode cX10_init 191 = .ok (.putfield 81, 3) := by decide +kernel
theorem dX10_init_194 : decode cX10_init 194 = .ok (.aload_n 0, 1) := by decide +kernel
theorem dX10_init_195 : decode cX10_init 195 = .ok (.bipush 24, 2) := by decide +kernel
theorem dX10_init_197 : decode cX10_init 197 = .ok (.newarray .int, 2) := by decide +kernel
theorem dX10_init_199 : decode cX10_init 199 = .ok (.putfield 84, 3) := by decide +kernel
theorem dX10_init_202 : decode cX10_init 202 = .ok (.aload_n 0, 1) := by decide +kernel
theorem dX10_init_203 : decode cX10_init 203 = .ok (.bipush 24, 2) := by decide +kernel
theorem dX10_init_205 : decode cX10_init 205 = .ok (.newarray .int, 2) := by decide +kernel
theorem dX10_init_207 : decode cX10_init 207 = .ok (.putfield 87, 3) := by decide +kernel
theorem dX10_init_210 : decode cX10_init 210 = .ok (.aload_n 0, 1) := by decide +kernel
theorem dX10_init_211 : decode cX10_init 211 = .ok (.iconst 4, 1) := by decide +kernel
theorem dX10_init_212 : decode cX10_init 212 = .ok (.newarray .int, 2) := by decide +kernel
theorem dX10_init_214 : decode cX10_init 214 = .ok (.putfield 90, 3) := by decide +kernel
theorem dX10_init_217 : decode cX10_init 217 = .ok (.aload_n 0, 1) := by decide +kernel
theorem dX10_init_218 : decode cX10_init 218 = .ok (.iconst 4, 1) := by decide +kernel
theorem dX10_init_219 : decode cX10_init 219 = .ok (.newarray .int, 2) := by decide +kernel
theorem dX10_init_221 : decode cX10_init 221 = .ok (.putfield 93, 3) := by decide +kernel
theorem dX10_init_224 : decode cX10_init 224 = .ok (.aload_n 0, 1) := by decide +kernel
theorem dX10_init_225 : decode cX10_init 225 = .ok (.iconst 4, 1) := by decide +kernel
theorem dX10_init_226 : decode cX10_init 226 = .ok (.newarray .int, 2) := by decide +kernel
theorem dX10_init_228 : decode cX10_init 228 = .ok (.putfield 96, 3) := by decide +kernel
theorem dX10_init_231 : decode cX10_init 231 = .ok (.aload_n 0, 1) := by decide +kernel
theorem dX10_init_232 : decode cX10_init 232 = .ok (.bipush 40, 2) := by decide +kernel
theorem dX10_init_234 : decode cX10_init 234 = .ok (.newarray .int, 2) := by decide +kernel
theorem dX10_init_236 : decode cX10_init 236 = .ok (.putfield 99, 3) := by decide +kernel
theorem dX10_init_239 : decode cX10_init 239 = .ok (.aload_n 0, 1) := by decide +kernel
theorem dX10_init_240 : decode cX10_init 240 = .ok (.bipush 40, 2) := by decide +kernel
theorem dX10_init_242 : decode cX10_init 242 = .ok (.newarray .int, 2) := by decide +kernel
theorem dX10_init_244 : decode cX10_init 244 = .ok (.putfield 102, 3) := by decide +kernel
theorem dX10_init_247 : decode cX10_init 247 = .ok (.aload_n 0, 1) := by decide +kernel
theorem dX10_init_248 : decode cX10_init 248 = .ok (.bipush 40, 2) := by decide +kernel
theorem dX10_init_250 : decode cX10_init 250 = .ok (.newarray .int, 2) := by decide +kernel
theorem dX10_init_252 : decode cX10_init 252 = .ok (.putfield 105, 3) := by decide +kernel
theorem dX10_init_255 : decode cX10_init 255 = .ok (.aload_n 0, 1) := by decide +kernel
theorem dX10_init_256 : decode cX10_init 256 = .ok (.bipush 30, 2) := by decide +kernel
theorem dX10_init_258 : decode cX10_init 258 = .ok (.newarray .int, 2) := by decide +kernel
theorem dX10_init_260 : decode cX10_init 260 = .ok (.putfield 108, 3) := by decide +kernel
theorem dX10_init_263 : decode cX10_init 263 = .ok (.aload_n 0, 1) := by decide +kernel
theorem dX10_init_264 : decode cX10_init 264 = .ok (.bipush 30, 2) := by decide +kernel
theorem dX10_init_266 : decode cX10_init 266 = .ok (.newarray .int, 2) := by decide +kernel
theorem dX10_init_268 : decode cX10_init 268 = .ok (.putfield 111, 3) := by decide +kernel
theorem dX10_init_271 : decode cX10_init 271 = .ok (.aload_n 0, 1) := by decide +kernel
theorem dX10_init_272 : decode cX10_init 272 = .ok (.bipush 30, 2) := by decide +kernel
theorem dX10_init_274 : decode cX10_init 274 = .ok (.newarray .int, 2) := by decide +kernel
theorem dX10_init_276 : decode cX10_init 276 = .ok (.putfield 114, 3) := by decide +kernel
theorem dX10_init_279 : decode cX10_init 279 = .ok (.aload_n 0, 1) := by decide +kernel
theorem dX10_init_280 : decode cX10_init 280 = .ok (.iconst 4, 1) := by decide +kernel
theorem dX10_init_281 : decode cX10_init 281 = .ok (.newarray .int, 2) := by decide +kernel
theorem dX10_init_283 : decode cX10_init 283 = .ok (.putfield 117, 3) := by decide +kernel
theorem dX10_init_286 : decode cX10_init 286 = .ok (.aload_n 0, 1) := by decide +kernel
theorem dX10_init_287 : decode cX10_init 287 = .ok (.iconst 4, 1) := by decide +kernel
theorem dX10_init_288 : decode cX10_init 288 = .ok (.newarray .int, 2) := by decide +kernel
theorem dX10_init_290 : decode cX10_init 290 = .ok (.putfield 120, 3) := by decide +kernel
theorem dX10_init_293 : decode cX10_init 293 = .ok (.aload_n 0, 1) := by decide +kernel
theorem dX10_init_294 : decode cX10_init 294 = .ok (.sipush 240, 3) := by decide +kernel
theorem dX10_init_297 : decode cX10_init 297 = .ok (.newarray .int, 2) := by decide +kernel
theorem dX10_init_299 : decode cX10_init 299 = .ok (.putfield 123, 3) := by decide +kernel
theorem dX10_init_302 : decode cX10_init 302 = .ok (.aload_n 0, 1) := by decide +kernel
theorem dX10_init_303 : decode cX10_init 303 = .ok (.bipush 60, 2) := by decide +kernel
theorem dX10_init_305 : decode cX10_init 305 = .ok (.newarray .int, 2) := by decide +kernel
theorem dX10_init_307 : decode cX10_init 307 = .ok (.putfield 126, 3) := by decide +kernel
theorem dX10_init_310 : decode cX10_init 310 = .ok (.iconst 0, 1) := by decide +kernel
theorem dX10_init_311 : decode cX10_init 311 = .ok (.istore_n 1, 1) := by decide +kernel
theorem dX10_init_312 : decode cX10_init 312 = .ok (.iload_n 1, 1) := by decide +kernel
theorem dX10_init_313 : decode cX10_init 313 = .ok (.iconst 4, 1) := by decide +kernel
theorem dX10_init_314 : decode cX10_init 314 = .ok (.if_icmp .ge 31, 3) := by decide +kernel
theorem dX10_init_317 : decode cX10_init 317 = .ok (.aload_n 0, 1) := by decide +kernel
theorem dX10_init_318 : decode cX10_init 318 = .ok (.getfield 117, 3) := by decide +kernel
theorem dX10_init_321 : decode cX10_init 321 = .ok (.iload_n 1, 1) := by decide +kernel
theorem dX10_init_322 : decode cX10_init 322 = .ok (.iconst (-1), 1) := by decide +kernel
theorem dX10_init_323 : decode cX10_init 323 = .ok (.iastore, 1) := by decide +kernel
theorem dX10_init_324 : decode cX10_init 324 = .ok (.aload_n 0, 1) := by decide +kernel
theorem dX10_init_325 : decode cX10_init 325 = .ok (.getfield 90, 3) := by decide +kernel
theorem dX10_init_328 : decode cX10_init 328 = .ok (.iload_n 1, 1) := by decide +kernel
theorem dX10_init_329 : decode cX10_init 329 = .ok (.bipush 18, 2) := by decide +kernel
theorem dX10_init_331 : decode cX10_init 331 = .ok (.iastore, 1) := by decide +kernel
theorem dX10_init_332 : decode cX10_init 332 = .ok (.aload_n 0, 1) := by decide +kernel
theorem dX10_init_333 : decode cX10_init 333 = .ok (.getfield 93, 3) := by decide +kernel
theorem dX10_init_336 : decode cX10_init 336 = .ok (.iload_n 1, 1) := by decide +kernel
theorem dX10_init_337 : decode cX10_init 337 = .ok (.iconst (-1), 1) := by decide +kernel
theorem dX10_init_338 : decode cX10_init 338 = .ok (.iastore, 1) := by decide +kernel
theorem dX10_init_339 : decode cX10_init 339 = .ok (.iinc 1 1, 3) := by decide +kernel
theorem dX10_init_342 : decode cX10_init 342 = .ok (.goto (-30), 3) := by decide +kernel
theorem dX10_init_345 : decode cX10_init 345 = .ok (.iconst 0, 1) := by decide +kernel
theorem dX10_init_346 : decode cX10_init 346 = .ok (.istore_n 1, 1) := by decide +kernel
theorem dX10_init_347 : decode cX10_init 347 = .ok (.iload_n 1, 1) := by decide +kernel
theorem dX10_init_348 : decode cX10_init 348 = .ok (.sipush 576, 3) := by decide +kernel
theorem dX10_init_351 : decode cX10_init 351 = .ok (.if_icmp .ge 16, 3) := by decide +kernel
theorem dX10_init_354 : decode cX10_init 354 = .ok (.aload_n 0, 1) := by decide +kernel
theorem dX10_init_355 : decode cX10_init 355 = .ok (.getfield 34, 3) := by decide +kernel
theorem dX10_init_358 : decode cX10_init 358 = .ok (.iload_n 1, 1) := by decide +kernel
theorem dX10_init_359 : decode cX10_init 359 = .ok (.iconst 2, 1) := by decide +kernel
theorem dX10_init_360 : decode cX10_init 360 = .ok (.iastore, 1) := by decide +kernel
theorem dX10_init_361 : decode cX10_init 361 = .ok (.iinc 1 1, 3) := by decide +kernel
theorem dX10_init_364 : decode cX10_init 364 = .ok (.goto (-17), 3) := by decide +kernel
theorem dX10_init_367 : decode cX10_init 367 = .ok (.aload_n 0, 1) := by decide +kernel
theorem dX10_init_368 : decode cX10_init 368 = .ok (.getfield 41, 3) := by decide +kernel
theorem dX10_init_371 : decode cX10_init 371 = .ok (.iconst 0, 1) := by decide +kernel
theorem dX10_init_372 : decode cX10_init 372 = .ok (.bipush 60, 2) := by decide +kernel
theorem dX10_init_374 : decode cX10_init 374 = .ok (.iastore, 1) := by decide +kernel
theorem dX10_init_375 : decode cX10_init 375 = .ok (.aload_n 0, 1) := by decide +kernel
theorem dX10_init_376 : decode cX10_init 376 = .ok (.getfield 41, 3) := by decide +kernel
theorem dX10_init_379 : decode cX10_init 379 = .ok (.iconst 1, 1) := by decide +kernel
theorem dX10_init_380 : decode cX10_init 380 = .ok (.bipush 60, 2) := by decide +kernel
theorem dX10_init_382 : decode cX10_init 382 = .ok (.iastore, 1) := by decide +kernel
theorem dX10_init_383 : decode cX10_init 383 = .ok (.return_, 1) := by decide +kernel
theorem dX10_within_0 : decode cX10_within 0 = .ok (.lload_n 0, 1) := by decide +kernel
theorem dX10_within_1 : decode cX10_within 1 = .ok (.lload_n 2, 1) := by decide +kernel
theorem dX10_within_2 : decode cX10_within 2 = .ok (.lcmp, 1) := by decide +kernel
theorem dX10_within_3 : decode cX10_within 3 = .ok (.ifCond .lt 14, 3) := by decide +kernel
theorem dX10_within_6 : decode cX10_within 6 = .ok (.lload_n 0, 1) := by decide +kernel
theorem dX10_within_7 : decode cX10_within 7 = .ok (.lload 4, 2) := by decide +kernel
theorem dX10_within_9 : decode cX10_within 9 = .ok (.lcmp, 1) := by decide +kernel
theorem dX10_within_10 : decode cX10_within 10 = .ok (.ifCond .gt 7, 3) := by decide +kernel
theorem dX10_within_13 : decode cX10_within 13 = .ok (.iconst 1, 1) := by decide +kernel
theorem dX10_within_14 : decode cX10_within 14 = .ok (.goto 4, 3) := by decide +kernel
theorem dX10_within_17 : decode cX10_within 17 = .ok (.iconst 0, 1) := by decide +kernel
theorem dX10_within_18 : decode cX10_within 18 = .ok (.ireturn, 1) := by decide +kernel
theorem dX10_isHut_0 : decode cX10_isHut 0 = .ok (.iload_n 1, 1) := by decide +kernel
theorem dX10_isHut_1 : decode cX10_isHut 1 = .ok (.i2l, 1) := by decide +kernel
theorem dX10_isHut_2 : decode cX10_isHut 2 = .ok (.lconst 0, 1) := by decide +kernel
theorem dX10_isHut_3 : decode cX10_isHut 3 = .ok (.aload_n 0, 1) := by decide +kernel
theorem dX10_isHut_4 : decode cX10_isHut 4 = .ok (.getfield 129, 3) := by decide +kernel
theorem dX10_isHut_7 : decode cX10_isHut 7 = .ok (.iconst 1, 1) := by decide +kernel
theorem dX10_isHut_8 : decode cX10_isHut 8 = .ok (.isub, 1) := by decide +kernel
theorem dX10_isHut_9 : decode cX10_isHut 9 = .ok (.i2l, 1) := by decide +kernel
theorem dX10_isHut_10 : decode cX10_isHut 10 = .ok (.invokestatic 132, 3) := by decide +kernel
theorem dX10_isHut_13 : decode cX10_isHut 13 = .ok (.ireturn, 1) := by decide +kernel
theorem dX10_isParty_0 : decode cX10_isParty 0 = .ok (.iload_n 1, 1) := by decide +kernel
theorem dX10_isParty_1 : decode cX10_isParty 1 = .ok (.i2l, 1) := by decide +kernel
theorem dX10_isParty_2 : decode cX10_isParty 2 = .ok (.lconst 0, 1) := by decide +kernel
theorem dX10_isParty_3 : decode cX10_isParty 3 = .ok (.aload_n 0, 1) := by decide +kernel
theorem dX10_isParty_4 : decode cX10_isParty 4 = .ok (.getfield 136, 3) := by decide +kernel
theorem dX10_isParty_7 : decode cX10_isParty 7 = .ok (.iconst 1, 1) := by decide +kernel
theorem dX10_isParty_8 : decode cX10_isParty 8 = .ok (.isub, 1) := by decide +kernel
theorem dX10_isParty_9 : decode cX10_isParty 9 = .ok (.i2l, 1) := by decide +kernel
theorem dX10_isParty_10 : decode cX10_isParty 10 = .ok (.invokestatic 132, 3) := by decide +kernel
theorem dX10_isParty_13 : decode cX10_isParty 13 = .ok (.ireturn, 1) := by decide +kernel
theorem dX10_isWeek_0 : decode cX10_isWeek 0 = .ok (.iload_n 0, 1) := by decide +kernel
theorem dX10_isWeek_1 : decode cX10_isWeek 1 = .ok (.i2l, 1) := by decide +kernel
theorem dX10_isWeek_2 : decode cX10_isWeek 2 = .ok (.lconst 0, 1) := by decide +kernel
theorem dX10_isWeek_3 : decode cX10_isWeek 3 = .ok (.ldc2_w 139, 3) := by decide +kernel
theorem dX10_isWeek_6 : decode cX10_isWeek 6 = .ok (.invokestatic 132, 3) := by decide +kernel
theorem dX10_isWeek_9 : decode cX10_isWeek 9 = .ok (.ireturn, 1) := by decide +kernel
theorem dX10_hut_0 : decode cX10_hut 0 = .ok (.iload_n 1, 1) := by decide +kernel
theorem dX10_hut_1 : decode cX10_hut 1 = .ok (.i2l, 1) := by decide +kernel
theorem dX10_hut_2 : decode cX10_hut 2 = .ok (.lconst 0, 1) := by decide +kernel
theorem dX10_hut_3 : decode cX10_hut 3 = .ok (.ldc2_w 141, 3) := by decide +kernel
theorem dX10_hut_6 : decode cX10_hut 6 = .ok (.invokestatic 132, 3) := by decide +kernel
theorem dX10_hut_9 : decode cX10_hut 9 = .ok (.ifCond .eq 15, 3) := by decide +kernel
theorem dX10_hut_12 : decode cX10_hut 12 = .ok (.iload_n 2, 1) := by decide +kernel
theorem dX10_hut_13 : decode cX10_hut 13 = .ok (.i2l, 1) := by decide +kernel
theorem dX10_hut_14 : decode cX10_hut 14 = .ok (.lconst 1, 1) := by decide +kernel
theorem dX10_hut_15 : decode cX10_hut 15 = .ok (.ldc2_w 143, 3) := by decide +kernel
theorem dX10_hut_18 : decode cX10_hut 18 = .ok (.invokestatic 132, 3) := by decide +kernel
theorem dX10_hut_21 : decode cX10_hut 21 = .ok (.ifCond .ne 6, 3) := by decide +kernel
theorem dX10_hut_24 : decode cX10_hut 24 = .ok (.bipush (-2), 2) := by decide +kernel
theorem dX10_hut_26 : decode cX10_hut 26 = .ok (.ireturn, 1) := by decide +kernel
theorem dX10_hut_27 : decode cX10_hut 27 = .ok (.aload_n 0, 1) := by decide +kernel
theorem dX10_hut_28 : decode cX10_hut 28 = .ok (.getfield 129, 3) := by decide +kernel
theorem dX10_hut_31 : decode cX10_hut 31 = .ok (.bipush 30, 2) := by decide +kernel
theorem dX10_hut_33 : decode cX10_hut 33 = .ok (.if_icmp .ne 6, 3) := by decide +kernel
theorem dX10_hut_36 : decode cX10_hut 36 = .ok (.bipush (-4), 2) := by decide +kernel
theorem dX10_hut_38 : decode cX10_hut 38 = .ok (.ireturn, 1) := by decide +kernel
theorem dX10_hut_39 : decode cX10_hut 39 = .ok (.aload_n 0, 1) := by decide +kernel
theorem dX10_hut_40 : decode cX10_hut 40 = .ok (.getfield 7, 3) := by decide +kernel
theorem dX10_hut_43 : decode cX10_hut 43 = .ok (.aload_n 0, 1) := by decide +kernel
theorem dX10_hut_44 : decode cX10_hut 44 = .ok (.getfield 129, 3) := by decide +kernel
theorem dX10_hut_47 : decode cX10_hut 47 = .ok (.iload_n 1, 1) := by decide +kernel
theorem dX10_hut_48 : decode cX10_hut 48 = .ok (.iastore, 1) := by decide +kernel
theorem dX10_hut_49 : decode cX10_hut 49 = .ok (.aload_n 0, 1) := by decide +kernel
theorem dX10_hut_50 : decode cX10_hut 50 = .ok (.getfield 13, 3) := by decide +kernel
theorem dX10_hut_53 : decode cX10_hut 53 = .ok (.aload_n 0, 1) := by decide +kernel
theorem dX10_hut_54 : decode cX10_hut 54 = .ok (.getfield 129, 3) := by decide +kernel
theorem dX10_hut_57 : decode cX10_hut 57 = .ok (.iload_n 2, 1) := by decide +kernel
theorem dX10_hut_58 : decode cX10_hut 58 = .ok (.iastore, 1) := by decide +kernel
theorem dX10_hut_59 : decode cX10_hut 59 = .ok (.aload_n 0, 1) := by decide +kernel
theorem dX10_hut_60 : decode cX10_hut 60 = .ok (.dup, 1) := by decide +kernel
theorem dX10_hut_61 : decode cX10_hut 61 = .ok (.getfield 129, 3) := by decide +kernel
theorem dX10_hut_64 : decode cX10_hut 64 = .ok (.iconst 1, 1) := by decide +kernel
theorem dX10_hut_65 : decode cX10_hut 65 = .ok (.iadd, 1) := by decide +kernel
theorem dX10_hut_66 : decode cX10_hut 66 = .ok (.putfield 129, 3) := by decide +kernel
theorem dX10_hut_69 : decode cX10_hut 69 = .ok (.aload_n 0, 1) := by decide +kernel
theorem dX10_hut_70 : decode cX10_hut 70 = .ok (.getfield 129, 3) := by decide +kernel
theorem dX10_hut_73 : decode cX10_hut 73 = .ok (.iconst 1, 1) := by decide +kernel
theorem dX10_hut_74 : decode cX10_hut 74 = .ok (.isub, 1) := by decide +kernel
theorem dX10_hut_75 : decode cX10_hut 75 = .ok (.ireturn, 1) := by decide +kernel
theorem dX10_party_0 : decode cX10_party 0 = .ok (.iload_n 1, 1) := by decide +kernel
theorem dX10_party_1 : decode cX10_party 1 = .ok (.i2l, 1) := by decide +kernel
theorem dX10_party_2 : decode cX10_party 2 = .ok (.lconst 1, 1) := by decide +kernel
theorem dX10_party_3 : decode cX10_party 3 = .ok (.ldc2_w 143, 3) := by decide +kernel
theorem dX10_party_6 : decode cX10_party 6 = .ok (.invokestatic 132, 3) := by decide +kernel
theorem dX10_party_9 : decode cX10_party 9 = .ok (.ifCond .eq 50, 3) := by decide +kernel
theorem dX10_party_12 : decode cX10_party 12 = .ok (.iload_n 2, 1) := by decide +kernel
theorem dX10_party_13 : decode cX10_party 13 = .ok (.i2l, 1) := by decide +kernel
theorem dX10_party_14 : decode cX10_party 14 = .ok (.lconst 0, 1) := by decide +kernel
theorem dX10_party_15 : decode cX10_party 15 = .ok (.iload_n 1, 1) := by decide +kernel
theorem dX10_party_16 : decode cX10_party 16 = .ok (.i2l, 1) := by decide +kernel
theorem dX10_party_17 : decode cX10_party 17 = .ok (.invokestatic 132, 3) := by decide +kernel
theorem dX10_party_20 : decode cX10_party 20 = .ok (.ifCond .eq 39, 3) := by decide +kernel
theorem dX10_party_23 : decode cX10_party 23 = .ok (.iload_n 3, 1) := by decide +kernel
theorem dX10_party_24 : decode cX10_party 24 = .ok (.invokestatic 145, 3) := by decide +kernel
theorem dX10_party_27 : decode cX10_party 27 = .ok (.ifCond .eq 32, 3) := by decide +kernel
theorem dX10_party_30 : decode cX10_party 30 = .ok (.iload 4, 2) := by decide +kernel
theorem dX10_party_32 : decode cX10_party 32 = .ok (.i2l, 1) := by decide +kernel
theorem dX10_party_33 : decode cX10_party 33 = .ok (.iload_n 3, 1) := by decide +kernel
theorem dX10_party_34 : decode cX10_party 34 = .ok (.i2l, 1) := by decide +kernel
theorem dX10_party_35 : decode cX10_party 35 = .ok (.ldc2_w 139, 3) := by decide +kernel
theorem dX10_party_38 : decode cX10_party 38 = .ok (.invokestatic 132, 3) := by decide +kernel
theorem dX10_party_41 : decode cX10_party 41 = .ok (.ifCond .eq 18, 3) := by decide +kernel
theorem dX10_party_44 : decode cX10_party 44 = .ok (.iload 5, 2) := by decide +kernel
theorem dX10_party_46 : decode cX10_party 46 = .ok (.i2l, 1) := by decide +kernel
theorem dX10_party_47 : decode cX10_party 47 = .ok (.ldc2_w 149, 3) := by decide +kernel
theorem dX10_party_50 : decode cX10_party 50 = .ok (.ldc2_w 139, 3) := by decide +kernel
theorem dX10_party_53 : decode cX10_party 53 = .ok (.invokestatic 132, 3) := by decide +kernel
theorem dX10_party_56 : decode cX10_party 56 = .ok (.ifCond .ne 6, 3) := by decide +kernel
theorem dX10_party_59 : decode cX10_party 59 = .ok (.bipush (-2), 2) := by decide +kernel
theorem dX10_party_61 : decode cX10_party 61 = .ok (.ireturn, 1) := by decide +kernel
theorem dX10_party_62 : decode cX10_party 62 = .ok (.aload_n 0, 1) := by decide +kernel
theorem dX10_party_63 : decode cX10_party 63 = .ok (.getfield 136, 3) := by decide +kernel
theorem dX10_party_66 : decode cX10_party 66 = .ok (.bipush 24, 2) := by decide +kernel
theorem dX10_party_68 : decode cX10_party 68 = .ok (.if_icmp .ne 6, 3) := by decide +kernel
theorem dX10_party_71 : decode cX10_party 71 = .ok (.bipush (-4), 2) := by decide +kernel
theorem dX10_party_73 : decode cX10_party 73 = .ok (.ireturn, 1) := by decide +kernel
theorem dX10_party_74 : decode cX10_party 74 = .ok (.aload_n 0, 1) := by decide +kernel
theorem dX10_party_75 : decode cX10_party 75 = .ok (.getfield 16, 3) := by decide +kernel
theorem dX10_party_78 : decode cX10_party 78 = .ok (.aload_n 0, 1) := by decide +kernel
theorem dX10_party_79 : decode cX10_party 79 = .ok (.getfield 136, 3) := by decide +kernel
theorem dX10_party_82 : decode cX10_party 82 = .ok (.iload_n 1, 1) := by decide +kernel
theorem dX10_party_83 : decode cX10_party 83 = .ok (.iastore, 1) := by decide +kernel
theorem dX10_party_84 : decode cX10_party 84 = .ok (.aload_n 0, 1) := by decide +kernel
theorem dX10_party_85 : decode cX10_party 85 = .ok (.getfield 19, 3) := by decide +kernel
theorem dX10_party_88 : decode cX10_party 88 = .ok (.aload_n 0, 1) := by decide +kernel
theorem dX10_party_89 : decode cX10_party 89 = .ok (.getfield 136, 3) := by decide +kernel
theorem dX10_party_92 : decode cX10_party 92 = .ok (.iload_n 2, 1) := by decide +kernel
theorem dX10_party_93 : decode cX10_party 93 = .ok (.iastore, 1) := by decide +kernel
theorem dX10_party_94 : decode cX10_party 94 = .ok (.aload_n 0, 1) := by decide +kernel
theorem dX10_party_95 : decode cX10_party 95 = .ok (.getfield 22, 3) := by decide +kernel
theorem dX10_party_98 : decode cX10_party 98 = .ok (.aload_n 0, 1) := by decide +kernel
theorem dX10_party_99 : decode cX10_party 99 = .ok (.getfield 136, 3) := by decide +kernel
theorem dX10_party_102 : decode cX10_party 102 = .ok (.iload_n 3, 1) := by decide +kernel
theorem dX10_party_103 : decode cX10_party 103 = .ok (.iastore, 1) := by decide +kernel
theorem dX10_party_104 : decode cX10_party 104 = .ok (.aload_n 0, 1) := by decide +kernel
theorem dX10_party_105 : decode cX10_party 105 = .ok (.getfield 25, 3) := by decide +kernel
theorem dX10_party_108 : decode cX10_party 108 = .ok (.aload_n 0, 1) := by decide +kernel
theorem dX10_party_109 : decode cX10_party 109 = .ok (.getfield 136, 3) := by decide +kernel
theorem dX10_party_112 : decode cX10_party 112 = .ok (.iload 4, 2) := by decide +kernel
theorem dX10_party_114 : decode cX10_party 114 = .ok (.iastore, 1) := by decide +kernel
theorem dX10_party_115 : decode cX10_party 115 = .ok (.aload_n 0, 1) := by decide +kernel
theorem dX10_party_116 : decode cX10_party 116 = .ok (.getfield 28, 3) := by decide +kernel
theorem dX10_party_119 : decode cX10_party 119 = .ok (.aload_n 0, 1) := by decide +kernel
theorem dX10_party_120 : decode cX10_party 120 = .ok (.getfield 136, 3) := by decide +kernel
theorem dX10_party_123 : decode cX10_party 123 = .ok (.iload 5, 2) := by decide +kernel
theorem dX10_party_125 : decode cX10_party 125 = .ok (.iastore, 1) := by decide +kernel
theorem dX10_party_126 : decode cX10_party 126 = .ok (.aload_n 0, 1) := by decide +kernel
theorem dX10_party_127 : decode cX10_party 127 = .ok (.getfield 31, 3) := by decide +kernel
theorem dX10_party_130 : decode cX10_party 130 = .ok (.aload_n 0, 1) := by decide +kernel
theorem dX10_party_131 : decode cX10_party 131 = .ok (.getfield 136, 3) := by decide +kernel
theorem dX10_party_134 : decode cX10_party 134 = .ok (.iconst (-1), 1) := by decide +kernel
theorem dX10_party_135 : decode cX10_party 135 = .ok (.iastore, 1) := by decide +kernel
theorem dX10_party_136 : decode cX10_party 136 = .ok (.aload_n 0, 1) := by decide +kernel
theorem dX10_party_137 : decode cX10_party 137 = .ok (.dup, 1) := by decide +kernel
theorem dX10_party_138 : decode cX10_party 138 = .ok (.getfield 136, 3) := by decide +kernel
theorem dX10_party_141 : decode cX10_party 141 = .ok (.iconst 1, 1) := by decide +kernel
theorem dX10_party_142 : decode cX10_party 142 = .ok (.iadd, 1) := by decide +kernel
theorem dX10_party_143 : decode cX10_party 143 = .ok (.putfield 136, 3) := by decide +kernel
theorem dX10_party_146 : decode cX10_party 146 = .ok (.aload_n 0, 1) := by decide +kernel
theorem dX10_party_147 : decode cX10_party 147 = .ok (.getfield 136, 3) := by decide +kernel
theorem dX10_party_150 : decode cX10_party 150 = .ok (.iconst 1, 1) := by decide +kernel
theorem dX10_party_151 : decode cX10_party 151 = .ok (.isub, 1) := by decide +kernel
theorem dX10_party_152 : decode cX10_party 152 = .ok (.ireturn, 1) := by decide +kernel
theorem dX10_meet_0 : decode cX10_meet 0 = .ok (.aload_n 0, 1) := by decide +kernel
theorem dX10_meet_1 : decode cX10_meet 1 = .ok (.getfield 22, 3) := by decide +kernel
theorem dX10_meet_4 : decode cX10_meet 4 = .ok (.iload_n 1, 1) := by decide +kernel
theorem dX10_meet_5 : decode cX10_meet 5 = .ok (.iaload, 1) := by decide +kernel
theorem dX10_meet_6 : decode cX10_meet 6 = .ok (.aload_n 0, 1) := by decide +kernel
theorem dX10_meet_7 : decode cX10_meet 7 = .ok (.getfield 25, 3) := by decide +kernel
theorem dX10_meet_10 : decode cX10_meet 10 = .ok (.iload_n 2, 1) := by decide +kernel
theorem dX10_meet_11 : decode cX10_meet 11 = .ok (.iaload, 1) := by decide +kernel
theorem dX10_meet_12 : decode cX10_meet 12 = .ok (.if_icmp .gt 22, 3) := by decide +kernel
theorem dX10_meet_15 : decode cX10_meet 15 = .ok (.aload_n 0, 1) := by decide +kernel
theorem dX10_meet_16 : decode cX10_meet 16 = .ok (.getfield 22, 3) := by decide +kernel
theorem dX10_meet_19 : decode cX10_meet 19 = .ok (.iload_n 2, 1) := by decide +kernel
theorem dX10_meet_20 : decode cX10_meet 20 = .ok (.iaload, 1) := by decide +kernel
theorem dX10_meet_21 : decode cX10_meet 21 = .ok (.aload_n 0, 1) := by decide +kernel
theorem dX10_meet_22 : decode cX10_meet 22 = .ok (.getfield 25, 3) := by decide +kernel
theorem dX10_meet_25 : decode cX10_meet 25 = .ok (.iload_n 1, 1) := by decide +kernel
theorem dX10_meet_26 : decode cX10_meet 26 = .ok (.iaload, 1) := by decide +kernel
theorem dX10_meet_27 : decode cX10_meet 27 = .ok (.if_icmp .gt 7, 3) := by decide +kernel
theorem dX10_meet_30 : decode cX10_meet 30 = .ok (.iconst 1, 1) := by decide +kernel
theorem dX10_meet_31 : decode cX10_meet 31 = .ok (.goto 4, 3) := by decide +kernel
theorem dX10_meet_34 : decode cX10_meet 34 = .ok (.iconst 0, 1) := by decide +kernel
theorem dX10_meet_35 : decode cX10_meet 35 = .ok (.ireturn, 1) := by decide +kernel
theorem dX10_tell_0 : decode cX10_tell 0 = .ok (.aload_n 0, 1) := by decide +kernel
theorem dX10_tell_1 : decode cX10_tell 1 = .ok (.iload_n 1, 1) := by decide +kernel
theorem dX10_tell_2 : decode cX10_tell 2 = .ok (.invokevirtual 151, 3) := by decide +kernel
theorem dX10_tell_5 : decode cX10_tell 5 = .ok (.ifCond .eq 28, 3) := by decide +kernel
theorem dX10_tell_8 : decode cX10_tell 8 = .ok (.aload_n 0, 1) := by decide +kernel
theorem dX10_tell_9 : decode cX10_tell 9 = .ok (.iload_n 2, 1) := by decide +kernel
theorem dX10_tell_10 : decode cX10_tell 10 = .ok (.invokevirtual 151, 3) := by decide +kernel
theorem dX10_tell_13 : decode cX10_tell 13 = .ok (.ifCond .eq 20, 3) := by decide +kernel
theorem dX10_tell_16 : decode cX10_tell 16 = .ok (.iload_n 1, 1) := by decide +kernel
theorem dX10_tell_17 : decode cX10_tell 17 = .ok (.iload_n 2, 1) := by decide +kernel
theorem dX10_tell_18 : decode cX10_tell 18 = .ok (.if_icmp .eq 15, 3) := by decide +kernel
theorem dX10_tell_21 : decode cX10_tell 21 = .ok (.iload_n 3, 1) := by decide +kernel
theorem dX10_tell_22 : decode cX10_tell 22 = .ok (.i2l, 1) := by decide +kernel
theorem dX10_tell_23 : decode cX10_tell 23 = .ok (.lconst 0, 1) := by decide +kernel
theorem dX10_tell_24 : decode cX10_tell 24 = .ok (.ldc2_w 154, 3) := by decide +kernel
theorem dX10_tell_27 : decode cX10_tell 27 = .ok (.invokestatic 132, 3) := by decide +kernel
theorem dX10_tell_30 : decode cX10_tell 30 = .ok (.ifCond .ne 6, 3) := by decide +kernel
theorem dX10_tell_33 : decode cX10_tell 33 = .ok (.bipush (-2), 2) := by decide +kernel
theorem dX10_tell_35 : decode cX10_tell 35 = .ok (.ireturn, 1) := by decide +kernel
theorem dX10_tell_36 : decode cX10_tell 36 = .ok (.iload_n 3, 1) := by decide +kernel
theorem dX10_tell_37 : decode cX10_tell 37 = .ok (.iconst 1, 1) := by decide +kernel
theorem dX10_tell_38 : decode cX10_tell 38 = .ok (.if_icmp .ne 60, 3) := by decide +kernel
theorem dX10_tell_41 : decode cX10_tell 41 = .ok (.aload_n 0, 1) := by decide +kernel
theorem dX10_tell_42 : decode cX10_tell 42 = .ok (.getfield 31, 3) := by decide +kernel
theorem dX10_tell_45 : decode cX10_tell 45 = .ok (.iload_n 1, 1) := by decide +kernel
theorem dX10_tell_46 : decode cX10_tell 46 = .ok (.iaload, 1) := by decide +kernel
theorem dX10_tell_47 : decode cX10_tell 47 = .ok (.iconst (-1), 1) := by decide +kernel
theorem dX10_tell_48 : decode cX10_tell 48 = .ok (.if_icmp .eq 50, 3) := by decide +kernel
theorem dX10_tell_51 : decode cX10_tell 51 = .ok (.aload_n 0, 1) := by decide +kernel
theorem dX10_tell_52 : decode cX10_tell 52 = .ok (.getfield 31, 3) := by decide +kernel
theorem dX10_tell_55 : decode cX10_tell 55 = .ok (.iload_n 2, 1) := by decide +kernel
theorem dX10_tell_56 : decode cX10_tell 56 = .ok (.iaload, 1) := by decide +kernel
theorem dX10_tell_57 : decode cX10_tell 57 = .ok (.iconst (-1), 1) := by decide +kernel
theorem dX10_tell_58 : decode cX10_tell 58 = .ok (.if_icmp .eq 40, 3) := by decide +kernel
theorem dX10_tell_61 : decode cX10_tell 61 = .ok (.aload_n 0, 1) := by decide +kernel
theorem dX10_tell_62 : decode cX10_tell 62 = .ok (.getfield 7, 3) := by decide +kernel
theorem dX10_tell_65 : decode cX10_tell 65 = .ok (.aload_n 0, 1) := by decide +kernel
theorem dX10_tell_66 : decode cX10_tell 66 = .ok (.getfield 31, 3) := by decide +kernel
theorem dX10_tell_69 : decode cX10_tell 69 = .ok (.iload_n 1, 1) := by decide +kernel
theorem dX10_tell_70 : decode cX10_tell 70 = .ok (.iaload, 1) := by decide +kernel
theorem dX10_tell_71 : decode cX10_tell 71 = .ok (.iaload, 1) := by decide +kernel
theorem dX10_tell_72 : decode cX10_tell 72 = .ok (.aload_n 0, 1) := by decide +kernel
theorem dX10_tell_73 : decode cX10_tell 73 = .ok (.getfield 7, 3) := by decide +kernel
theorem dX10_tell_76 : decode cX10_tell 76 = .ok (.aload_n 0, 1) := by decide +kernel
theorem dX10_tell_77 : decode cX10_tell 77 = .ok (.getfield 31, 3) := by decide +kernel
theorem dX10_tell_80 : decode cX10_tell 80 = .ok (.iload_n 2, 1) := by decide +kernel
theorem dX10_tell_81 : decode cX10_tell 81 = .ok (.iaload, 1) := by decide +kernel
theorem dX10_tell_82 : decode cX10_tell 82 = .ok (.iaload, 1) := by decide +kernel
theorem dX10_tell_83 : decode cX10_tell 83 = .ok (.if_icmp .ne 15, 3) := by decide +kernel
theorem dX10_tell_86 : decode cX10_tell 86 = .ok (.aload_n 0, 1) := by decide +kernel
theorem dX10_tell_87 : decode cX10_tell 87 = .ok (.iload_n 1, 1) := by decide +kernel
theorem dX10_tell_88 : decode cX10_tell 88 = .ok (.iload_n 2, 1) := by decide +kernel
theorem dX10_tell_89 : decode cX10_tell 89 = .ok (.invokevirtual 156, 3) := by decide +kernel
theorem dX10_tell_92 : decode cX10_tell 92 = .ok (.ifCond .eq 6, 3) := by decide +kernel
theorem dX10_tell_95 : decode cX10_tell 95 = .ok (.bipush (-3), 2) := by decide +kernel
theorem dX10_tell_97 : decode cX10_tell 97 = .ok (.ireturn, 1) := by decide +kernel
theorem dX10_tell_98 : decode cX10_tell 98 = .ok (.aload_n 0, 1) := by decide +kernel
theorem dX10_tell_99 : decode cX10_tell 99 = .ok (.getfield 34, 3) := by decide +kernel
theorem dX10_tell_102 : decode cX10_tell 102 = .ok (.bipush 24, 2) := by decide +kernel
theorem dX10_tell_104 : decode cX10_tell 104 = .ok (.iload_n 1, 1) := by decide +kernel
theorem dX10_tell_105 : decode cX10_tell 105 = .ok (.imul, 1) := by decide +kernel
theorem dX10_tell_106 : decode cX10_tell 106 = .ok (.iload_n 2, 1) := by decide +kernel
theorem dX10_tell_107 : decode cX10_tell 107 = .ok (.iadd, 1) := by decide +kernel
theorem dX10_tell_108 : decode cX10_tell 108 = .ok (.iaload, 1) := by decide +kernel
theorem dX10_tell_109 : decode cX10_tell 109 = .ok (.istore 4, 2) := by decide +kernel
theorem dX10_tell_111 : decode cX10_tell 111 = .ok (.aload_n 0, 1) := by decide +kernel
theorem dX10_tell_112 : decode cX10_tell 112 = .ok (.getfield 34, 3) := by decide +kernel
theorem dX10_tell_115 : decode cX10_tell 115 = .ok (.bipush 24, 2) := by decide +kernel
theorem dX10_tell_117 : decode cX10_tell 117 = .ok (.iload_n 1, 1) := by decide +kernel
theorem dX10_tell_118 : decode cX10_tell 118 = .ok (.imul, 1) := by decide +kernel
theorem dX10_tell_119 : decode cX10_tell 119 = .ok (.iload_n 2, 1) := by decide +kernel
theorem dX10_tell_120 : decode cX10_tell 120 = .ok (.iadd, 1) := by decide +kernel
theorem dX10_tell_121 : decode cX10_tell 121 = .ok (.iload_n 3, 1) := by decide +kernel
theorem dX10_tell_122 : decode cX10_tell 122 = .ok (.iastore, 1) := by decide +kernel
theorem dX10_tell_123 : decode cX10_tell 123 = .ok (.aload_n 0, 1) := by decide +kernel
theorem dX10_tell_124 : decode cX10_tell 124 = .ok (.getfield 34, 3) := by decide +kernel
theorem dX10_tell_127 : decode cX10_tell 127 = .ok (.bipush 24, 2) := by decide +kernel
theorem dX10_tell_129 : decode cX10_tell 129 = .ok (.iload_n 2, 1) := by decide +kernel
theorem dX10_tell_130 : decode cX10_tell 130 = .ok (.imul, 1) := by decide +kernel
theorem dX10_tell_131 : decode cX10_tell 131 = .ok (.iload_n 1, 1) := by decide +kernel
theorem dX10_tell_132 : decode cX10_tell 132 = .ok (.iadd, 1) := by decide +kernel
theorem dX10_tell_133 : decode cX10_tell 133 = .ok (.iload_n 3, 1) := by decide +kernel
theorem dX10_tell_134 : decode cX10_tell 134 = .ok (.iastore, 1) := by decide +kernel
theorem dX10_tell_135 : decode cX10_tell 135 = .ok (.iload 4, 2) := by decide +kernel
theorem dX10_tell_137 : decode cX10_tell 137 = .ok (.ireturn, 1) := by decide +kernel
theorem dX10_isFree_0 : decode cX10_isFree 0 = .ok (.aload_n 0, 1) := by decide +kernel
theorem dX10_isFree_1 : decode cX10_isFree 1 = .ok (.getfield 13, 3) := by decide +kernel
theorem dX10_isFree_4 : decode cX10_isFree 4 = .ok (.iload_n 1, 1) := by decide +kernel
theorem dX10_isFree_5 : decode cX10_isFree 5 = .ok (.iaload, 1) := by decide +kernel
theorem dX10_isFree_6 : decode cX10_isFree 6 = .ok (.aload_n 0, 1) := by decide +kernel
theorem dX10_isFree_7 : decode cX10_isFree 7 = .ok (.getfield 16, 3) := by decide +kernel
theorem dX10_isFree_10 : decode cX10_isFree 10 = .ok (.iload_n 2, 1) := by decide +kernel
theorem dX10_isFree_11 : decode cX10_isFree 11 = .ok (.iaload, 1) := by decide +kernel
theorem dX10_isFree_12 : decode cX10_isFree 12 = .ok (.if_icmp .ge 5, 3) := by decide +kernel
theorem dX10_isFree_15 : decode cX10_isFree 15 = .ok (.iconst 0, 1) := by decide +kernel
theorem dX10_isFree_16 : decode cX10_isFree 16 = .ok (.ireturn, 1) := by decide +kernel
theorem dX10_isFree_17 : decode cX10_isFree 17 = .ok (.iconst 0, 1) := by decide +kernel
theorem dX10_isFree_18 : decode cX10_isFree 18 = .ok (.istore_n 3, 1) := by decide +kernel
theorem dX10_isFree_19 : decode cX10_isFree 19 = .ok (.iload_n 3, 1) := by decide +kernel
theorem dX10_isFree_20 : decode cX10_isFree 20 = .ok (.aload_n 0, 1) := by decide +kernel
theorem dX10_isFree_21 : decode cX10_isFree 21 = .ok (.getfield 136, 3) := by decide +kernel
theorem dX10_isFree_24 : decode cX10_isFree 24 = .ok (.if_icmp .ge 35, 3) := by decide +kernel
theorem dX10_isFree_27 : decode cX10_isFree 27 = .ok (.iload_n 3, 1) := by decide +kernel
theorem dX10_isFree_28 : decode cX10_isFree 28 = .ok (.iload_n 2, 1) := by decide +kernel
theorem dX10_isFree_29 : decode cX10_isFree 29 = .ok (.if_icmp .eq 24, 3) := by decide +kernel
theorem dX10_isFree_32 : decode cX10_isFree 32 = .ok (.aload_n 0, 1) := by decide +kernel
theorem dX10_isFree_33 : decode cX10_isFree 33 = .ok (.getfield 31, 3) := by decide +kernel
theorem dX10_isFree_36 : decode cX10_isFree 36 = .ok (.iload_n 3, 1) := by decide +kernel
theorem dX10_isFree_37 : decode cX10_isFree 37 = .ok (.iaload, 1) := by decide +kernel
theorem dX10_isFree_38 : decode cX10_isFree 38 = .ok (.iload_n 1, 1) := by decide +kernel
theorem dX10_isFree_39 : decode cX10_isFree 39 = .ok (.if_icmp .ne 14, 3) := by decide +kernel
theorem dX10_isFree_42 : decode cX10_isFree 42 = .ok (.aload_n 0, 1) := by decide +kernel
theorem dX10_isFree_43 : decode cX10_isFree 43 = .ok (.iload_n 2, 1) := by decide +kernel
theorem dX10_isFree_44 : decode cX10_isFree 44 = .ok (.iload_n 3, 1) := by decide +kernel
theorem dX10_isFree_45 : decode cX10_isFree 45 = .ok (.invokevirtual 156, 3) := by decide +kernel
theorem dX10_isFree_48 : decode cX10_isFree 48 = .ok (.ifCond .eq 5, 3) := by decide +kernel
theorem dX10_isFree_51 : decode cX10_isFree 51 = .ok (.iconst 0, 1) := by decide +kernel
theorem dX10_isFree_52 : decode cX10_isFree 52 = .ok (.ireturn, 1) := by decide +kernel
theorem dX10_isFree_53 : decode cX10_isFree 53 = .ok (.iinc 3 1, 3) := by decide +kernel
theorem dX10_isFree_56 : decode cX10_isFree 56 = .ok (.goto (-37), 3) := by decide +kernel
theorem dX10_isFree_59 : decode cX10_isFree 59 = .ok (.iconst 1, 1) := by decide +kernel
theorem dX10_isFree_60 : decode cX10_isFree 60 = .ok (.ireturn, 1) := by decide +kernel
theorem dX10_hasTold_0 : decode cX10_hasTold 0 = .ok (.iconst 0, 1) := by decide +kernel
theorem dX10_hasTold_1 : decode cX10_hasTold 1 = .ok (.istore 4, 2) := by decide +kernel
theorem dX10_hasTold_3 : decode cX10_hasTold 3 = .ok (.iload 4, 2) := by decide +kernel
theorem dX10_hasTold_5 : decode cX10_hasTold 5 = .ok (.aload_n 0, 1) := by decide +kernel
theorem dX10_hasTold_6 : decode cX10_hasTold 6 = .ok (.getfield 136, 3) := by decide +kernel
theorem dX10_hasTold_9 : decode cX10_hasTold 9 = .ok (.if_icmp .ge 70, 3) := by decide +kernel
theorem dX10_hasTold_12 : decode cX10_hasTold 12 = .ok (.aload_n 0, 1) := by decide +kernel
theorem dX10_hasTold_13 : decode cX10_hasTold 13 = .ok (.getfield 31, 3) := by decide +kernel
theorem dX10_hasTold_16 : decode cX10_hasTold 16 = .ok (.iload 4, 2) := by decide +kernel
theorem dX10_hasTold_18 : decode cX10_hasTold 18 = .ok (.iaload, 1) := by decide +kernel
theorem dX10_hasTold_19 : decode cX10_hasTold 19 = .ok (.iconst (-1), 1) := by decide +kernel
theorem dX10_hasTold_20 : decode cX10_hasTold 20 = .ok (.if_icmp .eq 53, 3) := by decide +kernel
theorem dX10_hasTold_23 : decode cX10_hasTold 23 = .ok (.aload_n 0, 1) := by decide +kernel
theorem dX10_hasTold_24 : decode cX10_hasTold 24 = .ok (.getfield 7, 3) := by decide +kernel
theorem dX10_hasTold_27 : decode cX10_hasTold 27 = .ok (.aload_n 0, 1) := by decide +kernel
theorem dX10_hasTold_28 : decode cX10_hasTold 28 = .ok (.getfield 31, 3) := by decide +kernel
theorem dX10_hasTold_31 : decode cX10_hasTold 31 = .ok (.iload 4, 2) := by decide +kernel
theorem dX10_hasTold_33 : decode cX10_hasTold 33 = .ok (.iaload, 1) := by decide +kernel
theorem dX10_hasTold_34 : decode cX10_hasTold 34 = .ok (.iaload, 1) := by decide +kernel
theorem dX10_hasTold_35 : decode cX10_hasTold 35 = .ok (.iload_n 1, 1) := by decide +kernel
theorem dX10_hasTold_36 : decode cX10_hasTold 36 = .ok (.if_icmp .ne 37, 3) := by decide +kernel
theorem dX10_hasTold_39 : decode cX10_hasTold 39 = .ok (.aload_n 0, 1) := by decide +kernel
theorem dX10_hasTold_40 : decode cX10_hasTold 40 = .ok (.getfield 34, 3) := by decide +kernel
theorem dX10_hasTold_43 : decode cX10_hasTold 43 = .ok (.bipush 24, 2) := by decide +kernel
theorem dX10_hasTold_45 : decode cX10_hasTold 45 = .ok (.iload_n 2, 1) := by decide +kernel
theorem dX10_hasTold_46 : decode cX10_hasTold 46 = .ok (.imul, 1) := by decide +kernel
theorem dX10_hasTold_47 : decode cX10_hasTold 47 = .ok (.iload 4, 2) := by decide +kernel
theorem dX10_hasTold_49 : decode cX10_hasTold 49 = .ok (.iadd, 1) := by decide +kernel
theorem dX10_hasTold_50 : decode cX10_hasTold 50 = .ok (.iaload, 1) := by decide +kernel
theorem dX10_hasTold_51 : decode cX10_hasTold 51 = .ok (.iload_n 3, 1) := by decide +kernel
theorem dX10_hasTold_52 : decode cX10_hasTold 52 = .ok (.if_icmp .ne 21, 3) := by decide +kernel
theorem dX10_hasTold_55 : decode cX10_hasTold 55 = .ok (.iload 4, 2) := by decide +kernel
theorem dX10_hasTold_57 : decode cX10_hasTold 57 = .ok (.iload_n 2, 1) := by decide +kernel
theorem dX10_hasTold_58 : decode cX10_hasTold 58 = .ok (.if_icmp .eq 15, 3) := by decide +kernel
theorem dX10_hasTold_61 : decode cX10_hasTold 61 = .ok (.aload_n 0, 1) := by decide +kernel
theorem dX10_hasTold_62 : decode cX10_hasTold 62 = .ok (.iload_n 2, 1) := by decide +kernel
theorem dX10_hasTold_63 : decode cX10_hasTold 63 = .ok (.iload 4, 2) := by decide +kernel
theorem dX10_hasTold_65 : decode cX10_hasTold 65 = .ok (.invokevirtual 156, 3) := by decide +kernel
theorem dX10_hasTold_68 : decode cX10_hasTold 68 = .ok (.ifCond .eq 5, 3) := by decide +kernel
theorem dX10_hasTold_71 : decode cX10_hasTold 71 = .ok (.iconst 1, 1) := by decide +kernel
theorem dX10_hasTold_72 : decode cX10_hasTold 72 = .ok (.ireturn, 1) := by decide +kernel
theorem dX10_hasTold_73 : decode cX10_hasTold 73 = .ok (.iinc 4 1, 3) := by decide +kernel
theorem dX10_hasTold_76 : decode cX10_hasTold 76 = .ok (.goto (-73), 3) := by decide +kernel
theorem dX10_hasTold_79 : decode cX10_hasTold 79 = .ok (.iconst 0, 1) := by decide +kernel
theorem dX10_hasTold_80 : decode cX10_hasTold 80 = .ok (.ireturn, 1) := by decide +kernel
theorem dX10_mayLodge_0 : decode cX10_mayLodge 0 = .ok (.aload_n 0, 1) := by decide +kernel
theorem dX10_mayLodge_1 : decode cX10_mayLodge 1 = .ok (.iload_n 1, 1) := by decide +kernel
theorem dX10_mayLodge_2 : decode cX10_mayLodge 2 = .ok (.iload_n 2, 1) := by decide +kernel
theorem dX10_mayLodge_3 : decode cX10_mayLodge 3 = .ok (.invokevirtual 160, 3) := by decide +kernel
theorem dX10_mayLodge_6 : decode cX10_mayLodge 6 = .ok (.ifCond .eq 22, 3) := by decide +kernel
theorem dX10_mayLodge_9 : decode cX10_mayLodge 9 = .ok (.aload_n 0, 1) := by decide +kernel
theorem dX10_mayLodge_10 : decode cX10_mayLodge 10 = .ok (.aload_n 0, 1) := by decide +kernel
theorem dX10_mayLodge_11 : decode cX10_mayLodge 11 = .ok (.getfield 7, 3) := by decide +kernel
theorem dX10_mayLodge_14 : decode cX10_mayLodge 14 = .ok (.iload_n 1, 1) := by decide +kernel
theorem dX10_mayLodge_15 : decode cX10_mayLodge 15 = .ok (.iaload, 1) := by decide +kernel
theorem dX10_mayLodge_16 : decode cX10_mayLodge 16 = .ok (.iload_n 2, 1) := by decide +kernel
theorem dX10_mayLodge_17 : decode cX10_mayLodge 17 = .ok (.iconst 1, 1) := by decide +kernel
theorem dX10_mayLodge_18 : decode cX10_mayLodge 18 = .ok (.invokevirtual 163, 3) := by decide +kernel
theorem dX10_mayLodge_21 : decode cX10_mayLodge 21 = .ok (.ifCond .ne 7, 3) := by decide +kernel
theorem dX10_mayLodge_24 : decode cX10_mayLodge 24 = .ok (.iconst 1, 1) := by decide +kernel
theorem dX10_mayLodge_25 : decode cX10_mayLodge 25 = .ok (.goto 4, 3) := by decide +kernel
theorem dX10_mayLodge_28 : decode cX10_mayLodge 28 = .ok (.iconst 0, 1) := by decide +kernel
theorem dX10_mayLodge_29 : decode cX10_mayLodge 29 = .ok (.ireturn, 1) := by decide +kernel
theorem dX10_dearest_0 : decode cX10_dearest 0 = .ok (.iconst (-1), 1) := by decide +kernel
theorem dX10_dearest_1 : decode cX10_dearest 1 = .ok (.istore_n 3, 1) := by decide +kernel
theorem dX10_dearest_2 : decode cX10_dearest 2 = .ok (.iconst 0, 1) := by decide +kernel
theorem dX10_dearest_3 : decode cX10_dearest 3 = .ok (.istore 4, 2) := by decide +kernel
theorem dX10_dearest_5 : decode cX10_dearest 5 = .ok (.iload 4, 2) := by decide +kernel
theorem dX10_dearest_7 : decode cX10_dearest 7 = .ok (.aload_n 0, 1) := by decide +kernel
theorem dX10_dearest_8 : decode cX10_dearest 8 = .ok (.getfield 129, 3) := by decide +kernel
theorem dX10_dearest_11 : decode cX10_dearest 11 = .ok (.if_icmp .ge 124, 3) := by decide +kernel
theorem dX10_dearest_14 : decode cX10_dearest 14 = .ok (.iload 4, 2) := by decide +kernel
theorem dX10_dearest_16 : decode cX10_dearest 16 = .ok (.iload_n 2, 1) := by decide +kernel
theorem dX10_dearest_17 : decode cX10_dearest 17 = .ok (.if_icmp .eq 112, 3) := by decide +kernel
theorem dX10_dearest_20 : decode cX10_dearest 20 = .ok (.aload_n 0, 1) := by decide +kernel
theorem dX10_dearest_21 : decode cX10_dearest 21 = .ok (.iload 4, 2) := by decide +kernel
theorem dX10_dearest_23 : decode cX10_dearest 23 = .ok (.iload_n 1, 1) := by decide +kernel
theorem dX10_dearest_24 : decode cX10_dearest 24 = .ok (.invokevirtual 167, 3) := by decide +kernel
theorem dX10_dearest_27 : decode cX10_dearest 27 = .ok (.ifCond .eq 102, 3) := by decide +kernel
theorem dX10_dearest_30 : decode cX10_dearest 30 = .ok (.aload_n 0, 1) := by decide +kernel
theorem dX10_dearest_31 : decode cX10_dearest 31 = .ok (.aload_n 0, 1) := by decide +kernel
theorem dX10_dearest_32 : decode cX10_dearest 32 = .ok (.getfield 7, 3) := by decide +kernel
theorem dX10_dearest_35 : decode cX10_dearest 35 = .ok (.iload 4, 2) := by decide +kernel
theorem dX10_dearest_37 : decode cX10_dearest 37 = .ok (.iaload, 1) := by decide +kernel
theorem dX10_dearest_38 : decode cX10_dearest 38 = .ok (.iload_n 1, 1) := by decide +kernel
theorem dX10_dearest_39 : decode cX10_dearest 39 = .ok (.iconst 0, 1) := by decide +kernel
theorem dX10_dearest_40 : decode cX10_dearest 40 = .ok (.invokevirtual 163, 3) := by decide +kernel
theorem dX10_dearest_43 : decode cX10_dearest 43 = .ok (.istore 5, 2) := by decide +kernel
theorem dX10_dearest_45 : decode cX10_dearest 45 = .ok (.iload_n 3, 1) := by decide +kernel
theorem dX10_dearest_46 : decode cX10_dearest 46 = .ok (.iconst (-1), 1) := by decide +kernel
theorem dX10_dearest_47 : decode cX10_dearest 47 = .ok (.if_icmp .eq 22, 3) := by decide +kernel
theorem dX10_dearest_50 : decode cX10_dearest 50 = .ok (.aload_n 0, 1) := by decide +kernel
theorem dX10_dearest_51 : decode cX10_dearest 51 = .ok (.aload_n 0, 1) := by decide +kernel
theorem dX10_dearest_52 : decode cX10_dearest 52 = .ok (.getfield 7, 3) := by decide +kernel
theorem dX10_dearest_55 : decode cX10_dearest 55 = .ok (.iload_n 3, 1) := by decide +kernel
theorem dX10_dearest_56 : decode cX10_dearest 56 = .ok (.iaload, 1) := by decide +kernel
theorem dX10_dearest_57 : decode cX10_dearest 57 = .ok (.iload_n 1, 1) := by decide +kernel
theorem dX10_dearest_58 : decode cX10_dearest 58 = .ok (.iconst 0, 1) := by decide +kernel
theorem dX10_dearest_59 : decode cX10_dearest 59 = .ok (.invokevirtual 163, 3) := by decide +kernel
theorem dX10_dearest_62 : decode cX10_dearest 62 = .ok (.ifCond .eq 7, 3) := by decide +kernel
theorem dX10_dearest_65 : decode cX10_dearest 65 = .ok (.iconst 1, 1) := by decide +kernel
theorem dX10_dearest_66 : decode cX10_dearest 66 = .ok (.goto 4, 3) := by decide +kernel
theorem dX10_dearest_69 : decode cX10_dearest 69 = .ok (.iconst 0, 1) := by decide +kernel
theorem dX10_dearest_70 : decode cX10_dearest 70 = .ok (.istore 6, 2) := by decide +kernel
theorem dX10_dearest_72 : decode cX10_dearest 72 = .ok (.iload_n 3, 1) := by decide +kernel
theorem dX10_dearest_73 : decode cX10_dearest 73 = .ok (.iconst (-1), 1) := by decide +kernel
theorem dX10_dearest_74 : decode cX10_dearest 74 = .ok (.if_icmp .eq 36, 3) := by decide +kernel
theorem dX10_dearest_77 : decode cX10_dearest 77 = .ok (.iload 5, 2) := by decide +kernel
theorem dX10_dearest_79 : decode cX10_dearest 79 = .ok (.ifCond .eq 8, 3) := by decide +kernel
theorem dX10_dearest_82 : decode cX10_dearest 82 = .ok (.iload 6, 2) := by decide +kernel
theorem dX10_dearest_84 : decode cX10_dearest 84 = .ok (.ifCond .eq 26, 3) := by decide +kernel
theorem dX10_dearest_87 : decode cX10_dearest 87 = .ok (.iload 5, 2) := by decide +kernel
theorem dX10_dearest_89 : decode cX10_dearest 89 = .ok (.iload 6, 2) := by decide +kernel
theorem dX10_dearest_91 : decode cX10_dearest 91 = .ok (.if_icmp .ne 23, 3) := by decide +kernel
theorem dX10_dearest_94 : decode cX10_dearest 94 = .ok (.aload_n 0, 1) := by decide +kernel
theorem dX10_dearest_95 : decode cX10_dearest 95 = .ok (.getfield 13, 3) := by decide +kernel
theorem dX10_dearest_98 : decode cX10_dearest 98 = .ok (.iload 4, 2) := by decide +kernel
theorem dX10_dearest_100 : decode cX10_dearest 100 = .ok (.iaload, 1) := by decide +kernel
theorem dX10_dearest_101 : decode cX10_dearest 101 = .ok (.aload_n 0, 1) := by decide +kernel
theorem dX10_dearest_102 : decode cX10_dearest 102 = .ok (.getfield 13, 3) := by decide +kernel
theorem dX10_dearest_105 : decode cX10_dearest 105 = .ok (.iload_n 3, 1) := by decide +kernel
theorem dX10_dearest_106 : decode cX10_dearest 106 = .ok (.iaload, 1) := by decide +kernel
theorem dX10_dearest_107 : decode cX10_dearest 107 = .ok (.if_icmp .ge 7, 3) := by decide +kernel
theorem dX10_dearest_110 : decode cX10_dearest 110 = .ok (.iconst 1, 1) := by decide +kernel
theorem dX10_dearest_111 : decode cX10_dearest 111 = .ok (.goto 4, 3) := by decide +kernel
theorem dX10_dearest_114 : decode cX10_dearest 114 = .ok (.iconst 0, 1) := by decide +kernel
theorem dX10_dearest_115 : decode cX10_dearest 115 = .ok (.istore 7, 2) := by decide +kernel
theorem dX10_dearest_117 : decode cX10_dearest 117 = .ok (.iload 7, 2) := by decide +kernel
theorem dX10_dearest_119 : decode cX10_dearest 119 = .ok (.ifCond .eq 8, 3) := by decide +kernel
theorem dX10_dearest_122 : decode cX10_dearest 122 = .ok (.iload 4, 2) := by decide +kernel
theorem dX10_dearest_124 : decode cX10_dearest 124 = .ok (.goto 4, 3) := by decide +kernel
theorem dX10_dearest_127 : decode cX10_dearest 127 = .ok (.iload_n 3, 1) := by decide +kernel
theorem dX10_dearest_128 : decode cX10_dearest 128 = .ok (.istore_n 3, 1) := by decide +kernel
theorem dX10_dearest_129 : decode cX10_dearest 129 = .ok (.iinc 4 1, 3) := by decide +kernel
theorem dX10_dearest_132 : decode cX10_dearest 132 = .ok (.goto (-127), 3) := by decide +kernel
theorem dX10_dearest_135 : decode cX10_dearest 135 = .ok (.iload_n 3, 1) := by decide +kernel
theorem dX10_dearest_136 : decode cX10_dearest 136 = .ok (.ireturn, 1) := by decide +kernel
theorem dX10_lodge_0 : decode cX10_lodge 0 = .ok (.aload_n 0, 1) := by decide +kernel
theorem dX10_lodge_1 : decode cX10_lodge 1 = .ok (.iload_n 1, 1) := by decide +kernel
theorem dX10_lodge_2 : decode cX10_lodge 2 = .ok (.invokevirtual 151, 3) := by decide +kernel
theorem dX10_lodge_5 : decode cX10_lodge 5 = .ok (.ifCond .ne 6, 3) := by decide +kernel
theorem dX10_lodge_8 : decode cX10_lodge 8 = .ok (.bipush (-2), 2) := by decide +kernel
theorem dX10_lodge_10 : decode cX10_lodge 10 = .ok (.ireturn, 1) := by decide +kernel
theorem dX10_lodge_11 : decode cX10_lodge 11 = .ok (.aload_n 0, 1) := by decide +kernel
theorem dX10_lodge_12 : decode cX10_lodge 12 = .ok (.getfield 31, 3) := by decide +kernel
theorem dX10_lodge_15 : decode cX10_lodge 15 = .ok (.iload_n 1, 1) := by decide +kernel
theorem dX10_lodge_16 : decode cX10_lodge 16 = .ok (.iaload, 1) := by decide +kernel
theorem dX10_lodge_17 : decode cX10_lodge 17 = .ok (.iconst (-1), 1) := by decide +kernel
theorem dX10_lodge_18 : decode cX10_lodge 18 = .ok (.if_icmp .eq 6, 3) := by decide +kernel
theorem dX10_lodge_21 : decode cX10_lodge 21 = .ok (.bipush (-3), 2) := by decide +kernel
theorem dX10_lodge_23 : decode cX10_lodge 23 = .ok (.ireturn, 1) := by decide +kernel
theorem dX10_lodge_24 : decode cX10_lodge 24 = .ok (.aload_n 0, 1) := by decide +kernel
theorem dX10_lodge_25 : decode cX10_lodge 25 = .ok (.iload_n 1, 1) := by decide +kernel
theorem dX10_lodge_26 : decode cX10_lodge 26 = .ok (.iconst (-1), 1) := by decide +kernel
theorem dX10_lodge_27 : decode cX10_lodge 27 = .ok (.invokevirtual 170, 3) := by decide +kernel
theorem dX10_lodge_30 : decode cX10_lodge 30 = .ok (.istore_n 2, 1) := by decide +kernel
theorem dX10_lodge_31 : decode cX10_lodge 31 = .ok (.iload_n 2, 1) := by decide +kernel
theorem dX10_lodge_32 : decode cX10_lodge 32 = .ok (.iconst (-1), 1) := by decide +kernel
theorem dX10_lodge_33 : decode cX10_lodge 33 = .ok (.if_icmp .eq 17, 3) := by decide +kernel
theorem dX10_lodge_36 : decode cX10_lodge 36 = .ok (.aload_n 0, 1) := by decide +kernel
theorem dX10_lodge_37 : decode cX10_lodge 37 = .ok (.getfield 31, 3) := by decide +kernel
theorem dX10_lodge_40 : decode cX10_lodge 40 = .ok (.iload_n 1, 1) := by decide +kernel
theorem dX10_lodge_41 : decode cX10_lodge 41 = .ok (.iload_n 2, 1) := by decide +kernel
theorem dX10_lodge_42 : decode cX10_lodge 42 = .ok (.iastore, 1) := by decide +kernel
theorem dX10_lodge_43 : decode cX10_lodge 43 = .ok (.aload_n 0, 1) := by decide +kernel
theorem dX10_lodge_44 : decode cX10_lodge 44 = .ok (.iconst (-1), 1) := by decide +kernel
theorem dX10_lodge_45 : decode cX10_lodge 45 = .ok (.putfield 37, 3) := by decide +kernel
theorem dX10_lodge_48 : decode cX10_lodge 48 = .ok (.iload_n 2, 1) := by decide +kernel
theorem dX10_lodge_49 : decode cX10_lodge 49 = .ok (.ireturn, 1) := by decide +kernel
theorem dX10_lodge_50 : decode cX10_lodge 50 = .ok (.iconst 0, 1) := by decide +kernel
theorem dX10_lodge_51 : decode cX10_lodge 51 = .ok (.istore_n 3, 1) := by decide +kernel
theorem dX10_lodge_52 : decode cX10_lodge 52 = .ok (.iload_n 3, 1) := by decide +kernel
theorem dX10_lodge_53 : decode cX10_lodge 53 = .ok (.aload_n 0, 1) := by decide +kernel
theorem dX10_lodge_54 : decode cX10_lodge 54 = .ok (.getfield 136, 3) := by decide +kernel
theorem dX10_lodge_57 : decode cX10_lodge 57 = .ok (.if_icmp .ge 94, 3) := by decide +kernel
theorem dX10_lodge_60 : decode cX10_lodge 60 = .ok (.aload_n 0, 1) := by decide +kernel
theorem dX10_lodge_61 : decode cX10_lodge 61 = .ok (.getfield 31, 3) := by decide +kernel
theorem dX10_lodge_64 : decode cX10_lodge 64 = .ok (.iload_n 3, 1) := by decide +kernel
theorem dX10_lodge_65 : decode cX10_lodge 65 = .ok (.iaload, 1) := by decide +kernel
theorem dX10_lodge_66 : decode cX10_lodge 66 = .ok (.istore 4, 2) := by decide +kernel
theorem dX10_lodge_68 : decode cX10_lodge 68 = .ok (.iload 4, 2) := by decide +kernel
theorem dX10_lodge_70 : decode cX10_lodge 70 = .ok (.iconst (-1), 1) := by decide +kernel
theorem dX10_lodge_71 : decode cX10_lodge 71 = .ok (.if_icmp .eq 74, 3) := by decide +kernel
theorem dX10_lodge_74 : decode cX10_lodge 74 = .ok (.aload_n 0, 1) := by decide +kernel
theorem dX10_lodge_75 : decode cX10_lodge 75 = .ok (.getfield 31, 3) := by decide +kernel
theorem dX10_lodge_78 : decode cX10_lodge 78 = .ok (.iload_n 3, 1) := by decide +kernel
theorem dX10_lodge_79 : decode cX10_lodge 79 = .ok (.iconst (-1), 1) := by decide +kernel
theorem dX10_lodge_80 : decode cX10_lodge 80 = .ok (.iastore, 1) := by decide +kernel
theorem dX10_lodge_81 : decode cX10_lodge 81 = .ok (.aload_n 0, 1) := by decide +kernel
theorem dX10_lodge_82 : decode cX10_lodge 82 = .ok (.iload 4, 2) := by decide +kernel
theorem dX10_lodge_84 : decode cX10_lodge 84 = .ok (.iload_n 1, 1) := by decide +kernel
theorem dX10_lodge_85 : decode cX10_lodge 85 = .ok (.invokevirtual 167, 3) := by decide +kernel
theorem dX10_lodge_88 : decode cX10_lodge 88 = .ok (.ifCond .eq 49, 3) := by decide +kernel
theorem dX10_lodge_91 : decode cX10_lodge 91 = .ok (.aload_n 0, 1) := by decide +kernel
theorem dX10_lodge_92 : decode cX10_lodge 92 = .ok (.getfield 31, 3) := by decide +kernel
theorem dX10_lodge_95 : decode cX10_lodge 95 = .ok (.iload_n 1, 1) := by decide +kernel
theorem dX10_lodge_96 : decode cX10_lodge 96 = .ok (.iload 4, 2) := by decide +kernel
theorem dX10_lodge_98 : decode cX10_lodge 98 = .ok (.iastore, 1) := by decide +kernel
theorem dX10_lodge_99 : decode cX10_lodge 99 = .ok (.aload_n 0, 1) := by decide +kernel
theorem dX10_lodge_100 : decode cX10_lodge 100 = .ok (.iload_n 3, 1) := by decide +kernel
theorem dX10_lodge_101 : decode cX10_lodge 101 = .ok (.iload 4, 2) := by decide +kernel
theorem dX10_lodge_103 : decode cX10_lodge 103 = .ok (.invokevirtual 170, 3) := by decide +kernel
theorem dX10_lodge_106 : decode cX10_lodge 106 = .ok (.istore 5, 2) := by decide +kernel
theorem dX10_lodge_108 : decode cX10_lodge 108 = .ok (.iload 5, 2) := by decide +kernel
theorem dX10_lodge_110 : decode cX10_lodge 110 = .ok (.iconst (-1), 1) := by decide +kernel
theorem dX10_lodge_111 : decode cX10_lodge 111 = .ok (.if_icmp .eq 19, 3) := by decide +kernel
theorem dX10_lodge_114 : decode cX10_lodge 114 = .ok (.aload_n 0, 1) := by decide +kernel
theorem dX10_lodge_115 : decode cX10_lodge 115 = .ok (.getfield 31, 3) := by decide +kernel
theorem dX10_lodge_118 : decode cX10_lodge 118 = .ok (.iload_n 3, 1) := by decide +kernel
theorem dX10_lodge_119 : decode cX10_lodge 119 = .ok (.iload 5, 2) := by decide +kernel
theorem dX10_lodge_121 : decode cX10_lodge 121 = .ok (.iastore, 1) := by decide +kernel
theorem dX10_lodge_122 : decode cX10_lodge 122 = .ok (.aload_n 0, 1) := by decide +kernel
theorem dX10_lodge_123 : decode cX10_lodge 123 = .ok (.iload_n 3, 1) := by decide +kernel
theorem dX10_lodge_124 : decode cX10_lodge 124 = .ok (.putfield 37, 3) := by decide +kernel
theorem dX10_lodge_127 : decode cX10_lodge 127 = .ok (.iload 4, 2) := by decide +kernel
theorem dX10_lodge_129 : decode cX10_lodge 129 = .ok (.ireturn, 1) := by decide +kernel
theorem dX10_lodge_130 : decode cX10_lodge 130 = .ok (.aload_n 0, 1) := by decide +kernel
theorem dX10_lodge_131 : decode cX10_lodge 131 = .ok (.getfield 31, 3) := by decide +kernel
theorem dX10_lodge_134 : decode cX10_lodge 134 = .ok (.iload_n 1, 1) := by decide +kernel
theorem dX10_lodge_135 : decode cX10_lodge 135 = .ok (.iconst (-1), 1) := by decide +kernel
theorem dX10_lodge_136 : decode cX10_lodge 136 = .ok (.iastore, 1) := by decide +kernel
theorem dX10_lodge_137 : decode cX10_lodge 137 = .ok (.aload_n 0, 1) := by decide +kernel
theorem dX10_lodge_138 : decode cX10_lodge 138 = .ok (.getfield 31, 3) := by decide +kernel
theorem dX10_lodge_141 : decode cX10_lodge 141 = .ok (.iload_n 3, 1) := by decide +kernel
theorem dX10_lodge_142 : decode cX10_lodge 142 = .ok (.iload 4, 2) := by decide +kernel
theorem dX10_lodge_144 : decode cX10_lodge 144 = .ok (.iastore, 1) := by decide +kernel
theorem dX10_lodge_145 : decode cX10_lodge 145 = .ok (.iinc 3 1, 3) := by decide +kernel
theorem dX10_lodge_148 : decode cX10_lodge 148 = .ok (.goto (-96), 3) := by decide +kernel
theorem dX10_lodge_151 : decode cX10_lodge 151 = .ok (.iconst (-1), 1) := by decide +kernel
theorem dX10_lodge_152 : decode cX10_lodge 152 = .ok (.ireturn, 1) := by decide +kernel
theorem dX10_moved_0 : decode cX10_moved 0 = .ok (.aload_n 0, 1) := by decide +kernel
theorem dX10_moved_1 : decode cX10_moved 1 = .ok (.getfield 37, 3) := by decide +kernel
theorem dX10_moved_4 : decode cX10_moved 4 = .ok (.ireturn, 1) := by decide +kernel
theorem dX10_leave_0 : decode cX10_leave 0 = .ok (.aload_n 0, 1) := by decide +kernel
theorem dX10_leave_1 : decode cX10_leave 1 = .ok (.iload_n 1, 1) := by decide +kernel
theorem dX10_leave_2 : decode cX10_leave 2 = .ok (.invokevirtual 151, 3) := by decide +kernel
theorem dX10_leave_5 : decode cX10_leave 5 = .ok (.ifCond .ne 6, 3) := by decide +kernel
theorem dX10_leave_8 : decode cX10_leave 8 = .ok (.bipush (-2), 2) := by decide +kernel
theorem dX10_leave_10 : decode cX10_leave 10 = .ok (.ireturn, 1) := by decide +kernel
theorem dX10_leave_11 : decode cX10_leave 11 = .ok (.aload_n 0, 1) := by decide +kernel
theorem dX10_leave_12 : decode cX10_leave 12 = .ok (.getfield 31, 3) := by decide +kernel
theorem dX10_leave_15 : decode cX10_leave 15 = .ok (.iload_n 1, 1) := by decide +kernel
theorem dX10_leave_16 : decode cX10_leave 16 = .ok (.iaload, 1) := by decide +kernel
theorem dX10_leave_17 : decode cX10_leave 17 = .ok (.iconst (-1), 1) := by decide +kernel
theorem dX10_leave_18 : decode cX10_leave 18 = .ok (.if_icmp .ne 6, 3) := by decide +kernel
theorem dX10_leave_21 : decode cX10_leave 21 = .ok (.bipush (-3), 2) := by decide +kernel
theorem dX10_leave_23 : decode cX10_leave 23 = .ok (.ireturn, 1) := by decide +kernel
theorem dX10_leave_24 : decode cX10_leave 24 = .ok (.aload_n 0, 1) := by decide +kernel
theorem dX10_leave_25 : decode cX10_leave 25 = .ok (.getfield 31, 3) := by decide +kernel
theorem dX10_leave_28 : decode cX10_leave 28 = .ok (.iload_n 1, 1) := by decide +kernel
theorem dX10_leave_29 : decode cX10_leave 29 = .ok (.iaload, 1) := by decide +kernel
theorem dX10_leave_30 : decode cX10_leave 30 = .ok (.istore_n 2, 1) := by decide +kernel
theorem dX10_leave_31 : decode cX10_leave 31 = .ok (.aload_n 0, 1) := by decide +kernel
theorem dX10_leave_32 : decode cX10_leave 32 = .ok (.getfield 31, 3) := by decide +kernel
theorem dX10_leave_35 : decode cX10_leave 35 = .ok (.iload_n 1, 1) := by decide +kernel
theorem dX10_leave_36 : decode cX10_leave 36 = .ok (.iconst (-1), 1) := by decide +kernel
theorem dX10_leave_37 : decode cX10_leave 37 = .ok (.iastore, 1) := by decide +kernel
theorem dX10_leave_38 : decode cX10_leave 38 = .ok (.iload_n 2, 1) := by decide +kernel
theorem dX10_leave_39 : decode cX10_leave 39 = .ok (.ireturn, 1) := by decide +kernel
theorem dX10_about_0 : decode cX10_about 0 = .ok (.aload_n 0, 1) := by decide +kernel
theorem dX10_about_1 : decode cX10_about 1 = .ok (.iload_n 1, 1) := by decide +kernel
theorem dX10_about_2 : decode cX10_about 2 = .ok (.invokevirtual 151, 3) := by decide +kernel
theorem dX10_about_5 : decode cX10_about 5 = .ok (.ifCond .ne 6, 3) := by decide +kernel
theorem dX10_about_8 : decode cX10_about 8 = .ok (.bipush (-2), 2) := by decide +kernel
theorem dX10_about_10 : decode cX10_about 10 = .ok (.ireturn, 1) := by decide +kernel
theorem dX10_about_11 : decode cX10_about 11 = .ok (.iload_n 2, 1) := by decide +kernel
theorem dX10_about_12 : decode cX10_about 12 = .ok (.tableswitch 82 0 5 #[40, 47, 54, 61, 68, 75], 40) := by decide +kernel
theorem dX10_about_52 : decode cX10_about 52 = .ok (.aload_n 0, 1) := by decide +kernel
theorem dX10_about_53 : decode cX10_about 53 = .ok (.getfield 16, 3) := by decide +kernel
theorem dX10_about_56 : decode cX10_about 56 = .ok (.iload_n 1, 1) := by decide +kernel
theorem dX10_about_57 : decode cX10_about 57 = .ok (.iaload, 1) := by decide +kernel
theorem dX10_about_58 : decode cX10_about 58 = .ok (.ireturn, 1) := by decide +kernel
theorem dX10_about_59 : decode cX10_about 59 = .ok (.aload_n 0, 1) := by decide +kernel
theorem dX10_about_60 : decode cX10_about 60 = .ok (.getfield 19, 3) := by decide +kernel
theorem dX10_about_63 : decode cX10_about 63 = .ok (.iload_n 1, 1) := by decide +kernel
theorem dX10_about_64 : decode cX10_about 64 = .ok (.iaload, 1) := by decide +kernel
theorem dX10_about_65 : decode cX10_about 65 = .ok (.ireturn, 1) := by decide +kernel
theorem dX10_about_66 : decode cX10_about 66 = .ok (.aload_n 0, 1) := by decide +kernel
theorem dX10_about_67 : decode cX10_about 67 = .ok (.getfield 22, 3) := by decide +kernel
theorem dX10_about_70 : decode cX10_about 70 = .ok (.iload_n 1, 1) := by decide +kernel
theorem dX10_about_71 : decode cX10_about 71 = .ok (.iaload, 1) := by decide +kernel
theorem dX10_about_72 : decode cX10_about 72 = .ok (.ireturn, 1) := by decide +kernel
theorem dX10_about_73 : decode cX10_about 73 = .ok (.aload_n 0, 1) := by decide +kernel
theorem dX10_about_74 : decode cX10_about 74 = .ok (.getfield 25, 3) := by decide +kernel
theorem dX10_about_77 : decode cX10_about 77 = .ok (.iload_n 1, 1) := by decide +kernel
theorem dX10_about_78 : decode cX10_about 78 = .ok (.iaload, 1) := by decide +kernel
theorem dX10_about_79 : decode cX10_about 79 = .ok (.ireturn, 1) := by decide +kernel
theorem dX10_about_80 : decode cX10_about 80 = .ok (.aload_n 0, 1) := by decide +kernel
theorem dX10_about_81 : decode cX10_about 81 = .ok (.getfield 28, 3) := by decide +kernel
theorem dX10_about_84 : decode cX10_about 84 = .ok (.iload_n 1, 1) := by decide +kernel
theorem dX10_about_85 : decode cX10_about 85 = .ok (.iaload, 1) := by decide +kernel
theorem dX10_about_86 : decode cX10_about 86 = .ok (.ireturn, 1) := by decide +kernel
theorem dX10_about_87 : decode cX10_about 87 = .ok (.aload_n 0, 1) := by decide +kernel
theorem dX10_about_88 : decode cX10_about 88 = .ok (.getfield 31, 3) := by decide +kernel
theorem dX10_about_91 : decode cX10_about 91 = .ok (.iload_n 1, 1) := by decide +kernel
theorem dX10_about_92 : decode cX10_about 92 = .ok (.iaload, 1) := by decide +kernel
theorem dX10_about_93 : decode cX10_about 93 = .ok (.ireturn, 1) := by decide +kernel
theorem dX10_about_94 : decode cX10_about 94 = .ok (.bipush (-2), 2) := by decide +kernel
theorem dX10_about_96 : decode cX10_about 96 = .ok (.ireturn, 1) := by decide +kernel
theorem dX10_isThere_0 : decode cX10_isThere 0 = .ok (.aload_n 0, 1) := by decide +kernel
theorem dX10_isThere_1 : decode cX10_isThere 1 = .ok (.getfield 31, 3) := by decide +kernel
theorem dX10_isThere_4 : decode cX10_isThere 4 = .ok (.iload_n 1, 1) := by decide +kernel
theorem dX10_isThere_5 : decode cX10_isThere 5 = .ok (.iaload, 1) := by decide +kernel
theorem dX10_isThere_6 : decode cX10_isThere 6 = .ok (.iconst (-1), 1) := by decide +kernel
theorem dX10_isThere_7 : decode cX10_isThere 7 = .ok (.if_icmp .eq 29, 3) := by decide +kernel
theorem dX10_isThere_10 : decode cX10_isThere 10 = .ok (.iload_n 2, 1) := by decide +kernel
theorem dX10_isThere_11 : decode cX10_isThere 11 = .ok (.i2l, 1) := by decide +kernel
theorem dX10_isThere_12 : decode cX10_isThere 12 = .ok (.aload_n 0, 1) := by decide +kernel
theorem dX10_isThere_13 : decode cX10_isThere 13 = .ok (.getfield 22, 3) := by decide +kernel
theorem dX10_isThere_16 : decode cX10_isThere 16 = .ok (.iload_n 1, 1) := by decide +kernel
theorem dX10_isThere_17 : decode cX10_isThere 17 = .ok (.iaload, 1) := by decide +kernel
theorem dX10_isThere_18 : decode cX10_isThere 18 = .ok (.i2l, 1) := by decide +kernel
theorem dX10_isThere_19 : decode cX10_isThere 19 = .ok (.aload_n 0, 1) := by decide +kernel
theorem dX10_isThere_20 : decode cX10_isThere 20 = .ok (.getfield 25, 3) := by decide +kernel
theorem dX10_isThere_23 : decode cX10_isThere 23 = .ok (.iload_n 1, 1) := by decide +kernel
theorem dX10_isThere_24 : decode cX10_isThere 24 = .ok (.iaload, 1) := by decide +kernel
theorem dX10_isThere_25 : decode cX10_isThere 25 = .ok (.i2l, 1) := by decide +kernel
theorem dX10_isThere_26 : decode cX10_isThere 26 = .ok (.invokestatic 132, 3) := by decide +kernel
theorem dX10_isThere_29 : decode cX10_isThere 29 = .ok (.ifCond .eq 7, 3) := by decide +kernel
theorem dX10_isThere_32 : decode cX10_isThere 32 = .ok (.iconst 1, 1) := by decide +kernel
theorem dX10_isThere_33 : decode cX10_isThere 33 = .ok (.goto 4, 3) := by decide +kernel
theorem dX10_isThere_36 : decode cX10_isThere 36 = .ok (.iconst 0, 1) := by decide +kernel
theorem dX10_isThere_37 : decode cX10_isThere 37 = .ok (.ireturn, 1) := by decide +kernel
theorem dX10_who_0 : decode cX10_who 0 = .ok (.iconst 0, 1) := by decide +kernel
theorem dX10_who_1 : decode cX10_who 1 = .ok (.istore_n 3, 1) := by decide +kernel
theorem dX10_who_2 : decode cX10_who 2 = .ok (.iload_n 3, 1) := by decide +kernel
theorem dX10_who_3 : decode cX10_who 3 = .ok (.aload_n 0, 1) := by decide +kernel
theorem dX10_who_4 : decode cX10_who 4 = .ok (.getfield 136, 3) := by decide +kernel
theorem dX10_who_7 : decode cX10_who 7 = .ok (.if_icmp .ge 30, 3) := by decide +kernel
theorem dX10_who_10 : decode cX10_who 10 = .ok (.aload_n 0, 1) := by decide +kernel
theorem dX10_who_11 : decode cX10_who 11 = .ok (.getfield 31, 3) := by decide +kernel
theorem dX10_who_14 : decode cX10_who 14 = .ok (.iload_n 3, 1) := by decide +kernel
theorem dX10_who_15 : decode cX10_who 15 = .ok (.iaload, 1) := by decide +kernel
theorem dX10_who_16 : decode cX10_who 16 = .ok (.iload_n 1, 1) := by decide +kernel
theorem dX10_who_17 : decode cX10_who 17 = .ok (.if_icmp .ne 14, 3) := by decide +kernel
theorem dX10_who_20 : decode cX10_who 20 = .ok (.aload_n 0, 1) := by decide +kernel
theorem dX10_who_21 : decode cX10_who 21 = .ok (.iload_n 3, 1) := by decide +kernel
theorem dX10_who_22 : decode cX10_who 22 = .ok (.iload_n 2, 1) := by decide +kernel
theorem dX10_who_23 : decode cX10_who 23 = .ok (.invokevirtual 174, 3) := by decide +kernel
theorem dX10_who_26 : decode cX10_who 26 = .ok (.ifCond .eq 5, 3) := by decide +kernel
theorem dX10_who_29 : decode cX10_who 29 = .ok (.iload_n 3, 1) := by decide +kernel
theorem dX10_who_30 : decode cX10_who 30 = .ok (.ireturn, 1) := by decide +kernel
theorem dX10_who_31 : decode cX10_who 31 = .ok (.iinc 3 1, 3) := by decide +kernel
theorem dX10_who_34 : decode cX10_who 34 = .ok (.goto (-32), 3) := by decide +kernel
theorem dX10_who_37 : decode cX10_who 37 = .ok (.iconst (-1), 1) := by decide +kernel
theorem dX10_who_38 : decode cX10_who 38 = .ok (.ireturn, 1) := by decide +kernel
theorem dX10_in_0 : decode cX10_in 0 = .ok (.aload_n 0, 1) := by decide +kernel
theorem dX10_in_1 : decode cX10_in 1 = .ok (.iload_n 1, 1) := by decide +kernel
theorem dX10_in_2 : decode cX10_in 2 = .ok (.invokevirtual 177, 3) := by decide +kernel
theorem dX10_in_5 : decode cX10_in 5 = .ok (.ifCond .eq 19, 3) := by decide +kernel
theorem dX10_in_8 : decode cX10_in 8 = .ok (.iload_n 2, 1) := by decide +kernel
theorem dX10_in_9 : decode cX10_in 9 = .ok (.invokestatic 145, 3) := by decide +kernel
theorem dX10_in_12 : decode cX10_in 12 = .ok (.ifCond .eq 12, 3) := by decide +kernel
theorem dX10_in_15 : decode cX10_in 15 = .ok (.aload_n 0, 1) := by decide +kernel
theorem dX10_in_16 : decode cX10_in 16 = .ok (.iload_n 1, 1) := by decide +kernel
theorem dX10_in_17 : decode cX10_in 17 = .ok (.iload_n 2, 1) := by decide +kernel
theorem dX10_in_18 : decode cX10_in 18 = .ok (.invokevirtual 180, 3) := by decide +kernel
theorem dX10_in_21 : decode cX10_in 21 = .ok (.goto 5, 3) := by decide +kernel
theorem dX10_in_24 : decode cX10_in 24 = .ok (.bipush (-2), 2) := by decide +kernel
theorem dX10_in_26 : decode cX10_in 26 = .ok (.ireturn, 1) := by decide +kernel
theorem dX10_empty_0 : decode cX10_empty 0 = .ok (.iload_n 1, 1) := by decide +kernel
theorem dX10_empty_1 : decode cX10_empty 1 = .ok (.invokestatic 145, 3) := by decide +kernel
theorem dX10_empty_4 : decode cX10_empty 4 = .ok (.ifCond .ne 6, 3) := by decide +kernel
theorem dX10_empty_7 : decode cX10_empty 7 = .ok (.bipush (-2), 2) := by decide +kernel
theorem dX10_empty_9 : decode cX10_empty 9 = .ok (.ireturn, 1) := by decide +kernel
theorem dX10_empty_10 : decode cX10_empty 10 = .ok (.iconst 0, 1) := by decide +kernel
theorem dX10_empty_11 : decode cX10_empty 11 = .ok (.istore_n 2, 1) := by decide +kernel
theorem dX10_empty_12 : decode cX10_empty 12 = .ok (.iconst 0, 1) := by decide +kernel
theorem dX10_empty_13 : decode cX10_empty 13 = .ok (.istore_n 3, 1) := by decide +kernel
theorem dX10_empty_14 : decode cX10_empty 14 = .ok (.iload_n 3, 1) := by decide +kernel
theorem dX10_empty_15 : decode cX10_empty 15 = .ok (.aload_n 0, 1) := by decide +kernel
theorem dX10_empty_16 : decode cX10_empty 16 = .ok (.getfield 129, 3) := by decide +kernel
theorem dX10_empty_19 : decode cX10_empty 19 = .ok (.if_icmp .ge 32, 3) := by decide +kernel
theorem dX10_empty_22 : decode cX10_empty 22 = .ok (.iload_n 2, 1) := by decide +kernel
theorem dX10_empty_23 : decode cX10_empty 23 = .ok (.aload_n 0, 1) := by decide +kernel
theorem dX10_empty_24 : decode cX10_empty 24 = .ok (.iload_n 3, 1) := by decide +kernel
theorem dX10_empty_25 : decode cX10_empty 25 = .ok (.iload_n 1, 1) := by decide +kernel
theorem dX10_empty_26 : decode cX10_empty 26 = .ok (.invokevirtual 180, 3) := by decide +kernel
theorem dX10_empty_29 : decode cX10_empty 29 = .ok (.iconst (-1), 1) := by decide +kernel
theorem dX10_empty_30 : decode cX10_empty 30 = .ok (.if_icmp .ne 12, 3) := by decide +kernel
theorem dX10_empty_33 : decode cX10_empty 33 = .ok (.aload_n 0, 1) := by decide +kernel
theorem dX10_empty_34 : decode cX10_empty 34 = .ok (.getfield 13, 3) := by decide +kernel
theorem dX10_empty_37 : decode cX10_empty 37 = .ok (.iload_n 3, 1) := by decide +kernel
theorem dX10_empty_38 : decode cX10_empty 38 = .ok (.iaload, 1) := by decide +kernel
theorem dX10_empty_39 : decode cX10_empty 39 = .ok (.goto 4, 3) := by decide +kernel
theorem dX10_empty_42 : decode cX10_empty 42 = .ok (.iconst 0, 1) := by decide +kernel
theorem dX10_empty_43 : decode cX10_empty 43 = .ok (.iadd, 1) := by decide +kernel
theorem dX10_empty_44 : decode cX10_empty 44 = .ok (.istore_n 2, 1) := by decide +kernel
theorem dX10_empty_45 : decode cX10_empty 45 = .ok (.iinc 3 1, 3) := by decide +kernel
theorem dX10_empty_48 : decode cX10_empty 48 = .ok (.goto (-34), 3) := by decide +kernel
theorem dX10_empty_51 : decode cX10_empty 51 = .ok (.iload_n 2, 1) := by decide +kernel
theorem dX10_empty_52 : decode cX10_empty 52 = .ok (.ireturn, 1) := by decide +kernel
theorem dX10_seats_0 : decode cX10_seats 0 = .ok (.iload_n 1, 1) := by decide +kernel
theorem dX10_seats_1 : decode cX10_seats 1 = .ok (.i2l, 1) := by decide +kernel
theorem dX10_seats_2 : decode cX10_seats 2 = .ok (.lconst 0, 1) := by decide +kernel
theorem dX10_seats_3 : decode cX10_seats 3 = .ok (.ldc2_w 183, 3) := by decide +kernel
theorem dX10_seats_6 : decode cX10_seats 6 = .ok (.invokestatic 132, 3) := by decide +kernel
theorem dX10_seats_9 : decode cX10_seats 9 = .ok (.ifCond .eq 15, 3) := by decide +kernel
theorem dX10_seats_12 : decode cX10_seats 12 = .ok (.iload_n 2, 1) := by decide +kernel
theorem dX10_seats_13 : decode cX10_seats 13 = .ok (.i2l, 1) := by decide +kernel
theorem dX10_seats_14 : decode cX10_seats 14 = .ok (.lconst 0, 1) := by decide +kernel
theorem dX10_seats_15 : decode cX10_seats 15 = .ok (.ldc2_w 183, 3) := by decide +kernel
theorem dX10_seats_18 : decode cX10_seats 18 = .ok (.invokestatic 132, 3) := by decide +kernel
theorem dX10_seats_21 : decode cX10_seats 21 = .ok (.ifCond .ne 6, 3) := by decide +kernel
theorem dX10_seats_24 : decode cX10_seats 24 = .ok (.bipush (-2), 2) := by decide +kernel
theorem dX10_seats_26 : decode cX10_seats 26 = .ok (.ireturn, 1) := by decide +kernel
theorem dX10_seats_27 : decode cX10_seats 27 = .ok (.aload_n 0, 1) := by decide +kernel
theorem dX10_seats_28 : decode cX10_seats 28 = .ok (.getfield 41, 3) := by decide +kernel
theorem dX10_seats_31 : decode cX10_seats 31 = .ok (.iconst 0, 1) := by decide +kernel
theorem dX10_seats_32 : decode cX10_seats 32 = .ok (.iload_n 1, 1) := by decide +kernel
theorem dX10_seats_33 : decode cX10_seats 33 = .ok (.iastore, 1) := by decide +kernel
theorem dX10_seats_34 : decode cX10_seats 34 = .ok (.aload_n 0, 1) := by decide +kernel
theorem dX10_seats_35 : decode cX10_seats 35 = .ok (.getfield 41, 3) := by decide +kernel
theorem dX10_seats_38 : decode cX10_seats 38 = .ok (.iconst 1, 1) := by decide +kernel
theorem dX10_seats_39 : decode cX10_seats 39 = .ok (.iload_n 2, 1) := by decide +kernel
theorem dX10_seats_40 : decode cX10_seats 40 = .ok (.iastore, 1) := by decide +kernel
theorem dX10_seats_41 : decode cX10_seats 41 = .ok (.iconst 1, 1) := by decide +kernel
theorem dX10_seats_42 : decode cX10_seats 42 = .ok (.ireturn, 1) := by decide +kernel
theorem dX10_findUnits_0 : decode cX10_findUnits 0 = .ok (.aload_n 0, 1) := by decide +kernel
theorem dX10_findUnits_1 : decode cX10_findUnits 1 = .ok (.iconst 0, 1) := by decide +kernel
theorem dX10_findUnits_2 : decode cX10_findUnits 2 = .ok (.putfield 185, 3) := by decide +kernel
theorem dX10_findUnits_5 : decode cX10_findUnits 5 = .ok (.iconst 0, 1) := by decide +kernel
theorem dX10_findUnits_6 : decode cX10_findUnits 6 = .ok (.istore_n 2, 1) := by decide +kernel
theorem dX10_findUnits_7 : decode cX10_findUnits 7 = .ok (.iload_n 2, 1) := by decide +kernel
theorem dX10_findUnits_8 : decode cX10_findUnits 8 = .ok (.aload_n 0, 1) := by decide +kernel
theorem dX10_findUnits_9 : decode cX10_findUnits 9 = .ok (.getfield 136, 3) := by decide +kernel
theorem dX10_findUnits_12 : decode cX10_findUnits 12 = .ok (.if_icmp .ge 144, 3) := by decide +kernel
theorem dX10_findUnits_15 : decode cX10_findUnits 15 = .ok (.aload_n 0, 1) := by decide +kernel
theorem dX10_findUnits_16 : decode cX10_findUnits 16 = .ok (.getfield 44, 3) := by decide +kernel
theorem dX10_findUnits_19 : decode cX10_findUnits 19 = .ok (.iload_n 2, 1) := by decide +kernel
theorem dX10_findUnits_20 : decode cX10_findUnits 20 = .ok (.iconst (-1), 1) := by decide +kernel
theorem dX10_findUnits_21 : decode cX10_findUnits 21 = .ok (.iastore, 1) := by decide +kernel
theorem dX10_findUnits_22 : decode cX10_findUnits 22 = .ok (.aload_n 0, 1) := by decide +kernel
theorem dX10_findUnits_23 : decode cX10_findUnits 23 = .ok (.iload_n 2, 1) := by decide +kernel
theorem dX10_findUnits_24 : decode cX10_findUnits 24 = .ok (.iload_n 1, 1) := by decide +kernel
theorem dX10_findUnits_25 : decode cX10_findUnits 25 = .ok (.invokevirtual 174, 3) := by decide +kernel
theorem dX10_findUnits_28 : decode cX10_findUnits 28 = .ok (.ifCond .eq 122, 3) := by decide +kernel
theorem dX10_findUnits_31 : decode cX10_findUnits 31 = .ok (.iconst 0, 1) := by decide +kernel
theorem dX10_findUnits_32 : decode cX10_findUnits 32 = .ok (.istore_n 3, 1) := by decide +kernel
theorem dX10_findUnits_33 : decode cX10_findUnits 33 = .ok (.iload_n 3, 1) := by decide +kernel
theorem dX10_findUnits_34 : decode cX10_findUnits 34 = .ok (.iload_n 2, 1) := by decide +kernel
theorem dX10_findUnits_35 : decode cX10_findUnits 35 = .ok (.if_icmp .ge 55, 3) := by decide +kernel
theorem dX10_findUnits_38 : decode cX10_findUnits 38 = .ok (.aload_n 0, 1) := by decide +kernel
theorem dX10_findUnits_39 : decode cX10_findUnits 39 = .ok (.getfield 28, 3) := by decide +kernel
theorem dX10_findUnits_42 : decode cX10_findUnits 42 = .ok (.iload_n 2, 1) := by decide +kernel
theorem dX10_findUnits_43 : decode cX10_findUnits 43 = .ok (.iaload, 1) := by decide +kernel
theorem dX10_findUnits_44 : decode cX10_findUnits 44 = .ok (.iconst (-1), 1) := by decide +kernel
theorem dX10_findUnits_45 : decode cX10_findUnits 45 = .ok (.if_icmp .eq 45, 3) := by decide +kernel
theorem dX10_findUnits_48 : decode cX10_findUnits 48 = .ok (.aload_n 0, 1) := by decide +kernel
theorem dX10_findUnits_49 : decode cX10_findUnits 49 = .ok (.iload_n 3, 1) := by decide +kernel
theorem dX10_findUnits_50 : decode cX10_findUnits 50 = .ok (.iload_n 1, 1) := by decide +kernel
theorem dX10_findUnits_51 : decode cX10_findUnits 51 = .ok (.invokevirtual 174, 3) := by decide +kernel
theorem dX10_findUnits_54 : decode cX10_findUnits 54 = .ok (.ifCond .eq 30, 3) := by decide +kernel
theorem dX10_findUnits_57 : decode cX10_findUnits 57 = .ok (.aload_n 0, 1) := by decide +kernel
theorem dX10_findUnits_58 : decode cX10_findUnits 58 = .ok (.getfield 28, 3) := by decide +kernel
theorem dX10_findUnits_61 : decode cX10_findUnits 61 = .ok (.iload_n 3, 1) := by decide +kernel
theorem dX10_findUnits_62 : decode cX10_findUnits 62 = .ok (.iaload, 1) := by decide +kernel
theorem dX10_findUnits_63 : decode cX10_findUnits 63 = .ok (.aload_n 0, 1) := by decide +kernel
theorem dX10_findUnits_64 : decode cX10_findUnits 64 = .ok (.getfield 28, 3) := by decide +kernel
theorem dX10_findUnits_67 : decode cX10_findUnits 67 = .ok (.iload_n 2, 1) := by decide +kernel
theorem dX10_findUnits_68 : decode cX10_findUnits 68 = .ok (.iaload, 1) := by decide +kernel
theorem dX10_findUnits_69 : decode cX10_findUnits 69 = .ok (.if_icmp .ne 15, 3) := by decide +kernel
theorem dX10_findUnits_72 : decode cX10_findUnits 72 = .ok (.aload_n 0, 1) := by decide +kernel
theorem dX10_findUnits_73 : decode cX10_findUnits 73 = .ok (.getfield 44, 3) := by decide +kernel
theorem dX10_findUnits_76 : decode cX10_findUnits 76 = .ok (.iload_n 2, 1) := by decide +kernel
theorem dX10_findUnits_77 : decode cX10_findUnits 77 = .ok (.aload_n 0, 1) := by decide +kernel
theorem dX10_findUnits_78 : decode cX10_findUnits 78 = .ok (.getfield 44, 3) := by decide +kernel
theorem dX10_findUnits_81 : decode cX10_findUnits 81 = .ok (.iload_n 3, 1) := by decide +kernel
theorem dX10_findUnits_82 : decode cX10_findUnits 82 = .ok (.iaload, 1) := by decide +kernel
theorem dX10_findUnits_83 : decode cX10_findUnits 83 = .ok (.iastore, 1) := by decide +kernel
theorem dX10_findUnits_84 : decode cX10_findUnits 84 = .ok (.iinc 3 1, 3) := by decide +kernel
theorem dX10_findUnits_87 : decode cX10_findUnits 87 = .ok (.goto (-54), 3) := by decide +kernel
theorem dX10_findUnits_90 : decode cX10_findUnits 90 = .ok (.aload_n 0, 1) := by decide +kernel
theorem dX10_findUnits_91 : decode cX10_findUnits 91 = .ok (.getfield 44, 3) := by decide +kernel
theorem dX10_findUnits_94 : decode cX10_findUnits 94 = .ok (.iload_n 2, 1) := by decide +kernel
theorem dX10_findUnits_95 : decode cX10_findUnits 95 = .ok (.iaload, 1) := by decide +kernel
theorem dX10_findUnits_96 : decode cX10_findUnits 96 = .ok (.iconst (-1), 1) := by decide +kernel
theorem dX10_findUnits_97 : decode cX10_findUnits 97 = .ok (.if_icmp .ne 33, 3) := by decide +kernel
theorem dX10_findUnits_100 : decode cX10_findUnits 100 = .ok (.aload_n 0, 1) := by decide +kernel
theorem dX10_findUnits_101 : decode cX10_findUnits 101 = .ok (.getfield 44, 3) := by decide +kernel
theorem dX10_findUnits_104 : decode cX10_findUnits 104 = .ok (.iload_n 2, 1) := by decide +kernel
theorem dX10_findUnits_105 : decode cX10_findUnits 105 = .ok (.aload_n 0, 1) := by decide +kernel
theorem dX10_findUnits_106 : decode cX10_findUnits 106 = .ok (.getfield 185, 3) := by decide +kernel
theorem dX10_findUnits_109 : decode cX10_findUnits 109 = .ok (.iastore, 1) := by decide +kernel
theorem dX10_findUnits_110 : decode cX10_findUnits 110 = .ok (.aload_n 0, 1) := by decide +kernel
theorem dX10_findUnits_111 : decode cX10_findUnits 111 = .ok (.getfield 47, 3) := by decide +kernel
theorem dX10_findUnits_114 : decode cX10_findUnits 114 = .ok (.aload_n 0, 1) := by decide +kernel
theorem dX10_findUnits_115 : decode cX10_findUnits 115 = .ok (.getfield 185, 3) := by decide +kernel
theorem dX10_findUnits_118 : decode cX10_findUnits 118 = .ok (.iconst 0, 1) := by decide +kernel
theorem dX10_findUnits_119 : decode cX10_findUnits 119 = .ok (.iastore, 1) := by decide +kernel
theorem dX10_findUnits_120 : decode cX10_findUnits 120 = .ok (.aload_n 0, 1) := by decide +kernel
theorem dX10_findUnits_121 : decode cX10_findUnits 121 = .ok (.dup, 1) := by decide +kernel
theorem dX10_findUnits_122 : decode cX10_findUnits 122 = .ok (.getfield 185, 3) := by decide +kernel
theorem dX10_findUnits_125 : decode cX10_findUnits 125 = .ok (.iconst 1, 1) := by decide +kernel
theorem dX10_findUnits_126 : decode cX10_findUnits 126 = .ok (.iadd, 1) := by decide +kernel
theorem dX10_findUnits_127 : decode cX10_findUnits 127 = .ok (.putfield 185, 3) := by decide +kernel
theorem dX10_findUnits_130 : decode cX10_findUnits 130 = .ok (.aload_n 0, 1) := by decide +kernel
theorem dX10_findUnits_131 : decode cX10_findUnits 131 = .ok (.getfield 47, 3) := by decide +kernel
theorem dX10_findUnits_134 : decode cX10_findUnits 134 = .ok (.aload_n 0, 1) := by decide +kernel
theorem dX10_findUnits_135 : decode cX10_findUnits 135 = .ok (.getfield 44, 3) := by decide +kernel
theorem dX10_findUnits_138 : decode cX10_findUnits 138 = .ok (.iload_n 2, 1) := by decide +kernel
theorem dX10_findUnits_139 : decode cX10_findUnits 139 = .ok (.iaload, 1) := by decide +kernel
theorem dX10_findUnits_140 : decode cX10_findUnits 140 = .ok (.dup2, 1) := by decide +kernel
theorem dX10_findUnits_141 : decode cX10_findUnits 141 = .ok (.iaload, 1) := by decide +kernel
theorem dX10_findUnits_142 : decode cX10_findUnits 142 = .ok (.aload_n 0, 1) := by decide +kernel
theorem dX10_findUnits_143 : decode cX10_findUnits 143 = .ok (.getfield 16, 3) := by decide +kernel
theorem dX10_findUnits_146 : decode cX10_findUnits 146 = .ok (.iload_n 2, 1) := by decide +kernel
theorem dX10_findUnits_147 : decode cX10_findUnits 147 = .ok (.iaload, 1) := by decide +kernel
theorem dX10_findUnits_148 : decode cX10_findUnits 148 = .ok (.iadd, 1) := by decide +kernel
theorem dX10_findUnits_149 : decode cX10_findUnits 149 = .ok (.iastore, 1) := by decide +kernel
theorem dX10_findUnits_150 : decode cX10_findUnits 150 = .ok (.iinc 2 1, 3) := by decide +kernel
theorem dX10_findUnits_153 : decode cX10_findUnits 153 = .ok (.goto (-146), 3) := by decide +kernel
theorem dX10_findUnits_156 : decode cX10_findUnits 156 = .ok (.return_, 1) := by decide +kernel
theorem dX10_findSittings_0 : decode cX10_findSittings 0 = .ok (.aload_n 0, 1) := by decide +kernel
theorem dX10_findSittings_1 : decode cX10_findSittings 1 = .ok (.iload_n 1, 1) := by decide +kernel
theorem dX10_findSittings_2 : decode cX10_findSittings 2 = .ok (.invokevirtual 188, 3) := by decide +kernel
theorem dX10_findSittings_5 : decode cX10_findSittings 5 = .ok (.iconst 0, 1) := by decide +kernel
theorem dX10_findSittings_6 : decode cX10_findSittings 6 = .ok (.istore_n 2, 1) := by decide +kernel
theorem dX10_findSittings_7 : decode cX10_findSittings 7 = .ok (.iconst 0, 1) := by decide +kernel
theorem dX10_findSittings_8 : decode cX10_findSittings 8 = .ok (.istore_n 3, 1) := by decide +kernel
theorem dX10_findSittings_9 : decode cX10_findSittings 9 = .ok (.iload_n 3, 1) := by decide +kernel
theorem dX10_findSittings_10 : decode cX10_findSittings 10 = .ok (.aload_n 0, 1) := by decide +kernel
theorem dX10_findSittings_11 : decode cX10_findSittings 11 = .ok (.getfield 185, 3) := by decide +kernel
theorem dX10_findSittings_14 : decode cX10_findSittings 14 = .ok (.if_icmp .ge 18, 3) := by decide +kernel
theorem dX10_findSittings_17 : decode cX10_findSittings 17 = .ok (.iload_n 2, 1) := by decide +kernel
theorem dX10_findSittings_18 : decode cX10_findSittings 18 = .ok (.aload_n 0, 1) := by decide +kernel
theorem dX10_findSittings_19 : decode cX10_findSittings 19 = .ok (.getfield 47, 3) := by decide +kernel
theorem dX10_findSittings_22 : decode cX10_findSittings 22 = .ok (.iload_n 3, 1) := by decide +kernel
theorem dX10_findSittings_23 : decode cX10_findSittings 23 = .ok (.iaload, 1) := by decide +kernel
theorem dX10_findSittings_24 : decode cX10_findSittings 24 = .ok (.iadd, 1) := by decide +kernel
theorem dX10_findSittings_25 : decode cX10_findSittings 25 = .ok (.istore_n 2, 1) := by decide +kernel
theorem dX10_findSittings_26 : decode cX10_findSittings 26 = .ok (.iinc 3 1, 3) := by decide +kernel
theorem dX10_findSittings_29 : decode cX10_findSittings 29 = .ok (.goto (-20), 3) := by decide +kernel
theorem dX10_findSittings_32 : decode cX10_findSittings 32 = .ok (.iconst 0, 1) := by decide +kernel
theorem dX10_findSittings_33 : decode cX10_findSittings 33 = .ok (.istore_n 3, 1) := by decide +kernel
theorem dX10_findSittings_34 : decode cX10_findSittings 34 = .ok (.iload_n 3, 1) := by decide +kernel
theorem dX10_findSittings_35 : decode cX10_findSittings 35 = .ok (.sipush 200, 3) := by decide +kernel
theorem dX10_findSittings_38 : decode cX10_findSittings 38 = .ok (.if_icmp .ge 33, 3) := by decide +kernel
theorem dX10_findSittings_41 : decode cX10_findSittings 41 = .ok (.aload_n 0, 1) := by decide +kernel
theorem dX10_findSittings_42 : decode cX10_findSittings 42 = .ok (.getfield 50, 3) := by decide +kernel
theorem dX10_findSittings_45 : decode cX10_findSittings 45 = .ok (.sipush 200, 3) := by decide +kernel
theorem dX10_findSittings_48 : decode cX10_findSittings 48 = .ok (.aload_n 0, 1) := by decide +kernel
theorem dX10_findSittings_49 : decode cX10_findSittings 49 = .ok (.getfield 185, 3) := by decide +kernel
theorem dX10_findSittings_52 : decode cX10_findSittings 52 = .ok (.imul, 1) := by decide +kernel
theorem dX10_findSittings_53 : decode cX10_findSittings 53 = .ok (.iload_n 3, 1) := by decide +kernel
theorem dX10_findSittings_54 : decode cX10_findSittings 54 = .ok (.iadd, 1) := by decide +kernel
theorem dX10_findSittings_55 : decode cX10_findSittings 55 = .ok (.iload_n 3, 1) := by decide +kernel
theorem dX10_findSittings_56 : decode cX10_findSittings 56 = .ok (.ifCond .ne 7, 3) := by decide +kernel
theorem dX10_findSittings_59 : decode cX10_findSittings 59 = .ok (.iconst 1, 1) := by decide +kernel
theorem dX10_findSittings_60 : decode cX10_findSittings 60 = .ok (.goto 4, 3) := by decide +kernel
theorem dX10_findSittings_63 : decode cX10_findSittings 63 = .ok (.iconst 0, 1) := by decide +kernel
theorem dX10_findSittings_64 : decode cX10_findSittings 64 = .ok (.bastore, 1) := by decide +kernel
theorem dX10_findSittings_65 : decode cX10_findSittings 65 = .ok (.iinc 3 1, 3) := by decide +kernel
theorem dX10_findSittings_68 : decode cX10_findSittings 68 = .ok (.goto (-34), 3) := by decide +kernel
theorem dX10_findSittings_71 : decode cX10_findSittings 71 = .ok (.aload_n 0, 1) := by decide +kernel
theorem dX10_findSittings_72 : decode cX10_findSittings 72 = .ok (.getfield 185, 3) := by decide +kernel
theorem dX10_findSittings_75 : decode cX10_findSittings 75 = .ok (.iconst 1, 1) := by decide +kernel
theorem dX10_findSittings_76 : decode cX10_findSittings 76 = .ok (.isub, 1) := by decide +kernel
theorem dX10_findSittings_77 : decode cX10_findSittings 77 = .ok (.istore_n 3, 1) := by decide +kernel
theorem dX10_findSittings_78 : decode cX10_findSittings 78 = .ok (.iload_n 3, 1) := by decide +kernel
theorem dX10_findSittings_79 : decode cX10_findSittings 79 = .ok (.ifCond .lt 98, 3) := by decide +kernel
theorem dX10_findSittings_82 : decode cX10_findSittings 82 = .ok (.iconst 0, 1) := by decide +kernel
theorem dX10_findSittings_83 : decode cX10_findSittings 83 = .ok (.istore 4, 2) := by decide +kernel
theorem dX10_findSittings_85 : decode cX10_findSittings 85 = .ok (.iload 4, 2) := by decide +kernel
theorem dX10_findSittings_87 : decode cX10_findSittings 87 = .ok (.sipush 200, 3) := by decide +kernel
theorem dX10_findSittings_90 : decode cX10_findSittings 90 = .ok (.if_icmp .ge 81, 3) := by decide +kernel
theorem dX10_findSittings_93 : decode cX10_findSittings 93 = .ok (.aload_n 0, 1) := by decide +kernel
theorem dX10_findSittings_94 : decode cX10_findSittings 94 = .ok (.getfield 50, 3) := by decide +kernel
theorem dX10_findSittings_97 : decode cX10_findSittings 97 = .ok (.sipush 200, 3) := by decide +kernel
theorem dX10_findSittings_100 : decode cX10_findSittings 100 = .ok (.iload_n 3, 1) := by decide +kernel
theorem dX10_findSittings_101 : decode cX10_findSittings 101 = .ok (.imul, 1) := by decide +kernel
theorem dX10_findSittings_102 : decode cX10_findSittings 102 = .ok (.iload 4, 2) := by decide +kernel
theorem dX10_findSittings_104 : decode cX10_findSittings 104 = .ok (.iadd, 1) := by decide +kernel
theorem dX10_findSittings_105 : decode cX10_findSittings 105 = .ok (.aload_n 0, 1) := by decide +kernel
theorem dX10_findSittings_106 : decode cX10_findSittings 106 = .ok (.getfield 50, 3) := by decide +kernel
theorem dX10_findSittings_109 : decode cX10_findSittings 109 = .ok (.sipush 200, 3) := by decide +kernel
theorem dX10_findSittings_112 : decode cX10_findSittings 112 = .ok (.iload_n 3, 1) := by decide +kernel
theorem dX10_findSittings_113 : decode cX10_findSittings 113 = .ok (.iconst 1, 1) := by decide +kernel
theorem dX10_findSittings_114 : decode cX10_findSittings 114 = .ok (.iadd, 1) := by decide +kernel
theorem dX10_findSittings_115 : decode cX10_findSittings 115 = .ok (.imul, 1) := by decide +kernel
theorem dX10_findSittings_116 : decode cX10_findSittings 116 = .ok (.iload 4, 2) := by decide +kernel
theorem dX10_findSittings_118 : decode cX10_findSittings 118 = .ok (.iadd, 1) := by decide +kernel
theorem dX10_findSittings_119 : decode cX10_findSittings 119 = .ok (.baload, 1) := by decide +kernel
theorem dX10_findSittings_120 : decode cX10_findSittings 120 = .ok (.ifCond .ne 39, 3) := by decide +kernel
theorem dX10_findSittings_123 : decode cX10_findSittings 123 = .ok (.iload 4, 2) := by decide +kernel
theorem dX10_findSittings_125 : decode cX10_findSittings 125 = .ok (.aload_n 0, 1) := by decide +kernel
theorem dX10_findSittings_126 : decode cX10_findSittings 126 = .ok (.getfield 47, 3) := by decide +kernel
theorem dX10_findSittings_129 : decode cX10_findSittings 129 = .ok (.iload_n 3, 1) := by decide +kernel
theorem dX10_findSittings_130 : decode cX10_findSittings 130 = .ok (.iaload, 1) := by decide +kernel
theorem dX10_findSittings_131 : decode cX10_findSittings 131 = .ok (.if_icmp .lt 32, 3) := by decide +kernel
theorem dX10_findSittings_134 : decode cX10_findSittings 134 = .ok (.aload_n 0, 1) := by decide +kernel
theorem dX10_findSittings_135 : decode cX10_findSittings 135 = .ok (.getfield 50, 3) := by decide +kernel
theorem dX10_findSittings_138 : decode cX10_findSittings 138 = .ok (.sipush 200, 3) := by decide +kernel
theorem dX10_findSittings_141 : decode cX10_findSittings 141 = .ok (.iload_n 3, 1) := by decide +kernel
theorem dX10_findSittings_142 : decode cX10_findSittings 142 = .ok (.iconst 1, 1) := by decide +kernel
theorem dX10_findSittings_143 : decode cX10_findSittings 143 = .ok (.iadd, 1) := by decide +kernel
theorem dX10_findSittings_144 : decode cX10_findSittings 144 = .ok (.imul, 1) := by decide +kernel
theorem dX10_findSittings_145 : decode cX10_findSittings 145 = .ok (.iload 4, 2) := by decide +kernel
theorem dX10_findSittings_147 : decode cX10_findSittings 147 = .ok (.iadd, 1) := by decide +kernel
theorem dX10_findSittings_148 : decode cX10_findSittings 148 = .ok (.aload_n 0, 1) := by decide +kernel
theorem dX10_findSittings_149 : decode cX10_findSittings 149 = .ok (.getfield 47, 3) := by decide +kernel
theorem dX10_findSittings_152 : decode cX10_findSittings 152 = .ok (.iload_n 3, 1) := by decide +kernel
theorem dX10_findSittings_153 : decode cX10_findSittings 153 = .ok (.iaload, 1) := by decide +kernel
theorem dX10_findSittings_154 : decode cX10_findSittings 154 = .ok (.isub, 1) := by decide +kernel
theorem dX10_findSittings_155 : decode cX10_findSittings 155 = .ok (.baload, 1) := by decide +kernel
theorem dX10_findSittings_156 : decode cX10_findSittings 156 = .ok (.ifCond .eq 7, 3) := by decide +kernel
theorem dX10_findSittings_159 : decode cX10_findSittings 159 = .ok (.iconst 1, 1) := by decide +kernel
theorem dX10_findSittings_160 : decode cX10_findSittings 160 = .ok (.goto 4, 3) := by decide +kernel
theorem dX10_findSittings_163 : decode cX10_findSittings 163 = .ok (.iconst 0, 1) := by decide +kernel
theorem dX10_findSittings_164 : decode cX10_findSittings 164 = .ok (.bastore, 1) := by decide +kernel
theorem dX10_findSittings_165 : decode cX10_findSittings 165 = .ok (.iinc 4 1, 3) := by decide +kernel
theorem dX10_findSittings_168 : decode cX10_findSittings 168 = .ok (.goto (-83), 3) := by decide +kernel
theorem dX10_findSittings_171 : decode cX10_findSittings 171 = .ok (.iinc 3 (-1), 3) := by decide +kernel
theorem dX10_findSittings_174 : decode cX10_findSittings 174 = .ok (.goto (-96), 3) := by decide +kernel
theorem dX10_findSittings_177 : decode cX10_findSittings 177 = .ok (.iconst (-1), 1) := by decide +kernel
theorem dX10_findSittings_178 : decode cX10_findSittings 178 = .ok (.istore_n 3, 1) := by decide +kernel
theorem dX10_findSittings_179 : decode cX10_findSittings 179 = .ok (.iconst 0, 1) := by decide +kernel
theorem dX10_findSittings_180 : decode cX10_findSittings 180 = .ok (.istore 4, 2) := by decide +kernel
theorem dX10_findSittings_182 : decode cX10_findSittings 182 = .ok (.iload 4, 2) := by decide +kernel
theorem dX10_findSittings_184 : decode cX10_findSittings 184 = .ok (.iload_n 2, 1) := by decide +kernel
theorem dX10_findSittings_185 : decode cX10_findSittings 185 = .ok (.if_icmp .gt 82, 3) := by decide +kernel
theorem dX10_findSittings_188 : decode cX10_findSittings 188 = .ok (.iconst 2, 1) := by decide +kernel
theorem dX10_findSittings_189 : decode cX10_findSittings 189 = .ok (.iload 4, 2) := by decide +kernel
theorem dX10_findSittings_191 : decode cX10_findSittings 191 = .ok (.imul, 1) := by decide +kernel
theorem dX10_findSittings_192 : decode cX10_findSittings 192 = .ok (.iload_n 2, 1) := by decide +kernel
theorem dX10_findSittings_193 : decode cX10_findSittings 193 = .ok (.if_icmp .le 12, 3) := by decide +kernel
theorem dX10_findSittings_196 : decode cX10_findSittings 196 = .ok (.iconst 2, 1) := by decide +kernel
theorem dX10_findSittings_197 : decode cX10_findSittings 197 = .ok (.iload 4, 2) := by decide +kernel
theorem dX10_findSittings_199 : decode cX10_findSittings 199 = .ok (.imul, 1) := by decide +kernel
theorem dX10_findSittings_200 : decode cX10_findSittings 200 = .ok (.iload_n 2, 1) := by decide +kernel
theorem dX10_findSittings_201 : decode cX10_findSittings 201 = .ok (.isub, 1) := by decide +kernel
theorem dX10_findSittings_202 : decode cX10_findSittings 202 = .ok (.goto 9, 3) := by decide +kernel
theorem dX10_findSittings_205 : decode cX10_findSittings 205 = .ok (.iload_n 2, 1) := by decide +kernel
theorem dX10_findSittings_206 : decode cX10_findSittings 206 = .ok (.iconst 2, 1) := by decide +kernel
theorem dX10_findSittings_207 : decode cX10_findSittings 207 = .ok (.iload 4, 2) := by decide +kernel
theorem dX10_findSittings_209 : decode cX10_findSittings 209 = .ok (.imul, 1) := by decide +kernel
theorem dX10_findSittings_210 : decode cX10_findSittings 210 = .ok (.isub, 1) := by decide +kernel
theorem dX10_findSittings_211 : decode cX10_findSittings 211 = .ok (.istore 5, 2) := by decide +kernel
theorem dX10_findSittings_213 : decode cX10_findSittings 213 = .ok (.aload_n 0, 1) := by decide +kernel
theorem dX10_findSittings_214 : decode cX10_findSittings 214 = .ok (.getfield 50, 3) := by decide +kernel
theorem dX10_findSittings_217 : decode cX10_findSittings 217 = .ok (.iload 4, 2) := by decide +kernel
theorem dX10_findSittings_219 : decode cX10_findSittings 219 = .ok (.baload, 1) := by decide +kernel
theorem dX10_findSittings_220 : decode cX10_findSittings 220 = .ok (.ifCond .eq 41, 3) := by decide +kernel
theorem dX10_findSittings_223 : decode cX10_findSittings 223 = .ok (.iload 4, 2) := by decide +kernel
theorem dX10_findSittings_225 : decode cX10_findSittings 225 = .ok (.aload_n 0, 1) := by decide +kernel
theorem dX10_findSittings_226 : decode cX10_findSittings 226 = .ok (.getfield 41, 3) := by decide +kernel
theorem dX10_findSittings_229 : decode cX10_findSittings 229 = .ok (.iconst 0, 1) := by decide +kernel
theorem dX10_findSittings_230 : decode cX10_findSittings 230 = .ok (.iaload, 1) := by decide +kernel
theorem dX10_findSittings_231 : decode cX10_findSittings 231 = .ok (.if_icmp .gt 30, 3) := by decide +kernel
theorem dX10_findSittings_234 : decode cX10_findSittings 234 = .ok (.iload_n 2, 1) := by decide +kernel
theorem dX10_findSittings_235 : decode cX10_findSittings 235 = .ok (.iload 4, 2) := by decide +kernel
theorem dX10_findSittings_237 : decode cX10_findSittings 237 = .ok (.isub, 1) := by decide +kernel
theorem dX10_findSittings_238 : decode cX10_findSittings 238 = .ok (.aload_n 0, 1) := by decide +kernel
theorem dX10_findSittings_239 : decode cX10_findSittings 239 = .ok (.getfield 41, 3) := by decide +kernel
theorem dX10_findSittings_242 : decode cX10_findSittings 242 = .ok (.iconst 1, 1) := by decide +kernel
theorem dX10_findSittings_243 : decode cX10_findSittings 243 = .ok (.iaload, 1) := by decide +kernel
theorem dX10_findSittings_244 : decode cX10_findSittings 244 = .ok (.if_icmp .gt 17, 3) := by decide +kernel
theorem dX10_findSittings_247 : decode cX10_findSittings 247 = .ok (.iload_n 3, 1) := by decide +kernel
theorem dX10_findSittings_248 : decode cX10_findSittings 248 = .ok (.iconst (-1), 1) := by decide +kernel
theorem dX10_findSittings_249 : decode cX10_findSittings 249 = .ok (.if_icmp .eq 9, 3) := by decide +kernel
theorem dX10_findSittings_252 : decode cX10_findSittings 252 = .ok (.iload 5, 2) := by decide +kernel
theorem dX10_findSittings_254 : decode cX10_findSittings 254 = .ok (.iload_n 3, 1) := by decide +kernel
theorem dX10_findSittings_255 : decode cX10_findSittings 255 = .ok (.if_icmp .ge 6, 3) := by decide +kernel
theorem dX10_findSittings_258 : decode cX10_findSittings 258 = .ok (.iload 5, 2) := by decide +kernel
theorem dX10_findSittings_260 : decode cX10_findSittings 260 = .ok (.istore_n 3, 1) := by decide +kernel
theorem dX10_findSittings_261 : decode cX10_findSittings 261 = .ok (.iinc 4 1, 3) := by decide +kernel
theorem dX10_findSittings_264 : decode cX10_findSittings 264 = .ok (.goto (-82), 3) := by decide +kernel
theorem dX10_findSittings_267 : decode cX10_findSittings 267 = .ok (.iload_n 3, 1) := by decide +kernel
theorem dX10_findSittings_268 : decode cX10_findSittings 268 = .ok (.iconst (-1), 1) := by decide +kernel
theorem dX10_findSittings_269 : decode cX10_findSittings 269 = .ok (.if_icmp .ne 5, 3) := by decide +kernel
theorem dX10_findSittings_272 : decode cX10_findSittings 272 = .ok (.iconst (-1), 1) := by decide +kernel
theorem dX10_findSittings_273 : decode cX10_findSittings 273 = .ok (.ireturn, 1) := by decide +kernel
theorem dX10_findSittings_274 : decode cX10_findSittings 274 = .ok (.iload_n 2, 1) := by decide +kernel
theorem dX10_findSittings_275 : decode cX10_findSittings 275 = .ok (.iload_n 3, 1) := by decide +kernel
theorem dX10_findSittings_276 : decode cX10_findSittings 276 = .ok (.isub, 1) := by decide +kernel
theorem dX10_findSittings_277 : decode cX10_findSittings 277 = .ok (.iconst 2, 1) := by decide +kernel
theorem dX10_findSittings_278 : decode cX10_findSittings 278 = .ok (.idiv, 1) := by decide +kernel
theorem dX10_findSittings_279 : decode cX10_findSittings 279 = .ok (.istore 4, 2) := by decide +kernel
theorem dX10_findSittings_281 : decode cX10_findSittings 281 = .ok (.iload_n 2, 1) := by decide +kernel
theorem dX10_findSittings_282 : decode cX10_findSittings 282 = .ok (.iload_n 3, 1) := by decide +kernel
theorem dX10_findSittings_283 : decode cX10_findSittings 283 = .ok (.iadd, 1) := by decide +kernel
theorem dX10_findSittings_284 : decode cX10_findSittings 284 = .ok (.iconst 2, 1) := by decide +kernel
theorem dX10_findSittings_285 : decode cX10_findSittings 285 = .ok (.idiv, 1) := by decide +kernel
theorem dX10_findSittings_286 : decode cX10_findSittings 286 = .ok (.istore 5, 2) := by decide +kernel
theorem dX10_findSittings_288 : decode cX10_findSittings 288 = .ok (.iload 4, 2) := by decide +kernel
theorem dX10_findSittings_290 : decode cX10_findSittings 290 = .ok (.aload_n 0, 1) := by decide +kernel
theorem dX10_findSittings_291 : decode cX10_findSittings 291 = .ok (.getfield 41, 3) := by decide +kernel
theorem dX10_findSittings_294 : decode cX10_findSittings 294 = .ok (.iconst 0, 1) := by decide +kernel
theorem dX10_findSittings_295 : decode cX10_findSittings 295 = .ok (.iaload, 1) := by decide +kernel
theorem dX10_findSittings_296 : decode cX10_findSittings 296 = .ok (.if_icmp .gt 30, 3) := by decide +kernel
end
section
theorem dX10_findSittings_299 : decode cX10_findSittings 299 = .ok (.iload_n 2, 1) := by decide +kernel
theorem dX10_findSittings_300 : decode cX10_findSittings 300 = .ok (.iload 4, 2) := by decide +kernel
theorem dX10_findSittings_302 : decode cX10_findSittings 302 = .ok (.isub, 1) := by decide +kernel
theorem dX10_findSittings_303 : decode cX10_findSittings 303 = .ok (.aload_n 0, 1) := by decide +kernel
theorem dX10_findSittings_304 : decode cX10_findSittings 304 = .ok (.getfield 41, 3) := by decide +kernel
theorem dX10_findSittings_307 : decode cX10_findSittings 307 = .ok (.iconst 1, 1) := by decide +kernel
theorem dX10_findSittings_308 : decode cX10_findSittings 308 = .ok (.iaload, 1) := by decide +kernel
theorem dX10_findSittings_309 : decode cX10_findSittings 309 = .ok (.if_icmp .gt 17, 3) := by decide +kernel
theorem dX10_findSittings_312 : decode cX10_findSittings 312 = .ok (.aload_n 0, 1) := by decide +kernel
theorem dX10_findSittings_313 : decode cX10_findSittings 313 = .ok (.getfield 50, 3) := by decide +kernel
theorem dX10_findSittings_316 : decode cX10_findSittings 316 = .ok (.iload 4, 2) := by decide +kernel
theorem dX10_findSittings_318 : decode cX10_findSittings 318 = .ok (.baload, 1) := by decide +kernel
theorem dX10_findSittings_319 : decode cX10_findSittings 319 = .ok (.ifCond .eq 7, 3) := by decide +kernel
theorem dX10_findSittings_322 : decode cX10_findSittings 322 = .ok (.iconst 1, 1) := by decide +kernel
theorem dX10_findSittings_323 : decode cX10_findSittings 323 = .ok (.goto 4, 3) := by decide +kernel
theorem dX10_findSittings_326 : decode cX10_findSittings 326 = .ok (.iconst 0, 1) := by decide +kernel
theorem dX10_findSittings_327 : decode cX10_findSittings 327 = .ok (.istore 6, 2) := by decide +kernel
theorem dX10_findSittings_329 : decode cX10_findSittings 329 = .ok (.iload 5, 2) := by decide +kernel
theorem dX10_findSittings_331 : decode cX10_findSittings 331 = .ok (.aload_n 0, 1) := by decide +kernel
theorem dX10_findSittings_332 : decode cX10_findSittings 332 = .ok (.getfield 41, 3) := by decide +kernel
theorem dX10_findSittings_335 : decode cX10_findSittings 335 = .ok (.iconst 0, 1) := by decide +kernel
theorem dX10_findSittings_336 : decode cX10_findSittings 336 = .ok (.iaload, 1) := by decide +kernel
theorem dX10_findSittings_337 : decode cX10_findSittings 337 = .ok (.if_icmp .gt 30, 3) := by decide +kernel
theorem dX10_findSittings_340 : decode cX10_findSittings 340 = .ok (.iload_n 2, 1) := by decide +kernel
theorem dX10_findSittings_341 : decode cX10_findSittings 341 = .ok (.iload 5, 2) := by decide +kernel
theorem dX10_findSittings_343 : decode cX10_findSittings 343 = .ok (.isub, 1) := by decide +kernel
theorem dX10_findSittings_344 : decode cX10_findSittings 344 = .ok (.aload_n 0, 1) := by decide +kernel
theorem dX10_findSittings_345 : decode cX10_findSittings 345 = .ok (.getfield 41, 3) := by decide +kernel
theorem dX10_findSittings_348 : decode cX10_findSittings 348 = .ok (.iconst 1, 1) := by decide +kernel
theorem dX10_findSittings_349 : decode cX10_findSittings 349 = .ok (.iaload, 1) := by decide +kernel
theorem dX10_findSittings_350 : decode cX10_findSittings 350 = .ok (.if_icmp .gt 17, 3) := by decide +kernel
theorem dX10_findSittings_353 : decode cX10_findSittings 353 = .ok (.aload_n 0, 1) := by decide +kernel
theorem dX10_findSittings_354 : decode cX10_findSittings 354 = .ok (.getfield 50, 3) := by decide +kernel
theorem dX10_findSittings_357 : decode cX10_findSittings 357 = .ok (.iload 5, 2) := by decide +kernel
theorem dX10_findSittings_359 : decode cX10_findSittings 359 = .ok (.baload, 1) := by decide +kernel
theorem dX10_findSittings_360 : decode cX10_findSittings 360 = .ok (.ifCond .eq 7, 3) := by decide +kernel
theorem dX10_findSittings_363 : decode cX10_findSittings 363 = .ok (.iconst 1, 1) := by decide +kernel
theorem dX10_findSittings_364 : decode cX10_findSittings 364 = .ok (.goto 4, 3) := by decide +kernel
theorem dX10_findSittings_367 : decode cX10_findSittings 367 = .ok (.iconst 0, 1) := by decide +kernel
theorem dX10_findSittings_368 : decode cX10_findSittings 368 = .ok (.istore 7, 2) := by decide +kernel
theorem dX10_findSittings_370 : decode cX10_findSittings 370 = .ok (.iconst 0, 1) := by decide +kernel
theorem dX10_findSittings_371 : decode cX10_findSittings 371 = .ok (.istore 8, 2) := by decide +kernel
theorem dX10_findSittings_373 : decode cX10_findSittings 373 = .ok (.iconst 0, 1) := by decide +kernel
theorem dX10_findSittings_374 : decode cX10_findSittings 374 = .ok (.istore 9, 2) := by decide +kernel
theorem dX10_findSittings_376 : decode cX10_findSittings 376 = .ok (.iload 9, 2) := by decide +kernel
theorem dX10_findSittings_378 : decode cX10_findSittings 378 = .ok (.aload_n 0, 1) := by decide +kernel
theorem dX10_findSittings_379 : decode cX10_findSittings 379 = .ok (.getfield 185, 3) := by decide +kernel
theorem dX10_findSittings_382 : decode cX10_findSittings 382 = .ok (.if_icmp .ge 144, 3) := by decide +kernel
theorem dX10_findSittings_385 : decode cX10_findSittings 385 = .ok (.iload 8, 2) := by decide +kernel
theorem dX10_findSittings_387 : decode cX10_findSittings 387 = .ok (.aload_n 0, 1) := by decide +kernel
theorem dX10_findSittings_388 : decode cX10_findSittings 388 = .ok (.getfield 47, 3) := by decide +kernel
theorem dX10_findSittings_391 : decode cX10_findSittings 391 = .ok (.iload 9, 2) := by decide +kernel
theorem dX10_findSittings_393 : decode cX10_findSittings 393 = .ok (.iaload, 1) := by decide +kernel
theorem dX10_findSittings_394 : decode cX10_findSittings 394 = .ok (.iadd, 1) := by decide +kernel
theorem dX10_findSittings_395 : decode cX10_findSittings 395 = .ok (.istore 10, 2) := by decide +kernel
theorem dX10_findSittings_397 : decode cX10_findSittings 397 = .ok (.iload 6, 2) := by decide +kernel
theorem dX10_findSittings_399 : decode cX10_findSittings 399 = .ok (.ifCond .eq 36, 3) := by decide +kernel
theorem dX10_findSittings_402 : decode cX10_findSittings 402 = .ok (.iload 4, 2) := by decide +kernel
theorem dX10_findSittings_404 : decode cX10_findSittings 404 = .ok (.iload 10, 2) := by decide +kernel
theorem dX10_findSittings_406 : decode cX10_findSittings 406 = .ok (.if_icmp .lt 29, 3) := by decide +kernel
theorem dX10_findSittings_409 : decode cX10_findSittings 409 = .ok (.aload_n 0, 1) := by decide +kernel
theorem dX10_findSittings_410 : decode cX10_findSittings 410 = .ok (.getfield 50, 3) := by decide +kernel
theorem dX10_findSittings_413 : decode cX10_findSittings 413 = .ok (.sipush 200, 3) := by decide +kernel
theorem dX10_findSittings_416 : decode cX10_findSittings 416 = .ok (.iload 9, 2) := by decide +kernel
theorem dX10_findSittings_418 : decode cX10_findSittings 418 = .ok (.iconst 1, 1) := by decide +kernel
theorem dX10_findSittings_419 : decode cX10_findSittings 419 = .ok (.iadd, 1) := by decide +kernel
theorem dX10_findSittings_420 : decode cX10_findSittings 420 = .ok (.imul, 1) := by decide +kernel
theorem dX10_findSittings_421 : decode cX10_findSittings 421 = .ok (.iload 4, 2) := by decide +kernel
theorem dX10_findSittings_423 : decode cX10_findSittings 423 = .ok (.iadd, 1) := by decide +kernel
theorem dX10_findSittings_424 : decode cX10_findSittings 424 = .ok (.iload 10, 2) := by decide +kernel
theorem dX10_findSittings_426 : decode cX10_findSittings 426 = .ok (.isub, 1) := by decide +kernel
theorem dX10_findSittings_427 : decode cX10_findSittings 427 = .ok (.baload, 1) := by decide +kernel
theorem dX10_findSittings_428 : decode cX10_findSittings 428 = .ok (.ifCond .eq 7, 3) := by decide +kernel
theorem dX10_findSittings_431 : decode cX10_findSittings 431 = .ok (.iconst 1, 1) := by decide +kernel
theorem dX10_findSittings_432 : decode cX10_findSittings 432 = .ok (.goto 4, 3) := by decide +kernel
theorem dX10_findSittings_435 : decode cX10_findSittings 435 = .ok (.iconst 0, 1) := by decide +kernel
theorem dX10_findSittings_436 : decode cX10_findSittings 436 = .ok (.istore 11, 2) := by decide +kernel
theorem dX10_findSittings_438 : decode cX10_findSittings 438 = .ok (.iload 7, 2) := by decide +kernel
theorem dX10_findSittings_440 : decode cX10_findSittings 440 = .ok (.ifCond .eq 36, 3) := by decide +kernel
theorem dX10_findSittings_443 : decode cX10_findSittings 443 = .ok (.iload 5, 2) := by decide +kernel
theorem dX10_findSittings_445 : decode cX10_findSittings 445 = .ok (.iload 10, 2) := by decide +kernel
theorem dX10_findSittings_447 : decode cX10_findSittings 447 = .ok (.if_icmp .lt 29, 3) := by decide +kernel
theorem dX10_findSittings_450 : decode cX10_findSittings 450 = .ok (.aload_n 0, 1) := by decide +kernel
theorem dX10_findSittings_451 : decode cX10_findSittings 451 = .ok (.getfield 50, 3) := by decide +kernel
theorem dX10_findSittings_454 : decode cX10_findSittings 454 = .ok (.sipush 200, 3) := by decide +kernel
theorem dX10_findSittings_457 : decode cX10_findSittings 457 = .ok (.iload 9, 2) := by decide +kernel
theorem dX10_findSittings_459 : decode cX10_findSittings 459 = .ok (.iconst 1, 1) := by decide +kernel
theorem dX10_findSittings_460 : decode cX10_findSittings 460 = .ok (.iadd, 1) := by decide +kernel
theorem dX10_findSittings_461 : decode cX10_findSittings 461 = .ok (.imul, 1) := by decide +kernel
theorem dX10_findSittings_462 : decode cX10_findSittings 462 = .ok (.iload 5, 2) := by decide +kernel
theorem dX10_findSittings_464 : decode cX10_findSittings 464 = .ok (.iadd, 1) := by decide +kernel
theorem dX10_findSittings_465 : decode cX10_findSittings 465 = .ok (.iload 10, 2) := by decide +kernel
theorem dX10_findSittings_467 : decode cX10_findSittings 467 = .ok (.isub, 1) := by decide +kernel
theorem dX10_findSittings_468 : decode cX10_findSittings 468 = .ok (.baload, 1) := by decide +kernel
theorem dX10_findSittings_469 : decode cX10_findSittings 469 = .ok (.ifCond .eq 7, 3) := by decide +kernel
theorem dX10_findSittings_472 : decode cX10_findSittings 472 = .ok (.iconst 1, 1) := by decide +kernel
theorem dX10_findSittings_473 : decode cX10_findSittings 473 = .ok (.goto 4, 3) := by decide +kernel
theorem dX10_findSittings_476 : decode cX10_findSittings 476 = .ok (.iconst 0, 1) := by decide +kernel
theorem dX10_findSittings_477 : decode cX10_findSittings 477 = .ok (.istore 12, 2) := by decide +kernel
theorem dX10_findSittings_479 : decode cX10_findSittings 479 = .ok (.iload 11, 2) := by decide +kernel
theorem dX10_findSittings_481 : decode cX10_findSittings 481 = .ok (.ifCond .ne 8, 3) := by decide +kernel
theorem dX10_findSittings_484 : decode cX10_findSittings 484 = .ok (.iload 12, 2) := by decide +kernel
theorem dX10_findSittings_486 : decode cX10_findSittings 486 = .ok (.ifCond .eq 26, 3) := by decide +kernel
theorem dX10_findSittings_489 : decode cX10_findSittings 489 = .ok (.aload_n 0, 1) := by decide +kernel
theorem dX10_findSittings_490 : decode cX10_findSittings 490 = .ok (.getfield 54, 3) := by decide +kernel
theorem dX10_findSittings_493 : decode cX10_findSittings 493 = .ok (.iload 9, 2) := by decide +kernel
theorem dX10_findSittings_495 : decode cX10_findSittings 495 = .ok (.iconst 0, 1) := by decide +kernel
theorem dX10_findSittings_496 : decode cX10_findSittings 496 = .ok (.iastore, 1) := by decide +kernel
theorem dX10_findSittings_497 : decode cX10_findSittings 497 = .ok (.iload 10, 2) := by decide +kernel
theorem dX10_findSittings_499 : decode cX10_findSittings 499 = .ok (.istore 8, 2) := by decide +kernel
theorem dX10_findSittings_501 : decode cX10_findSittings 501 = .ok (.iload 11, 2) := by decide +kernel
theorem dX10_findSittings_503 : decode cX10_findSittings 503 = .ok (.istore 6, 2) := by decide +kernel
theorem dX10_findSittings_505 : decode cX10_findSittings 505 = .ok (.iload 12, 2) := by decide +kernel
theorem dX10_findSittings_507 : decode cX10_findSittings 507 = .ok (.istore 7, 2) := by decide +kernel
theorem dX10_findSittings_509 : decode cX10_findSittings 509 = .ok (.goto 11, 3) := by decide +kernel
theorem dX10_findSittings_512 : decode cX10_findSittings 512 = .ok (.aload_n 0, 1) := by decide +kernel
theorem dX10_findSittings_513 : decode cX10_findSittings 513 = .ok (.getfield 54, 3) := by decide +kernel
theorem dX10_findSittings_516 : decode cX10_findSittings 516 = .ok (.iload 9, 2) := by decide +kernel
theorem dX10_findSittings_518 : decode cX10_findSittings 518 = .ok (.iconst 1, 1) := by decide +kernel
theorem dX10_findSittings_519 : decode cX10_findSittings 519 = .ok (.iastore, 1) := by decide +kernel
theorem dX10_findSittings_520 : decode cX10_findSittings 520 = .ok (.iinc 9 1, 3) := by decide +kernel
theorem dX10_findSittings_523 : decode cX10_findSittings 523 = .ok (.goto (-147), 3) := by decide +kernel
theorem dX10_findSittings_526 : decode cX10_findSittings 526 = .ok (.iload_n 3, 1) := by decide +kernel
theorem dX10_findSittings_527 : decode cX10_findSittings 527 = .ok (.ireturn, 1) := by decide +kernel
theorem dX10_apart_0 : decode cX10_apart 0 = .ok (.iload_n 1, 1) := by decide +kernel
theorem dX10_apart_1 : decode cX10_apart 1 = .ok (.invokestatic 145, 3) := by decide +kernel
theorem dX10_apart_4 : decode cX10_apart 4 = .ok (.ifCond .eq 11, 3) := by decide +kernel
theorem dX10_apart_7 : decode cX10_apart 7 = .ok (.aload_n 0, 1) := by decide +kernel
theorem dX10_apart_8 : decode cX10_apart 8 = .ok (.iload_n 1, 1) := by decide +kernel
theorem dX10_apart_9 : decode cX10_apart 9 = .ok (.invokevirtual 192, 3) := by decide +kernel
theorem dX10_apart_12 : decode cX10_apart 12 = .ok (.goto 5, 3) := by decide +kernel
theorem dX10_apart_15 : decode cX10_apart 15 = .ok (.bipush (-2), 2) := by decide +kernel
theorem dX10_apart_17 : decode cX10_apart 17 = .ok (.ireturn, 1) := by decide +kernel
theorem dX10_sits_0 : decode cX10_sits 0 = .ok (.aload_n 0, 1) := by decide +kernel
theorem dX10_sits_1 : decode cX10_sits 1 = .ok (.iload_n 1, 1) := by decide +kernel
theorem dX10_sits_2 : decode cX10_sits 2 = .ok (.invokevirtual 151, 3) := by decide +kernel
theorem dX10_sits_5 : decode cX10_sits 5 = .ok (.ifCond .eq 10, 3) := by decide +kernel
theorem dX10_sits_8 : decode cX10_sits 8 = .ok (.iload_n 2, 1) := by decide +kernel
theorem dX10_sits_9 : decode cX10_sits 9 = .ok (.invokestatic 145, 3) := by decide +kernel
theorem dX10_sits_12 : decode cX10_sits 12 = .ok (.ifCond .ne 6, 3) := by decide +kernel
theorem dX10_sits_15 : decode cX10_sits 15 = .ok (.bipush (-2), 2) := by decide +kernel
theorem dX10_sits_17 : decode cX10_sits 17 = .ok (.ireturn, 1) := by decide +kernel
theorem dX10_sits_18 : decode cX10_sits 18 = .ok (.aload_n 0, 1) := by decide +kernel
theorem dX10_sits_19 : decode cX10_sits 19 = .ok (.iload_n 1, 1) := by decide +kernel
theorem dX10_sits_20 : decode cX10_sits 20 = .ok (.iload_n 2, 1) := by decide +kernel
theorem dX10_sits_21 : decode cX10_sits 21 = .ok (.invokevirtual 174, 3) := by decide +kernel
theorem dX10_sits_24 : decode cX10_sits 24 = .ok (.ifCond .eq 12, 3) := by decide +kernel
theorem dX10_sits_27 : decode cX10_sits 27 = .ok (.aload_n 0, 1) := by decide +kernel
theorem dX10_sits_28 : decode cX10_sits 28 = .ok (.iload_n 2, 1) := by decide +kernel
theorem dX10_sits_29 : decode cX10_sits 29 = .ok (.invokevirtual 192, 3) := by decide +kernel
theorem dX10_sits_32 : decode cX10_sits 32 = .ok (.iconst (-1), 1) := by decide +kernel
theorem dX10_sits_33 : decode cX10_sits 33 = .ok (.if_icmp .ne 7, 3) := by decide +kernel
theorem dX10_sits_36 : decode cX10_sits 36 = .ok (.iconst (-1), 1) := by decide +kernel
theorem dX10_sits_37 : decode cX10_sits 37 = .ok (.goto 14, 3) := by decide +kernel
theorem dX10_sits_40 : decode cX10_sits 40 = .ok (.aload_n 0, 1) := by decide +kernel
theorem dX10_sits_41 : decode cX10_sits 41 = .ok (.getfield 54, 3) := by decide +kernel
theorem dX10_sits_44 : decode cX10_sits 44 = .ok (.aload_n 0, 1) := by decide +kernel
theorem dX10_sits_45 : decode cX10_sits 45 = .ok (.getfield 44, 3) := by decide +kernel
theorem dX10_sits_48 : decode cX10_sits 48 = .ok (.iload_n 1, 1) := by decide +kernel
theorem dX10_sits_49 : decode cX10_sits 49 = .ok (.iaload, 1) := by decide +kernel
theorem dX10_sits_50 : decode cX10_sits 50 = .ok (.iaload, 1) := by decide +kernel
theorem dX10_sits_51 : decode cX10_sits 51 = .ok (.ireturn, 1) := by decide +kernel
theorem dX10_more_0 : decode cX10_more 0 = .ok (.iload_n 1, 1) := by decide +kernel
theorem dX10_more_1 : decode cX10_more 1 = .ok (.i2l, 1) := by decide +kernel
theorem dX10_more_2 : decode cX10_more 2 = .ok (.lconst 0, 1) := by decide +kernel
theorem dX10_more_3 : decode cX10_more 3 = .ok (.ldc2_w 196, 3) := by decide +kernel
theorem dX10_more_6 : decode cX10_more 6 = .ok (.invokestatic 132, 3) := by decide +kernel
theorem dX10_more_9 : decode cX10_more 9 = .ok (.ifCond .ne 6, 3) := by decide +kernel
theorem dX10_more_12 : decode cX10_more 12 = .ok (.bipush (-2), 2) := by decide +kernel
theorem dX10_more_14 : decode cX10_more 14 = .ok (.ireturn, 1) := by decide +kernel
theorem dX10_more_15 : decode cX10_more 15 = .ok (.aload_n 0, 1) := by decide +kernel
theorem dX10_more_16 : decode cX10_more 16 = .ok (.getfield 57, 3) := by decide +kernel
theorem dX10_more_19 : decode cX10_more 19 = .ok (.istore_n 2, 1) := by decide +kernel
theorem dX10_more_20 : decode cX10_more 20 = .ok (.aload_n 0, 1) := by decide +kernel
theorem dX10_more_21 : decode cX10_more 21 = .ok (.iload_n 1, 1) := by decide +kernel
theorem dX10_more_22 : decode cX10_more 22 = .ok (.putfield 57, 3) := by decide +kernel
theorem dX10_more_25 : decode cX10_more 25 = .ok (.iload_n 2, 1) := by decide +kernel
theorem dX10_more_26 : decode cX10_more 26 = .ok (.ireturn, 1) := by decide +kernel
theorem dX10_dinners_0 : decode cX10_dinners 0 = .ok (.aload_n 0, 1) := by decide +kernel
theorem dX10_dinners_1 : decode cX10_dinners 1 = .ok (.iload_n 1, 1) := by decide +kernel
theorem dX10_dinners_2 : decode cX10_dinners 2 = .ok (.invokevirtual 192, 3) := by decide +kernel
theorem dX10_dinners_5 : decode cX10_dinners 5 = .ok (.iconst (-1), 1) := by decide +kernel
theorem dX10_dinners_6 : decode cX10_dinners 6 = .ok (.if_icmp .ne 5, 3) := by decide +kernel
theorem dX10_dinners_9 : decode cX10_dinners 9 = .ok (.iconst (-1), 1) := by decide +kernel
theorem dX10_dinners_10 : decode cX10_dinners 10 = .ok (.ireturn, 1) := by decide +kernel
theorem dX10_dinners_11 : decode cX10_dinners 11 = .ok (.iconst 0, 1) := by decide +kernel
theorem dX10_dinners_12 : decode cX10_dinners 12 = .ok (.istore_n 3, 1) := by decide +kernel
theorem dX10_dinners_13 : decode cX10_dinners 13 = .ok (.iconst 0, 1) := by decide +kernel
theorem dX10_dinners_14 : decode cX10_dinners 14 = .ok (.istore 4, 2) := by decide +kernel
theorem dX10_dinners_16 : decode cX10_dinners 16 = .ok (.iconst 0, 1) := by decide +kernel
theorem dX10_dinners_17 : decode cX10_dinners 17 = .ok (.istore 5, 2) := by decide +kernel
theorem dX10_dinners_19 : decode cX10_dinners 19 = .ok (.iload 5, 2) := by decide +kernel
theorem dX10_dinners_21 : decode cX10_dinners 21 = .ok (.aload_n 0, 1) := by decide +kernel
theorem dX10_dinners_22 : decode cX10_dinners 22 = .ok (.getfield 136, 3) := by decide +kernel
theorem dX10_dinners_25 : decode cX10_dinners 25 = .ok (.if_icmp .ge 58, 3) := by decide +kernel
theorem dX10_dinners_28 : decode cX10_dinners 28 = .ok (.aload_n 0, 1) := by decide +kernel
theorem dX10_dinners_29 : decode cX10_dinners 29 = .ok (.getfield 44, 3) := by decide +kernel
theorem dX10_dinners_32 : decode cX10_dinners 32 = .ok (.iload 5, 2) := by decide +kernel
theorem dX10_dinners_34 : decode cX10_dinners 34 = .ok (.iaload, 1) := by decide +kernel
theorem dX10_dinners_35 : decode cX10_dinners 35 = .ok (.iconst (-1), 1) := by decide +kernel
theorem dX10_dinners_36 : decode cX10_dinners 36 = .ok (.if_icmp .eq 41, 3) := by decide +kernel
theorem dX10_dinners_39 : decode cX10_dinners 39 = .ok (.aload_n 0, 1) := by decide +kernel
theorem dX10_dinners_40 : decode cX10_dinners 40 = .ok (.getfield 54, 3) := by decide +kernel
theorem dX10_dinners_43 : decode cX10_dinners 43 = .ok (.aload_n 0, 1) := by decide +kernel
theorem dX10_dinners_44 : decode cX10_dinners 44 = .ok (.getfield 44, 3) := by decide +kernel
theorem dX10_dinners_47 : decode cX10_dinners 47 = .ok (.iload 5, 2) := by decide +kernel
theorem dX10_dinners_49 : decode cX10_dinners 49 = .ok (.iaload, 1) := by decide +kernel
theorem dX10_dinners_50 : decode cX10_dinners 50 = .ok (.iaload, 1) := by decide +kernel
theorem dX10_dinners_51 : decode cX10_dinners 51 = .ok (.iload_n 2, 1) := by decide +kernel
theorem dX10_dinners_52 : decode cX10_dinners 52 = .ok (.if_icmp .ne 25, 3) := by decide +kernel
theorem dX10_dinners_55 : decode cX10_dinners 55 = .ok (.iload_n 3, 1) := by decide +kernel
theorem dX10_dinners_56 : decode cX10_dinners 56 = .ok (.aload_n 0, 1) := by decide +kernel
theorem dX10_dinners_57 : decode cX10_dinners 57 = .ok (.getfield 16, 3) := by decide +kernel
theorem dX10_dinners_60 : decode cX10_dinners 60 = .ok (.iload 5, 2) := by decide +kernel
theorem dX10_dinners_62 : decode cX10_dinners 62 = .ok (.iaload, 1) := by decide +kernel
theorem dX10_dinners_63 : decode cX10_dinners 63 = .ok (.iadd, 1) := by decide +kernel
theorem dX10_dinners_64 : decode cX10_dinners 64 = .ok (.istore_n 3, 1) := by decide +kernel
theorem dX10_dinners_65 : decode cX10_dinners 65 = .ok (.iload 4, 2) := by decide +kernel
theorem dX10_dinners_67 : decode cX10_dinners 67 = .ok (.aload_n 0, 1) := by decide +kernel
theorem dX10_dinners_68 : decode cX10_dinners 68 = .ok (.getfield 19, 3) := by decide +kernel
theorem dX10_dinners_71 : decode cX10_dinners 71 = .ok (.iload 5, 2) := by decide +kernel
theorem dX10_dinners_73 : decode cX10_dinners 73 = .ok (.iaload, 1) := by decide +kernel
theorem dX10_dinners_74 : decode cX10_dinners 74 = .ok (.iadd, 1) := by decide +kernel
theorem dX10_dinners_75 : decode cX10_dinners 75 = .ok (.istore 4, 2) := by decide +kernel
theorem dX10_dinners_77 : decode cX10_dinners 77 = .ok (.iinc 5 1, 3) := by decide +kernel
theorem dX10_dinners_80 : decode cX10_dinners 80 = .ok (.goto (-61), 3) := by decide +kernel
theorem dX10_dinners_83 : decode cX10_dinners 83 = .ok (.iload_n 3, 1) := by decide +kernel
theorem dX10_dinners_84 : decode cX10_dinners 84 = .ok (.iload 4, 2) := by decide +kernel
theorem dX10_dinners_86 : decode cX10_dinners 86 = .ok (.isub, 1) := by decide +kernel
theorem dX10_dinners_87 : decode cX10_dinners 87 = .ok (.iload 4, 2) := by decide +kernel
theorem dX10_dinners_89 : decode cX10_dinners 89 = .ok (.iconst 2, 1) := by decide +kernel
theorem dX10_dinners_90 : decode cX10_dinners 90 = .ok (.idiv, 1) := by decide +kernel
theorem dX10_dinners_91 : decode cX10_dinners 91 = .ok (.iadd, 1) := by decide +kernel
theorem dX10_dinners_92 : decode cX10_dinners 92 = .ok (.ireturn, 1) := by decide +kernel
theorem dX10_foretell_0 : decode cX10_foretell 0 = .ok (.iload_n 1, 1) := by decide +kernel
theorem dX10_foretell_1 : decode cX10_foretell 1 = .ok (.invokestatic 145, 3) := by decide +kernel
theorem dX10_foretell_4 : decode cX10_foretell 4 = .ok (.ifCond .eq 22, 3) := by decide +kernel
theorem dX10_foretell_7 : decode cX10_foretell 7 = .ok (.iload_n 2, 1) := by decide +kernel
theorem dX10_foretell_8 : decode cX10_foretell 8 = .ok (.i2l, 1) := by decide +kernel
theorem dX10_foretell_9 : decode cX10_foretell 9 = .ok (.lconst 0, 1) := by decide +kernel
theorem dX10_foretell_10 : decode cX10_foretell 10 = .ok (.lconst 1, 1) := by decide +kernel
theorem dX10_foretell_11 : decode cX10_foretell 11 = .ok (.invokestatic 132, 3) := by decide +kernel
theorem dX10_foretell_14 : decode cX10_foretell 14 = .ok (.ifCond .eq 12, 3) := by decide +kernel
theorem dX10_foretell_17 : decode cX10_foretell 17 = .ok (.aload_n 0, 1) := by decide +kernel
theorem dX10_foretell_18 : decode cX10_foretell 18 = .ok (.iload_n 1, 1) := by decide +kernel
theorem dX10_foretell_19 : decode cX10_foretell 19 = .ok (.iload_n 2, 1) := by decide +kernel
theorem dX10_foretell_20 : decode cX10_foretell 20 = .ok (.invokevirtual 198, 3) := by decide +kernel
theorem dX10_foretell_23 : decode cX10_foretell 23 = .ok (.goto 5, 3) := by decide +kernel
theorem dX10_foretell_26 : decode cX10_foretell 26 = .ok (.bipush (-2), 2) := by decide +kernel
theorem dX10_foretell_28 : decode cX10_foretell 28 = .ok (.ireturn, 1) := by decide +kernel
theorem dX10_cook_0 : decode cX10_cook 0 = .ok (.iload_n 1, 1) := by decide +kernel
theorem dX10_cook_1 : decode cX10_cook 1 = .ok (.invokestatic 145, 3) := by decide +kernel
theorem dX10_cook_4 : decode cX10_cook 4 = .ok (.ifCond .eq 25, 3) := by decide +kernel
theorem dX10_cook_7 : decode cX10_cook 7 = .ok (.iload_n 2, 1) := by decide +kernel
theorem dX10_cook_8 : decode cX10_cook 8 = .ok (.i2l, 1) := by decide +kernel
theorem dX10_cook_9 : decode cX10_cook 9 = .ok (.lconst 0, 1) := by decide +kernel
theorem dX10_cook_10 : decode cX10_cook 10 = .ok (.lconst 1, 1) := by decide +kernel
theorem dX10_cook_11 : decode cX10_cook 11 = .ok (.invokestatic 132, 3) := by decide +kernel
theorem dX10_cook_14 : decode cX10_cook 14 = .ok (.ifCond .eq 15, 3) := by decide +kernel
theorem dX10_cook_17 : decode cX10_cook 17 = .ok (.iload_n 3, 1) := by decide +kernel
theorem dX10_cook_18 : decode cX10_cook 18 = .ok (.i2l, 1) := by decide +kernel
theorem dX10_cook_19 : decode cX10_cook 19 = .ok (.lconst 0, 1) := by decide +kernel
theorem dX10_cook_20 : decode cX10_cook 20 = .ok (.ldc2_w 201, 3) := by decide +kernel
theorem dX10_cook_23 : decode cX10_cook 23 = .ok (.invokestatic 132, 3) := by decide +kernel
theorem dX10_cook_26 : decode cX10_cook 26 = .ok (.ifCond .ne 6, 3) := by decide +kernel
theorem dX10_cook_29 : decode cX10_cook 29 = .ok (.bipush (-2), 2) := by decide +kernel
theorem dX10_cook_31 : decode cX10_cook 31 = .ok (.ireturn, 1) := by decide +kernel
theorem dX10_cook_32 : decode cX10_cook 32 = .ok (.aload_n 0, 1) := by decide +kernel
theorem dX10_cook_33 : decode cX10_cook 33 = .ok (.iload_n 1, 1) := by decide +kernel
theorem dX10_cook_34 : decode cX10_cook 34 = .ok (.iload_n 2, 1) := by decide +kernel
theorem dX10_cook_35 : decode cX10_cook 35 = .ok (.invokevirtual 198, 3) := by decide +kernel
theorem dX10_cook_38 : decode cX10_cook 38 = .ok (.istore 4, 2) := by decide +kernel
theorem dX10_cook_40 : decode cX10_cook 40 = .ok (.iload 4, 2) := by decide +kernel
theorem dX10_cook_42 : decode cX10_cook 42 = .ok (.iconst (-1), 1) := by decide +kernel
theorem dX10_cook_43 : decode cX10_cook 43 = .ok (.if_icmp .ne 6, 3) := by decide +kernel
theorem dX10_cook_46 : decode cX10_cook 46 = .ok (.bipush (-3), 2) := by decide +kernel
theorem dX10_cook_48 : decode cX10_cook 48 = .ok (.ireturn, 1) := by decide +kernel
theorem dX10_cook_49 : decode cX10_cook 49 = .ok (.aload_n 0, 1) := by decide +kernel
theorem dX10_cook_50 : decode cX10_cook 50 = .ok (.getfield 203, 3) := by decide +kernel
theorem dX10_cook_53 : decode cX10_cook 53 = .ok (.bipush 40, 2) := by decide +kernel
theorem dX10_cook_55 : decode cX10_cook 55 = .ok (.if_icmp .ne 6, 3) := by decide +kernel
theorem dX10_cook_58 : decode cX10_cook 58 = .ok (.bipush (-4), 2) := by decide +kernel
theorem dX10_cook_60 : decode cX10_cook 60 = .ok (.ireturn, 1) := by decide +kernel
theorem dX10_cook_61 : decode cX10_cook 61 = .ok (.iload 4, 2) := by decide +kernel
theorem dX10_cook_63 : decode cX10_cook 63 = .ok (.iload 4, 2) := by decide +kernel
theorem dX10_cook_65 : decode cX10_cook 65 = .ok (.aload_n 0, 1) := by decide +kernel
theorem dX10_cook_66 : decode cX10_cook 66 = .ok (.getfield 57, 3) := by decide +kernel
theorem dX10_cook_69 : decode cX10_cook 69 = .ok (.imul, 1) := by decide +kernel
theorem dX10_cook_70 : decode cX10_cook 70 = .ok (.bipush 100, 2) := by decide +kernel
theorem dX10_cook_72 : decode cX10_cook 72 = .ok (.idiv, 1) := by decide +kernel
theorem dX10_cook_73 : decode cX10_cook 73 = .ok (.iadd, 1) := by decide +kernel
theorem dX10_cook_74 : decode cX10_cook 74 = .ok (.istore 5, 2) := by decide +kernel
theorem dX10_cook_76 : decode cX10_cook 76 = .ok (.aload_n 0, 1) := by decide +kernel
theorem dX10_cook_77 : decode cX10_cook 77 = .ok (.getfield 60, 3) := by decide +kernel
theorem dX10_cook_80 : decode cX10_cook 80 = .ok (.iconst 5, 1) := by decide +kernel
theorem dX10_cook_81 : decode cX10_cook 81 = .ok (.aload_n 0, 1) := by decide +kernel
theorem dX10_cook_82 : decode cX10_cook 82 = .ok (.getfield 203, 3) := by decide +kernel
theorem dX10_cook_85 : decode cX10_cook 85 = .ok (.imul, 1) := by decide +kernel
theorem dX10_cook_86 : decode cX10_cook 86 = .ok (.iload_n 1, 1) := by decide +kernel
theorem dX10_cook_87 : decode cX10_cook 87 = .ok (.iastore, 1) := by decide +kernel
theorem dX10_cook_88 : decode cX10_cook 88 = .ok (.aload_n 0, 1) := by decide +kernel
theorem dX10_cook_89 : decode cX10_cook 89 = .ok (.getfield 60, 3) := by decide +kernel
theorem dX10_cook_92 : decode cX10_cook 92 = .ok (.iconst 5, 1) := by decide +kernel
theorem dX10_cook_93 : decode cX10_cook 93 = .ok (.aload_n 0, 1) := by decide +kernel
theorem dX10_cook_94 : decode cX10_cook 94 = .ok (.getfield 203, 3) := by decide +kernel
theorem dX10_cook_97 : decode cX10_cook 97 = .ok (.imul, 1) := by decide +kernel
theorem dX10_cook_98 : decode cX10_cook 98 = .ok (.iconst 1, 1) := by decide +kernel
theorem dX10_cook_99 : decode cX10_cook 99 = .ok (.iadd, 1) := by decide +kernel
theorem dX10_cook_100 : decode cX10_cook 100 = .ok (.iload_n 2, 1) := by decide +kernel
theorem dX10_cook_101 : decode cX10_cook 101 = .ok (.iastore, 1) := by decide +kernel
theorem dX10_cook_102 : decode cX10_cook 102 = .ok (.aload_n 0, 1) := by decide +kernel
theorem dX10_cook_103 : decode cX10_cook 103 = .ok (.getfield 60, 3) := by decide +kernel
theorem dX10_cook_106 : decode cX10_cook 106 = .ok (.iconst 5, 1) := by decide +kernel
theorem dX10_cook_107 : decode cX10_cook 107 = .ok (.aload_n 0, 1) := by decide +kernel
theorem dX10_cook_108 : decode cX10_cook 108 = .ok (.getfield 203, 3) := by decide +kernel
theorem dX10_cook_111 : decode cX10_cook 111 = .ok (.imul, 1) := by decide +kernel
theorem dX10_cook_112 : decode cX10_cook 112 = .ok (.iconst 2, 1) := by decide +kernel
theorem dX10_cook_113 : decode cX10_cook 113 = .ok (.iadd, 1) := by decide +kernel
theorem dX10_cook_114 : decode cX10_cook 114 = .ok (.iload 4, 2) := by decide +kernel
theorem dX10_cook_116 : decode cX10_cook 116 = .ok (.iastore, 1) := by decide +kernel
theorem dX10_cook_117 : decode cX10_cook 117 = .ok (.aload_n 0, 1) := by decide +kernel
theorem dX10_cook_118 : decode cX10_cook 118 = .ok (.getfield 60, 3) := by decide +kernel
theorem dX10_cook_121 : decode cX10_cook 121 = .ok (.iconst 5, 1) := by decide +kernel
theorem dX10_cook_122 : decode cX10_cook 122 = .ok (.aload_n 0, 1) := by decide +kernel
theorem dX10_cook_123 : decode cX10_cook 123 = .ok (.getfield 203, 3) := by decide +kernel
theorem dX10_cook_126 : decode cX10_cook 126 = .ok (.imul, 1) := by decide +kernel
theorem dX10_cook_127 : decode cX10_cook 127 = .ok (.iconst 3, 1) := by decide +kernel
theorem dX10_cook_128 : decode cX10_cook 128 = .ok (.iadd, 1) := by decide +kernel
theorem dX10_cook_129 : decode cX10_cook 129 = .ok (.iload 5, 2) := by decide +kernel
theorem dX10_cook_131 : decode cX10_cook 131 = .ok (.iastore, 1) := by decide +kernel
theorem dX10_cook_132 : decode cX10_cook 132 = .ok (.aload_n 0, 1) := by decide +kernel
theorem dX10_cook_133 : decode cX10_cook 133 = .ok (.getfield 60, 3) := by decide +kernel
theorem dX10_cook_136 : decode cX10_cook 136 = .ok (.iconst 5, 1) := by decide +kernel
theorem dX10_cook_137 : decode cX10_cook 137 = .ok (.aload_n 0, 1) := by decide +kernel
theorem dX10_cook_138 : decode cX10_cook 138 = .ok (.getfield 203, 3) := by decide +kernel
theorem dX10_cook_141 : decode cX10_cook 141 = .ok (.imul, 1) := by decide +kernel
theorem dX10_cook_142 : decode cX10_cook 142 = .ok (.iconst 4, 1) := by decide +kernel
theorem dX10_cook_143 : decode cX10_cook 143 = .ok (.iadd, 1) := by decide +kernel
theorem dX10_cook_144 : decode cX10_cook 144 = .ok (.iload_n 3, 1) := by decide +kernel
theorem dX10_cook_145 : decode cX10_cook 145 = .ok (.iastore, 1) := by decide +kernel
theorem dX10_cook_146 : decode cX10_cook 146 = .ok (.aload_n 0, 1) := by decide +kernel
theorem dX10_cook_147 : decode cX10_cook 147 = .ok (.dup, 1) := by decide +kernel
theorem dX10_cook_148 : decode cX10_cook 148 = .ok (.getfield 203, 3) := by decide +kernel
theorem dX10_cook_151 : decode cX10_cook 151 = .ok (.iconst 1, 1) := by decide +kernel
theorem dX10_cook_152 : decode cX10_cook 152 = .ok (.iadd, 1) := by decide +kernel
theorem dX10_cook_153 : decode cX10_cook 153 = .ok (.putfield 203, 3) := by decide +kernel
theorem dX10_cook_156 : decode cX10_cook 156 = .ok (.iload 5, 2) := by decide +kernel
theorem dX10_cook_158 : decode cX10_cook 158 = .ok (.iload_n 3, 1) := by decide +kernel
theorem dX10_cook_159 : decode cX10_cook 159 = .ok (.if_icmp .lt 10, 3) := by decide +kernel
theorem dX10_cook_162 : decode cX10_cook 162 = .ok (.iload 5, 2) := by decide +kernel
theorem dX10_cook_164 : decode cX10_cook 164 = .ok (.iload_n 3, 1) := by decide +kernel
theorem dX10_cook_165 : decode cX10_cook 165 = .ok (.isub, 1) := by decide +kernel
theorem dX10_cook_166 : decode cX10_cook 166 = .ok (.goto 11, 3) := by decide +kernel
theorem dX10_cook_169 : decode cX10_cook 169 = .ok (.sipush (-1000), 3) := by decide +kernel
theorem dX10_cook_172 : decode cX10_cook 172 = .ok (.iload_n 3, 1) := by decide +kernel
theorem dX10_cook_173 : decode cX10_cook 173 = .ok (.iload 5, 2) := by decide +kernel
theorem dX10_cook_175 : decode cX10_cook 175 = .ok (.isub, 1) := by decide +kernel
theorem dX10_cook_176 : decode cX10_cook 176 = .ok (.isub, 1) := by decide +kernel
theorem dX10_cook_177 : decode cX10_cook 177 = .ok (.ireturn, 1) := by decide +kernel
theorem dX10_line_0 : decode cX10_line 0 = .ok (.iload_n 1, 1) := by decide +kernel
theorem dX10_line_1 : decode cX10_line 1 = .ok (.i2l, 1) := by decide +kernel
theorem dX10_line_2 : decode cX10_line 2 = .ok (.lconst 0, 1) := by decide +kernel
theorem dX10_line_3 : decode cX10_line 3 = .ok (.aload_n 0, 1) := by decide +kernel
theorem dX10_line_4 : decode cX10_line 4 = .ok (.getfield 203, 3) := by decide +kernel
theorem dX10_line_7 : decode cX10_line 7 = .ok (.iconst 1, 1) := by decide +kernel
theorem dX10_line_8 : decode cX10_line 8 = .ok (.isub, 1) := by decide +kernel
theorem dX10_line_9 : decode cX10_line 9 = .ok (.i2l, 1) := by decide +kernel
theorem dX10_line_10 : decode cX10_line 10 = .ok (.invokestatic 132, 3) := by decide +kernel
theorem dX10_line_13 : decode cX10_line 13 = .ok (.ifCond .eq 28, 3) := by decide +kernel
theorem dX10_line_16 : decode cX10_line 16 = .ok (.iload_n 2, 1) := by decide +kernel
theorem dX10_line_17 : decode cX10_line 17 = .ok (.i2l, 1) := by decide +kernel
theorem dX10_line_18 : decode cX10_line 18 = .ok (.lconst 0, 1) := by decide +kernel
theorem dX10_line_19 : decode cX10_line 19 = .ok (.ldc2_w 206, 3) := by decide +kernel
theorem dX10_line_22 : decode cX10_line 22 = .ok (.invokestatic 132, 3) := by decide +kernel
theorem dX10_line_25 : decode cX10_line 25 = .ok (.ifCond .eq 16, 3) := by decide +kernel
theorem dX10_line_28 : decode cX10_line 28 = .ok (.aload_n 0, 1) := by decide +kernel
theorem dX10_line_29 : decode cX10_line 29 = .ok (.getfield 60, 3) := by decide +kernel
theorem dX10_line_32 : decode cX10_line 32 = .ok (.iconst 5, 1) := by decide +kernel
theorem dX10_line_33 : decode cX10_line 33 = .ok (.iload_n 1, 1) := by decide +kernel
theorem dX10_line_34 : decode cX10_line 34 = .ok (.imul, 1) := by decide +kernel
theorem dX10_line_35 : decode cX10_line 35 = .ok (.iload_n 2, 1) := by decide +kernel
theorem dX10_line_36 : decode cX10_line 36 = .ok (.iadd, 1) := by decide +kernel
theorem dX10_line_37 : decode cX10_line 37 = .ok (.iaload, 1) := by decide +kernel
theorem dX10_line_38 : decode cX10_line 38 = .ok (.goto 5, 3) := by decide +kernel
theorem dX10_line_41 : decode cX10_line 41 = .ok (.bipush (-2), 2) := by decide +kernel
theorem dX10_line_43 : decode cX10_line 43 = .ok (.ireturn, 1) := by decide +kernel
theorem dX10_hall_0 : decode cX10_hall 0 = .ok (.iload_n 1, 1) := by decide +kernel
theorem dX10_hall_1 : decode cX10_hall 1 = .ok (.i2l, 1) := by decide +kernel
theorem dX10_hall_2 : decode cX10_hall 2 = .ok (.lconst 0, 1) := by decide +kernel
theorem dX10_hall_3 : decode cX10_hall 3 = .ok (.ldc2_w 141, 3) := by decide +kernel
theorem dX10_hall_6 : decode cX10_hall 6 = .ok (.invokestatic 132, 3) := by decide +kernel
theorem dX10_hall_9 : decode cX10_hall 9 = .ok (.ifCond .eq 15, 3) := by decide +kernel
theorem dX10_hall_12 : decode cX10_hall 12 = .ok (.iload_n 2, 1) := by decide +kernel
theorem dX10_hall_13 : decode cX10_hall 13 = .ok (.i2l, 1) := by decide +kernel
theorem dX10_hall_14 : decode cX10_hall 14 = .ok (.lconst 0, 1) := by decide +kernel
theorem dX10_hall_15 : decode cX10_hall 15 = .ok (.ldc2_w 201, 3) := by decide +kernel
theorem dX10_hall_18 : decode cX10_hall 18 = .ok (.invokestatic 132, 3) := by decide +kernel
theorem dX10_hall_21 : decode cX10_hall 21 = .ok (.ifCond .ne 6, 3) := by decide +kernel
theorem dX10_hall_24 : decode cX10_hall 24 = .ok (.bipush (-2), 2) := by decide +kernel
theorem dX10_hall_26 : decode cX10_hall 26 = .ok (.ireturn, 1) := by decide +kernel
theorem dX10_hall_27 : decode cX10_hall 27 = .ok (.aload_n 0, 1) := by decide +kernel
theorem dX10_hall_28 : decode cX10_hall 28 = .ok (.getfield 63, 3) := by decide +kernel
theorem dX10_hall_31 : decode cX10_hall 31 = .ok (.iload_n 1, 1) := by decide +kernel
theorem dX10_hall_32 : decode cX10_hall 32 = .ok (.iaload, 1) := by decide +kernel
theorem dX10_hall_33 : decode cX10_hall 33 = .ok (.istore_n 3, 1) := by decide +kernel
theorem dX10_hall_34 : decode cX10_hall 34 = .ok (.aload_n 0, 1) := by decide +kernel
theorem dX10_hall_35 : decode cX10_hall 35 = .ok (.getfield 63, 3) := by decide +kernel
theorem dX10_hall_38 : decode cX10_hall 38 = .ok (.iload_n 1, 1) := by decide +kernel
theorem dX10_hall_39 : decode cX10_hall 39 = .ok (.iload_n 2, 1) := by decide +kernel
theorem dX10_hall_40 : decode cX10_hall 40 = .ok (.iastore, 1) := by decide +kernel
theorem dX10_hall_41 : decode cX10_hall 41 = .ok (.iload_n 3, 1) := by decide +kernel
theorem dX10_hall_42 : decode cX10_hall 42 = .ok (.ireturn, 1) := by decide +kernel
theorem dX10_show_0 : decode cX10_show 0 = .ok (.iload_n 1, 1) := by decide +kernel
theorem dX10_show_1 : decode cX10_show 1 = .ok (.i2l, 1) := by decide +kernel
theorem dX10_show_2 : decode cX10_show 2 = .ok (.ldc2_w 149, 3) := by decide +kernel
theorem dX10_show_5 : decode cX10_show 5 = .ok (.ldc2_w 141, 3) := by decide +kernel
theorem dX10_show_8 : decode cX10_show 8 = .ok (.invokestatic 132, 3) := by decide +kernel
theorem dX10_show_11 : decode cX10_show 11 = .ok (.ifCond .eq 39, 3) := by decide +kernel
theorem dX10_show_14 : decode cX10_show 14 = .ok (.iload_n 2, 1) := by decide +kernel
theorem dX10_show_15 : decode cX10_show 15 = .ok (.i2l, 1) := by decide +kernel
theorem dX10_show_16 : decode cX10_show 16 = .ok (.lconst 0, 1) := by decide +kernel
theorem dX10_show_17 : decode cX10_show 17 = .ok (.ldc2_w 208, 3) := by decide +kernel
theorem dX10_show_20 : decode cX10_show 20 = .ok (.invokestatic 132, 3) := by decide +kernel
theorem dX10_show_23 : decode cX10_show 23 = .ok (.ifCond .eq 27, 3) := by decide +kernel
theorem dX10_show_26 : decode cX10_show 26 = .ok (.iload_n 3, 1) := by decide +kernel
theorem dX10_show_27 : decode cX10_show 27 = .ok (.i2l, 1) := by decide +kernel
theorem dX10_show_28 : decode cX10_show 28 = .ok (.ldc2_w 149, 3) := by decide +kernel
theorem dX10_show_31 : decode cX10_show 31 = .ok (.ldc2_w 141, 3) := by decide +kernel
theorem dX10_show_34 : decode cX10_show 34 = .ok (.invokestatic 132, 3) := by decide +kernel
theorem dX10_show_37 : decode cX10_show 37 = .ok (.ifCond .eq 13, 3) := by decide +kernel
theorem dX10_show_40 : decode cX10_show 40 = .ok (.iload_n 1, 1) := by decide +kernel
theorem dX10_show_41 : decode cX10_show 41 = .ok (.iconst (-1), 1) := by decide +kernel
theorem dX10_show_42 : decode cX10_show 42 = .ok (.if_icmp .eq 11, 3) := by decide +kernel
theorem dX10_show_45 : decode cX10_show 45 = .ok (.iload_n 3, 1) := by decide +kernel
theorem dX10_show_46 : decode cX10_show 46 = .ok (.iconst (-1), 1) := by decide +kernel
theorem dX10_show_47 : decode cX10_show 47 = .ok (.if_icmp .eq 6, 3) := by decide +kernel
theorem dX10_show_50 : decode cX10_show 50 = .ok (.bipush (-2), 2) := by decide +kernel
theorem dX10_show_52 : decode cX10_show 52 = .ok (.ireturn, 1) := by decide +kernel
theorem dX10_show_53 : decode cX10_show 53 = .ok (.aload_n 0, 1) := by decide +kernel
theorem dX10_show_54 : decode cX10_show 54 = .ok (.getfield 210, 3) := by decide +kernel
theorem dX10_show_57 : decode cX10_show 57 = .ok (.bipush 12, 2) := by decide +kernel
theorem dX10_show_59 : decode cX10_show 59 = .ok (.if_icmp .ne 6, 3) := by decide +kernel
theorem dX10_show_62 : decode cX10_show 62 = .ok (.bipush (-4), 2) := by decide +kernel
theorem dX10_show_64 : decode cX10_show 64 = .ok (.ireturn, 1) := by decide +kernel
theorem dX10_show_65 : decode cX10_show 65 = .ok (.aload_n 0, 1) := by decide +kernel
theorem dX10_show_66 : decode cX10_show 66 = .ok (.getfield 66, 3) := by decide +kernel
theorem dX10_show_69 : decode cX10_show 69 = .ok (.aload_n 0, 1) := by decide +kernel
theorem dX10_show_70 : decode cX10_show 70 = .ok (.getfield 210, 3) := by decide +kernel
theorem dX10_show_73 : decode cX10_show 73 = .ok (.iload_n 1, 1) := by decide +kernel
theorem dX10_show_74 : decode cX10_show 74 = .ok (.iastore, 1) := by decide +kernel
theorem dX10_show_75 : decode cX10_show 75 = .ok (.aload_n 0, 1) := by decide +kernel
theorem dX10_show_76 : decode cX10_show 76 = .ok (.getfield 69, 3) := by decide +kernel
theorem dX10_show_79 : decode cX10_show 79 = .ok (.aload_n 0, 1) := by decide +kernel
theorem dX10_show_80 : decode cX10_show 80 = .ok (.getfield 210, 3) := by decide +kernel
theorem dX10_show_83 : decode cX10_show 83 = .ok (.iload_n 2, 1) := by decide +kernel
theorem dX10_show_84 : decode cX10_show 84 = .ok (.iastore, 1) := by decide +kernel
theorem dX10_show_85 : decode cX10_show 85 = .ok (.aload_n 0, 1) := by decide +kernel
theorem dX10_show_86 : decode cX10_show 86 = .ok (.getfield 72, 3) := by decide +kernel
theorem dX10_show_89 : decode cX10_show 89 = .ok (.aload_n 0, 1) := by decide +kernel
theorem dX10_show_90 : decode cX10_show 90 = .ok (.getfield 210, 3) := by decide +kernel
theorem dX10_show_93 : decode cX10_show 93 = .ok (.iload_n 3, 1) := by decide +kernel
theorem dX10_show_94 : decode cX10_show 94 = .ok (.iastore, 1) := by decide +kernel
theorem dX10_show_95 : decode cX10_show 95 = .ok (.aload_n 0, 1) := by decide +kernel
theorem dX10_show_96 : decode cX10_show 96 = .ok (.dup, 1) := by decide +kernel
theorem dX10_show_97 : decode cX10_show 97 = .ok (.getfield 210, 3) := by decide +kernel
theorem dX10_show_100 : decode cX10_show 100 = .ok (.iconst 1, 1) := by decide +kernel
theorem dX10_show_101 : decode cX10_show 101 = .ok (.iadd, 1) := by decide +kernel
theorem dX10_show_102 : decode cX10_show 102 = .ok (.putfield 210, 3) := by decide +kernel
theorem dX10_show_105 : decode cX10_show 105 = .ok (.aload_n 0, 1) := by decide +kernel
theorem dX10_show_106 : decode cX10_show 106 = .ok (.getfield 210, 3) := by decide +kernel
theorem dX10_show_109 : decode cX10_show 109 = .ok (.iconst 1, 1) := by decide +kernel
theorem dX10_show_110 : decode cX10_show 110 = .ok (.isub, 1) := by decide +kernel
theorem dX10_show_111 : decode cX10_show 111 = .ok (.ireturn, 1) := by decide +kernel
theorem dX10_wish_0 : decode cX10_wish 0 = .ok (.aload_n 0, 1) := by decide +kernel
theorem dX10_wish_1 : decode cX10_wish 1 = .ok (.iload_n 1, 1) := by decide +kernel
theorem dX10_wish_2 : decode cX10_wish 2 = .ok (.invokevirtual 151, 3) := by decide +kernel
theorem dX10_wish_5 : decode cX10_wish 5 = .ok (.ifCond .eq 19, 3) := by decide +kernel
theorem dX10_wish_8 : decode cX10_wish 8 = .ok (.iload_n 2, 1) := by decide +kernel
theorem dX10_wish_9 : decode cX10_wish 9 = .ok (.i2l, 1) := by decide +kernel
theorem dX10_wish_10 : decode cX10_wish 10 = .ok (.lconst 0, 1) := by decide +kernel
theorem dX10_wish_11 : decode cX10_wish 11 = .ok (.aload_n 0, 1) := by decide +kernel
theorem dX10_wish_12 : decode cX10_wish 12 = .ok (.getfield 210, 3) := by decide +kernel
theorem dX10_wish_15 : decode cX10_wish 15 = .ok (.iconst 1, 1) := by decide +kernel
theorem dX10_wish_16 : decode cX10_wish 16 = .ok (.isub, 1) := by decide +kernel
theorem dX10_wish_17 : decode cX10_wish 17 = .ok (.i2l, 1) := by decide +kernel
theorem dX10_wish_18 : decode cX10_wish 18 = .ok (.invokestatic 132, 3) := by decide +kernel
theorem dX10_wish_21 : decode cX10_wish 21 = .ok (.ifCond .ne 6, 3) := by decide +kernel
theorem dX10_wish_24 : decode cX10_wish 24 = .ok (.bipush (-2), 2) := by decide +kernel
theorem dX10_wish_26 : decode cX10_wish 26 = .ok (.ireturn, 1) := by decide +kernel
theorem dX10_wish_27 : decode cX10_wish 27 = .ok (.iconst 0, 1) := by decide +kernel
theorem dX10_wish_28 : decode cX10_wish 28 = .ok (.istore_n 3, 1) := by decide +kernel
theorem dX10_wish_29 : decode cX10_wish 29 = .ok (.iload_n 3, 1) := by decide +kernel
theorem dX10_wish_30 : decode cX10_wish 30 = .ok (.aload_n 0, 1) := by decide +kernel
theorem dX10_wish_31 : decode cX10_wish 31 = .ok (.getfield 75, 3) := by decide +kernel
theorem dX10_wish_34 : decode cX10_wish 34 = .ok (.iload_n 1, 1) := by decide +kernel
theorem dX10_wish_35 : decode cX10_wish 35 = .ok (.iaload, 1) := by decide +kernel
theorem dX10_wish_36 : decode cX10_wish 36 = .ok (.if_icmp .ge 27, 3) := by decide +kernel
theorem dX10_wish_39 : decode cX10_wish 39 = .ok (.aload_n 0, 1) := by decide +kernel
theorem dX10_wish_40 : decode cX10_wish 40 = .ok (.getfield 78, 3) := by decide +kernel
theorem dX10_wish_43 : decode cX10_wish 43 = .ok (.bipush 6, 2) := by decide +kernel
theorem dX10_wish_45 : decode cX10_wish 45 = .ok (.iload_n 1, 1) := by decide +kernel
theorem dX10_wish_46 : decode cX10_wish 46 = .ok (.imul, 1) := by decide +kernel
theorem dX10_wish_47 : decode cX10_wish 47 = .ok (.iload_n 3, 1) := by decide +kernel
theorem dX10_wish_48 : decode cX10_wish 48 = .ok (.iadd, 1) := by decide +kernel
theorem dX10_wish_49 : decode cX10_wish 49 = .ok (.iaload, 1) := by decide +kernel
theorem dX10_wish_50 : decode cX10_wish 50 = .ok (.iload_n 2, 1) := by decide +kernel
theorem dX10_wish_51 : decode cX10_wish 51 = .ok (.if_icmp .ne 6, 3) := by decide +kernel
theorem dX10_wish_54 : decode cX10_wish 54 = .ok (.bipush (-2), 2) := by decide +kernel
theorem dX10_wish_56 : decode cX10_wish 56 = .ok (.ireturn, 1) := by decide +kernel
theorem dX10_wish_57 : decode cX10_wish 57 = .ok (.iinc 3 1, 3) := by decide +kernel
theorem dX10_wish_60 : decode cX10_wish 60 = .ok (.goto (-31), 3) := by decide +kernel
theorem dX10_wish_63 : decode cX10_wish 63 = .ok (.aload_n 0, 1) := by decide +kernel
theorem dX10_wish_64 : decode cX10_wish 64 = .ok (.getfield 75, 3) := by decide +kernel
theorem dX10_wish_67 : decode cX10_wish 67 = .ok (.iload_n 1, 1) := by decide +kernel
theorem dX10_wish_68 : decode cX10_wish 68 = .ok (.iaload, 1) := by decide +kernel
theorem dX10_wish_69 : decode cX10_wish 69 = .ok (.bipush 6, 2) := by decide +kernel
theorem dX10_wish_71 : decode cX10_wish 71 = .ok (.if_icmp .ne 6, 3) := by decide +kernel
theorem dX10_wish_74 : decode cX10_wish 74 = .ok (.bipush (-4), 2) := by decide +kernel
theorem dX10_wish_76 : decode cX10_wish 76 = .ok (.ireturn, 1) := by decide +kernel
theorem dX10_wish_77 : decode cX10_wish 77 = .ok (.aload_n 0, 1) := by decide +kernel
theorem dX10_wish_78 : decode cX10_wish 78 = .ok (.getfield 78, 3) := by decide +kernel
theorem dX10_wish_81 : decode cX10_wish 81 = .ok (.bipush 6, 2) := by decide +kernel
theorem dX10_wish_83 : decode cX10_wish 83 = .ok (.iload_n 1, 1) := by decide +kernel
theorem dX10_wish_84 : decode cX10_wish 84 = .ok (.imul, 1) := by decide +kernel
theorem dX10_wish_85 : decode cX10_wish 85 = .ok (.aload_n 0, 1) := by decide +kernel
theorem dX10_wish_86 : decode cX10_wish 86 = .ok (.getfield 75, 3) := by decide +kernel
theorem dX10_wish_89 : decode cX10_wish 89 = .ok (.iload_n 1, 1) := by decide +kernel
theorem dX10_wish_90 : decode cX10_wish 90 = .ok (.iaload, 1) := by decide +kernel
theorem dX10_wish_91 : decode cX10_wish 91 = .ok (.iadd, 1) := by decide +kernel
theorem dX10_wish_92 : decode cX10_wish 92 = .ok (.iload_n 2, 1) := by decide +kernel
theorem dX10_wish_93 : decode cX10_wish 93 = .ok (.iastore, 1) := by decide +kernel
theorem dX10_wish_94 : decode cX10_wish 94 = .ok (.aload_n 0, 1) := by decide +kernel
theorem dX10_wish_95 : decode cX10_wish 95 = .ok (.getfield 75, 3) := by decide +kernel
theorem dX10_wish_98 : decode cX10_wish 98 = .ok (.iload_n 1, 1) := by decide +kernel
theorem dX10_wish_99 : decode cX10_wish 99 = .ok (.dup2, 1) := by decide +kernel
theorem dX10_wish_100 : decode cX10_wish 100 = .ok (.iaload, 1) := by decide +kernel
theorem dX10_wish_101 : decode cX10_wish 101 = .ok (.iconst 1, 1) := by decide +kernel
theorem dX10_wish_102 : decode cX10_wish 102 = .ok (.iadd, 1) := by decide +kernel
theorem dX10_wish_103 : decode cX10_wish 103 = .ok (.iastore, 1) := by decide +kernel
theorem dX10_wish_104 : decode cX10_wish 104 = .ok (.aload_n 0, 1) := by decide +kernel
theorem dX10_wish_105 : decode cX10_wish 105 = .ok (.getfield 75, 3) := by decide +kernel
theorem dX10_wish_108 : decode cX10_wish 108 = .ok (.iload_n 1, 1) := by decide +kernel
theorem dX10_wish_109 : decode cX10_wish 109 = .ok (.iaload, 1) := by decide +kernel
theorem dX10_wish_110 : decode cX10_wish 110 = .ok (.ireturn, 1) := by decide +kernel
theorem dX10_isWet_0 : decode cX10_isWet 0 = .ok (.iconst 0, 1) := by decide +kernel
theorem dX10_isWet_1 : decode cX10_isWet 1 = .ok (.istore_n 2, 1) := by decide +kernel
theorem dX10_isWet_2 : decode cX10_isWet 2 = .ok (.iload_n 1, 1) := by decide +kernel
theorem dX10_isWet_3 : decode cX10_isWet 3 = .ok (.iload_n 1, 1) := by decide +kernel
theorem dX10_isWet_4 : decode cX10_isWet 4 = .ok (.bipush 8, 2) := by decide +kernel
theorem dX10_isWet_6 : decode cX10_isWet 6 = .ok (.irem, 1) := by decide +kernel
theorem dX10_isWet_7 : decode cX10_isWet 7 = .ok (.isub, 1) := by decide +kernel
theorem dX10_isWet_8 : decode cX10_isWet 8 = .ok (.istore_n 3, 1) := by decide +kernel
theorem dX10_isWet_9 : decode cX10_isWet 9 = .ok (.iload_n 3, 1) := by decide +kernel
theorem dX10_isWet_10 : decode cX10_isWet 10 = .ok (.iload_n 1, 1) := by decide +kernel
theorem dX10_isWet_11 : decode cX10_isWet 11 = .ok (.if_icmp .gt 48, 3) := by decide +kernel
theorem dX10_isWet_14 : decode cX10_isWet 14 = .ok (.iload_n 2, 1) := by decide +kernel
theorem dX10_isWet_15 : decode cX10_isWet 15 = .ok (.ifCond .ne 32, 3) := by decide +kernel
theorem dX10_isWet_18 : decode cX10_isWet 18 = .ok (.aload_n 0, 1) := by decide +kernel
theorem dX10_isWet_19 : decode cX10_isWet 19 = .ok (.getfield 117, 3) := by decide +kernel
theorem dX10_isWet_22 : decode cX10_isWet 22 = .ok (.iconst 0, 1) := by decide +kernel
theorem dX10_isWet_23 : decode cX10_isWet 23 = .ok (.iaload, 1) := by decide +kernel
theorem dX10_isWet_24 : decode cX10_isWet 24 = .ok (.iconst (-1), 1) := by decide +kernel
theorem dX10_isWet_25 : decode cX10_isWet 25 = .ok (.if_icmp .eq 26, 3) := by decide +kernel
theorem dX10_isWet_28 : decode cX10_isWet 28 = .ok (.iload_n 3, 1) := by decide +kernel
theorem dX10_isWet_29 : decode cX10_isWet 29 = .ok (.aload_n 0, 1) := by decide +kernel
theorem dX10_isWet_30 : decode cX10_isWet 30 = .ok (.getfield 120, 3) := by decide +kernel
theorem dX10_isWet_33 : decode cX10_isWet 33 = .ok (.iconst 0, 1) := by decide +kernel
theorem dX10_isWet_34 : decode cX10_isWet 34 = .ok (.iaload, 1) := by decide +kernel
theorem dX10_isWet_35 : decode cX10_isWet 35 = .ok (.if_icmp .ge 16, 3) := by decide +kernel
theorem dX10_isWet_38 : decode cX10_isWet 38 = .ok (.aload_n 0, 1) := by decide +kernel
theorem dX10_isWet_39 : decode cX10_isWet 39 = .ok (.getfield 123, 3) := by decide +kernel
theorem dX10_isWet_42 : decode cX10_isWet 42 = .ok (.iload_n 3, 1) := by decide +kernel
theorem dX10_isWet_43 : decode cX10_isWet 43 = .ok (.iaload, 1) := by decide +kernel
theorem dX10_isWet_44 : decode cX10_isWet 44 = .ok (.ifCond .le 7, 3) := by decide +kernel
theorem dX10_isWet_47 : decode cX10_isWet 47 = .ok (.iconst 1, 1) := by decide +kernel
theorem dX10_isWet_48 : decode cX10_isWet 48 = .ok (.goto 4, 3) := by decide +kernel
theorem dX10_isWet_51 : decode cX10_isWet 51 = .ok (.iconst 0, 1) := by decide +kernel
theorem dX10_isWet_52 : decode cX10_isWet 52 = .ok (.istore_n 2, 1) := by decide +kernel
theorem dX10_isWet_53 : decode cX10_isWet 53 = .ok (.iinc 3 1, 3) := by decide +kernel
theorem dX10_isWet_56 : decode cX10_isWet 56 = .ok (.goto (-47), 3) := by decide +kernel
theorem dX10_isWet_59 : decode cX10_isWet 59 = .ok (.iload_n 2, 1) := by decide +kernel
theorem dX10_isWet_60 : decode cX10_isWet 60 = .ok (.ireturn, 1) := by decide +kernel
theorem dX10_wet_0 : decode cX10_wet 0 = .ok (.iload_n 1, 1) := by decide +kernel
theorem dX10_wet_1 : decode cX10_wet 1 = .ok (.i2l, 1) := by decide +kernel
theorem dX10_wet_2 : decode cX10_wet 2 = .ok (.lconst 0, 1) := by decide +kernel
theorem dX10_wet_3 : decode cX10_wet 3 = .ok (.ldc2_w 208, 3) := by decide +kernel
theorem dX10_wet_6 : decode cX10_wet 6 = .ok (.invokestatic 132, 3) := by decide +kernel
theorem dX10_wet_9 : decode cX10_wet 9 = .ok (.ifCond .ne 8, 3) := by decide +kernel
theorem dX10_wet_12 : decode cX10_wet 12 = .ok (.bipush (-2), 2) := by decide +kernel
theorem dX10_wet_14 : decode cX10_wet 14 = .ok (.goto 16, 3) := by decide +kernel
theorem dX10_wet_17 : decode cX10_wet 17 = .ok (.aload_n 0, 1) := by decide +kernel
theorem dX10_wet_18 : decode cX10_wet 18 = .ok (.iload_n 1, 1) := by decide +kernel
theorem dX10_wet_19 : decode cX10_wet 19 = .ok (.invokevirtual 213, 3) := by decide +kernel
theorem dX10_wet_22 : decode cX10_wet 22 = .ok (.ifCond .eq 7, 3) := by decide +kernel
theorem dX10_wet_25 : decode cX10_wet 25 = .ok (.iconst 1, 1) := by decide +kernel
theorem dX10_wet_26 : decode cX10_wet 26 = .ok (.goto 4, 3) := by decide +kernel
theorem dX10_wet_29 : decode cX10_wet 29 = .ok (.iconst 0, 1) := by decide +kernel
theorem dX10_wet_30 : decode cX10_wet 30 = .ok (.ireturn, 1) := by decide +kernel
theorem dX10_placeOf_0 : decode cX10_placeOf 0 = .ok (.aload_n 0, 1) := by decide +kernel
theorem dX10_placeOf_1 : decode cX10_placeOf 1 = .ok (.getfield 66, 3) := by decide +kernel
theorem dX10_placeOf_4 : decode cX10_placeOf 4 = .ok (.iload_n 1, 1) := by decide +kernel
theorem dX10_placeOf_5 : decode cX10_placeOf 5 = .ok (.iaload, 1) := by decide +kernel
theorem dX10_placeOf_6 : decode cX10_placeOf 6 = .ok (.iconst (-1), 1) := by decide +kernel
theorem dX10_placeOf_7 : decode cX10_placeOf 7 = .ok (.if_icmp .eq 10, 3) := by decide +kernel
theorem dX10_placeOf_10 : decode cX10_placeOf 10 = .ok (.aload_n 0, 1) := by decide +kernel
theorem dX10_placeOf_11 : decode cX10_placeOf 11 = .ok (.getfield 66, 3) := by decide +kernel
theorem dX10_placeOf_14 : decode cX10_placeOf 14 = .ok (.iload_n 1, 1) := by decide +kernel
theorem dX10_placeOf_15 : decode cX10_placeOf 15 = .ok (.iaload, 1) := by decide +kernel
theorem dX10_placeOf_16 : decode cX10_placeOf 16 = .ok (.ireturn, 1) := by decide +kernel
theorem dX10_placeOf_17 : decode cX10_placeOf 17 = .ok (.aload_n 0, 1) := by decide +kernel
theorem dX10_placeOf_18 : decode cX10_placeOf 18 = .ok (.aload_n 0, 1) := by decide +kernel
theorem dX10_placeOf_19 : decode cX10_placeOf 19 = .ok (.getfield 69, 3) := by decide +kernel
theorem dX10_placeOf_22 : decode cX10_placeOf 22 = .ok (.iload_n 1, 1) := by decide +kernel
theorem dX10_placeOf_23 : decode cX10_placeOf 23 = .ok (.iaload, 1) := by decide +kernel
theorem dX10_placeOf_24 : decode cX10_placeOf 24 = .ok (.invokevirtual 213, 3) := by decide +kernel
theorem dX10_placeOf_27 : decode cX10_placeOf 27 = .ok (.ifCond .eq 12, 3) := by decide +kernel
theorem dX10_placeOf_30 : decode cX10_placeOf 30 = .ok (.aload_n 0, 1) := by decide +kernel
theorem dX10_placeOf_31 : decode cX10_placeOf 31 = .ok (.getfield 72, 3) := by decide +kernel
theorem dX10_placeOf_34 : decode cX10_placeOf 34 = .ok (.iload_n 1, 1) := by decide +kernel
theorem dX10_placeOf_35 : decode cX10_placeOf 35 = .ok (.iaload, 1) := by decide +kernel
theorem dX10_placeOf_36 : decode cX10_placeOf 36 = .ok (.goto 5, 3) := by decide +kernel
theorem dX10_placeOf_39 : decode cX10_placeOf 39 = .ok (.bipush 6, 2) := by decide +kernel
theorem dX10_placeOf_41 : decode cX10_placeOf 41 = .ok (.ireturn, 1) := by decide +kernel
theorem dX10_where_0 : decode cX10_where 0 = .ok (.iload_n 1, 1) := by decide +kernel
theorem dX10_where_1 : decode cX10_where 1 = .ok (.i2l, 1) := by decide +kernel
theorem dX10_where_2 : decode cX10_where 2 = .ok (.lconst 0, 1) := by decide +kernel
theorem dX10_where_3 : decode cX10_where 3 = .ok (.aload_n 0, 1) := by decide +kernel
theorem dX10_where_4 : decode cX10_where 4 = .ok (.getfield 210, 3) := by decide +kernel
theorem dX10_where_7 : decode cX10_where 7 = .ok (.iconst 1, 1) := by decide +kernel
theorem dX10_where_8 : decode cX10_where 8 = .ok (.isub, 1) := by decide +kernel
theorem dX10_where_9 : decode cX10_where 9 = .ok (.i2l, 1) := by decide +kernel
theorem dX10_where_10 : decode cX10_where 10 = .ok (.invokestatic 132, 3) := by decide +kernel
theorem dX10_where_13 : decode cX10_where 13 = .ok (.ifCond .eq 11, 3) := by decide +kernel
theorem dX10_where_16 : decode cX10_where 16 = .ok (.aload_n 0, 1) := by decide +kernel
theorem dX10_where_17 : decode cX10_where 17 = .ok (.iload_n 1, 1) := by decide +kernel
theorem dX10_where_18 : decode cX10_where 18 = .ok (.invokevirtual 216, 3) := by decide +kernel
theorem dX10_where_21 : decode cX10_where 21 = .ok (.goto 5, 3) := by decide +kernel
theorem dX10_where_24 : decode cX10_where 24 = .ok (.bipush (-2), 2) := by decide +kernel
theorem dX10_where_26 : decode cX10_where 26 = .ok (.ireturn, 1) := by decide +kernel
theorem dX10_findCrowds_0 : decode cX10_findCrowds 0 = .ok (.iconst 0, 1) := by decide +kernel
theorem dX10_findCrowds_1 : decode cX10_findCrowds 1 = .ok (.istore_n 3, 1) := by decide +kernel
theorem dX10_findCrowds_2 : decode cX10_findCrowds 2 = .ok (.iload_n 3, 1) := by decide +kernel
theorem dX10_findCrowds_3 : decode cX10_findCrowds 3 = .ok (.bipush 7, 2) := by decide +kernel
theorem dX10_findCrowds_5 : decode cX10_findCrowds 5 = .ok (.if_icmp .ge 33, 3) := by decide +kernel
theorem dX10_findCrowds_8 : decode cX10_findCrowds 8 = .ok (.aload_n 0, 1) := by decide +kernel
theorem dX10_findCrowds_9 : decode cX10_findCrowds 9 = .ok (.getfield 81, 3) := by decide +kernel
theorem dX10_findCrowds_12 : decode cX10_findCrowds 12 = .ok (.iload_n 3, 1) := by decide +kernel
theorem dX10_findCrowds_13 : decode cX10_findCrowds 13 = .ok (.iload_n 3, 1) := by decide +kernel
theorem dX10_findCrowds_14 : decode cX10_findCrowds 14 = .ok (.bipush 6, 2) := by decide +kernel
theorem dX10_findCrowds_16 : decode cX10_findCrowds 16 = .ok (.if_icmp .ne 9, 3) := by decide +kernel
theorem dX10_findCrowds_19 : decode cX10_findCrowds 19 = .ok (.sipush 1000, 3) := by decide +kernel
theorem dX10_findCrowds_22 : decode cX10_findCrowds 22 = .ok (.goto 9, 3) := by decide +kernel
theorem dX10_findCrowds_25 : decode cX10_findCrowds 25 = .ok (.aload_n 0, 1) := by decide +kernel
theorem dX10_findCrowds_26 : decode cX10_findCrowds 26 = .ok (.getfield 63, 3) := by decide +kernel
theorem dX10_findCrowds_29 : decode cX10_findCrowds 29 = .ok (.iload_n 3, 1) := by decide +kernel
theorem dX10_findCrowds_30 : decode cX10_findCrowds 30 = .ok (.iaload, 1) := by decide +kernel
theorem dX10_findCrowds_31 : decode cX10_findCrowds 31 = .ok (.iastore, 1) := by decide +kernel
theorem dX10_findCrowds_32 : decode cX10_findCrowds 32 = .ok (.iinc 3 1, 3) := by decide +kernel
theorem dX10_findCrowds_35 : decode cX10_findCrowds 35 = .ok (.goto (-33), 3) := by decide +kernel
theorem dX10_findCrowds_38 : decode cX10_findCrowds 38 = .ok (.iconst 0, 1) := by decide +kernel
theorem dX10_findCrowds_39 : decode cX10_findCrowds 39 = .ok (.istore_n 3, 1) := by decide +kernel
theorem dX10_findCrowds_40 : decode cX10_findCrowds 40 = .ok (.iload_n 3, 1) := by decide +kernel
theorem dX10_findCrowds_41 : decode cX10_findCrowds 41 = .ok (.aload_n 0, 1) := by decide +kernel
theorem dX10_findCrowds_42 : decode cX10_findCrowds 42 = .ok (.getfield 136, 3) := by decide +kernel
theorem dX10_findCrowds_45 : decode cX10_findCrowds 45 = .ok (.if_icmp .ge 154, 3) := by decide +kernel
theorem dX10_findCrowds_48 : decode cX10_findCrowds 48 = .ok (.aload_n 0, 1) := by decide +kernel
theorem dX10_findCrowds_49 : decode cX10_findCrowds 49 = .ok (.getfield 84, 3) := by decide +kernel
theorem dX10_findCrowds_52 : decode cX10_findCrowds 52 = .ok (.iload_n 3, 1) := by decide +kernel
theorem dX10_findCrowds_53 : decode cX10_findCrowds 53 = .ok (.iconst (-1), 1) := by decide +kernel
theorem dX10_findCrowds_54 : decode cX10_findCrowds 54 = .ok (.iastore, 1) := by decide +kernel
theorem dX10_findCrowds_55 : decode cX10_findCrowds 55 = .ok (.aload_n 0, 1) := by decide +kernel
theorem dX10_findCrowds_56 : decode cX10_findCrowds 56 = .ok (.getfield 87, 3) := by decide +kernel
theorem dX10_findCrowds_59 : decode cX10_findCrowds 59 = .ok (.iload_n 3, 1) := by decide +kernel
theorem dX10_findCrowds_60 : decode cX10_findCrowds 60 = .ok (.iconst 0, 1) := by decide +kernel
theorem dX10_findCrowds_61 : decode cX10_findCrowds 61 = .ok (.iastore, 1) := by decide +kernel
theorem dX10_findCrowds_62 : decode cX10_findCrowds 62 = .ok (.iconst 0, 1) := by decide +kernel
theorem dX10_findCrowds_63 : decode cX10_findCrowds 63 = .ok (.istore 4, 2) := by decide +kernel
theorem dX10_findCrowds_65 : decode cX10_findCrowds 65 = .ok (.iload 4, 2) := by decide +kernel
theorem dX10_findCrowds_67 : decode cX10_findCrowds 67 = .ok (.aload_n 0, 1) := by decide +kernel
theorem dX10_findCrowds_68 : decode cX10_findCrowds 68 = .ok (.getfield 75, 3) := by decide +kernel
theorem dX10_findCrowds_71 : decode cX10_findCrowds 71 = .ok (.iload_n 3, 1) := by decide +kernel
theorem dX10_findCrowds_72 : decode cX10_findCrowds 72 = .ok (.iaload, 1) := by decide +kernel
theorem dX10_findCrowds_73 : decode cX10_findCrowds 73 = .ok (.if_icmp .ge 120, 3) := by decide +kernel
theorem dX10_findCrowds_76 : decode cX10_findCrowds 76 = .ok (.aload_n 0, 1) := by decide +kernel
theorem dX10_findCrowds_77 : decode cX10_findCrowds 77 = .ok (.iload_n 3, 1) := by decide +kernel
theorem dX10_findCrowds_78 : decode cX10_findCrowds 78 = .ok (.iload_n 1, 1) := by decide +kernel
theorem dX10_findCrowds_79 : decode cX10_findCrowds 79 = .ok (.invokevirtual 174, 3) := by decide +kernel
theorem dX10_findCrowds_82 : decode cX10_findCrowds 82 = .ok (.ifCond .eq 111, 3) := by decide +kernel
theorem dX10_findCrowds_85 : decode cX10_findCrowds 85 = .ok (.aload_n 0, 1) := by decide +kernel
theorem dX10_findCrowds_86 : decode cX10_findCrowds 86 = .ok (.getfield 84, 3) := by decide +kernel
theorem dX10_findCrowds_89 : decode cX10_findCrowds 89 = .ok (.iload_n 3, 1) := by decide +kernel
theorem dX10_findCrowds_90 : decode cX10_findCrowds 90 = .ok (.iaload, 1) := by decide +kernel
theorem dX10_findCrowds_91 : decode cX10_findCrowds 91 = .ok (.iconst (-1), 1) := by decide +kernel
theorem dX10_findCrowds_92 : decode cX10_findCrowds 92 = .ok (.if_icmp .ne 101, 3) := by decide +kernel
theorem dX10_findCrowds_95 : decode cX10_findCrowds 95 = .ok (.aload_n 0, 1) := by decide +kernel
theorem dX10_findCrowds_96 : decode cX10_findCrowds 96 = .ok (.getfield 78, 3) := by decide +kernel
theorem dX10_findCrowds_99 : decode cX10_findCrowds 99 = .ok (.bipush 6, 2) := by decide +kernel
theorem dX10_findCrowds_101 : decode cX10_findCrowds 101 = .ok (.iload_n 3, 1) := by decide +kernel
theorem dX10_findCrowds_102 : decode cX10_findCrowds 102 = .ok (.imul, 1) := by decide +kernel
theorem dX10_findCrowds_103 : decode cX10_findCrowds 103 = .ok (.iload 4, 2) := by decide +kernel
theorem dX10_findCrowds_105 : decode cX10_findCrowds 105 = .ok (.iadd, 1) := by decide +kernel
theorem dX10_findCrowds_106 : decode cX10_findCrowds 106 = .ok (.iaload, 1) := by decide +kernel
theorem dX10_findCrowds_107 : decode cX10_findCrowds 107 = .ok (.istore 5, 2) := by decide +kernel
theorem dX10_findCrowds_109 : decode cX10_findCrowds 109 = .ok (.aload_n 0, 1) := by decide +kernel
theorem dX10_findCrowds_110 : decode cX10_findCrowds 110 = .ok (.iload 5, 2) := by decide +kernel
theorem dX10_findCrowds_112 : decode cX10_findCrowds 112 = .ok (.invokevirtual 216, 3) := by decide +kernel
theorem dX10_findCrowds_115 : decode cX10_findCrowds 115 = .ok (.istore 6, 2) := by decide +kernel
theorem dX10_findCrowds_117 : decode cX10_findCrowds 117 = .ok (.aload_n 0, 1) := by decide +kernel
theorem dX10_findCrowds_118 : decode cX10_findCrowds 118 = .ok (.getfield 69, 3) := by decide +kernel
theorem dX10_findCrowds_121 : decode cX10_findCrowds 121 = .ok (.iload 5, 2) := by decide +kernel
theorem dX10_findCrowds_123 : decode cX10_findCrowds 123 = .ok (.iaload, 1) := by decide +kernel
theorem dX10_findCrowds_124 : decode cX10_findCrowds 124 = .ok (.iload_n 2, 1) := by decide +kernel
theorem dX10_findCrowds_125 : decode cX10_findCrowds 125 = .ok (.if_icmp .ne 62, 3) := by decide +kernel
theorem dX10_findCrowds_128 : decode cX10_findCrowds 128 = .ok (.iload 6, 2) := by decide +kernel
theorem dX10_findCrowds_130 : decode cX10_findCrowds 130 = .ok (.iconst (-1), 1) := by decide +kernel
theorem dX10_findCrowds_131 : decode cX10_findCrowds 131 = .ok (.if_icmp .eq 56, 3) := by decide +kernel
theorem dX10_findCrowds_134 : decode cX10_findCrowds 134 = .ok (.aload_n 0, 1) := by decide +kernel
theorem dX10_findCrowds_135 : decode cX10_findCrowds 135 = .ok (.getfield 81, 3) := by decide +kernel
theorem dX10_findCrowds_138 : decode cX10_findCrowds 138 = .ok (.iload 6, 2) := by decide +kernel
theorem dX10_findCrowds_140 : decode cX10_findCrowds 140 = .ok (.iaload, 1) := by decide +kernel
theorem dX10_findCrowds_141 : decode cX10_findCrowds 141 = .ok (.aload_n 0, 1) := by decide +kernel
theorem dX10_findCrowds_142 : decode cX10_findCrowds 142 = .ok (.getfield 16, 3) := by decide +kernel
theorem dX10_findCrowds_145 : decode cX10_findCrowds 145 = .ok (.iload_n 3, 1) := by decide +kernel
theorem dX10_findCrowds_146 : decode cX10_findCrowds 146 = .ok (.iaload, 1) := by decide +kernel
theorem dX10_findCrowds_147 : decode cX10_findCrowds 147 = .ok (.if_icmp .lt 30, 3) := by decide +kernel
theorem dX10_findCrowds_150 : decode cX10_findCrowds 150 = .ok (.aload_n 0, 1) := by decide +kernel
theorem dX10_findCrowds_151 : decode cX10_findCrowds 151 = .ok (.getfield 81, 3) := by decide +kernel
theorem dX10_findCrowds_154 : decode cX10_findCrowds 154 = .ok (.iload 6, 2) := by decide +kernel
theorem dX10_findCrowds_156 : decode cX10_findCrowds 156 = .ok (.dup2, 1) := by decide +kernel
theorem dX10_findCrowds_157 : decode cX10_findCrowds 157 = .ok (.iaload, 1) := by decide +kernel
theorem dX10_findCrowds_158 : decode cX10_findCrowds 158 = .ok (.aload_n 0, 1) := by decide +kernel
theorem dX10_findCrowds_159 : decode cX10_findCrowds 159 = .ok (.getfield 16, 3) := by decide +kernel
theorem dX10_findCrowds_162 : decode cX10_findCrowds 162 = .ok (.iload_n 3, 1) := by decide +kernel
theorem dX10_findCrowds_163 : decode cX10_findCrowds 163 = .ok (.iaload, 1) := by decide +kernel
theorem dX10_findCrowds_164 : decode cX10_findCrowds 164 = .ok (.isub, 1) := by decide +kernel
theorem dX10_findCrowds_165 : decode cX10_findCrowds 165 = .ok (.iastore, 1) := by decide +kernel
theorem dX10_findCrowds_166 : decode cX10_findCrowds 166 = .ok (.aload_n 0, 1) := by decide +kernel
theorem dX10_findCrowds_167 : decode cX10_findCrowds 167 = .ok (.getfield 84, 3) := by decide +kernel
theorem dX10_findCrowds_170 : decode cX10_findCrowds 170 = .ok (.iload_n 3, 1) := by decide +kernel
theorem dX10_findCrowds_171 : decode cX10_findCrowds 171 = .ok (.iload 5, 2) := by decide +kernel
theorem dX10_findCrowds_173 : decode cX10_findCrowds 173 = .ok (.iastore, 1) := by decide +kernel
theorem dX10_findCrowds_174 : decode cX10_findCrowds 174 = .ok (.goto 13, 3) := by decide +kernel
theorem dX10_findCrowds_177 : decode cX10_findCrowds 177 = .ok (.aload_n 0, 1) := by decide +kernel
theorem dX10_findCrowds_178 : decode cX10_findCrowds 178 = .ok (.getfield 87, 3) := by decide +kernel
theorem dX10_findCrowds_181 : decode cX10_findCrowds 181 = .ok (.iload_n 3, 1) := by decide +kernel
theorem dX10_findCrowds_182 : decode cX10_findCrowds 182 = .ok (.dup2, 1) := by decide +kernel
theorem dX10_findCrowds_183 : decode cX10_findCrowds 183 = .ok (.iaload, 1) := by decide +kernel
theorem dX10_findCrowds_184 : decode cX10_findCrowds 184 = .ok (.iconst 1, 1) := by decide +kernel
theorem dX10_findCrowds_185 : decode cX10_findCrowds 185 = .ok (.iadd, 1) := by decide +kernel
theorem dX10_findCrowds_186 : decode cX10_findCrowds 186 = .ok (.iastore, 1) := by decide +kernel
theorem dX10_findCrowds_187 : decode cX10_findCrowds 187 = .ok (.iinc 4 1, 3) := by decide +kernel
theorem dX10_findCrowds_190 : decode cX10_findCrowds 190 = .ok (.goto (-125), 3) := by decide +kernel
theorem dX10_findCrowds_193 : decode cX10_findCrowds 193 = .ok (.iinc 3 1, 3) := by decide +kernel
theorem dX10_findCrowds_196 : decode cX10_findCrowds 196 = .ok (.goto (-156), 3) := by decide +kernel
theorem dX10_findCrowds_199 : decode cX10_findCrowds 199 = .ok (.return_, 1) := by decide +kernel
theorem dX10_goes_0 : decode cX10_goes 0 = .ok (.aload_n 0, 1) := by decide +kernel
theorem dX10_goes_1 : decode cX10_goes 1 = .ok (.iload_n 1, 1) := by decide +kernel
theorem dX10_goes_2 : decode cX10_goes 2 = .ok (.invokevirtual 151, 3) := by decide +kernel
theorem dX10_goes_5 : decode cX10_goes 5 = .ok (.ifCond .eq 22, 3) := by decide +kernel
theorem dX10_goes_8 : decode cX10_goes 8 = .ok (.iload_n 2, 1) := by decide +kernel
theorem dX10_goes_9 : decode cX10_goes 9 = .ok (.invokestatic 145, 3) := by decide +kernel
theorem dX10_goes_12 : decode cX10_goes 12 = .ok (.ifCond .eq 15, 3) := by decide +kernel
theorem dX10_goes_15 : decode cX10_goes 15 = .ok (.iload_n 3, 1) := by decide +kernel
theorem dX10_goes_16 : decode cX10_goes 16 = .ok (.i2l, 1) := by decide +kernel
theorem dX10_goes_17 : decode cX10_goes 17 = .ok (.lconst 0, 1) := by decide +kernel
theorem dX10_goes_18 : decode cX10_goes 18 = .ok (.ldc2_w 208, 3) := by decide +kernel
theorem dX10_goes_21 : decode cX10_goes 21 = .ok (.invokestatic 132, 3) := by decide +kernel
theorem dX10_goes_24 : decode cX10_goes 24 = .ok (.ifCond .ne 6, 3) := by decide +kernel
theorem dX10_goes_27 : decode cX10_goes 27 = .ok (.bipush (-2), 2) := by decide +kernel
theorem dX10_goes_29 : decode cX10_goes 29 = .ok (.ireturn, 1) := by decide +kernel
theorem dX10_goes_30 : decode cX10_goes 30 = .ok (.aload_n 0, 1) := by decide +kernel
theorem dX10_goes_31 : decode cX10_goes 31 = .ok (.iload_n 2, 1) := by decide +kernel
theorem dX10_goes_32 : decode cX10_goes 32 = .ok (.iload_n 3, 1) := by decide +kernel
theorem dX10_goes_33 : decode cX10_goes 33 = .ok (.invokevirtual 219, 3) := by decide +kernel
theorem dX10_goes_36 : decode cX10_goes 36 = .ok (.aload_n 0, 1) := by decide +kernel
theorem dX10_goes_37 : decode cX10_goes 37 = .ok (.getfield 84, 3) := by decide +kernel
theorem dX10_goes_40 : decode cX10_goes 40 = .ok (.iload_n 1, 1) := by decide +kernel
theorem dX10_goes_41 : decode cX10_goes 41 = .ok (.iaload, 1) := by decide +kernel
theorem dX10_goes_42 : decode cX10_goes 42 = .ok (.ireturn, 1) := by decide +kernel
theorem dX10_turned_0 : decode cX10_turned 0 = .ok (.aload_n 0, 1) := by decide +kernel
theorem dX10_turned_1 : decode cX10_turned 1 = .ok (.iload_n 1, 1) := by decide +kernel
theorem dX10_turned_2 : decode cX10_turned 2 = .ok (.invokevirtual 151, 3) := by decide +kernel
theorem dX10_turned_5 : decode cX10_turned 5 = .ok (.ifCond .eq 22, 3) := by decide +kernel
theorem dX10_turned_8 : decode cX10_turned 8 = .ok (.iload_n 2, 1) := by decide +kernel
theorem dX10_turned_9 : decode cX10_turned 9 = .ok (.invokestatic 145, 3) := by decide +kernel
theorem dX10_turned_12 : decode cX10_turned 12 = .ok (.ifCond .eq 15, 3) := by decide +kernel
theorem dX10_turned_15 : decode cX10_turned 15 = .ok (.iload_n 3, 1) := by decide +kernel
theorem dX10_turned_16 : decode cX10_turned 16 = .ok (.i2l, 1) := by decide +kernel
theorem dX10_turned_17 : decode cX10_turned 17 = .ok (.lconst 0, 1) := by decide +kernel
theorem dX10_turned_18 : decode cX10_turned 18 = .ok (.ldc2_w 208, 3) := by decide +kernel
theorem dX10_turned_21 : decode cX10_turned 21 = .ok (.invokestatic 132, 3) := by decide +kernel
theorem dX10_turned_24 : decode cX10_turned 24 = .ok (.ifCond .ne 6, 3) := by decide +kernel
theorem dX10_turned_27 : decode cX10_turned 27 = .ok (.bipush (-2), 2) := by decide +kernel
theorem dX10_turned_29 : decode cX10_turned 29 = .ok (.ireturn, 1) := by decide +kernel
theorem dX10_turned_30 : decode cX10_turned 30 = .ok (.aload_n 0, 1) := by decide +kernel
theorem dX10_turned_31 : decode cX10_turned 31 = .ok (.iload_n 2, 1) := by decide +kernel
theorem dX10_turned_32 : decode cX10_turned 32 = .ok (.iload_n 3, 1) := by decide +kernel
theorem dX10_turned_33 : decode cX10_turned 33 = .ok (.invokevirtual 219, 3) := by decide +kernel
theorem dX10_turned_36 : decode cX10_turned 36 = .ok (.aload_n 0, 1) := by decide +kernel
theorem dX10_turned_37 : decode cX10_turned 37 = .ok (.getfield 87, 3) := by decide +kernel
theorem dX10_turned_40 : decode cX10_turned 40 = .ok (.iload_n 1, 1) := by decide +kernel
theorem dX10_turned_41 : decode cX10_turned 41 = .ok (.iaload, 1) := by decide +kernel
theorem dX10_turned_42 : decode cX10_turned 42 = .ok (.ireturn, 1) := by decide +kernel
theorem dX10_crowd_0 : decode cX10_crowd 0 = .ok (.iload_n 1, 1) := by decide +kernel
theorem dX10_crowd_1 : decode cX10_crowd 1 = .ok (.i2l, 1) := by decide +kernel
theorem dX10_crowd_2 : decode cX10_crowd 2 = .ok (.lconst 0, 1) := by decide +kernel
theorem dX10_crowd_3 : decode cX10_crowd 3 = .ok (.aload_n 0, 1) := by decide +kernel
theorem dX10_crowd_4 : decode cX10_crowd 4 = .ok (.getfield 210, 3) := by decide +kernel
theorem dX10_crowd_7 : decode cX10_crowd 7 = .ok (.iconst 1, 1) := by decide +kernel
theorem dX10_crowd_8 : decode cX10_crowd 8 = .ok (.isub, 1) := by decide +kernel
theorem dX10_crowd_9 : decode cX10_crowd 9 = .ok (.i2l, 1) := by decide +kernel
theorem dX10_crowd_10 : decode cX10_crowd 10 = .ok (.invokestatic 132, 3) := by decide +kernel
theorem dX10_crowd_13 : decode cX10_crowd 13 = .ok (.ifCond .eq 10, 3) := by decide +kernel
theorem dX10_crowd_16 : decode cX10_crowd 16 = .ok (.iload_n 2, 1) := by decide +kernel
theorem dX10_crowd_17 : decode cX10_crowd 17 = .ok (.invokestatic 145, 3) := by decide +kernel
theorem dX10_crowd_20 : decode cX10_crowd 20 = .ok (.ifCond .ne 6, 3) := by decide +kernel
theorem dX10_crowd_23 : decode cX10_crowd 23 = .ok (.bipush (-2), 2) := by decide +kernel
theorem dX10_crowd_25 : decode cX10_crowd 25 = .ok (.ireturn, 1) := by decide +kernel
theorem dX10_crowd_26 : decode cX10_crowd 26 = .ok (.aload_n 0, 1) := by decide +kernel
theorem dX10_crowd_27 : decode cX10_crowd 27 = .ok (.iload_n 2, 1) := by decide +kernel
theorem dX10_crowd_28 : decode cX10_crowd 28 = .ok (.aload_n 0, 1) := by decide +kernel
theorem dX10_crowd_29 : decode cX10_crowd 29 = .ok (.getfield 69, 3) := by decide +kernel
theorem dX10_crowd_32 : decode cX10_crowd 32 = .ok (.iload_n 1, 1) := by decide +kernel
theorem dX10_crowd_33 : decode cX10_crowd 33 = .ok (.iaload, 1) := by decide +kernel
theorem dX10_crowd_34 : decode cX10_crowd 34 = .ok (.invokevirtual 219, 3) := by decide +kernel
theorem dX10_crowd_37 : decode cX10_crowd 37 = .ok (.iconst 0, 1) := by decide +kernel
theorem dX10_crowd_38 : decode cX10_crowd 38 = .ok (.istore_n 3, 1) := by decide +kernel
theorem dX10_crowd_39 : decode cX10_crowd 39 = .ok (.iconst 0, 1) := by decide +kernel
theorem dX10_crowd_40 : decode cX10_crowd 40 = .ok (.istore 4, 2) := by decide +kernel
theorem dX10_crowd_42 : decode cX10_crowd 42 = .ok (.iload 4, 2) := by decide +kernel
theorem dX10_crowd_44 : decode cX10_crowd 44 = .ok (.aload_n 0, 1) := by decide +kernel
theorem dX10_crowd_45 : decode cX10_crowd 45 = .ok (.getfield 136, 3) := by decide +kernel
theorem dX10_crowd_48 : decode cX10_crowd 48 = .ok (.if_icmp .ge 34, 3) := by decide +kernel
theorem dX10_crowd_51 : decode cX10_crowd 51 = .ok (.iload_n 3, 1) := by decide +kernel
theorem dX10_crowd_52 : decode cX10_crowd 52 = .ok (.aload_n 0, 1) := by decide +kernel
theorem dX10_crowd_53 : decode cX10_crowd 53 = .ok (.getfield 84, 3) := by decide +kernel
theorem dX10_crowd_56 : decode cX10_crowd 56 = .ok (.iload 4, 2) := by decide +kernel
theorem dX10_crowd_58 : decode cX10_crowd 58 = .ok (.iaload, 1) := by decide +kernel
theorem dX10_crowd_59 : decode cX10_crowd 59 = .ok (.iload_n 1, 1) := by decide +kernel
theorem dX10_crowd_60 : decode cX10_crowd 60 = .ok (.if_icmp .ne 13, 3) := by decide +kernel
theorem dX10_crowd_63 : decode cX10_crowd 63 = .ok (.aload_n 0, 1) := by decide +kernel
theorem dX10_crowd_64 : decode cX10_crowd 64 = .ok (.getfield 16, 3) := by decide +kernel
theorem dX10_crowd_67 : decode cX10_crowd 67 = .ok (.iload 4, 2) := by decide +kernel
theorem dX10_crowd_69 : decode cX10_crowd 69 = .ok (.iaload, 1) := by decide +kernel
theorem dX10_crowd_70 : decode cX10_crowd 70 = .ok (.goto 4, 3) := by decide +kernel
theorem dX10_crowd_73 : decode cX10_crowd 73 = .ok (.iconst 0, 1) := by decide +kernel
theorem dX10_crowd_74 : decode cX10_crowd 74 = .ok (.iadd, 1) := by decide +kernel
theorem dX10_crowd_75 : decode cX10_crowd 75 = .ok (.istore_n 3, 1) := by decide +kernel
theorem dX10_crowd_76 : decode cX10_crowd 76 = .ok (.iinc 4 1, 3) := by decide +kernel
theorem dX10_crowd_79 : decode cX10_crowd 79 = .ok (.goto (-37), 3) := by decide +kernel
theorem dX10_crowd_82 : decode cX10_crowd 82 = .ok (.iload_n 3, 1) := by decide +kernel
theorem dX10_crowd_83 : decode cX10_crowd 83 = .ok (.ireturn, 1) := by decide +kernel
theorem dX10_manyIn_0 : decode cX10_manyIn 0 = .ok (.iconst 0, 1) := by decide +kernel
theorem dX10_manyIn_1 : decode cX10_manyIn 1 = .ok (.istore_n 2, 1) := by decide +kernel
theorem dX10_manyIn_2 : decode cX10_manyIn 2 = .ok (.iconst 0, 1) := by decide +kernel
theorem dX10_manyIn_3 : decode cX10_manyIn 3 = .ok (.istore_n 3, 1) := by decide +kernel
theorem dX10_manyIn_4 : decode cX10_manyIn 4 = .ok (.iload_n 3, 1) := by decide +kernel
theorem dX10_manyIn_5 : decode cX10_manyIn 5 = .ok (.aload_n 0, 1) := by decide +kernel
theorem dX10_manyIn_6 : decode cX10_manyIn 6 = .ok (.getfield 223, 3) := by decide +kernel
theorem dX10_manyIn_9 : decode cX10_manyIn 9 = .ok (.if_icmp .ge 27, 3) := by decide +kernel
theorem dX10_manyIn_12 : decode cX10_manyIn 12 = .ok (.iload_n 2, 1) := by decide +kernel
theorem dX10_manyIn_13 : decode cX10_manyIn 13 = .ok (.aload_n 0, 1) := by decide +kernel
theorem dX10_manyIn_14 : decode cX10_manyIn 14 = .ok (.getfield 105, 3) := by decide +kernel
theorem dX10_manyIn_17 : decode cX10_manyIn 17 = .ok (.iload_n 3, 1) := by decide +kernel
theorem dX10_manyIn_18 : decode cX10_manyIn 18 = .ok (.iaload, 1) := by decide +kernel
theorem dX10_manyIn_19 : decode cX10_manyIn 19 = .ok (.iload_n 1, 1) := by decide +kernel
theorem dX10_manyIn_20 : decode cX10_manyIn 20 = .ok (.if_icmp .ne 7, 3) := by decide +kernel
theorem dX10_manyIn_23 : decode cX10_manyIn 23 = .ok (.iconst 1, 1) := by decide +kernel
theorem dX10_manyIn_24 : decode cX10_manyIn 24 = .ok (.goto 4, 3) := by decide +kernel
theorem dX10_manyIn_27 : decode cX10_manyIn 27 = .ok (.iconst 0, 1) := by decide +kernel
theorem dX10_manyIn_28 : decode cX10_manyIn 28 = .ok (.iadd, 1) := by decide +kernel
theorem dX10_manyIn_29 : decode cX10_manyIn 29 = .ok (.istore_n 2, 1) := by decide +kernel
theorem dX10_manyIn_30 : decode cX10_manyIn 30 = .ok (.iinc 3 1, 3) := by decide +kernel
theorem dX10_manyIn_33 : decode cX10_manyIn 33 = .ok (.goto (-29), 3) := by decide +kernel
theorem dX10_manyIn_36 : decode cX10_manyIn 36 = .ok (.iload_n 2, 1) := by decide +kernel
theorem dX10_manyIn_37 : decode cX10_manyIn 37 = .ok (.ireturn, 1) := by decide +kernel
theorem dX10_group_0 : decode cX10_group 0 = .ok (.iload_n 1, 1) := by decide +kernel
theorem dX10_group_1 : decode cX10_group 1 = .ok (.i2l, 1) := by decide +kernel
theorem dX10_group_2 : decode cX10_group 2 = .ok (.lconst 0, 1) := by decide +kernel
theorem dX10_group_3 : decode cX10_group 3 = .ok (.ldc2_w 226, 3) := by decide +kernel
theorem dX10_group_6 : decode cX10_group 6 = .ok (.invokestatic 132, 3) := by decide +kernel
theorem dX10_group_9 : decode cX10_group 9 = .ok (.ifCond .eq 41, 3) := by decide +kernel
theorem dX10_group_12 : decode cX10_group 12 = .ok (.iload_n 2, 1) := by decide +kernel
theorem dX10_group_13 : decode cX10_group 13 = .ok (.i2l, 1) := by decide +kernel
theorem dX10_group_14 : decode cX10_group 14 = .ok (.lconst 0, 1) := by decide +kernel
theorem dX10_group_15 : decode cX10_group 15 = .ok (.ldc2_w 228, 3) := by decide +kernel
theorem dX10_group_18 : decode cX10_group 18 = .ok (.invokestatic 132, 3) := by decide +kernel
theorem dX10_group_21 : decode cX10_group 21 = .ok (.ifCond .eq 29, 3) := by decide +kernel
theorem dX10_group_24 : decode cX10_group 24 = .ok (.iload_n 3, 1) := by decide +kernel
theorem dX10_group_25 : decode cX10_group 25 = .ok (.i2l, 1) := by decide +kernel
theorem dX10_group_26 : decode cX10_group 26 = .ok (.iload_n 2, 1) := by decide +kernel
theorem dX10_group_27 : decode cX10_group 27 = .ok (.i2l, 1) := by decide +kernel
theorem dX10_group_28 : decode cX10_group 28 = .ok (.ldc2_w 228, 3) := by decide +kernel
theorem dX10_group_31 : decode cX10_group 31 = .ok (.invokestatic 132, 3) := by decide +kernel
theorem dX10_group_34 : decode cX10_group 34 = .ok (.ifCond .eq 16, 3) := by decide +kernel
theorem dX10_group_37 : decode cX10_group 37 = .ok (.iload 4, 2) := by decide +kernel
theorem dX10_group_39 : decode cX10_group 39 = .ok (.i2l, 1) := by decide +kernel
theorem dX10_group_40 : decode cX10_group 40 = .ok (.lconst 1, 1) := by decide +kernel
theorem dX10_group_41 : decode cX10_group 41 = .ok (.ldc2_w 230, 3) := by decide +kernel
theorem dX10_group_44 : decode cX10_group 44 = .ok (.invokestatic 132, 3) := by decide +kernel
theorem dX10_group_47 : decode cX10_group 47 = .ok (.ifCond .ne 6, 3) := by decide +kernel
theorem dX10_group_50 : decode cX10_group 50 = .ok (.bipush (-2), 2) := by decide +kernel
theorem dX10_group_52 : decode cX10_group 52 = .ok (.ireturn, 1) := by decide +kernel
theorem dX10_group_53 : decode cX10_group 53 = .ok (.iconst 0, 1) := by decide +kernel
theorem dX10_group_54 : decode cX10_group 54 = .ok (.istore 5, 2) := by decide +kernel
theorem dX10_group_56 : decode cX10_group 56 = .ok (.iload 5, 2) := by decide +kernel
theorem dX10_group_58 : decode cX10_group 58 = .ok (.iconst 4, 1) := by decide +kernel
theorem dX10_group_59 : decode cX10_group 59 = .ok (.if_icmp .ge 40, 3) := by decide +kernel
theorem dX10_group_62 : decode cX10_group 62 = .ok (.iload 5, 2) := by decide +kernel
theorem dX10_group_64 : decode cX10_group 64 = .ok (.iload_n 1, 1) := by decide +kernel
theorem dX10_group_65 : decode cX10_group 65 = .ok (.if_icmp .eq 28, 3) := by decide +kernel
theorem dX10_group_68 : decode cX10_group 68 = .ok (.aload_n 0, 1) := by decide +kernel
theorem dX10_group_69 : decode cX10_group 69 = .ok (.getfield 90, 3) := by decide +kernel
theorem dX10_group_72 : decode cX10_group 72 = .ok (.iload 5, 2) := by decide +kernel
theorem dX10_group_74 : decode cX10_group 74 = .ok (.iaload, 1) := by decide +kernel
theorem dX10_group_75 : decode cX10_group 75 = .ok (.iload_n 3, 1) := by decide +kernel
theorem dX10_group_76 : decode cX10_group 76 = .ok (.if_icmp .gt 17, 3) := by decide +kernel
theorem dX10_group_79 : decode cX10_group 79 = .ok (.iload_n 2, 1) := by decide +kernel
theorem dX10_group_80 : decode cX10_group 80 = .ok (.aload_n 0, 1) := by decide +kernel
theorem dX10_group_81 : decode cX10_group 81 = .ok (.getfield 93, 3) := by decide +kernel
theorem dX10_group_84 : decode cX10_group 84 = .ok (.iload 5, 2) := by decide +kernel
theorem dX10_group_86 : decode cX10_group 86 = .ok (.iaload, 1) := by decide +kernel
theorem dX10_group_87 : decode cX10_group 87 = .ok (.if_icmp .gt 6, 3) := by decide +kernel
theorem dX10_group_90 : decode cX10_group 90 = .ok (.bipush (-2), 2) := by decide +kernel
theorem dX10_group_92 : decode cX10_group 92 = .ok (.ireturn, 1) := by decide +kernel
theorem dX10_group_93 : decode cX10_group 93 = .ok (.iinc 5 1, 3) := by decide +kernel
theorem dX10_group_96 : decode cX10_group 96 = .ok (.goto (-40), 3) := by decide +kernel
theorem dX10_group_99 : decode cX10_group 99 = .ok (.aload_n 0, 1) := by decide +kernel
theorem dX10_group_100 : decode cX10_group 100 = .ok (.iload_n 1, 1) := by decide +kernel
theorem dX10_group_101 : decode cX10_group 101 = .ok (.invokevirtual 232, 3) := by decide +kernel
theorem dX10_group_104 : decode cX10_group 104 = .ok (.ifCond .le 6, 3) := by decide +kernel
theorem dX10_group_107 : decode cX10_group 107 = .ok (.bipush (-3), 2) := by decide +kernel
theorem dX10_group_109 : decode cX10_group 109 = .ok (.ireturn, 1) := by decide +kernel
theorem dX10_group_110 : decode cX10_group 110 = .ok (.aload_n 0, 1) := by decide +kernel
theorem dX10_group_111 : decode cX10_group 111 = .ok (.getfield 90, 3) := by decide +kernel
theorem dX10_group_114 : decode cX10_group 114 = .ok (.iload_n 1, 1) := by decide +kernel
theorem dX10_group_115 : decode cX10_group 115 = .ok (.iload_n 2, 1) := by decide +kernel
theorem dX10_group_116 : decode cX10_group 116 = .ok (.iastore, 1) := by decide +kernel
theorem dX10_group_117 : decode cX10_group 117 = .ok (.aload_n 0, 1) := by decide +kernel
theorem dX10_group_118 : decode cX10_group 118 = .ok (.getfield 93, 3) := by decide +kernel
theorem dX10_group_121 : decode cX10_group 121 = .ok (.iload_n 1, 1) := by decide +kernel
theorem dX10_group_122 : decode cX10_group 122 = .ok (.iload_n 3, 1) := by decide +kernel
theorem dX10_group_123 : decode cX10_group 123 = .ok (.iastore, 1) := by decide +kernel
theorem dX10_group_124 : decode cX10_group 124 = .ok (.aload_n 0, 1) := by decide +kernel
theorem dX10_group_125 : decode cX10_group 125 = .ok (.getfield 96, 3) := by decide +kernel
theorem dX10_group_128 : decode cX10_group 128 = .ok (.iload_n 1, 1) := by decide +kernel
theorem dX10_group_129 : decode cX10_group 129 = .ok (.iload 4, 2) := by decide +kernel
theorem dX10_group_131 : decode cX10_group 131 = .ok (.iastore, 1) := by decide +kernel
theorem dX10_group_132 : decode cX10_group 132 = .ok (.iconst 1, 1) := by decide +kernel
theorem dX10_group_133 : decode cX10_group 133 = .ok (.ireturn, 1) := by decide +kernel
theorem dX10_isChild_0 : decode cX10_isChild 0 = .ok (.iload_n 1, 1) := by decide +kernel
theorem dX10_isChild_1 : decode cX10_isChild 1 = .ok (.i2l, 1) := by decide +kernel
theorem dX10_isChild_2 : decode cX10_isChild 2 = .ok (.lconst 0, 1) := by decide +kernel
theorem dX10_isChild_3 : decode cX10_isChild 3 = .ok (.aload_n 0, 1) := by decide +kernel
theorem dX10_isChild_4 : decode cX10_isChild 4 = .ok (.getfield 223, 3) := by decide +kernel
theorem dX10_isChild_7 : decode cX10_isChild 7 = .ok (.iconst 1, 1) := by decide +kernel
theorem dX10_isChild_8 : decode cX10_isChild 8 = .ok (.isub, 1) := by decide +kernel
theorem dX10_isChild_9 : decode cX10_isChild 9 = .ok (.i2l, 1) := by decide +kernel
theorem dX10_isChild_10 : decode cX10_isChild 10 = .ok (.invokestatic 132, 3) := by decide +kernel
theorem dX10_isChild_13 : decode cX10_isChild 13 = .ok (.ireturn, 1) := by decide +kernel
theorem dX10_child_0 : decode cX10_child 0 = .ok (.aload_n 0, 1) := by decide +kernel
theorem dX10_child_1 : decode cX10_child 1 = .ok (.iload_n 1, 1) := by decide +kernel
theorem dX10_child_2 : decode cX10_child 2 = .ok (.invokevirtual 151, 3) := by decide +kernel
theorem dX10_child_5 : decode cX10_child 5 = .ok (.ifCond .eq 15, 3) := by decide +kernel
theorem dX10_child_8 : decode cX10_child 8 = .ok (.iload_n 2, 1) := by decide +kernel
theorem dX10_child_9 : decode cX10_child 9 = .ok (.i2l, 1) := by decide +kernel
theorem dX10_child_10 : decode cX10_child 10 = .ok (.lconst 0, 1) := by decide +kernel
theorem dX10_child_11 : decode cX10_child 11 = .ok (.ldc2_w 228, 3) := by decide +kernel
theorem dX10_child_14 : decode cX10_child 14 = .ok (.invokestatic 132, 3) := by decide +kernel
theorem dX10_child_17 : decode cX10_child 17 = .ok (.ifCond .ne 6, 3) := by decide +kernel
theorem dX10_child_20 : decode cX10_child 20 = .ok (.bipush (-2), 2) := by decide +kernel
theorem dX10_child_22 : decode cX10_child 22 = .ok (.ireturn, 1) := by decide +kernel
theorem dX10_child_23 : decode cX10_child 23 = .ok (.iconst 0, 1) := by decide +kernel
theorem dX10_child_24 : decode cX10_child 24 = .ok (.istore_n 3, 1) := by decide +kernel
theorem dX10_child_25 : decode cX10_child 25 = .ok (.iconst 0, 1) := by decide +kernel
theorem dX10_child_26 : decode cX10_child 26 = .ok (.istore 4, 2) := by decide +kernel
theorem dX10_child_28 : decode cX10_child 28 = .ok (.iload 4, 2) := by decide +kernel
theorem dX10_child_30 : decode cX10_child 30 = .ok (.aload_n 0, 1) := by decide +kernel
theorem dX10_child_31 : decode cX10_child 31 = .ok (.getfield 223, 3) := by decide +kernel
theorem dX10_child_34 : decode cX10_child 34 = .ok (.if_icmp .ge 28, 3) := by decide +kernel
theorem dX10_child_37 : decode cX10_child 37 = .ok (.iload_n 3, 1) := by decide +kernel
theorem dX10_child_38 : decode cX10_child 38 = .ok (.aload_n 0, 1) := by decide +kernel
theorem dX10_child_39 : decode cX10_child 39 = .ok (.getfield 99, 3) := by decide +kernel
theorem dX10_child_42 : decode cX10_child 42 = .ok (.iload 4, 2) := by decide +kernel
theorem dX10_child_44 : decode cX10_child 44 = .ok (.iaload, 1) := by decide +kernel
theorem dX10_child_45 : decode cX10_child 45 = .ok (.iload_n 1, 1) := by decide +kernel
theorem dX10_child_46 : decode cX10_child 46 = .ok (.if_icmp .ne 7, 3) := by decide +kernel
theorem dX10_child_49 : decode cX10_child 49 = .ok (.iconst 1, 1) := by decide +kernel
theorem dX10_child_50 : decode cX10_child 50 = .ok (.goto 4, 3) := by decide +kernel
theorem dX10_child_53 : decode cX10_child 53 = .ok (.iconst 0, 1) := by decide +kernel
theorem dX10_child_54 : decode cX10_child 54 = .ok (.iadd, 1) := by decide +kernel
theorem dX10_child_55 : decode cX10_child 55 = .ok (.istore_n 3, 1) := by decide +kernel
theorem dX10_child_56 : decode cX10_child 56 = .ok (.iinc 4 1, 3) := by decide +kernel
theorem dX10_child_59 : decode cX10_child 59 = .ok (.goto (-31), 3) := by decide +kernel
theorem dX10_child_62 : decode cX10_child 62 = .ok (.aload_n 0, 1) := by decide +kernel
theorem dX10_child_63 : decode cX10_child 63 = .ok (.getfield 223, 3) := by decide +kernel
theorem dX10_child_66 : decode cX10_child 66 = .ok (.bipush 40, 2) := by decide +kernel
theorem dX10_child_68 : decode cX10_child 68 = .ok (.if_icmp .eq 13, 3) := by decide +kernel
theorem dX10_child_71 : decode cX10_child 71 = .ok (.iload_n 3, 1) := by decide +kernel
theorem dX10_child_72 : decode cX10_child 72 = .ok (.aload_n 0, 1) := by decide +kernel
theorem dX10_child_73 : decode cX10_child 73 = .ok (.getfield 19, 3) := by decide +kernel
theorem dX10_child_76 : decode cX10_child 76 = .ok (.iload_n 1, 1) := by decide +kernel
theorem dX10_child_77 : decode cX10_child 77 = .ok (.iaload, 1) := by decide +kernel
theorem dX10_child_78 : decode cX10_child 78 = .ok (.if_icmp .ne 6, 3) := by decide +kernel
theorem dX10_child_81 : decode cX10_child 81 = .ok (.bipush (-4), 2) := by decide +kernel
theorem dX10_child_83 : decode cX10_child 83 = .ok (.ireturn, 1) := by decide +kernel
theorem dX10_child_84 : decode cX10_child 84 = .ok (.aload_n 0, 1) := by decide +kernel
theorem dX10_child_85 : decode cX10_child 85 = .ok (.getfield 99, 3) := by decide +kernel
theorem dX10_child_88 : decode cX10_child 88 = .ok (.aload_n 0, 1) := by decide +kernel
theorem dX10_child_89 : decode cX10_child 89 = .ok (.getfield 223, 3) := by decide +kernel
theorem dX10_child_92 : decode cX10_child 92 = .ok (.iload_n 1, 1) := by decide +kernel
theorem dX10_child_93 : decode cX10_child 93 = .ok (.iastore, 1) := by decide +kernel
theorem dX10_child_94 : decode cX10_child 94 = .ok (.aload_n 0, 1) := by decide +kernel
theorem dX10_child_95 : decode cX10_child 95 = .ok (.getfield 102, 3) := by decide +kernel
theorem dX10_child_98 : decode cX10_child 98 = .ok (.aload_n 0, 1) := by decide +kernel
theorem dX10_child_99 : decode cX10_child 99 = .ok (.getfield 223, 3) := by decide +kernel
theorem dX10_child_102 : decode cX10_child 102 = .ok (.iload_n 2, 1) := by decide +kernel
theorem dX10_child_103 : decode cX10_child 103 = .ok (.iastore, 1) := by decide +kernel
theorem dX10_child_104 : decode cX10_child 104 = .ok (.aload_n 0, 1) := by decide +kernel
theorem dX10_child_105 : decode cX10_child 105 = .ok (.getfield 105, 3) := by decide +kernel
theorem dX10_child_108 : decode cX10_child 108 = .ok (.aload_n 0, 1) := by decide +kernel
theorem dX10_child_109 : decode cX10_child 109 = .ok (.getfield 223, 3) := by decide +kernel
theorem dX10_child_112 : decode cX10_child 112 = .ok (.iconst (-1), 1) := by decide +kernel
theorem dX10_child_113 : decode cX10_child 113 = .ok (.iastore, 1) := by decide +kernel
theorem dX10_child_114 : decode cX10_child 114 = .ok (.aload_n 0, 1) := by decide +kernel
theorem dX10_child_115 : decode cX10_child 115 = .ok (.dup, 1) := by decide +kernel
theorem dX10_child_116 : decode cX10_child 116 = .ok (.getfield 223, 3) := by decide +kernel
theorem dX10_child_119 : decode cX10_child 119 = .ok (.iconst 1, 1) := by decide +kernel
theorem dX10_child_120 : decode cX10_child 120 = .ok (.iadd, 1) := by decide +kernel
theorem dX10_child_121 : decode cX10_child 121 = .ok (.putfield 223, 3) := by decide +kernel
theorem dX10_child_124 : decode cX10_child 124 = .ok (.aload_n 0, 1) := by decide +kernel
theorem dX10_child_125 : decode cX10_child 125 = .ok (.getfield 223, 3) := by decide +kernel
theorem dX10_child_128 : decode cX10_child 128 = .ok (.iconst 1, 1) := by decide +kernel
theorem dX10_child_129 : decode cX10_child 129 = .ok (.isub, 1) := by decide +kernel
theorem dX10_child_130 : decode cX10_child 130 = .ok (.ireturn, 1) := by decide +kernel
theorem dX10_hand_0 : decode cX10_hand 0 = .ok (.aload_n 0, 1) := by decide +kernel
theorem dX10_hand_1 : decode cX10_hand 1 = .ok (.iload_n 1, 1) := by decide +kernel
theorem dX10_hand_2 : decode cX10_hand 2 = .ok (.invokevirtual 235, 3) := by decide +kernel
theorem dX10_hand_5 : decode cX10_hand 5 = .ok (.ifCond .ne 6, 3) := by decide +kernel
theorem dX10_hand_8 : decode cX10_hand 8 = .ok (.bipush (-2), 2) := by decide +kernel
theorem dX10_hand_10 : decode cX10_hand 10 = .ok (.ireturn, 1) := by decide +kernel
theorem dX10_hand_11 : decode cX10_hand 11 = .ok (.iconst (-1), 1) := by decide +kernel
theorem dX10_hand_12 : decode cX10_hand 12 = .ok (.istore_n 2, 1) := by decide +kernel
theorem dX10_hand_13 : decode cX10_hand 13 = .ok (.iconst 0, 1) := by decide +kernel
theorem dX10_hand_14 : decode cX10_hand 14 = .ok (.istore_n 3, 1) := by decide +kernel
theorem dX10_hand_15 : decode cX10_hand 15 = .ok (.iload_n 3, 1) := by decide +kernel
theorem dX10_hand_16 : decode cX10_hand 16 = .ok (.iconst 4, 1) := by decide +kernel
theorem dX10_hand_17 : decode cX10_hand 17 = .ok (.if_icmp .ge 42, 3) := by decide +kernel
theorem dX10_hand_20 : decode cX10_hand 20 = .ok (.aload_n 0, 1) := by decide +kernel
theorem dX10_hand_21 : decode cX10_hand 21 = .ok (.getfield 102, 3) := by decide +kernel
theorem dX10_hand_24 : decode cX10_hand 24 = .ok (.iload_n 1, 1) := by decide +kernel
theorem dX10_hand_25 : decode cX10_hand 25 = .ok (.iaload, 1) := by decide +kernel
theorem dX10_hand_26 : decode cX10_hand 26 = .ok (.i2l, 1) := by decide +kernel
theorem dX10_hand_27 : decode cX10_hand 27 = .ok (.aload_n 0, 1) := by decide +kernel
theorem dX10_hand_28 : decode cX10_hand 28 = .ok (.getfield 90, 3) := by decide +kernel
theorem dX10_hand_31 : decode cX10_hand 31 = .ok (.iload_n 3, 1) := by decide +kernel
theorem dX10_hand_32 : decode cX10_hand 32 = .ok (.iaload, 1) := by decide +kernel
theorem dX10_hand_33 : decode cX10_hand 33 = .ok (.i2l, 1) := by decide +kernel
theorem dX10_hand_34 : decode cX10_hand 34 = .ok (.aload_n 0, 1) := by decide +kernel
theorem dX10_hand_35 : decode cX10_hand 35 = .ok (.getfield 93, 3) := by decide +kernel
theorem dX10_hand_38 : decode cX10_hand 38 = .ok (.iload_n 3, 1) := by decide +kernel
theorem dX10_hand_39 : decode cX10_hand 39 = .ok (.iaload, 1) := by decide +kernel
theorem dX10_hand_40 : decode cX10_hand 40 = .ok (.i2l, 1) := by decide +kernel
theorem dX10_hand_41 : decode cX10_hand 41 = .ok (.invokestatic 132, 3) := by decide +kernel
theorem dX10_hand_44 : decode cX10_hand 44 = .ok (.ifCond .eq 7, 3) := by decide +kernel
theorem dX10_hand_47 : decode cX10_hand 47 = .ok (.iload_n 3, 1) := by decide +kernel
theorem dX10_hand_48 : decode cX10_hand 48 = .ok (.goto 4, 3) := by decide +kernel
theorem dX10_hand_51 : decode cX10_hand 51 = .ok (.iload_n 2, 1) := by decide +kernel
theorem dX10_hand_52 : decode cX10_hand 52 = .ok (.istore_n 2, 1) := by decide +kernel
theorem dX10_hand_53 : decode cX10_hand 53 = .ok (.iinc 3 1, 3) := by decide +kernel
theorem dX10_hand_56 : decode cX10_hand 56 = .ok (.goto (-41), 3) := by decide +kernel
theorem dX10_hand_59 : decode cX10_hand 59 = .ok (.iload_n 2, 1) := by decide +kernel
theorem dX10_hand_60 : decode cX10_hand 60 = .ok (.iconst (-1), 1) := by decide +kernel
theorem dX10_hand_61 : decode cX10_hand 61 = .ok (.if_icmp .eq 13, 3) := by decide +kernel
theorem dX10_hand_64 : decode cX10_hand 64 = .ok (.aload_n 0, 1) := by decide +kernel
theorem dX10_hand_65 : decode cX10_hand 65 = .ok (.getfield 105, 3) := by decide +kernel
theorem dX10_hand_68 : decode cX10_hand 68 = .ok (.iload_n 1, 1) := by decide +kernel
theorem dX10_hand_69 : decode cX10_hand 69 = .ok (.iaload, 1) := by decide +kernel
theorem dX10_hand_70 : decode cX10_hand 70 = .ok (.iconst (-1), 1) := by decide +kernel
theorem dX10_hand_71 : decode cX10_hand 71 = .ok (.if_icmp .eq 6, 3) := by decide +kernel
theorem dX10_hand_74 : decode cX10_hand 74 = .ok (.bipush (-3), 2) := by decide +kernel
theorem dX10_hand_76 : decode cX10_hand 76 = .ok (.ireturn, 1) := by decide +kernel
theorem dX10_hand_77 : decode cX10_hand 77 = .ok (.aload_n 0, 1) := by decide +kernel
theorem dX10_hand_78 : decode cX10_hand 78 = .ok (.iload_n 2, 1) := by decide +kernel
theorem dX10_hand_79 : decode cX10_hand 79 = .ok (.invokevirtual 232, 3) := by decide +kernel
theorem dX10_hand_82 : decode cX10_hand 82 = .ok (.aload_n 0, 1) := by decide +kernel
theorem dX10_hand_83 : decode cX10_hand 83 = .ok (.getfield 96, 3) := by decide +kernel
theorem dX10_hand_86 : decode cX10_hand 86 = .ok (.iload_n 2, 1) := by decide +kernel
theorem dX10_hand_87 : decode cX10_hand 87 = .ok (.iaload, 1) := by decide +kernel
theorem dX10_hand_88 : decode cX10_hand 88 = .ok (.if_icmp .lt 6, 3) := by decide +kernel
theorem dX10_hand_91 : decode cX10_hand 91 = .ok (.bipush (-4), 2) := by decide +kernel
theorem dX10_hand_93 : decode cX10_hand 93 = .ok (.ireturn, 1) := by decide +kernel
theorem dX10_hand_94 : decode cX10_hand 94 = .ok (.aload_n 0, 1) := by decide +kernel
theorem dX10_hand_95 : decode cX10_hand 95 = .ok (.getfield 105, 3) := by decide +kernel
theorem dX10_hand_98 : decode cX10_hand 98 = .ok (.iload_n 1, 1) := by decide +kernel
theorem dX10_hand_99 : decode cX10_hand 99 = .ok (.iload_n 2, 1) := by decide +kernel
theorem dX10_hand_100 : decode cX10_hand 100 = .ok (.iastore, 1) := by decide +kernel
theorem dX10_hand_101 : decode cX10_hand 101 = .ok (.iload_n 2, 1) := by decide +kernel
theorem dX10_hand_102 : decode cX10_hand 102 = .ok (.ireturn, 1) := by decide +kernel
theorem dX10_fetch_0 : decode cX10_fetch 0 = .ok (.aload_n 0, 1) := by decide +kernel
theorem dX10_fetch_1 : decode cX10_fetch 1 = .ok (.iload_n 1, 1) := by decide +kernel
theorem dX10_fetch_2 : decode cX10_fetch 2 = .ok (.invokevirtual 235, 3) := by decide +kernel
theorem dX10_fetch_5 : decode cX10_fetch 5 = .ok (.ifCond .eq 11, 3) := by decide +kernel
theorem dX10_fetch_8 : decode cX10_fetch 8 = .ok (.aload_n 0, 1) := by decide +kernel
theorem dX10_fetch_9 : decode cX10_fetch 9 = .ok (.iload_n 2, 1) := by decide +kernel
theorem dX10_fetch_10 : decode cX10_fetch 10 = .ok (.invokevirtual 151, 3) := by decide +kernel
theorem dX10_fetch_13 : decode cX10_fetch 13 = .ok (.ifCond .ne 6, 3) := by decide +kernel
theorem dX10_fetch_16 : decode cX10_fetch 16 = .ok (.bipush (-2), 2) := by decide +kernel
theorem dX10_fetch_18 : decode cX10_fetch 18 = .ok (.ireturn, 1) := by decide +kernel
theorem dX10_fetch_19 : decode cX10_fetch 19 = .ok (.aload_n 0, 1) := by decide +kernel
theorem dX10_fetch_20 : decode cX10_fetch 20 = .ok (.getfield 105, 3) := by decide +kernel
theorem dX10_fetch_23 : decode cX10_fetch 23 = .ok (.iload_n 1, 1) := by decide +kernel
theorem dX10_fetch_24 : decode cX10_fetch 24 = .ok (.iaload, 1) := by decide +kernel
theorem dX10_fetch_25 : decode cX10_fetch 25 = .ok (.iconst (-1), 1) := by decide +kernel
theorem dX10_fetch_26 : decode cX10_fetch 26 = .ok (.if_icmp .eq 13, 3) := by decide +kernel
theorem dX10_fetch_29 : decode cX10_fetch 29 = .ok (.aload_n 0, 1) := by decide +kernel
theorem dX10_fetch_30 : decode cX10_fetch 30 = .ok (.getfield 99, 3) := by decide +kernel
theorem dX10_fetch_33 : decode cX10_fetch 33 = .ok (.iload_n 1, 1) := by decide +kernel
theorem dX10_fetch_34 : decode cX10_fetch 34 = .ok (.iaload, 1) := by decide +kernel
theorem dX10_fetch_35 : decode cX10_fetch 35 = .ok (.iload_n 2, 1) := by decide +kernel
theorem dX10_fetch_36 : decode cX10_fetch 36 = .ok (.if_icmp .eq 6, 3) := by decide +kernel
theorem dX10_fetch_39 : decode cX10_fetch 39 = .ok (.bipush (-3), 2) := by decide +kernel
theorem dX10_fetch_41 : decode cX10_fetch 41 = .ok (.ireturn, 1) := by decide +kernel
theorem dX10_fetch_42 : decode cX10_fetch 42 = .ok (.aload_n 0, 1) := by decide +kernel
theorem dX10_fetch_43 : decode cX10_fetch 43 = .ok (.getfield 105, 3) := by decide +kernel
theorem dX10_fetch_46 : decode cX10_fetch 46 = .ok (.iload_n 1, 1) := by decide +kernel
theorem dX10_fetch_47 : decode cX10_fetch 47 = .ok (.iconst (-1), 1) := by decide +kernel
theorem dX10_fetch_48 : decode cX10_fetch 48 = .ok (.iastore, 1) := by decide +kernel
theorem dX10_fetch_49 : decode cX10_fetch 49 = .ok (.iconst 1, 1) := by decide +kernel
theorem dX10_fetch_50 : decode cX10_fetch 50 = .ok (.ireturn, 1) := by decide +kernel
theorem dX10_with_0 : decode cX10_with 0 = .ok (.aload_n 0, 1) := by decide +kernel
theorem dX10_with_1 : decode cX10_with 1 = .ok (.iload_n 1, 1) := by decide +kernel
theorem dX10_with_2 : decode cX10_with 2 = .ok (.invokevirtual 235, 3) := by decide +kernel
theorem dX10_with_5 : decode cX10_with 5 = .ok (.ifCond .eq 12, 3) := by decide +kernel
theorem dX10_with_8 : decode cX10_with 8 = .ok (.aload_n 0, 1) := by decide +kernel
theorem dX10_with_9 : decode cX10_with 9 = .ok (.getfield 105, 3) := by decide +kernel
theorem dX10_with_12 : decode cX10_with 12 = .ok (.iload_n 1, 1) := by decide +kernel
theorem dX10_with_13 : decode cX10_with 13 = .ok (.iaload, 1) := by decide +kernel
theorem dX10_with_14 : decode cX10_with 14 = .ok (.goto 5, 3) := by decide +kernel
theorem dX10_with_17 : decode cX10_with 17 = .ok (.bipush (-2), 2) := by decide +kernel
theorem dX10_with_19 : decode cX10_with 19 = .ok (.ireturn, 1) := by decide +kernel
theorem dX10_list_0 : decode cX10_list 0 = .ok (.iload_n 1, 1) := by decide +kernel
theorem dX10_list_1 : decode cX10_list 1 = .ok (.i2l, 1) := by decide +kernel
theorem dX10_list_2 : decode cX10_list 2 = .ok (.lconst 0, 1) := by decide +kernel
theorem dX10_list_3 : decode cX10_list 3 = .ok (.ldc2_w 238, 3) := by decide +kernel
theorem dX10_list_6 : decode cX10_list 6 = .ok (.invokestatic 132, 3) := by decide +kernel
theorem dX10_list_9 : decode cX10_list 9 = .ok (.ifCond .eq 27, 3) := by decide +kernel
theorem dX10_list_12 : decode cX10_list 12 = .ok (.iload_n 2, 1) := by decide +kernel
theorem dX10_list_13 : decode cX10_list 13 = .ok (.i2l, 1) := by decide +kernel
theorem dX10_list_14 : decode cX10_list 14 = .ok (.lconst 0, 1) := by decide +kernel
theorem dX10_list_15 : decode cX10_list 15 = .ok (.ldc2_w 240, 3) := by decide +kernel
theorem dX10_list_18 : decode cX10_list 18 = .ok (.invokestatic 132, 3) := by decide +kernel
theorem dX10_list_21 : decode cX10_list 21 = .ok (.ifCond .eq 15, 3) := by decide +kernel
theorem dX10_list_24 : decode cX10_list 24 = .ok (.iload_n 3, 1) := by decide +kernel
theorem dX10_list_25 : decode cX10_list 25 = .ok (.i2l, 1) := by decide +kernel
theorem dX10_list_26 : decode cX10_list 26 = .ok (.lconst 0, 1) := by decide +kernel
theorem dX10_list_27 : decode cX10_list 27 = .ok (.ldc2_w 242, 3) := by decide +kernel
theorem dX10_list_30 : decode cX10_list 30 = .ok (.invokestatic 132, 3) := by decide +kernel
theorem dX10_list_33 : decode cX10_list 33 = .ok (.ifCond .ne 6, 3) := by decide +kernel
theorem dX10_list_36 : decode cX10_list 36 = .ok (.bipush (-2), 2) := by decide +kernel
theorem dX10_list_38 : decode cX10_list 38 = .ok (.ireturn, 1) := by decide +kernel
theorem dX10_list_39 : decode cX10_list 39 = .ok (.aload_n 0, 1) := by decide +kernel
theorem dX10_list_40 : decode cX10_list 40 = .ok (.getfield 244, 3) := by decide +kernel
theorem dX10_list_43 : decode cX10_list 43 = .ok (.bipush 30, 2) := by decide +kernel
theorem dX10_list_45 : decode cX10_list 45 = .ok (.if_icmp .ne 6, 3) := by decide +kernel
theorem dX10_list_48 : decode cX10_list 48 = .ok (.bipush (-4), 2) := by decide +kernel
theorem dX10_list_50 : decode cX10_list 50 = .ok (.ireturn, 1) := by decide +kernel
theorem dX10_list_51 : decode cX10_list 51 = .ok (.aload_n 0, 1) := by decide +kernel
theorem dX10_list_52 : decode cX10_list 52 = .ok (.getfield 108, 3) := by decide +kernel
theorem dX10_list_55 : decode cX10_list 55 = .ok (.aload_n 0, 1) := by decide +kernel
theorem dX10_list_56 : decode cX10_list 56 = .ok (.getfield 244, 3) := by decide +kernel
theorem dX10_list_59 : decode cX10_list 59 = .ok (.iload_n 1, 1) := by decide +kernel
theorem dX10_list_60 : decode cX10_list 60 = .ok (.iastore, 1) := by decide +kernel
theorem dX10_list_61 : decode cX10_list 61 = .ok (.aload_n 0, 1) := by decide +kernel
theorem dX10_list_62 : decode cX10_list 62 = .ok (.getfield 111, 3) := by decide +kernel
theorem dX10_list_65 : decode cX10_list 65 = .ok (.aload_n 0, 1) := by decide +kernel
theorem dX10_list_66 : decode cX10_list 66 = .ok (.getfield 244, 3) := by decide +kernel
theorem dX10_list_69 : decode cX10_list 69 = .ok (.iload_n 2, 1) := by decide +kernel
theorem dX10_list_70 : decode cX10_list 70 = .ok (.iastore, 1) := by decide +kernel
theorem dX10_list_71 : decode cX10_list 71 = .ok (.aload_n 0, 1) := by decide +kernel
theorem dX10_list_72 : decode cX10_list 72 = .ok (.getfield 114, 3) := by decide +kernel
theorem dX10_list_75 : decode cX10_list 75 = .ok (.aload_n 0, 1) := by decide +kernel
theorem dX10_list_76 : decode cX10_list 76 = .ok (.getfield 244, 3) := by decide +kernel
theorem dX10_list_79 : decode cX10_list 79 = .ok (.iload_n 3, 1) := by decide +kernel
theorem dX10_list_80 : decode cX10_list 80 = .ok (.iastore, 1) := by decide +kernel
theorem dX10_list_81 : decode cX10_list 81 = .ok (.aload_n 0, 1) := by decide +kernel
theorem dX10_list_82 : decode cX10_list 82 = .ok (.dup, 1) := by decide +kernel
theorem dX10_list_83 : decode cX10_list 83 = .ok (.getfield 244, 3) := by decide +kernel
theorem dX10_list_86 : decode cX10_list 86 = .ok (.iconst 1, 1) := by decide +kernel
theorem dX10_list_87 : decode cX10_list 87 = .ok (.iadd, 1) := by decide +kernel
theorem dX10_list_88 : decode cX10_list 88 = .ok (.putfield 244, 3) := by decide +kernel
theorem dX10_list_91 : decode cX10_list 91 = .ok (.aload_n 0, 1) := by decide +kernel
theorem dX10_list_92 : decode cX10_list 92 = .ok (.getfield 244, 3) := by decide +kernel
theorem dX10_list_95 : decode cX10_list 95 = .ok (.ireturn, 1) := by decide +kernel
theorem dX10_pays_0 : decode cX10_pays 0 = .ok (.iload_n 1, 1) := by decide +kernel
theorem dX10_pays_1 : decode cX10_pays 1 = .ok (.i2l, 1) := by decide +kernel
theorem dX10_pays_2 : decode cX10_pays 2 = .ok (.lconst 0, 1) := by decide +kernel
theorem dX10_pays_3 : decode cX10_pays 3 = .ok (.ldc2_w 238, 3) := by decide +kernel
theorem dX10_pays_6 : decode cX10_pays 6 = .ok (.invokestatic 132, 3) := by decide +kernel
theorem dX10_pays_9 : decode cX10_pays 9 = .ok (.ifCond .eq 15, 3) := by decide +kernel
end
section
theorem dX10_pays_12 : decode cX10_pays 12 = .ok (.iload_n 2, 1) := by decide +kernel
theorem dX10_pays_13 : decode cX10_pays 13 = .ok (.i2l, 1) := by decide +kernel
theorem dX10_pays_14 : decode cX10_pays 14 = .ok (.lconst 0, 1) := by decide +kernel
theorem dX10_pays_15 : decode cX10_pays 15 = .ok (.ldc2_w 238, 3) := by decide +kernel
theorem dX10_pays_18 : decode cX10_pays 18 = .ok (.invokestatic 132, 3) := by decide +kernel
theorem dX10_pays_21 : decode cX10_pays 21 = .ok (.ifCond .ne 6, 3) := by decide +kernel
theorem dX10_pays_24 : decode cX10_pays 24 = .ok (.bipush (-2), 2) := by decide +kernel
theorem dX10_pays_26 : decode cX10_pays 26 = .ok (.ireturn, 1) := by decide +kernel
theorem dX10_pays_27 : decode cX10_pays 27 = .ok (.iconst (-1), 1) := by decide +kernel
theorem dX10_pays_28 : decode cX10_pays 28 = .ok (.istore_n 3, 1) := by decide +kernel
theorem dX10_pays_29 : decode cX10_pays 29 = .ok (.iconst 0, 1) := by decide +kernel
theorem dX10_pays_30 : decode cX10_pays 30 = .ok (.istore 4, 2) := by decide +kernel
theorem dX10_pays_32 : decode cX10_pays 32 = .ok (.iload 4, 2) := by decide +kernel
theorem dX10_pays_34 : decode cX10_pays 34 = .ok (.aload_n 0, 1) := by decide +kernel
theorem dX10_pays_35 : decode cX10_pays 35 = .ok (.getfield 244, 3) := by decide +kernel
theorem dX10_pays_38 : decode cX10_pays 38 = .ok (.if_icmp .ge 43, 3) := by decide +kernel
theorem dX10_pays_41 : decode cX10_pays 41 = .ok (.aload_n 0, 1) := by decide +kernel
theorem dX10_pays_42 : decode cX10_pays 42 = .ok (.getfield 108, 3) := by decide +kernel
theorem dX10_pays_45 : decode cX10_pays 45 = .ok (.iload 4, 2) := by decide +kernel
theorem dX10_pays_47 : decode cX10_pays 47 = .ok (.iaload, 1) := by decide +kernel
theorem dX10_pays_48 : decode cX10_pays 48 = .ok (.iload_n 1, 1) := by decide +kernel
theorem dX10_pays_49 : decode cX10_pays 49 = .ok (.if_icmp .gt 24, 3) := by decide +kernel
theorem dX10_pays_52 : decode cX10_pays 52 = .ok (.aload_n 0, 1) := by decide +kernel
theorem dX10_pays_53 : decode cX10_pays 53 = .ok (.getfield 108, 3) := by decide +kernel
theorem dX10_pays_56 : decode cX10_pays 56 = .ok (.iload 4, 2) := by decide +kernel
theorem dX10_pays_58 : decode cX10_pays 58 = .ok (.iaload, 1) := by decide +kernel
theorem dX10_pays_59 : decode cX10_pays 59 = .ok (.iload_n 3, 1) := by decide +kernel
theorem dX10_pays_60 : decode cX10_pays 60 = .ok (.if_icmp .le 13, 3) := by decide +kernel
theorem dX10_pays_63 : decode cX10_pays 63 = .ok (.aload_n 0, 1) := by decide +kernel
theorem dX10_pays_64 : decode cX10_pays 64 = .ok (.getfield 108, 3) := by decide +kernel
theorem dX10_pays_67 : decode cX10_pays 67 = .ok (.iload 4, 2) := by decide +kernel
theorem dX10_pays_69 : decode cX10_pays 69 = .ok (.iaload, 1) := by decide +kernel
theorem dX10_pays_70 : decode cX10_pays 70 = .ok (.goto 4, 3) := by decide +kernel
theorem dX10_pays_73 : decode cX10_pays 73 = .ok (.iload_n 3, 1) := by decide +kernel
theorem dX10_pays_74 : decode cX10_pays 74 = .ok (.istore_n 3, 1) := by decide +kernel
theorem dX10_pays_75 : decode cX10_pays 75 = .ok (.iinc 4 1, 3) := by decide +kernel
theorem dX10_pays_78 : decode cX10_pays 78 = .ok (.goto (-46), 3) := by decide +kernel
theorem dX10_pays_81 : decode cX10_pays 81 = .ok (.iconst 0, 1) := by decide +kernel
theorem dX10_pays_82 : decode cX10_pays 82 = .ok (.istore 4, 2) := by decide +kernel
theorem dX10_pays_84 : decode cX10_pays 84 = .ok (.iconst 0, 1) := by decide +kernel
theorem dX10_pays_85 : decode cX10_pays 85 = .ok (.istore 5, 2) := by decide +kernel
theorem dX10_pays_87 : decode cX10_pays 87 = .ok (.iload 5, 2) := by decide +kernel
theorem dX10_pays_89 : decode cX10_pays 89 = .ok (.aload_n 0, 1) := by decide +kernel
theorem dX10_pays_90 : decode cX10_pays 90 = .ok (.getfield 244, 3) := by decide +kernel
theorem dX10_pays_93 : decode cX10_pays 93 = .ok (.if_icmp .ge 69, 3) := by decide +kernel
theorem dX10_pays_96 : decode cX10_pays 96 = .ok (.aload_n 0, 1) := by decide +kernel
theorem dX10_pays_97 : decode cX10_pays 97 = .ok (.getfield 108, 3) := by decide +kernel
theorem dX10_pays_100 : decode cX10_pays 100 = .ok (.iload 5, 2) := by decide +kernel
theorem dX10_pays_102 : decode cX10_pays 102 = .ok (.iaload, 1) := by decide +kernel
theorem dX10_pays_103 : decode cX10_pays 103 = .ok (.iload_n 3, 1) := by decide +kernel
theorem dX10_pays_104 : decode cX10_pays 104 = .ok (.if_icmp .ne 18, 3) := by decide +kernel
theorem dX10_pays_107 : decode cX10_pays 107 = .ok (.aload_n 0, 1) := by decide +kernel
theorem dX10_pays_108 : decode cX10_pays 108 = .ok (.getfield 111, 3) := by decide +kernel
theorem dX10_pays_111 : decode cX10_pays 111 = .ok (.iload 5, 2) := by decide +kernel
theorem dX10_pays_113 : decode cX10_pays 113 = .ok (.iaload, 1) := by decide +kernel
theorem dX10_pays_114 : decode cX10_pays 114 = .ok (.iload_n 2, 1) := by decide +kernel
theorem dX10_pays_115 : decode cX10_pays 115 = .ok (.if_icmp .gt 7, 3) := by decide +kernel
theorem dX10_pays_118 : decode cX10_pays 118 = .ok (.iconst 1, 1) := by decide +kernel
theorem dX10_pays_119 : decode cX10_pays 119 = .ok (.goto 4, 3) := by decide +kernel
theorem dX10_pays_122 : decode cX10_pays 122 = .ok (.iconst 0, 1) := by decide +kernel
theorem dX10_pays_123 : decode cX10_pays 123 = .ok (.istore 6, 2) := by decide +kernel
theorem dX10_pays_125 : decode cX10_pays 125 = .ok (.iload 6, 2) := by decide +kernel
theorem dX10_pays_127 : decode cX10_pays 127 = .ok (.ifCond .eq 25, 3) := by decide +kernel
theorem dX10_pays_130 : decode cX10_pays 130 = .ok (.aload_n 0, 1) := by decide +kernel
theorem dX10_pays_131 : decode cX10_pays 131 = .ok (.getfield 114, 3) := by decide +kernel
theorem dX10_pays_134 : decode cX10_pays 134 = .ok (.iload 5, 2) := by decide +kernel
theorem dX10_pays_136 : decode cX10_pays 136 = .ok (.iaload, 1) := by decide +kernel
theorem dX10_pays_137 : decode cX10_pays 137 = .ok (.iload 4, 2) := by decide +kernel
theorem dX10_pays_139 : decode cX10_pays 139 = .ok (.if_icmp .le 13, 3) := by decide +kernel
theorem dX10_pays_142 : decode cX10_pays 142 = .ok (.aload_n 0, 1) := by decide +kernel
theorem dX10_pays_143 : decode cX10_pays 143 = .ok (.getfield 114, 3) := by decide +kernel
theorem dX10_pays_146 : decode cX10_pays 146 = .ok (.iload 5, 2) := by decide +kernel
theorem dX10_pays_148 : decode cX10_pays 148 = .ok (.iaload, 1) := by decide +kernel
theorem dX10_pays_149 : decode cX10_pays 149 = .ok (.goto 5, 3) := by decide +kernel
theorem dX10_pays_152 : decode cX10_pays 152 = .ok (.iload 4, 2) := by decide +kernel
theorem dX10_pays_154 : decode cX10_pays 154 = .ok (.istore 4, 2) := by decide +kernel
theorem dX10_pays_156 : decode cX10_pays 156 = .ok (.iinc 5 1, 3) := by decide +kernel
theorem dX10_pays_159 : decode cX10_pays 159 = .ok (.goto (-72), 3) := by decide +kernel
theorem dX10_pays_162 : decode cX10_pays 162 = .ok (.iload 4, 2) := by decide +kernel
theorem dX10_pays_164 : decode cX10_pays 164 = .ok (.ireturn, 1) := by decide +kernel
theorem dX10_met_0 : decode cX10_met 0 = .ok (.aload_n 0, 1) := by decide +kernel
theorem dX10_met_1 : decode cX10_met 1 = .ok (.iload_n 1, 1) := by decide +kernel
theorem dX10_met_2 : decode cX10_met 2 = .ok (.putfield 247, 3) := by decide +kernel
theorem dX10_met_5 : decode cX10_met 5 = .ok (.bipush (-10), 2) := by decide +kernel
theorem dX10_met_7 : decode cX10_met 7 = .ok (.iload_n 1, 1) := by decide +kernel
theorem dX10_met_8 : decode cX10_met 8 = .ok (.isub, 1) := by decide +kernel
theorem dX10_met_9 : decode cX10_met 9 = .ok (.ireturn, 1) := by decide +kernel
theorem dX10_isSheet_0 : decode cX10_isSheet 0 = .ok (.iload_n 0, 1) := by decide +kernel
theorem dX10_isSheet_1 : decode cX10_isSheet 1 = .ok (.i2l, 1) := by decide +kernel
theorem dX10_isSheet_2 : decode cX10_isSheet 2 = .ok (.lconst 0, 1) := by decide +kernel
theorem dX10_isSheet_3 : decode cX10_isSheet 3 = .ok (.ldc2_w 226, 3) := by decide +kernel
theorem dX10_isSheet_6 : decode cX10_isSheet 6 = .ok (.invokestatic 132, 3) := by decide +kernel
theorem dX10_isSheet_9 : decode cX10_isSheet 9 = .ok (.ireturn, 1) := by decide +kernel
theorem dX10_sheet_0 : decode cX10_sheet 0 = .ok (.iload_n 1, 1) := by decide +kernel
theorem dX10_sheet_1 : decode cX10_sheet 1 = .ok (.invokestatic 250, 3) := by decide +kernel
theorem dX10_sheet_4 : decode cX10_sheet 4 = .ok (.ifCond .eq 21, 3) := by decide +kernel
theorem dX10_sheet_7 : decode cX10_sheet 7 = .ok (.iload_n 2, 1) := by decide +kernel
theorem dX10_sheet_8 : decode cX10_sheet 8 = .ok (.i2l, 1) := by decide +kernel
theorem dX10_sheet_9 : decode cX10_sheet 9 = .ok (.lconst 0, 1) := by decide +kernel
theorem dX10_sheet_10 : decode cX10_sheet 10 = .ok (.ldc2_w 154, 3) := by decide +kernel
theorem dX10_sheet_13 : decode cX10_sheet 13 = .ok (.invokestatic 132, 3) := by decide +kernel
theorem dX10_sheet_16 : decode cX10_sheet 16 = .ok (.ifCond .eq 9, 3) := by decide +kernel
theorem dX10_sheet_19 : decode cX10_sheet 19 = .ok (.iload_n 3, 1) := by decide +kernel
theorem dX10_sheet_20 : decode cX10_sheet 20 = .ok (.bipush 60, 2) := by decide +kernel
theorem dX10_sheet_22 : decode cX10_sheet 22 = .ok (.if_icmp .le 6, 3) := by decide +kernel
theorem dX10_sheet_25 : decode cX10_sheet 25 = .ok (.bipush (-2), 2) := by decide +kernel
theorem dX10_sheet_27 : decode cX10_sheet 27 = .ok (.ireturn, 1) := by decide +kernel
theorem dX10_sheet_28 : decode cX10_sheet 28 = .ok (.iload_n 3, 1) := by decide +kernel
theorem dX10_sheet_29 : decode cX10_sheet 29 = .ok (.ifCond .ge 9, 3) := by decide +kernel
theorem dX10_sheet_32 : decode cX10_sheet 32 = .ok (.aload_n 0, 1) := by decide +kernel
theorem dX10_sheet_33 : decode cX10_sheet 33 = .ok (.iconst 5, 1) := by decide +kernel
theorem dX10_sheet_34 : decode cX10_sheet 34 = .ok (.invokevirtual 253, 3) := by decide +kernel
theorem dX10_sheet_37 : decode cX10_sheet 37 = .ok (.ireturn, 1) := by decide +kernel
theorem dX10_sheet_38 : decode cX10_sheet 38 = .ok (.aload_n 0, 1) := by decide +kernel
theorem dX10_sheet_39 : decode cX10_sheet 39 = .ok (.getfield 117, 3) := by decide +kernel
theorem dX10_sheet_42 : decode cX10_sheet 42 = .ok (.iload_n 1, 1) := by decide +kernel
theorem dX10_sheet_43 : decode cX10_sheet 43 = .ok (.iload_n 2, 1) := by decide +kernel
theorem dX10_sheet_44 : decode cX10_sheet 44 = .ok (.iastore, 1) := by decide +kernel
theorem dX10_sheet_45 : decode cX10_sheet 45 = .ok (.aload_n 0, 1) := by decide +kernel
theorem dX10_sheet_46 : decode cX10_sheet 46 = .ok (.getfield 120, 3) := by decide +kernel
theorem dX10_sheet_49 : decode cX10_sheet 49 = .ok (.iload_n 1, 1) := by decide +kernel
theorem dX10_sheet_50 : decode cX10_sheet 50 = .ok (.iload_n 3, 1) := by decide +kernel
theorem dX10_sheet_51 : decode cX10_sheet 51 = .ok (.iastore, 1) := by decide +kernel
theorem dX10_sheet_52 : decode cX10_sheet 52 = .ok (.iconst 0, 1) := by decide +kernel
theorem dX10_sheet_53 : decode cX10_sheet 53 = .ok (.istore 4, 2) := by decide +kernel
theorem dX10_sheet_55 : decode cX10_sheet 55 = .ok (.iload 4, 2) := by decide +kernel
theorem dX10_sheet_57 : decode cX10_sheet 57 = .ok (.iload_n 3, 1) := by decide +kernel
theorem dX10_sheet_58 : decode cX10_sheet 58 = .ok (.if_icmp .ge 22, 3) := by decide +kernel
theorem dX10_sheet_61 : decode cX10_sheet 61 = .ok (.aload_n 0, 1) := by decide +kernel
theorem dX10_sheet_62 : decode cX10_sheet 62 = .ok (.getfield 123, 3) := by decide +kernel
theorem dX10_sheet_65 : decode cX10_sheet 65 = .ok (.bipush 60, 2) := by decide +kernel
theorem dX10_sheet_67 : decode cX10_sheet 67 = .ok (.iload_n 1, 1) := by decide +kernel
theorem dX10_sheet_68 : decode cX10_sheet 68 = .ok (.imul, 1) := by decide +kernel
theorem dX10_sheet_69 : decode cX10_sheet 69 = .ok (.iload 4, 2) := by decide +kernel
theorem dX10_sheet_71 : decode cX10_sheet 71 = .ok (.iadd, 1) := by decide +kernel
theorem dX10_sheet_72 : decode cX10_sheet 72 = .ok (.iconst 0, 1) := by decide +kernel
theorem dX10_sheet_73 : decode cX10_sheet 73 = .ok (.iastore, 1) := by decide +kernel
theorem dX10_sheet_74 : decode cX10_sheet 74 = .ok (.iinc 4 1, 3) := by decide +kernel
theorem dX10_sheet_77 : decode cX10_sheet 77 = .ok (.goto (-22), 3) := by decide +kernel
theorem dX10_sheet_80 : decode cX10_sheet 80 = .ok (.iload_n 3, 1) := by decide +kernel
theorem dX10_sheet_81 : decode cX10_sheet 81 = .ok (.ireturn, 1) := by decide +kernel
theorem dX10_lose_0 : decode cX10_lose 0 = .ok (.iload_n 1, 1) := by decide +kernel
theorem dX10_lose_1 : decode cX10_lose 1 = .ok (.invokestatic 250, 3) := by decide +kernel
theorem dX10_lose_4 : decode cX10_lose 4 = .ok (.ifCond .ne 6, 3) := by decide +kernel
theorem dX10_lose_7 : decode cX10_lose 7 = .ok (.bipush (-2), 2) := by decide +kernel
theorem dX10_lose_9 : decode cX10_lose 9 = .ok (.ireturn, 1) := by decide +kernel
theorem dX10_lose_10 : decode cX10_lose 10 = .ok (.aload_n 0, 1) := by decide +kernel
theorem dX10_lose_11 : decode cX10_lose 11 = .ok (.getfield 117, 3) := by decide +kernel
theorem dX10_lose_14 : decode cX10_lose 14 = .ok (.iload_n 1, 1) := by decide +kernel
theorem dX10_lose_15 : decode cX10_lose 15 = .ok (.iaload, 1) := by decide +kernel
theorem dX10_lose_16 : decode cX10_lose 16 = .ok (.ifCond .ge 9, 3) := by decide +kernel
theorem dX10_lose_19 : decode cX10_lose 19 = .ok (.aload_n 0, 1) := by decide +kernel
theorem dX10_lose_20 : decode cX10_lose 20 = .ok (.iconst 1, 1) := by decide +kernel
theorem dX10_lose_21 : decode cX10_lose 21 = .ok (.invokevirtual 253, 3) := by decide +kernel
theorem dX10_lose_24 : decode cX10_lose 24 = .ok (.ireturn, 1) := by decide +kernel
theorem dX10_lose_25 : decode cX10_lose 25 = .ok (.aload_n 0, 1) := by decide +kernel
theorem dX10_lose_26 : decode cX10_lose 26 = .ok (.getfield 117, 3) := by decide +kernel
theorem dX10_lose_29 : decode cX10_lose 29 = .ok (.iload_n 1, 1) := by decide +kernel
theorem dX10_lose_30 : decode cX10_lose 30 = .ok (.iconst (-1), 1) := by decide +kernel
theorem dX10_lose_31 : decode cX10_lose 31 = .ok (.iastore, 1) := by decide +kernel
theorem dX10_lose_32 : decode cX10_lose 32 = .ok (.aload_n 0, 1) := by decide +kernel
theorem dX10_lose_33 : decode cX10_lose 33 = .ok (.getfield 120, 3) := by decide +kernel
theorem dX10_lose_36 : decode cX10_lose 36 = .ok (.iload_n 1, 1) := by decide +kernel
theorem dX10_lose_37 : decode cX10_lose 37 = .ok (.iaload, 1) := by decide +kernel
theorem dX10_lose_38 : decode cX10_lose 38 = .ok (.ireturn, 1) := by decide +kernel
theorem dX10_lacks_0 : decode cX10_lacks 0 = .ok (.aload_n 0, 1) := by decide +kernel
theorem dX10_lacks_1 : decode cX10_lacks 1 = .ok (.getfield 117, 3) := by decide +kernel
theorem dX10_lacks_4 : decode cX10_lacks 4 = .ok (.iload_n 1, 1) := by decide +kernel
theorem dX10_lacks_5 : decode cX10_lacks 5 = .ok (.iaload, 1) := by decide +kernel
theorem dX10_lacks_6 : decode cX10_lacks 6 = .ok (.ifCond .ge 9, 3) := by decide +kernel
theorem dX10_lacks_9 : decode cX10_lacks 9 = .ok (.aload_n 0, 1) := by decide +kernel
theorem dX10_lacks_10 : decode cX10_lacks 10 = .ok (.iconst 1, 1) := by decide +kernel
theorem dX10_lacks_11 : decode cX10_lacks 11 = .ok (.invokevirtual 253, 3) := by decide +kernel
theorem dX10_lacks_14 : decode cX10_lacks 14 = .ok (.ireturn, 1) := by decide +kernel
theorem dX10_lacks_15 : decode cX10_lacks 15 = .ok (.aload_n 0, 1) := by decide +kernel
theorem dX10_lacks_16 : decode cX10_lacks 16 = .ok (.getfield 117, 3) := by decide +kernel
theorem dX10_lacks_19 : decode cX10_lacks 19 = .ok (.iload_n 1, 1) := by decide +kernel
theorem dX10_lacks_20 : decode cX10_lacks 20 = .ok (.iaload, 1) := by decide +kernel
theorem dX10_lacks_21 : decode cX10_lacks 21 = .ok (.iload_n 2, 1) := by decide +kernel
theorem dX10_lacks_22 : decode cX10_lacks 22 = .ok (.if_icmp .eq 9, 3) := by decide +kernel
theorem dX10_lacks_25 : decode cX10_lacks 25 = .ok (.aload_n 0, 1) := by decide +kernel
theorem dX10_lacks_26 : decode cX10_lacks 26 = .ok (.iconst 3, 1) := by decide +kernel
theorem dX10_lacks_27 : decode cX10_lacks 27 = .ok (.invokevirtual 253, 3) := by decide +kernel
theorem dX10_lacks_30 : decode cX10_lacks 30 = .ok (.ireturn, 1) := by decide +kernel
theorem dX10_lacks_31 : decode cX10_lacks 31 = .ok (.iload_n 3, 1) := by decide +kernel
theorem dX10_lacks_32 : decode cX10_lacks 32 = .ok (.i2l, 1) := by decide +kernel
theorem dX10_lacks_33 : decode cX10_lacks 33 = .ok (.lconst 0, 1) := by decide +kernel
theorem dX10_lacks_34 : decode cX10_lacks 34 = .ok (.aload_n 0, 1) := by decide +kernel
theorem dX10_lacks_35 : decode cX10_lacks 35 = .ok (.getfield 120, 3) := by decide +kernel
theorem dX10_lacks_38 : decode cX10_lacks 38 = .ok (.iload_n 1, 1) := by decide +kernel
theorem dX10_lacks_39 : decode cX10_lacks 39 = .ok (.iaload, 1) := by decide +kernel
theorem dX10_lacks_40 : decode cX10_lacks 40 = .ok (.iconst 1, 1) := by decide +kernel
theorem dX10_lacks_41 : decode cX10_lacks 41 = .ok (.isub, 1) := by decide +kernel
theorem dX10_lacks_42 : decode cX10_lacks 42 = .ok (.i2l, 1) := by decide +kernel
theorem dX10_lacks_43 : decode cX10_lacks 43 = .ok (.invokestatic 132, 3) := by decide +kernel
theorem dX10_lacks_46 : decode cX10_lacks 46 = .ok (.ifCond .eq 7, 3) := by decide +kernel
theorem dX10_lacks_49 : decode cX10_lacks 49 = .ok (.iconst 0, 1) := by decide +kernel
theorem dX10_lacks_50 : decode cX10_lacks 50 = .ok (.goto 8, 3) := by decide +kernel
theorem dX10_lacks_53 : decode cX10_lacks 53 = .ok (.aload_n 0, 1) := by decide +kernel
theorem dX10_lacks_54 : decode cX10_lacks 54 = .ok (.iconst 2, 1) := by decide +kernel
theorem dX10_lacks_55 : decode cX10_lacks 55 = .ok (.invokevirtual 253, 3) := by decide +kernel
theorem dX10_lacks_58 : decode cX10_lacks 58 = .ok (.ireturn, 1) := by decide +kernel
theorem dX10_put_0 : decode cX10_put 0 = .ok (.iload_n 1, 1) := by decide +kernel
theorem dX10_put_1 : decode cX10_put 1 = .ok (.invokestatic 250, 3) := by decide +kernel
theorem dX10_put_4 : decode cX10_put 4 = .ok (.ifCond .eq 15, 3) := by decide +kernel
theorem dX10_put_7 : decode cX10_put 7 = .ok (.iload_n 2, 1) := by decide +kernel
theorem dX10_put_8 : decode cX10_put 8 = .ok (.i2l, 1) := by decide +kernel
theorem dX10_put_9 : decode cX10_put 9 = .ok (.lconst 0, 1) := by decide +kernel
theorem dX10_put_10 : decode cX10_put 10 = .ok (.ldc2_w 154, 3) := by decide +kernel
theorem dX10_put_13 : decode cX10_put 13 = .ok (.invokestatic 132, 3) := by decide +kernel
theorem dX10_put_16 : decode cX10_put 16 = .ok (.ifCond .ne 6, 3) := by decide +kernel
theorem dX10_put_19 : decode cX10_put 19 = .ok (.bipush (-2), 2) := by decide +kernel
theorem dX10_put_21 : decode cX10_put 21 = .ok (.ireturn, 1) := by decide +kernel
theorem dX10_put_22 : decode cX10_put 22 = .ok (.aload_n 0, 1) := by decide +kernel
theorem dX10_put_23 : decode cX10_put 23 = .ok (.iload_n 1, 1) := by decide +kernel
theorem dX10_put_24 : decode cX10_put 24 = .ok (.iload_n 2, 1) := by decide +kernel
theorem dX10_put_25 : decode cX10_put 25 = .ok (.iload_n 3, 1) := by decide +kernel
theorem dX10_put_26 : decode cX10_put 26 = .ok (.invokevirtual 256, 3) := by decide +kernel
theorem dX10_put_29 : decode cX10_put 29 = .ok (.istore 5, 2) := by decide +kernel
theorem dX10_put_31 : decode cX10_put 31 = .ok (.iload 5, 2) := by decide +kernel
theorem dX10_put_33 : decode cX10_put 33 = .ok (.ifCond .eq 6, 3) := by decide +kernel
theorem dX10_put_36 : decode cX10_put 36 = .ok (.iload 5, 2) := by decide +kernel
theorem dX10_put_38 : decode cX10_put 38 = .ok (.ireturn, 1) := by decide +kernel
theorem dX10_put_39 : decode cX10_put 39 = .ok (.aload_n 0, 1) := by decide +kernel
theorem dX10_put_40 : decode cX10_put 40 = .ok (.getfield 123, 3) := by decide +kernel
theorem dX10_put_43 : decode cX10_put 43 = .ok (.bipush 60, 2) := by decide +kernel
theorem dX10_put_45 : decode cX10_put 45 = .ok (.iload_n 1, 1) := by decide +kernel
theorem dX10_put_46 : decode cX10_put 46 = .ok (.imul, 1) := by decide +kernel
theorem dX10_put_47 : decode cX10_put 47 = .ok (.iload_n 3, 1) := by decide +kernel
theorem dX10_put_48 : decode cX10_put 48 = .ok (.iadd, 1) := by decide +kernel
theorem dX10_put_49 : decode cX10_put 49 = .ok (.iload_n 2, 1) := by decide +kernel
theorem dX10_put_50 : decode cX10_put 50 = .ok (.ifCond .ne 9, 3) := by decide +kernel
theorem dX10_put_53 : decode cX10_put 53 = .ok (.iload 4, 2) := by decide +kernel
theorem dX10_put_55 : decode cX10_put 55 = .ok (.i2b, 1) := by decide +kernel
theorem dX10_put_56 : decode cX10_put 56 = .ok (.goto 16, 3) := by decide +kernel
theorem dX10_put_59 : decode cX10_put 59 = .ok (.iload_n 2, 1) := by decide +kernel
theorem dX10_put_60 : decode cX10_put 60 = .ok (.iconst 1, 1) := by decide +kernel
theorem dX10_put_61 : decode cX10_put 61 = .ok (.if_icmp .ne 9, 3) := by decide +kernel
theorem dX10_put_64 : decode cX10_put 64 = .ok (.iload 4, 2) := by decide +kernel
theorem dX10_put_66 : decode cX10_put 66 = .ok (.i2s, 1) := by decide +kernel
theorem dX10_put_67 : decode cX10_put 67 = .ok (.goto 5, 3) := by decide +kernel
theorem dX10_put_70 : decode cX10_put 70 = .ok (.iload 4, 2) := by decide +kernel
theorem dX10_put_72 : decode cX10_put 72 = .ok (.iastore, 1) := by decide +kernel
theorem dX10_put_73 : decode cX10_put 73 = .ok (.iconst 1, 1) := by decide +kernel
theorem dX10_put_74 : decode cX10_put 74 = .ok (.ireturn, 1) := by decide +kernel
theorem dX10_get_0 : decode cX10_get 0 = .ok (.iload_n 1, 1) := by decide +kernel
theorem dX10_get_1 : decode cX10_get 1 = .ok (.invokestatic 250, 3) := by decide +kernel
theorem dX10_get_4 : decode cX10_get 4 = .ok (.ifCond .eq 25, 3) := by decide +kernel
theorem dX10_get_7 : decode cX10_get 7 = .ok (.iload_n 2, 1) := by decide +kernel
theorem dX10_get_8 : decode cX10_get 8 = .ok (.i2l, 1) := by decide +kernel
theorem dX10_get_9 : decode cX10_get 9 = .ok (.lconst 0, 1) := by decide +kernel
theorem dX10_get_10 : decode cX10_get 10 = .ok (.ldc2_w 154, 3) := by decide +kernel
theorem dX10_get_13 : decode cX10_get 13 = .ok (.invokestatic 132, 3) := by decide +kernel
theorem dX10_get_16 : decode cX10_get 16 = .ok (.ifCond .eq 13, 3) := by decide +kernel
theorem dX10_get_19 : decode cX10_get 19 = .ok (.aload_n 0, 1) := by decide +kernel
theorem dX10_get_20 : decode cX10_get 20 = .ok (.iload_n 1, 1) := by decide +kernel
theorem dX10_get_21 : decode cX10_get 21 = .ok (.iload_n 2, 1) := by decide +kernel
theorem dX10_get_22 : decode cX10_get 22 = .ok (.iload_n 3, 1) := by decide +kernel
theorem dX10_get_23 : decode cX10_get 23 = .ok (.invokevirtual 256, 3) := by decide +kernel
theorem dX10_get_26 : decode cX10_get 26 = .ok (.ifCond .eq 7, 3) := by decide +kernel
theorem dX10_get_29 : decode cX10_get 29 = .ok (.ldc_w 260, 3) := by decide +kernel
theorem dX10_get_32 : decode cX10_get 32 = .ok (.ireturn, 1) := by decide +kernel
theorem dX10_get_33 : decode cX10_get 33 = .ok (.aload_n 0, 1) := by decide +kernel
theorem dX10_get_34 : decode cX10_get 34 = .ok (.getfield 123, 3) := by decide +kernel
theorem dX10_get_37 : decode cX10_get 37 = .ok (.bipush 60, 2) := by decide +kernel
theorem dX10_get_39 : decode cX10_get 39 = .ok (.iload_n 1, 1) := by decide +kernel
theorem dX10_get_40 : decode cX10_get 40 = .ok (.imul, 1) := by decide +kernel
theorem dX10_get_41 : decode cX10_get 41 = .ok (.iload_n 3, 1) := by decide +kernel
theorem dX10_get_42 : decode cX10_get 42 = .ok (.iadd, 1) := by decide +kernel
theorem dX10_get_43 : decode cX10_get 43 = .ok (.iaload, 1) := by decide +kernel
theorem dX10_get_44 : decode cX10_get 44 = .ok (.ireturn, 1) := by decide +kernel
theorem dX10_copy_0 : decode cX10_copy 0 = .ok (.iload_n 1, 1) := by decide +kernel
theorem dX10_copy_1 : decode cX10_copy 1 = .ok (.invokestatic 250, 3) := by decide +kernel
theorem dX10_copy_4 : decode cX10_copy 4 = .ok (.ifCond .eq 10, 3) := by decide +kernel
theorem dX10_copy_7 : decode cX10_copy 7 = .ok (.iload_n 3, 1) := by decide +kernel
theorem dX10_copy_8 : decode cX10_copy 8 = .ok (.invokestatic 250, 3) := by decide +kernel
theorem dX10_copy_11 : decode cX10_copy 11 = .ok (.ifCond .ne 6, 3) := by decide +kernel
theorem dX10_copy_14 : decode cX10_copy 14 = .ok (.bipush (-2), 2) := by decide +kernel
theorem dX10_copy_16 : decode cX10_copy 16 = .ok (.ireturn, 1) := by decide +kernel
theorem dX10_copy_17 : decode cX10_copy 17 = .ok (.aload_n 0, 1) := by decide +kernel
theorem dX10_copy_18 : decode cX10_copy 18 = .ok (.getfield 117, 3) := by decide +kernel
theorem dX10_copy_21 : decode cX10_copy 21 = .ok (.iload_n 1, 1) := by decide +kernel
theorem dX10_copy_22 : decode cX10_copy 22 = .ok (.iaload, 1) := by decide +kernel
theorem dX10_copy_23 : decode cX10_copy 23 = .ok (.ifCond .lt 12, 3) := by decide +kernel
theorem dX10_copy_26 : decode cX10_copy 26 = .ok (.aload_n 0, 1) := by decide +kernel
theorem dX10_copy_27 : decode cX10_copy 27 = .ok (.getfield 117, 3) := by decide +kernel
theorem dX10_copy_30 : decode cX10_copy 30 = .ok (.iload_n 3, 1) := by decide +kernel
theorem dX10_copy_31 : decode cX10_copy 31 = .ok (.iaload, 1) := by decide +kernel
theorem dX10_copy_32 : decode cX10_copy 32 = .ok (.ifCond .ge 9, 3) := by decide +kernel
theorem dX10_copy_35 : decode cX10_copy 35 = .ok (.aload_n 0, 1) := by decide +kernel
theorem dX10_copy_36 : decode cX10_copy 36 = .ok (.iconst 1, 1) := by decide +kernel
theorem dX10_copy_37 : decode cX10_copy 37 = .ok (.invokevirtual 253, 3) := by decide +kernel
theorem dX10_copy_40 : decode cX10_copy 40 = .ok (.ireturn, 1) := by decide +kernel
theorem dX10_copy_41 : decode cX10_copy 41 = .ok (.aload_n 0, 1) := by decide +kernel
theorem dX10_copy_42 : decode cX10_copy 42 = .ok (.getfield 117, 3) := by decide +kernel
theorem dX10_copy_45 : decode cX10_copy 45 = .ok (.iload_n 1, 1) := by decide +kernel
theorem dX10_copy_46 : decode cX10_copy 46 = .ok (.iaload, 1) := by decide +kernel
theorem dX10_copy_47 : decode cX10_copy 47 = .ok (.aload_n 0, 1) := by decide +kernel
theorem dX10_copy_48 : decode cX10_copy 48 = .ok (.getfield 117, 3) := by decide +kernel
theorem dX10_copy_51 : decode cX10_copy 51 = .ok (.iload_n 3, 1) := by decide +kernel
theorem dX10_copy_52 : decode cX10_copy 52 = .ok (.iaload, 1) := by decide +kernel
theorem dX10_copy_53 : decode cX10_copy 53 = .ok (.if_icmp .eq 9, 3) := by decide +kernel
theorem dX10_copy_56 : decode cX10_copy 56 = .ok (.aload_n 0, 1) := by decide +kernel
theorem dX10_copy_57 : decode cX10_copy 57 = .ok (.iconst 4, 1) := by decide +kernel
theorem dX10_copy_58 : decode cX10_copy 58 = .ok (.invokevirtual 253, 3) := by decide +kernel
theorem dX10_copy_61 : decode cX10_copy 61 = .ok (.ireturn, 1) := by decide +kernel
theorem dX10_copy_62 : decode cX10_copy 62 = .ok (.iload_n 2, 1) := by decide +kernel
theorem dX10_copy_63 : decode cX10_copy 63 = .ok (.ifCond .lt 48, 3) := by decide +kernel
theorem dX10_copy_66 : decode cX10_copy 66 = .ok (.iload 4, 2) := by decide +kernel
theorem dX10_copy_68 : decode cX10_copy 68 = .ok (.ifCond .lt 43, 3) := by decide +kernel
theorem dX10_copy_71 : decode cX10_copy 71 = .ok (.iload 5, 2) := by decide +kernel
theorem dX10_copy_73 : decode cX10_copy 73 = .ok (.ifCond .lt 38, 3) := by decide +kernel
theorem dX10_copy_76 : decode cX10_copy 76 = .ok (.iload_n 2, 1) := by decide +kernel
theorem dX10_copy_77 : decode cX10_copy 77 = .ok (.i2l, 1) := by decide +kernel
theorem dX10_copy_78 : decode cX10_copy 78 = .ok (.iload 5, 2) := by decide +kernel
theorem dX10_copy_80 : decode cX10_copy 80 = .ok (.i2l, 1) := by decide +kernel
theorem dX10_copy_81 : decode cX10_copy 81 = .ok (.ladd, 1) := by decide +kernel
theorem dX10_copy_82 : decode cX10_copy 82 = .ok (.aload_n 0, 1) := by decide +kernel
theorem dX10_copy_83 : decode cX10_copy 83 = .ok (.getfield 120, 3) := by decide +kernel
theorem dX10_copy_86 : decode cX10_copy 86 = .ok (.iload_n 1, 1) := by decide +kernel
theorem dX10_copy_87 : decode cX10_copy 87 = .ok (.iaload, 1) := by decide +kernel
theorem dX10_copy_88 : decode cX10_copy 88 = .ok (.i2l, 1) := by decide +kernel
theorem dX10_copy_89 : decode cX10_copy 89 = .ok (.lcmp, 1) := by decide +kernel
theorem dX10_copy_90 : decode cX10_copy 90 = .ok (.ifCond .gt 21, 3) := by decide +kernel
theorem dX10_copy_93 : decode cX10_copy 93 = .ok (.iload 4, 2) := by decide +kernel
theorem dX10_copy_95 : decode cX10_copy 95 = .ok (.i2l, 1) := by decide +kernel
theorem dX10_copy_96 : decode cX10_copy 96 = .ok (.iload 5, 2) := by decide +kernel
theorem dX10_copy_98 : decode cX10_copy 98 = .ok (.i2l, 1) := by decide +kernel
theorem dX10_copy_99 : decode cX10_copy 99 = .ok (.ladd, 1) := by decide +kernel
theorem dX10_copy_100 : decode cX10_copy 100 = .ok (.aload_n 0, 1) := by decide +kernel
theorem dX10_copy_101 : decode cX10_copy 101 = .ok (.getfield 120, 3) := by decide +kernel
theorem dX10_copy_104 : decode cX10_copy 104 = .ok (.iload_n 3, 1) := by decide +kernel
theorem dX10_copy_105 : decode cX10_copy 105 = .ok (.iaload, 1) := by decide +kernel
theorem dX10_copy_106 : decode cX10_copy 106 = .ok (.i2l, 1) := by decide +kernel
theorem dX10_copy_107 : decode cX10_copy 107 = .ok (.lcmp, 1) := by decide +kernel
theorem dX10_copy_108 : decode cX10_copy 108 = .ok (.ifCond .le 9, 3) := by decide +kernel
theorem dX10_copy_111 : decode cX10_copy 111 = .ok (.aload_n 0, 1) := by decide +kernel
theorem dX10_copy_112 : decode cX10_copy 112 = .ok (.iconst 2, 1) := by decide +kernel
theorem dX10_copy_113 : decode cX10_copy 113 = .ok (.invokevirtual 253, 3) := by decide +kernel
theorem dX10_copy_116 : decode cX10_copy 116 = .ok (.ireturn, 1) := by decide +kernel
theorem dX10_copy_117 : decode cX10_copy 117 = .ok (.iconst 0, 1) := by decide +kernel
theorem dX10_copy_118 : decode cX10_copy 118 = .ok (.istore 6, 2) := by decide +kernel
theorem dX10_copy_120 : decode cX10_copy 120 = .ok (.iload 6, 2) := by decide +kernel
theorem dX10_copy_122 : decode cX10_copy 122 = .ok (.iload 5, 2) := by decide +kernel
theorem dX10_copy_124 : decode cX10_copy 124 = .ok (.if_icmp .ge 30, 3) := by decide +kernel
theorem dX10_copy_127 : decode cX10_copy 127 = .ok (.aload_n 0, 1) := by decide +kernel
theorem dX10_copy_128 : decode cX10_copy 128 = .ok (.getfield 126, 3) := by decide +kernel
theorem dX10_copy_131 : decode cX10_copy 131 = .ok (.iload 6, 2) := by decide +kernel
theorem dX10_copy_133 : decode cX10_copy 133 = .ok (.aload_n 0, 1) := by decide +kernel
theorem dX10_copy_134 : decode cX10_copy 134 = .ok (.getfield 123, 3) := by decide +kernel
theorem dX10_copy_137 : decode cX10_copy 137 = .ok (.bipush 60, 2) := by decide +kernel
theorem dX10_copy_139 : decode cX10_copy 139 = .ok (.iload_n 1, 1) := by decide +kernel
theorem dX10_copy_140 : decode cX10_copy 140 = .ok (.imul, 1) := by decide +kernel
theorem dX10_copy_141 : decode cX10_copy 141 = .ok (.iload_n 2, 1) := by decide +kernel
theorem dX10_copy_142 : decode cX10_copy 142 = .ok (.iadd, 1) := by decide +kernel
theorem dX10_copy_143 : decode cX10_copy 143 = .ok (.iload 6, 2) := by decide +kernel
theorem dX10_copy_145 : decode cX10_copy 145 = .ok (.iadd, 1) := by decide +kernel
theorem dX10_copy_146 : decode cX10_copy 146 = .ok (.iaload, 1) := by decide +kernel
theorem dX10_copy_147 : decode cX10_copy 147 = .ok (.iastore, 1) := by decide +kernel
theorem dX10_copy_148 : decode cX10_copy 148 = .ok (.iinc 6 1, 3) := by decide +kernel
theorem dX10_copy_151 : decode cX10_copy 151 = .ok (.goto (-31), 3) := by decide +kernel
theorem dX10_copy_154 : decode cX10_copy 154 = .ok (.iconst 0, 1) := by decide +kernel
theorem dX10_copy_155 : decode cX10_copy 155 = .ok (.istore 6, 2) := by decide +kernel
theorem dX10_copy_157 : decode cX10_copy 157 = .ok (.iload 6, 2) := by decide +kernel
theorem dX10_copy_159 : decode cX10_copy 159 = .ok (.iload 5, 2) := by decide +kernel
theorem dX10_copy_161 : decode cX10_copy 161 = .ok (.if_icmp .ge 31, 3) := by decide +kernel
theorem dX10_copy_164 : decode cX10_copy 164 = .ok (.aload_n 0, 1) := by decide +kernel
theorem dX10_copy_165 : decode cX10_copy 165 = .ok (.getfield 123, 3) := by decide +kernel
theorem dX10_copy_168 : decode cX10_copy 168 = .ok (.bipush 60, 2) := by decide +kernel
theorem dX10_copy_170 : decode cX10_copy 170 = .ok (.iload_n 3, 1) := by decide +kernel
theorem dX10_copy_171 : decode cX10_copy 171 = .ok (.imul, 1) := by decide +kernel
theorem dX10_copy_172 : decode cX10_copy 172 = .ok (.iload 4, 2) := by decide +kernel
theorem dX10_copy_174 : decode cX10_copy 174 = .ok (.iadd, 1) := by decide +kernel
theorem dX10_copy_175 : decode cX10_copy 175 = .ok (.iload 6, 2) := by decide +kernel
theorem dX10_copy_177 : decode cX10_copy 177 = .ok (.iadd, 1) := by decide +kernel
theorem dX10_copy_178 : decode cX10_copy 178 = .ok (.aload_n 0, 1) := by decide +kernel
theorem dX10_copy_179 : decode cX10_copy 179 = .ok (.getfield 126, 3) := by decide +kernel
theorem dX10_copy_182 : decode cX10_copy 182 = .ok (.iload 6, 2) := by decide +kernel
theorem dX10_copy_184 : decode cX10_copy 184 = .ok (.iaload, 1) := by decide +kernel
theorem dX10_copy_185 : decode cX10_copy 185 = .ok (.iastore, 1) := by decide +kernel
theorem dX10_copy_186 : decode cX10_copy 186 = .ok (.iinc 6 1, 3) := by decide +kernel
theorem dX10_copy_189 : decode cX10_copy 189 = .ok (.goto (-32), 3) := by decide +kernel
theorem dX10_copy_192 : decode cX10_copy 192 = .ok (.iconst 1, 1) := by decide +kernel
theorem dX10_copy_193 : decode cX10_copy 193 = .ok (.ireturn, 1) := by decide +kernel
theorem dX10_count_0 : decode cX10_count 0 = .ok (.iconst 0, 1) := by decide +kernel
theorem dX10_count_1 : decode cX10_count 1 = .ok (.istore_n 2, 1) := by decide +kernel
theorem dX10_count_2 : decode cX10_count 2 = .ok (.iload_n 1, 1) := by decide +kernel
theorem dX10_count_3 : decode cX10_count 3 = .ok (.tableswitch 116 0 7 #[45, 50, 55, 91, 96, 101, 106, 111], 45) := by decide +kernel
theorem dX10_count_48 : decode cX10_count 48 = .ok (.aload_n 0, 1) := by decide +kernel
theorem dX10_count_49 : decode cX10_count 49 = .ok (.getfield 129, 3) := by decide +kernel
theorem dX10_count_52 : decode cX10_count 52 = .ok (.ireturn, 1) := by decide +kernel
theorem dX10_count_53 : decode cX10_count 53 = .ok (.aload_n 0, 1) := by decide +kernel
theorem dX10_count_54 : decode cX10_count 54 = .ok (.getfield 136, 3) := by decide +kernel
theorem dX10_count_57 : decode cX10_count 57 = .ok (.ireturn, 1) := by decide +kernel
theorem dX10_count_58 : decode cX10_count 58 = .ok (.iconst 0, 1) := by decide +kernel
theorem dX10_count_59 : decode cX10_count 59 = .ok (.istore_n 3, 1) := by decide +kernel
theorem dX10_count_60 : decode cX10_count 60 = .ok (.iload_n 3, 1) := by decide +kernel
theorem dX10_count_61 : decode cX10_count 61 = .ok (.aload_n 0, 1) := by decide +kernel
theorem dX10_count_62 : decode cX10_count 62 = .ok (.getfield 136, 3) := by decide +kernel
theorem dX10_count_65 : decode cX10_count 65 = .ok (.if_icmp .ge 27, 3) := by decide +kernel
theorem dX10_count_68 : decode cX10_count 68 = .ok (.iload_n 2, 1) := by decide +kernel
theorem dX10_count_69 : decode cX10_count 69 = .ok (.aload_n 0, 1) := by decide +kernel
theorem dX10_count_70 : decode cX10_count 70 = .ok (.getfield 31, 3) := by decide +kernel
theorem dX10_count_73 : decode cX10_count 73 = .ok (.iload_n 3, 1) := by decide +kernel
theorem dX10_count_74 : decode cX10_count 74 = .ok (.iaload, 1) := by decide +kernel
theorem dX10_count_75 : decode cX10_count 75 = .ok (.iconst (-1), 1) := by decide +kernel
theorem dX10_count_76 : decode cX10_count 76 = .ok (.if_icmp .eq 7, 3) := by decide +kernel
theorem dX10_count_79 : decode cX10_count 79 = .ok (.iconst 1, 1) := by decide +kernel
theorem dX10_count_80 : decode cX10_count 80 = .ok (.goto 4, 3) := by decide +kernel
theorem dX10_count_83 : decode cX10_count 83 = .ok (.iconst 0, 1) := by decide +kernel
theorem dX10_count_84 : decode cX10_count 84 = .ok (.iadd, 1) := by decide +kernel
theorem dX10_count_85 : decode cX10_count 85 = .ok (.istore_n 2, 1) := by decide +kernel
theorem dX10_count_86 : decode cX10_count 86 = .ok (.iinc 3 1, 3) := by decide +kernel
theorem dX10_count_89 : decode cX10_count 89 = .ok (.goto (-29), 3) := by decide +kernel
theorem dX10_count_92 : decode cX10_count 92 = .ok (.iload_n 2, 1) := by decide +kernel
theorem dX10_count_93 : decode cX10_count 93 = .ok (.ireturn, 1) := by decide +kernel
theorem dX10_count_94 : decode cX10_count 94 = .ok (.aload_n 0, 1) := by decide +kernel
theorem dX10_count_95 : decode cX10_count 95 = .ok (.getfield 210, 3) := by decide +kernel
theorem dX10_count_98 : decode cX10_count 98 = .ok (.ireturn, 1) := by decide +kernel
theorem dX10_count_99 : decode cX10_count 99 = .ok (.aload_n 0, 1) := by decide +kernel
theorem dX10_count_100 : decode cX10_count 100 = .ok (.getfield 223, 3) := by decide +kernel
theorem dX10_count_103 : decode cX10_count 103 = .ok (.ireturn, 1) := by decide +kernel
theorem dX10_count_104 : decode cX10_count 104 = .ok (.aload_n 0, 1) := by decide +kernel
theorem dX10_count_105 : decode cX10_count 105 = .ok (.getfield 203, 3) := by decide +kernel
theorem dX10_count_108 : decode cX10_count 108 = .ok (.ireturn, 1) := by decide +kernel
theorem dX10_count_109 : decode cX10_count 109 = .ok (.aload_n 0, 1) := by decide +kernel
theorem dX10_count_110 : decode cX10_count 110 = .ok (.getfield 244, 3) := by decide +kernel
theorem dX10_count_113 : decode cX10_count 113 = .ok (.ireturn, 1) := by decide +kernel
theorem dX10_count_114 : decode cX10_count 114 = .ok (.aload_n 0, 1) := by decide +kernel
theorem dX10_count_115 : decode cX10_count 115 = .ok (.getfield 247, 3) := by decide +kernel
theorem dX10_count_118 : decode cX10_count 118 = .ok (.ireturn, 1) := by decide +kernel
theorem dX10_count_119 : decode cX10_count 119 = .ok (.bipush (-2), 2) := by decide +kernel
theorem dX10_count_121 : decode cX10_count 121 = .ok (.ireturn, 1) := by decide +kernel
theorem dX10_digest_0 : decode cX10_digest 0 = .ok (.ldc2_w 228, 3) := by decide +kernel
theorem dX10_digest_3 : decode cX10_digest 3 = .ok (.lstore_n 1, 1) := by decide +kernel
theorem dX10_digest_4 : decode cX10_digest 4 = .ok (.iconst 0, 1) := by decide +kernel
theorem dX10_digest_5 : decode cX10_digest 5 = .ok (.istore_n 3, 1) := by decide +kernel
theorem dX10_digest_6 : decode cX10_digest 6 = .ok (.iload_n 3, 1) := by decide +kernel
theorem dX10_digest_7 : decode cX10_digest 7 = .ok (.bipush 7, 2) := by decide +kernel
theorem dX10_digest_9 : decode cX10_digest 9 = .ok (.if_icmp .ge 22, 3) := by decide +kernel
theorem dX10_digest_12 : decode cX10_digest 12 = .ok (.ldc2_w 261, 3) := by decide +kernel
theorem dX10_digest_15 : decode cX10_digest 15 = .ok (.lload_n 1, 1) := by decide +kernel
theorem dX10_digest_16 : decode cX10_digest 16 = .ok (.lmul, 1) := by decide +kernel
theorem dX10_digest_17 : decode cX10_digest 17 = .ok (.aload_n 0, 1) := by decide +kernel
theorem dX10_digest_18 : decode cX10_digest 18 = .ok (.iload_n 3, 1) := by decide +kernel
theorem dX10_digest_19 : decode cX10_digest 19 = .ok (.invokevirtual 263, 3) := by decide +kernel
theorem dX10_digest_22 : decode cX10_digest 22 = .ok (.i2l, 1) := by decide +kernel
theorem dX10_digest_23 : decode cX10_digest 23 = .ok (.ladd, 1) := by decide +kernel
theorem dX10_digest_24 : decode cX10_digest 24 = .ok (.lstore_n 1, 1) := by decide +kernel
theorem dX10_digest_25 : decode cX10_digest 25 = .ok (.iinc 3 1, 3) := by decide +kernel
theorem dX10_digest_28 : decode cX10_digest 28 = .ok (.goto (-22), 3) := by decide +kernel
theorem dX10_digest_31 : decode cX10_digest 31 = .ok (.iconst 0, 1) := by decide +kernel
theorem dX10_digest_32 : decode cX10_digest 32 = .ok (.istore_n 3, 1) := by decide +kernel
theorem dX10_digest_33 : decode cX10_digest 33 = .ok (.iload_n 3, 1) := by decide +kernel
theorem dX10_digest_34 : decode cX10_digest 34 = .ok (.aload_n 0, 1) := by decide +kernel
theorem dX10_digest_35 : decode cX10_digest 35 = .ok (.getfield 136, 3) := by decide +kernel
theorem dX10_digest_38 : decode cX10_digest 38 = .ok (.if_icmp .ge 23, 3) := by decide +kernel
theorem dX10_digest_41 : decode cX10_digest 41 = .ok (.ldc2_w 261, 3) := by decide +kernel
theorem dX10_digest_44 : decode cX10_digest 44 = .ok (.lload_n 1, 1) := by decide +kernel
theorem dX10_digest_45 : decode cX10_digest 45 = .ok (.lmul, 1) := by decide +kernel
theorem dX10_digest_46 : decode cX10_digest 46 = .ok (.aload_n 0, 1) := by decide +kernel
theorem dX10_digest_47 : decode cX10_digest 47 = .ok (.getfield 31, 3) := by decide +kernel
theorem dX10_digest_50 : decode cX10_digest 50 = .ok (.iload_n 3, 1) := by decide +kernel
theorem dX10_digest_51 : decode cX10_digest 51 = .ok (.iaload, 1) := by decide +kernel
theorem dX10_digest_52 : decode cX10_digest 52 = .ok (.i2l, 1) := by decide +kernel
theorem dX10_digest_53 : decode cX10_digest 53 = .ok (.ladd, 1) := by decide +kernel
theorem dX10_digest_54 : decode cX10_digest 54 = .ok (.lstore_n 1, 1) := by decide +kernel
theorem dX10_digest_55 : decode cX10_digest 55 = .ok (.iinc 3 1, 3) := by decide +kernel
theorem dX10_digest_58 : decode cX10_digest 58 = .ok (.goto (-25), 3) := by decide +kernel
theorem dX10_digest_61 : decode cX10_digest 61 = .ok (.iconst 0, 1) := by decide +kernel
theorem dX10_digest_62 : decode cX10_digest 62 = .ok (.istore_n 3, 1) := by decide +kernel
theorem dX10_digest_63 : decode cX10_digest 63 = .ok (.iload_n 3, 1) := by decide +kernel
theorem dX10_digest_64 : decode cX10_digest 64 = .ok (.bipush 10, 2) := by decide +kernel
theorem dX10_digest_66 : decode cX10_digest 66 = .ok (.if_icmp .ge 22, 3) := by decide +kernel
theorem dX10_digest_69 : decode cX10_digest 69 = .ok (.ldc2_w 261, 3) := by decide +kernel
theorem dX10_digest_72 : decode cX10_digest 72 = .ok (.lload_n 1, 1) := by decide +kernel
theorem dX10_digest_73 : decode cX10_digest 73 = .ok (.lmul, 1) := by decide +kernel
theorem dX10_digest_74 : decode cX10_digest 74 = .ok (.aload_n 0, 1) := by decide +kernel
theorem dX10_digest_75 : decode cX10_digest 75 = .ok (.iload_n 3, 1) := by decide +kernel
theorem dX10_digest_76 : decode cX10_digest 76 = .ok (.invokevirtual 266, 3) := by decide +kernel
theorem dX10_digest_79 : decode cX10_digest 79 = .ok (.i2l, 1) := by decide +kernel
theorem dX10_digest_80 : decode cX10_digest 80 = .ok (.ladd, 1) := by decide +kernel
theorem dX10_digest_81 : decode cX10_digest 81 = .ok (.lstore_n 1, 1) := by decide +kernel
theorem dX10_digest_82 : decode cX10_digest 82 = .ok (.iinc 3 1, 3) := by decide +kernel
theorem dX10_digest_85 : decode cX10_digest 85 = .ok (.goto (-22), 3) := by decide +kernel
theorem dX10_digest_88 : decode cX10_digest 88 = .ok (.iconst 0, 1) := by decide +kernel
theorem dX10_digest_89 : decode cX10_digest 89 = .ok (.istore_n 3, 1) := by decide +kernel
theorem dX10_digest_90 : decode cX10_digest 90 = .ok (.iload_n 3, 1) := by decide +kernel
theorem dX10_digest_91 : decode cX10_digest 91 = .ok (.aload_n 0, 1) := by decide +kernel
theorem dX10_digest_92 : decode cX10_digest 92 = .ok (.getfield 210, 3) := by decide +kernel
theorem dX10_digest_95 : decode cX10_digest 95 = .ok (.if_icmp .ge 22, 3) := by decide +kernel
theorem dX10_digest_98 : decode cX10_digest 98 = .ok (.ldc2_w 261, 3) := by decide +kernel
theorem dX10_digest_101 : decode cX10_digest 101 = .ok (.lload_n 1, 1) := by decide +kernel
theorem dX10_digest_102 : decode cX10_digest 102 = .ok (.lmul, 1) := by decide +kernel
theorem dX10_digest_103 : decode cX10_digest 103 = .ok (.aload_n 0, 1) := by decide +kernel
theorem dX10_digest_104 : decode cX10_digest 104 = .ok (.iload_n 3, 1) := by decide +kernel
theorem dX10_digest_105 : decode cX10_digest 105 = .ok (.invokevirtual 216, 3) := by decide +kernel
theorem dX10_digest_108 : decode cX10_digest 108 = .ok (.i2l, 1) := by decide +kernel
theorem dX10_digest_109 : decode cX10_digest 109 = .ok (.ladd, 1) := by decide +kernel
theorem dX10_digest_110 : decode cX10_digest 110 = .ok (.lstore_n 1, 1) := by decide +kernel
theorem dX10_digest_111 : decode cX10_digest 111 = .ok (.iinc 3 1, 3) := by decide +kernel
theorem dX10_digest_114 : decode cX10_digest 114 = .ok (.goto (-24), 3) := by decide +kernel
theorem dX10_digest_117 : decode cX10_digest 117 = .ok (.iconst 0, 1) := by decide +kernel
theorem dX10_digest_118 : decode cX10_digest 118 = .ok (.istore_n 3, 1) := by decide +kernel
theorem dX10_digest_119 : decode cX10_digest 119 = .ok (.iload_n 3, 1) := by decide +kernel
theorem dX10_digest_120 : decode cX10_digest 120 = .ok (.aload_n 0, 1) := by decide +kernel
theorem dX10_digest_121 : decode cX10_digest 121 = .ok (.getfield 223, 3) := by decide +kernel
theorem dX10_digest_124 : decode cX10_digest 124 = .ok (.if_icmp .ge 23, 3) := by decide +kernel
theorem dX10_digest_127 : decode cX10_digest 127 = .ok (.ldc2_w 261, 3) := by decide +kernel
theorem dX10_digest_130 : decode cX10_digest 130 = .ok (.lload_n 1, 1) := by decide +kernel
theorem dX10_digest_131 : decode cX10_digest 131 = .ok (.lmul, 1) := by decide +kernel
theorem dX10_digest_132 : decode cX10_digest 132 = .ok (.aload_n 0, 1) := by decide +kernel
theorem dX10_digest_133 : decode cX10_digest 133 = .ok (.getfield 105, 3) := by decide +kernel
theorem dX10_digest_136 : decode cX10_digest 136 = .ok (.iload_n 3, 1) := by decide +kernel
theorem dX10_digest_137 : decode cX10_digest 137 = .ok (.iaload, 1) := by decide +kernel
theorem dX10_digest_138 : decode cX10_digest 138 = .ok (.i2l, 1) := by decide +kernel
theorem dX10_digest_139 : decode cX10_digest 139 = .ok (.ladd, 1) := by decide +kernel
theorem dX10_digest_140 : decode cX10_digest 140 = .ok (.lstore_n 1, 1) := by decide +kernel
theorem dX10_digest_141 : decode cX10_digest 141 = .ok (.iinc 3 1, 3) := by decide +kernel
theorem dX10_digest_144 : decode cX10_digest 144 = .ok (.goto (-25), 3) := by decide +kernel
theorem dX10_digest_147 : decode cX10_digest 147 = .ok (.lload_n 1, 1) := by decide +kernel
theorem dX10_digest_148 : decode cX10_digest 148 = .ok (.lreturn, 1) := by decide +kernel
theorem dJ9_abs_0f7a4_0 : decode cJ9_abs_0f7a4 0 = .ok (.iload_n 0, 1) := by decide +kernel
theorem dJ9_abs_0f7a4_1 : decode cJ9_abs_0f7a4 1 = .ok (.ifCond .ge 8, 3) := by decide +kernel
theorem dJ9_abs_0f7a4_4 : decode cJ9_abs_0f7a4 4 = .ok (.iload_n 0, 1) := by decide +kernel
theorem dJ9_abs_0f7a4_5 : decode cJ9_abs_0f7a4 5 = .ok (.ineg, 1) := by decide +kernel
theorem dJ9_abs_0f7a4_6 : decode cJ9_abs_0f7a4 6 = .ok (.goto 4, 3) := by decide +kernel
theorem dJ9_abs_0f7a4_9 : decode cJ9_abs_0f7a4 9 = .ok (.iload_n 0, 1) := by decide +kernel
theorem dJ9_abs_0f7a4_10 : decode cJ9_abs_0f7a4 10 = .ok (.ireturn, 1) := by decide +kernel
theorem dJ9_max_7cf53_0 : decode cJ9_max_7cf53 0 = .ok (.iload_n 0, 1) := by decide +kernel
theorem dJ9_max_7cf53_1 : decode cJ9_max_7cf53 1 = .ok (.iload_n 1, 1) := by decide +kernel
theorem dJ9_max_7cf53_2 : decode cJ9_max_7cf53 2 = .ok (.if_icmp .lt 7, 3) := by decide +kernel
theorem dJ9_max_7cf53_5 : decode cJ9_max_7cf53 5 = .ok (.iload_n 0, 1) := by decide +kernel
theorem dJ9_max_7cf53_6 : decode cJ9_max_7cf53 6 = .ok (.goto 4, 3) := by decide +kernel
theorem dJ9_max_7cf53_9 : decode cJ9_max_7cf53 9 = .ok (.iload_n 1, 1) := by decide +kernel
theorem dJ9_max_7cf53_10 : decode cJ9_max_7cf53 10 = .ok (.ireturn, 1) := by decide +kernel
theorem dJ7_rangeCheck_23922_0 : decode cJ7_rangeCheck_23922 0 = .ok (.iload_n 1, 1) := by decide +kernel
theorem dJ7_rangeCheck_23922_1 : decode cJ7_rangeCheck_23922 1 = .ok (.iload_n 2, 1) := by decide +kernel
theorem dJ7_rangeCheck_23922_2 : decode cJ7_rangeCheck_23922 2 = .ok (.if_icmp .le 44, 3) := by decide +kernel
theorem dJ7_rangeCheck_23922_5 : decode cJ7_rangeCheck_23922 5 = .ok (.new 43, 3) := by decide +kernel
theorem dJ7_rangeCheck_23922_8 : decode cJ7_rangeCheck_23922 8 = .ok (.dup, 1) := by decide +kernel
theorem dJ7_rangeCheck_23922_9 : decode cJ7_rangeCheck_23922 9 = .ok (.new 45, 3) := by decide +kernel
theorem dJ7_rangeCheck_23922_12 : decode cJ7_rangeCheck_23922 12 = .ok (.dup, 1) := by decide +kernel
theorem dJ7_rangeCheck_23922_13 : decode cJ7_rangeCheck_23922 13 = .ok (.invokespecial 47, 3) := by decide +kernel
theorem dJ7_rangeCheck_23922_16 : decode cJ7_rangeCheck_23922 16 = .ok (.ldc 48, 2) := by decide +kernel
theorem dJ7_rangeCheck_23922_18 : decode cJ7_rangeCheck_23922 18 = .ok (.invokevirtual 50, 3) := by decide +kernel
theorem dJ7_rangeCheck_23922_21 : decode cJ7_rangeCheck_23922 21 = .ok (.iload_n 1, 1) := by decide +kernel
theorem dJ7_rangeCheck_23922_22 : decode cJ7_rangeCheck_23922 22 = .ok (.invokevirtual 54, 3) := by decide +kernel
theorem dJ7_rangeCheck_23922_25 : decode cJ7_rangeCheck_23922 25 = .ok (.ldc 57, 2) := by decide +kernel
theorem dJ7_rangeCheck_23922_27 : decode cJ7_rangeCheck_23922 27 = .ok (.invokevirtual 50, 3) := by decide +kernel
theorem dJ7_rangeCheck_23922_30 : decode cJ7_rangeCheck_23922 30 = .ok (.iload_n 2, 1) := by decide +kernel
theorem dJ7_rangeCheck_23922_31 : decode cJ7_rangeCheck_23922 31 = .ok (.invokevirtual 54, 3) := by decide +kernel
theorem dJ7_rangeCheck_23922_34 : decode cJ7_rangeCheck_23922 34 = .ok (.ldc 59, 2) := by decide +kernel
theorem dJ7_rangeCheck_23922_36 : decode cJ7_rangeCheck_23922 36 = .ok (.invokevirtual 50, 3) := by decide +kernel
theorem dJ7_rangeCheck_23922_39 : decode cJ7_rangeCheck_23922 39 = .ok (.invokevirtual 61, 3) := by decide +kernel
theorem dJ7_rangeCheck_23922_42 : decode cJ7_rangeCheck_23922 42 = .ok (.invokespecial 65, 3) := by decide +kernel
theorem dJ7_rangeCheck_23922_45 : decode cJ7_rangeCheck_23922 45 = .ok (.athrow, 1) := by decide +kernel
theorem dJ7_rangeCheck_23922_46 : decode cJ7_rangeCheck_23922 46 = .ok (.iload_n 1, 1) := by decide +kernel
theorem dJ7_rangeCheck_23922_47 : decode cJ7_rangeCheck_23922 47 = .ok (.ifCond .ge 12, 3) := by decide +kernel
theorem dJ7_rangeCheck_23922_50 : decode cJ7_rangeCheck_23922 50 = .ok (.new 68, 3) := by decide +kernel
theorem dJ7_rangeCheck_23922_53 : decode cJ7_rangeCheck_23922 53 = .ok (.dup, 1) := by decide +kernel
theorem dJ7_rangeCheck_23922_54 : decode cJ7_rangeCheck_23922 54 = .ok (.iload_n 1, 1) := by decide +kernel
theorem dJ7_rangeCheck_23922_55 : decode cJ7_rangeCheck_23922 55 = .ok (.invokespecial 70, 3) := by decide +kernel
theorem dJ7_rangeCheck_23922_58 : decode cJ7_rangeCheck_23922 58 = .ok (.athrow, 1) := by decide +kernel
theorem dJ7_rangeCheck_23922_59 : decode cJ7_rangeCheck_23922 59 = .ok (.iload_n 2, 1) := by decide +kernel
theorem dJ7_rangeCheck_23922_60 : decode cJ7_rangeCheck_23922 60 = .ok (.iload_n 0, 1) := by decide +kernel
theorem dJ7_rangeCheck_23922_61 : decode cJ7_rangeCheck_23922 61 = .ok (.if_icmp .le 12, 3) := by decide +kernel
theorem dJ7_rangeCheck_23922_64 : decode cJ7_rangeCheck_23922 64 = .ok (.new 68, 3) := by decide +kernel
theorem dJ7_rangeCheck_23922_67 : decode cJ7_rangeCheck_23922 67 = .ok (.dup, 1) := by decide +kernel
theorem dJ7_rangeCheck_23922_68 : decode cJ7_rangeCheck_23922 68 = .ok (.iload_n 2, 1) := by decide +kernel
theorem dJ7_rangeCheck_23922_69 : decode cJ7_rangeCheck_23922 69 = .ok (.invokespecial 70, 3) := by decide +kernel
theorem dJ7_rangeCheck_23922_72 : decode cJ7_rangeCheck_23922 72 = .ok (.athrow, 1) := by decide +kernel
theorem dJ7_rangeCheck_23922_73 : decode cJ7_rangeCheck_23922 73 = .ok (.return_, 1) := by decide +kernel
theorem dJ7_fill_53178_0 : decode cJ7_fill_53178 0 = .ok (.iconst 0, 1) := by decide +kernel
theorem dJ7_fill_53178_1 : decode cJ7_fill_53178 1 = .ok (.istore_n 2, 1) := by decide +kernel
theorem dJ7_fill_53178_2 : decode cJ7_fill_53178 2 = .ok (.aload_n 0, 1) := by decide +kernel
theorem dJ7_fill_53178_3 : decode cJ7_fill_53178 3 = .ok (.arraylength, 1) := by decide +kernel
theorem dJ7_fill_53178_4 : decode cJ7_fill_53178 4 = .ok (.istore_n 3, 1) := by decide +kernel
theorem dJ7_fill_53178_5 : decode cJ7_fill_53178 5 = .ok (.iload_n 2, 1) := by decide +kernel
theorem dJ7_fill_53178_6 : decode cJ7_fill_53178 6 = .ok (.iload_n 3, 1) := by decide +kernel
theorem dJ7_fill_53178_7 : decode cJ7_fill_53178 7 = .ok (.if_icmp .ge 13, 3) := by decide +kernel
theorem dJ7_fill_53178_10 : decode cJ7_fill_53178 10 = .ok (.aload_n 0, 1) := by decide +kernel
theorem dJ7_fill_53178_11 : decode cJ7_fill_53178 11 = .ok (.iload_n 2, 1) := by decide +kernel
theorem dJ7_fill_53178_12 : decode cJ7_fill_53178 12 = .ok (.iload_n 1, 1) := by decide +kernel
theorem dJ7_fill_53178_13 : decode cJ7_fill_53178 13 = .ok (.iastore, 1) := by decide +kernel
theorem dJ7_fill_53178_14 : decode cJ7_fill_53178 14 = .ok (.iinc 2 1, 3) := by decide +kernel
theorem dJ7_fill_53178_17 : decode cJ7_fill_53178 17 = .ok (.goto (-12), 3) := by decide +kernel
theorem dJ7_fill_53178_20 : decode cJ7_fill_53178 20 = .ok (.return_, 1) := by decide +kernel
theorem dJ7_fill_fda19_0 : decode cJ7_fill_fda19 0 = .ok (.aload_n 0, 1) := by decide +kernel
theorem dJ7_fill_fda19_1 : decode cJ7_fill_fda19 1 = .ok (.arraylength, 1) := by decide +kernel
theorem dJ7_fill_fda19_2 : decode cJ7_fill_fda19 2 = .ok (.iload_n 1, 1) := by decide +kernel
theorem dJ7_fill_fda19_3 : decode cJ7_fill_fda19 3 = .ok (.iload_n 2, 1) := by decide +kernel
theorem dJ7_fill_fda19_4 : decode cJ7_fill_fda19 4 = .ok (.invokestatic 13, 3) := by decide +kernel
theorem dJ7_fill_fda19_7 : decode cJ7_fill_fda19 7 = .ok (.iload_n 1, 1) := by decide +kernel
theorem dJ7_fill_fda19_8 : decode cJ7_fill_fda19 8 = .ok (.istore 4, 2) := by decide +kernel
theorem dJ7_fill_fda19_10 : decode cJ7_fill_fda19 10 = .ok (.iload 4, 2) := by decide +kernel
theorem dJ7_fill_fda19_12 : decode cJ7_fill_fda19 12 = .ok (.iload_n 2, 1) := by decide +kernel
theorem dJ7_fill_fda19_13 : decode cJ7_fill_fda19 13 = .ok (.if_icmp .ge 14, 3) := by decide +kernel
theorem dJ7_fill_fda19_16 : decode cJ7_fill_fda19 16 = .ok (.aload_n 0, 1) := by decide +kernel
theorem dJ7_fill_fda19_17 : decode cJ7_fill_fda19 17 = .ok (.iload 4, 2) := by decide +kernel
theorem dJ7_fill_fda19_19 : decode cJ7_fill_fda19 19 = .ok (.iload_n 3, 1) := by decide +kernel
theorem dJ7_fill_fda19_20 : decode cJ7_fill_fda19 20 = .ok (.iastore, 1) := by decide +kernel
theorem dJ7_fill_fda19_21 : decode cJ7_fill_fda19 21 = .ok (.iinc 4 1, 3) := by decide +kernel
theorem dJ7_fill_fda19_24 : decode cJ7_fill_fda19 24 = .ok (.goto (-14), 3) := by decide +kernel
theorem dJ7_fill_fda19_27 : decode cJ7_fill_fda19 27 = .ok (.return_, 1) := by decide +kernel
end
section
theorem dL_law_0 : decode cL_law 0 = .ok (.new 7, 3) := by decide +kernel
theorem dL_law_3 : decode cL_law 3 = .ok (.dup, 1) := by decide +kernel
theorem dL_law_4 : decode cL_law 4 = .ok (.invokespecial 9, 3) := by decide +kernel
theorem dL_law_7 : decode cL_law 7 = .ok (.astore_n 1, 1) := by decide +kernel
theorem dL_law_8 : decode cL_law 8 = .ok (.new 10, 3) := by decide +kernel
theorem dL_law_11 : decode cL_law 11 = .ok (.dup, 1) := by decide +kernel
theorem dL_law_12 : decode cL_law 12 = .ok (.invokespecial 12, 3) := by decide +kernel
theorem dL_law_15 : decode cL_law 15 = .ok (.astore_n 2, 1) := by decide +kernel
theorem dL_law_16 : decode cL_law 16 = .ok (.iconst 0, 1) := by decide +kernel
theorem dL_law_17 : decode cL_law 17 = .ok (.istore_n 3, 1) := by decide +kernel
theorem dL_law_18 : decode cL_law 18 = .ok (.iload_n 3, 1) := by decide +kernel
theorem dL_law_19 : decode cL_law 19 = .ok (.aload_n 0, 1) := by decide +kernel
theorem dL_law_20 : decode cL_law 20 = .ok (.arraylength, 1) := by decide +kernel
theorem dL_law_21 : decode cL_law 21 = .ok (.bipush 6, 2) := by decide +kernel
theorem dL_law_23 : decode cL_law 23 = .ok (.isub, 1) := by decide +kernel
theorem dL_law_24 : decode cL_law 24 = .ok (.if_icmp .gt 1467, 3) := by decide +kernel
theorem dL_law_27 : decode cL_law 27 = .ok (.aload_n 0, 1) := by decide +kernel
theorem dL_law_28 : decode cL_law 28 = .ok (.iload_n 3, 1) := by decide +kernel
theorem dL_law_29 : decode cL_law 29 = .ok (.iaload, 1) := by decide +kernel
theorem dL_law_30 : decode cL_law 30 = .ok (.bipush 63, 2) := by decide +kernel
theorem dL_law_32 : decode cL_law 32 = .ok (.iand, 1) := by decide +kernel
theorem dL_law_33 : decode cL_law 33 = .ok (.tableswitch 1452 0 37 #[167, 200, 263, 306, 329, 342, 365, 398, 431, 454, 487, 510, 543, 566, 599, 642, 675, 708, 751, 784, 807, 830, 873, 916, 949, 1002, 1035, 1058, 1091, 1114, 1157, 1190, 1233, 1256, 1309, 1352, 1415, 1438], 167) := by decide +kernel
theorem dL_law_200 : decode cL_law 200 = .ok (.aload_n 1, 1) := by decide +kernel
theorem dL_law_201 : decode cL_law 201 = .ok (.aload_n 0, 1) := by decide +kernel
theorem dL_law_202 : decode cL_law 202 = .ok (.iload_n 3, 1) := by decide +kernel
theorem dL_law_203 : decode cL_law 203 = .ok (.iconst 1, 1) := by decide +kernel
theorem dL_law_204 : decode cL_law 204 = .ok (.iadd, 1) := by decide +kernel
theorem dL_law_205 : decode cL_law 205 = .ok (.iaload, 1) := by decide +kernel
theorem dL_law_206 : decode cL_law 206 = .ok (.aload_n 0, 1) := by decide +kernel
theorem dL_law_207 : decode cL_law 207 = .ok (.iload_n 3, 1) := by decide +kernel
theorem dL_law_208 : decode cL_law 208 = .ok (.iconst 2, 1) := by decide +kernel
theorem dL_law_209 : decode cL_law 209 = .ok (.iadd, 1) := by decide +kernel
theorem dL_law_210 : decode cL_law 210 = .ok (.iaload, 1) := by decide +kernel
theorem dL_law_211 : decode cL_law 211 = .ok (.invokevirtual 13, 3) := by decide +kernel
theorem dL_law_214 : decode cL_law 214 = .ok (.aload_n 2, 1) := by decide +kernel
theorem dL_law_215 : decode cL_law 215 = .ok (.aload_n 0, 1) := by decide +kernel
theorem dL_law_216 : decode cL_law 216 = .ok (.iload_n 3, 1) := by decide +kernel
theorem dL_law_217 : decode cL_law 217 = .ok (.iconst 1, 1) := by decide +kernel
theorem dL_law_218 : decode cL_law 218 = .ok (.iadd, 1) := by decide +kernel
theorem dL_law_219 : decode cL_law 219 = .ok (.iaload, 1) := by decide +kernel
theorem dL_law_220 : decode cL_law 220 = .ok (.aload_n 0, 1) := by decide +kernel
theorem dL_law_221 : decode cL_law 221 = .ok (.iload_n 3, 1) := by decide +kernel
theorem dL_law_222 : decode cL_law 222 = .ok (.iconst 2, 1) := by decide +kernel
theorem dL_law_223 : decode cL_law 223 = .ok (.iadd, 1) := by decide +kernel
theorem dL_law_224 : decode cL_law 224 = .ok (.iaload, 1) := by decide +kernel
theorem dL_law_225 : decode cL_law 225 = .ok (.invokevirtual 17, 3) := by decide +kernel
theorem dL_law_228 : decode cL_law 228 = .ok (.if_icmp .eq 1257, 3) := by decide +kernel
theorem dL_law_231 : decode cL_law 231 = .ok (.iconst 0, 1) := by decide +kernel
theorem dL_law_232 : decode cL_law 232 = .ok (.ireturn, 1) := by decide +kernel
theorem dL_law_233 : decode cL_law 233 = .ok (.aload_n 1, 1) := by decide +kernel
theorem dL_law_234 : decode cL_law 234 = .ok (.aload_n 0, 1) := by decide +kernel
theorem dL_law_235 : decode cL_law 235 = .ok (.iload_n 3, 1) := by decide +kernel
theorem dL_law_236 : decode cL_law 236 = .ok (.iconst 1, 1) := by decide +kernel
theorem dL_law_237 : decode cL_law 237 = .ok (.iadd, 1) := by decide +kernel
theorem dL_law_238 : decode cL_law 238 = .ok (.iaload, 1) := by decide +kernel
theorem dL_law_239 : decode cL_law 239 = .ok (.aload_n 0, 1) := by decide +kernel
theorem dL_law_240 : decode cL_law 240 = .ok (.iload_n 3, 1) := by decide +kernel
theorem dL_law_241 : decode cL_law 241 = .ok (.iconst 2, 1) := by decide +kernel
theorem dL_law_242 : decode cL_law 242 = .ok (.iadd, 1) := by decide +kernel
theorem dL_law_243 : decode cL_law 243 = .ok (.iaload, 1) := by decide +kernel
theorem dL_law_244 : decode cL_law 244 = .ok (.aload_n 0, 1) := by decide +kernel
theorem dL_law_245 : decode cL_law 245 = .ok (.iload_n 3, 1) := by decide +kernel
theorem dL_law_246 : decode cL_law 246 = .ok (.iconst 3, 1) := by decide +kernel
theorem dL_law_247 : decode cL_law 247 = .ok (.iadd, 1) := by decide +kernel
theorem dL_law_248 : decode cL_law 248 = .ok (.iaload, 1) := by decide +kernel
theorem dL_law_249 : decode cL_law 249 = .ok (.aload_n 0, 1) := by decide +kernel
theorem dL_law_250 : decode cL_law 250 = .ok (.iload_n 3, 1) := by decide +kernel
theorem dL_law_251 : decode cL_law 251 = .ok (.iconst 4, 1) := by decide +kernel
theorem dL_law_252 : decode cL_law 252 = .ok (.iadd, 1) := by decide +kernel
theorem dL_law_253 : decode cL_law 253 = .ok (.iaload, 1) := by decide +kernel
theorem dL_law_254 : decode cL_law 254 = .ok (.aload_n 0, 1) := by decide +kernel
theorem dL_law_255 : decode cL_law 255 = .ok (.iload_n 3, 1) := by decide +kernel
theorem dL_law_256 : decode cL_law 256 = .ok (.iconst 5, 1) := by decide +kernel
theorem dL_law_257 : decode cL_law 257 = .ok (.iadd, 1) := by decide +kernel
theorem dL_law_258 : decode cL_law 258 = .ok (.iaload, 1) := by decide +kernel
theorem dL_law_259 : decode cL_law 259 = .ok (.invokevirtual 18, 3) := by decide +kernel
theorem dL_law_262 : decode cL_law 262 = .ok (.aload_n 2, 1) := by decide +kernel
theorem dL_law_263 : decode cL_law 263 = .ok (.aload_n 0, 1) := by decide +kernel
theorem dL_law_264 : decode cL_law 264 = .ok (.iload_n 3, 1) := by decide +kernel
theorem dL_law_265 : decode cL_law 265 = .ok (.iconst 1, 1) := by decide +kernel
theorem dL_law_266 : decode cL_law 266 = .ok (.iadd, 1) := by decide +kernel
theorem dL_law_267 : decode cL_law 267 = .ok (.iaload, 1) := by decide +kernel
theorem dL_law_268 : decode cL_law 268 = .ok (.aload_n 0, 1) := by decide +kernel
theorem dL_law_269 : decode cL_law 269 = .ok (.iload_n 3, 1) := by decide +kernel
theorem dL_law_270 : decode cL_law 270 = .ok (.iconst 2, 1) := by decide +kernel
theorem dL_law_271 : decode cL_law 271 = .ok (.iadd, 1) := by decide +kernel
theorem dL_law_272 : decode cL_law 272 = .ok (.iaload, 1) := by decide +kernel
theorem dL_law_273 : decode cL_law 273 = .ok (.aload_n 0, 1) := by decide +kernel
theorem dL_law_274 : decode cL_law 274 = .ok (.iload_n 3, 1) := by decide +kernel
theorem dL_law_275 : decode cL_law 275 = .ok (.iconst 3, 1) := by decide +kernel
theorem dL_law_276 : decode cL_law 276 = .ok (.iadd, 1) := by decide +kernel
theorem dL_law_277 : decode cL_law 277 = .ok (.iaload, 1) := by decide +kernel
theorem dL_law_278 : decode cL_law 278 = .ok (.aload_n 0, 1) := by decide +kernel
theorem dL_law_279 : decode cL_law 279 = .ok (.iload_n 3, 1) := by decide +kernel
theorem dL_law_280 : decode cL_law 280 = .ok (.iconst 4, 1) := by decide +kernel
theorem dL_law_281 : decode cL_law 281 = .ok (.iadd, 1) := by decide +kernel
theorem dL_law_282 : decode cL_law 282 = .ok (.iaload, 1) := by decide +kernel
theorem dL_law_283 : decode cL_law 283 = .ok (.aload_n 0, 1) := by decide +kernel
theorem dL_law_284 : decode cL_law 284 = .ok (.iload_n 3, 1) := by decide +kernel
theorem dL_law_285 : decode cL_law 285 = .ok (.iconst 5, 1) := by decide +kernel
theorem dL_law_286 : decode cL_law 286 = .ok (.iadd, 1) := by decide +kernel
theorem dL_law_287 : decode cL_law 287 = .ok (.iaload, 1) := by decide +kernel
theorem dL_law_288 : decode cL_law 288 = .ok (.invokevirtual 22, 3) := by decide +kernel
theorem dL_law_291 : decode cL_law 291 = .ok (.if_icmp .eq 1194, 3) := by decide +kernel
theorem dL_law_294 : decode cL_law 294 = .ok (.iconst 0, 1) := by decide +kernel
theorem dL_law_295 : decode cL_law 295 = .ok (.ireturn, 1) := by decide +kernel
theorem dL_law_296 : decode cL_law 296 = .ok (.aload_n 1, 1) := by decide +kernel
theorem dL_law_297 : decode cL_law 297 = .ok (.aload_n 0, 1) := by decide +kernel
theorem dL_law_298 : decode cL_law 298 = .ok (.iload_n 3, 1) := by decide +kernel
theorem dL_law_299 : decode cL_law 299 = .ok (.iconst 1, 1) := by decide +kernel
theorem dL_law_300 : decode cL_law 300 = .ok (.iadd, 1) := by decide +kernel
theorem dL_law_301 : decode cL_law 301 = .ok (.iaload, 1) := by decide +kernel
theorem dL_law_302 : decode cL_law 302 = .ok (.aload_n 0, 1) := by decide +kernel
theorem dL_law_303 : decode cL_law 303 = .ok (.iload_n 3, 1) := by decide +kernel
theorem dL_law_304 : decode cL_law 304 = .ok (.iconst 2, 1) := by decide +kernel
theorem dL_law_305 : decode cL_law 305 = .ok (.iadd, 1) := by decide +kernel
theorem dL_law_306 : decode cL_law 306 = .ok (.iaload, 1) := by decide +kernel
theorem dL_law_307 : decode cL_law 307 = .ok (.aload_n 0, 1) := by decide +kernel
theorem dL_law_308 : decode cL_law 308 = .ok (.iload_n 3, 1) := by decide +kernel
theorem dL_law_309 : decode cL_law 309 = .ok (.iconst 3, 1) := by decide +kernel
theorem dL_law_310 : decode cL_law 310 = .ok (.iadd, 1) := by decide +kernel
theorem dL_law_311 : decode cL_law 311 = .ok (.iaload, 1) := by decide +kernel
theorem dL_law_312 : decode cL_law 312 = .ok (.invokevirtual 23, 3) := by decide +kernel
theorem dL_law_315 : decode cL_law 315 = .ok (.aload_n 2, 1) := by decide +kernel
theorem dL_law_316 : decode cL_law 316 = .ok (.aload_n 0, 1) := by decide +kernel
theorem dL_law_317 : decode cL_law 317 = .ok (.iload_n 3, 1) := by decide +kernel
theorem dL_law_318 : decode cL_law 318 = .ok (.iconst 1, 1) := by decide +kernel
theorem dL_law_319 : decode cL_law 319 = .ok (.iadd, 1) := by decide +kernel
theorem dL_law_320 : decode cL_law 320 = .ok (.iaload, 1) := by decide +kernel
theorem dL_law_321 : decode cL_law 321 = .ok (.aload_n 0, 1) := by decide +kernel
theorem dL_law_322 : decode cL_law 322 = .ok (.iload_n 3, 1) := by decide +kernel
theorem dL_law_323 : decode cL_law 323 = .ok (.iconst 2, 1) := by decide +kernel
theorem dL_law_324 : decode cL_law 324 = .ok (.iadd, 1) := by decide +kernel
theorem dL_law_325 : decode cL_law 325 = .ok (.iaload, 1) := by decide +kernel
theorem dL_law_326 : decode cL_law 326 = .ok (.aload_n 0, 1) := by decide +kernel
theorem dL_law_327 : decode cL_law 327 = .ok (.iload_n 3, 1) := by decide +kernel
theorem dL_law_328 : decode cL_law 328 = .ok (.iconst 3, 1) := by decide +kernel
theorem dL_law_329 : decode cL_law 329 = .ok (.iadd, 1) := by decide +kernel
theorem dL_law_330 : decode cL_law 330 = .ok (.iaload, 1) := by decide +kernel
theorem dL_law_331 : decode cL_law 331 = .ok (.invokevirtual 27, 3) := by decide +kernel
theorem dL_law_334 : decode cL_law 334 = .ok (.if_icmp .eq 1151, 3) := by decide +kernel
theorem dL_law_337 : decode cL_law 337 = .ok (.iconst 0, 1) := by decide +kernel
theorem dL_law_338 : decode cL_law 338 = .ok (.ireturn, 1) := by decide +kernel
theorem dL_law_339 : decode cL_law 339 = .ok (.aload_n 1, 1) := by decide +kernel
theorem dL_law_340 : decode cL_law 340 = .ok (.aload_n 0, 1) := by decide +kernel
theorem dL_law_341 : decode cL_law 341 = .ok (.iload_n 3, 1) := by decide +kernel
theorem dL_law_342 : decode cL_law 342 = .ok (.iconst 1, 1) := by decide +kernel
theorem dL_law_343 : decode cL_law 343 = .ok (.iadd, 1) := by decide +kernel
theorem dL_law_344 : decode cL_law 344 = .ok (.iaload, 1) := by decide +kernel
theorem dL_law_345 : decode cL_law 345 = .ok (.invokevirtual 28, 3) := by decide +kernel
theorem dL_law_348 : decode cL_law 348 = .ok (.aload_n 2, 1) := by decide +kernel
theorem dL_law_349 : decode cL_law 349 = .ok (.aload_n 0, 1) := by decide +kernel
theorem dL_law_350 : decode cL_law 350 = .ok (.iload_n 3, 1) := by decide +kernel
theorem dL_law_351 : decode cL_law 351 = .ok (.iconst 1, 1) := by decide +kernel
theorem dL_law_352 : decode cL_law 352 = .ok (.iadd, 1) := by decide +kernel
theorem dL_law_353 : decode cL_law 353 = .ok (.iaload, 1) := by decide +kernel
theorem dL_law_354 : decode cL_law 354 = .ok (.invokevirtual 32, 3) := by decide +kernel
theorem dL_law_357 : decode cL_law 357 = .ok (.if_icmp .eq 1128, 3) := by decide +kernel
theorem dL_law_360 : decode cL_law 360 = .ok (.iconst 0, 1) := by decide +kernel
theorem dL_law_361 : decode cL_law 361 = .ok (.ireturn, 1) := by decide +kernel
theorem dL_law_362 : decode cL_law 362 = .ok (.aload_n 1, 1) := by decide +kernel
theorem dL_law_363 : decode cL_law 363 = .ok (.invokevirtual 33, 3) := by decide +kernel
theorem dL_law_366 : decode cL_law 366 = .ok (.aload_n 2, 1) := by decide +kernel
theorem dL_law_367 : decode cL_law 367 = .ok (.invokevirtual 37, 3) := by decide +kernel
theorem dL_law_370 : decode cL_law 370 = .ok (.if_icmp .eq 1115, 3) := by decide +kernel
theorem dL_law_373 : decode cL_law 373 = .ok (.iconst 0, 1) := by decide +kernel
theorem dL_law_374 : decode cL_law 374 = .ok (.ireturn, 1) := by decide +kernel
theorem dL_law_375 : decode cL_law 375 = .ok (.aload_n 1, 1) := by decide +kernel
theorem dL_law_376 : decode cL_law 376 = .ok (.aload_n 0, 1) := by decide +kernel
theorem dL_law_377 : decode cL_law 377 = .ok (.iload_n 3, 1) := by decide +kernel
theorem dL_law_378 : decode cL_law 378 = .ok (.iconst 1, 1) := by decide +kernel
theorem dL_law_379 : decode cL_law 379 = .ok (.iadd, 1) := by decide +kernel
theorem dL_law_380 : decode cL_law 380 = .ok (.iaload, 1) := by decide +kernel
theorem dL_law_381 : decode cL_law 381 = .ok (.invokevirtual 38, 3) := by decide +kernel
theorem dL_law_384 : decode cL_law 384 = .ok (.aload_n 2, 1) := by decide +kernel
theorem dL_law_385 : decode cL_law 385 = .ok (.aload_n 0, 1) := by decide +kernel
theorem dL_law_386 : decode cL_law 386 = .ok (.iload_n 3, 1) := by decide +kernel
theorem dL_law_387 : decode cL_law 387 = .ok (.iconst 1, 1) := by decide +kernel
theorem dL_law_388 : decode cL_law 388 = .ok (.iadd, 1) := by decide +kernel
theorem dL_law_389 : decode cL_law 389 = .ok (.iaload, 1) := by decide +kernel
theorem dL_law_390 : decode cL_law 390 = .ok (.invokevirtual 41, 3) := by decide +kernel
theorem dL_law_393 : decode cL_law 393 = .ok (.if_icmp .eq 1092, 3) := by decide +kernel
theorem dL_law_396 : decode cL_law 396 = .ok (.iconst 0, 1) := by decide +kernel
theorem dL_law_397 : decode cL_law 397 = .ok (.ireturn, 1) := by decide +kernel
theorem dL_law_398 : decode cL_law 398 = .ok (.aload_n 1, 1) := by decide +kernel
theorem dL_law_399 : decode cL_law 399 = .ok (.aload_n 0, 1) := by decide +kernel
theorem dL_law_400 : decode cL_law 400 = .ok (.iload_n 3, 1) := by decide +kernel
theorem dL_law_401 : decode cL_law 401 = .ok (.iconst 1, 1) := by decide +kernel
theorem dL_law_402 : decode cL_law 402 = .ok (.iadd, 1) := by decide +kernel
theorem dL_law_403 : decode cL_law 403 = .ok (.iaload, 1) := by decide +kernel
theorem dL_law_404 : decode cL_law 404 = .ok (.aload_n 0, 1) := by decide +kernel
theorem dL_law_405 : decode cL_law 405 = .ok (.iload_n 3, 1) := by decide +kernel
theorem dL_law_406 : decode cL_law 406 = .ok (.iconst 2, 1) := by decide +kernel
theorem dL_law_407 : decode cL_law 407 = .ok (.iadd, 1) := by decide +kernel
theorem dL_law_408 : decode cL_law 408 = .ok (.iaload, 1) := by decide +kernel
theorem dL_law_409 : decode cL_law 409 = .ok (.invokevirtual 42, 3) := by decide +kernel
theorem dL_law_412 : decode cL_law 412 = .ok (.aload_n 2, 1) := by decide +kernel
theorem dL_law_413 : decode cL_law 413 = .ok (.aload_n 0, 1) := by decide +kernel
theorem dL_law_414 : decode cL_law 414 = .ok (.iload_n 3, 1) := by decide +kernel
theorem dL_law_415 : decode cL_law 415 = .ok (.iconst 1, 1) := by decide +kernel
theorem dL_law_416 : decode cL_law 416 = .ok (.iadd, 1) := by decide +kernel
theorem dL_law_417 : decode cL_law 417 = .ok (.iaload, 1) := by decide +kernel
theorem dL_law_418 : decode cL_law 418 = .ok (.aload_n 0, 1) := by decide +kernel
theorem dL_law_419 : decode cL_law 419 = .ok (.iload_n 3, 1) := by decide +kernel
theorem dL_law_420 : decode cL_law 420 = .ok (.iconst 2, 1) := by decide +kernel
theorem dL_law_421 : decode cL_law 421 = .ok (.iadd, 1) := by decide +kernel
theorem dL_law_422 : decode cL_law 422 = .ok (.iaload, 1) := by decide +kernel
theorem dL_law_423 : decode cL_law 423 = .ok (.invokevirtual 45, 3) := by decide +kernel
theorem dL_law_426 : decode cL_law 426 = .ok (.if_icmp .eq 1059, 3) := by decide +kernel
theorem dL_law_429 : decode cL_law 429 = .ok (.iconst 0, 1) := by decide +kernel
theorem dL_law_430 : decode cL_law 430 = .ok (.ireturn, 1) := by decide +kernel
theorem dL_law_431 : decode cL_law 431 = .ok (.aload_n 1, 1) := by decide +kernel
theorem dL_law_432 : decode cL_law 432 = .ok (.aload_n 0, 1) := by decide +kernel
theorem dL_law_433 : decode cL_law 433 = .ok (.iload_n 3, 1) := by decide +kernel
theorem dL_law_434 : decode cL_law 434 = .ok (.iconst 1, 1) := by decide +kernel
theorem dL_law_435 : decode cL_law 435 = .ok (.iadd, 1) := by decide +kernel
theorem dL_law_436 : decode cL_law 436 = .ok (.iaload, 1) := by decide +kernel
theorem dL_law_437 : decode cL_law 437 = .ok (.aload_n 0, 1) := by decide +kernel
theorem dL_law_438 : decode cL_law 438 = .ok (.iload_n 3, 1) := by decide +kernel
theorem dL_law_439 : decode cL_law 439 = .ok (.iconst 2, 1) := by decide +kernel
theorem dL_law_440 : decode cL_law 440 = .ok (.iadd, 1) := by decide +kernel
theorem dL_law_441 : decode cL_law 441 = .ok (.iaload, 1) := by decide +kernel
theorem dL_law_442 : decode cL_law 442 = .ok (.invokevirtual 46, 3) := by decide +kernel
theorem dL_law_445 : decode cL_law 445 = .ok (.aload_n 2, 1) := by decide +kernel
theorem dL_law_446 : decode cL_law 446 = .ok (.aload_n 0, 1) := by decide +kernel
theorem dL_law_447 : decode cL_law 447 = .ok (.iload_n 3, 1) := by decide +kernel
theorem dL_law_448 : decode cL_law 448 = .ok (.iconst 1, 1) := by decide +kernel
theorem dL_law_449 : decode cL_law 449 = .ok (.iadd, 1) := by decide +kernel
theorem dL_law_450 : decode cL_law 450 = .ok (.iaload, 1) := by decide +kernel
theorem dL_law_451 : decode cL_law 451 = .ok (.aload_n 0, 1) := by decide +kernel
theorem dL_law_452 : decode cL_law 452 = .ok (.iload_n 3, 1) := by decide +kernel
theorem dL_law_453 : decode cL_law 453 = .ok (.iconst 2, 1) := by decide +kernel
theorem dL_law_454 : decode cL_law 454 = .ok (.iadd, 1) := by decide +kernel
theorem dL_law_455 : decode cL_law 455 = .ok (.iaload, 1) := by decide +kernel
theorem dL_law_456 : decode cL_law 456 = .ok (.invokevirtual 49, 3) := by decide +kernel
theorem dL_law_459 : decode cL_law 459 = .ok (.if_icmp .eq 1026, 3) := by decide +kernel
theorem dL_law_462 : decode cL_law 462 = .ok (.iconst 0, 1) := by decide +kernel
theorem dL_law_463 : decode cL_law 463 = .ok (.ireturn, 1) := by decide +kernel
theorem dL_law_464 : decode cL_law 464 = .ok (.aload_n 1, 1) := by decide +kernel
theorem dL_law_465 : decode cL_law 465 = .ok (.aload_n 0, 1) := by decide +kernel
theorem dL_law_466 : decode cL_law 466 = .ok (.iload_n 3, 1) := by decide +kernel
theorem dL_law_467 : decode cL_law 467 = .ok (.iconst 1, 1) := by decide +kernel
theorem dL_law_468 : decode cL_law 468 = .ok (.iadd, 1) := by decide +kernel
theorem dL_law_469 : decode cL_law 469 = .ok (.iaload, 1) := by decide +kernel
theorem dL_law_470 : decode cL_law 470 = .ok (.invokevirtual 50, 3) := by decide +kernel
theorem dL_law_473 : decode cL_law 473 = .ok (.aload_n 2, 1) := by decide +kernel
theorem dL_law_474 : decode cL_law 474 = .ok (.aload_n 0, 1) := by decide +kernel
theorem dL_law_475 : decode cL_law 475 = .ok (.iload_n 3, 1) := by decide +kernel
theorem dL_law_476 : decode cL_law 476 = .ok (.iconst 1, 1) := by decide +kernel
theorem dL_law_477 : decode cL_law 477 = .ok (.iadd, 1) := by decide +kernel
theorem dL_law_478 : decode cL_law 478 = .ok (.iaload, 1) := by decide +kernel
theorem dL_law_479 : decode cL_law 479 = .ok (.invokevirtual 53, 3) := by decide +kernel
theorem dL_law_482 : decode cL_law 482 = .ok (.if_icmp .eq 1003, 3) := by decide +kernel
theorem dL_law_485 : decode cL_law 485 = .ok (.iconst 0, 1) := by decide +kernel
theorem dL_law_486 : decode cL_law 486 = .ok (.ireturn, 1) := by decide +kernel
theorem dL_law_487 : decode cL_law 487 = .ok (.aload_n 1, 1) := by decide +kernel
theorem dL_law_488 : decode cL_law 488 = .ok (.aload_n 0, 1) := by decide +kernel
theorem dL_law_489 : decode cL_law 489 = .ok (.iload_n 3, 1) := by decide +kernel
theorem dL_law_490 : decode cL_law 490 = .ok (.iconst 1, 1) := by decide +kernel
theorem dL_law_491 : decode cL_law 491 = .ok (.iadd, 1) := by decide +kernel
theorem dL_law_492 : decode cL_law 492 = .ok (.iaload, 1) := by decide +kernel
theorem dL_law_493 : decode cL_law 493 = .ok (.aload_n 0, 1) := by decide +kernel
theorem dL_law_494 : decode cL_law 494 = .ok (.iload_n 3, 1) := by decide +kernel
theorem dL_law_495 : decode cL_law 495 = .ok (.iconst 2, 1) := by decide +kernel
theorem dL_law_496 : decode cL_law 496 = .ok (.iadd, 1) := by decide +kernel
theorem dL_law_497 : decode cL_law 497 = .ok (.iaload, 1) := by decide +kernel
theorem dL_law_498 : decode cL_law 498 = .ok (.invokevirtual 54, 3) := by decide +kernel
theorem dL_law_501 : decode cL_law 501 = .ok (.aload_n 2, 1) := by decide +kernel
theorem dL_law_502 : decode cL_law 502 = .ok (.aload_n 0, 1) := by decide +kernel
theorem dL_law_503 : decode cL_law 503 = .ok (.iload_n 3, 1) := by decide +kernel
theorem dL_law_504 : decode cL_law 504 = .ok (.iconst 1, 1) := by decide +kernel
theorem dL_law_505 : decode cL_law 505 = .ok (.iadd, 1) := by decide +kernel
theorem dL_law_506 : decode cL_law 506 = .ok (.iaload, 1) := by decide +kernel
theorem dL_law_507 : decode cL_law 507 = .ok (.aload_n 0, 1) := by decide +kernel
theorem dL_law_508 : decode cL_law 508 = .ok (.iload_n 3, 1) := by decide +kernel
theorem dL_law_509 : decode cL_law 509 = .ok (.iconst 2, 1) := by decide +kernel
theorem dL_law_510 : decode cL_law 510 = .ok (.iadd, 1) := by decide +kernel
theorem dL_law_511 : decode cL_law 511 = .ok (.iaload, 1) := by decide +kernel
theorem dL_law_512 : decode cL_law 512 = .ok (.invokevirtual 57, 3) := by decide +kernel
theorem dL_law_515 : decode cL_law 515 = .ok (.if_icmp .eq 970, 3) := by decide +kernel
theorem dL_law_518 : decode cL_law 518 = .ok (.iconst 0, 1) := by decide +kernel
theorem dL_law_519 : decode cL_law 519 = .ok (.ireturn, 1) := by decide +kernel
theorem dL_law_520 : decode cL_law 520 = .ok (.aload_n 1, 1) := by decide +kernel
theorem dL_law_521 : decode cL_law 521 = .ok (.aload_n 0, 1) := by decide +kernel
theorem dL_law_522 : decode cL_law 522 = .ok (.iload_n 3, 1) := by decide +kernel
theorem dL_law_523 : decode cL_law 523 = .ok (.iconst 1, 1) := by decide +kernel
theorem dL_law_524 : decode cL_law 524 = .ok (.iadd, 1) := by decide +kernel
theorem dL_law_525 : decode cL_law 525 = .ok (.iaload, 1) := by decide +kernel
theorem dL_law_526 : decode cL_law 526 = .ok (.invokevirtual 58, 3) := by decide +kernel
theorem dL_law_529 : decode cL_law 529 = .ok (.aload_n 2, 1) := by decide +kernel
theorem dL_law_530 : decode cL_law 530 = .ok (.aload_n 0, 1) := by decide +kernel
theorem dL_law_531 : decode cL_law 531 = .ok (.iload_n 3, 1) := by decide +kernel
theorem dL_law_532 : decode cL_law 532 = .ok (.iconst 1, 1) := by decide +kernel
theorem dL_law_533 : decode cL_law 533 = .ok (.iadd, 1) := by decide +kernel
theorem dL_law_534 : decode cL_law 534 = .ok (.iaload, 1) := by decide +kernel
theorem dL_law_535 : decode cL_law 535 = .ok (.invokevirtual 61, 3) := by decide +kernel
theorem dL_law_538 : decode cL_law 538 = .ok (.if_icmp .eq 947, 3) := by decide +kernel
theorem dL_law_541 : decode cL_law 541 = .ok (.iconst 0, 1) := by decide +kernel
theorem dL_law_542 : decode cL_law 542 = .ok (.ireturn, 1) := by decide +kernel
theorem dL_law_543 : decode cL_law 543 = .ok (.aload_n 1, 1) := by decide +kernel
theorem dL_law_544 : decode cL_law 544 = .ok (.aload_n 0, 1) := by decide +kernel
theorem dL_law_545 : decode cL_law 545 = .ok (.iload_n 3, 1) := by decide +kernel
theorem dL_law_546 : decode cL_law 546 = .ok (.iconst 1, 1) := by decide +kernel
theorem dL_law_547 : decode cL_law 547 = .ok (.iadd, 1) := by decide +kernel
theorem dL_law_548 : decode cL_law 548 = .ok (.iaload, 1) := by decide +kernel
theorem dL_law_549 : decode cL_law 549 = .ok (.aload_n 0, 1) := by decide +kernel
theorem dL_law_550 : decode cL_law 550 = .ok (.iload_n 3, 1) := by decide +kernel
theorem dL_law_551 : decode cL_law 551 = .ok (.iconst 2, 1) := by decide +kernel
theorem dL_law_552 : decode cL_law 552 = .ok (.iadd, 1) := by decide +kernel
theorem dL_law_553 : decode cL_law 553 = .ok (.iaload, 1) := by decide +kernel
theorem dL_law_554 : decode cL_law 554 = .ok (.invokevirtual 62, 3) := by decide +kernel
theorem dL_law_557 : decode cL_law 557 = .ok (.aload_n 2, 1) := by decide +kernel
theorem dL_law_558 : decode cL_law 558 = .ok (.aload_n 0, 1) := by decide +kernel
theorem dL_law_559 : decode cL_law 559 = .ok (.iload_n 3, 1) := by decide +kernel
theorem dL_law_560 : decode cL_law 560 = .ok (.iconst 1, 1) := by decide +kernel
theorem dL_law_561 : decode cL_law 561 = .ok (.iadd, 1) := by decide +kernel
theorem dL_law_562 : decode cL_law 562 = .ok (.iaload, 1) := by decide +kernel
theorem dL_law_563 : decode cL_law 563 = .ok (.aload_n 0, 1) := by decide +kernel
theorem dL_law_564 : decode cL_law 564 = .ok (.iload_n 3, 1) := by decide +kernel
theorem dL_law_565 : decode cL_law 565 = .ok (.iconst 2, 1) := by decide +kernel
theorem dL_law_566 : decode cL_law 566 = .ok (.iadd, 1) := by decide +kernel
theorem dL_law_567 : decode cL_law 567 = .ok (.iaload, 1) := by decide +kernel
theorem dL_law_568 : decode cL_law 568 = .ok (.invokevirtual 65, 3) := by decide +kernel
theorem dL_law_571 : decode cL_law 571 = .ok (.if_icmp .eq 914, 3) := by decide +kernel
theorem dL_law_574 : decode cL_law 574 = .ok (.iconst 0, 1) := by decide +kernel
theorem dL_law_575 : decode cL_law 575 = .ok (.ireturn, 1) := by decide +kernel
theorem dL_law_576 : decode cL_law 576 = .ok (.aload_n 1, 1) := by decide +kernel
theorem dL_law_577 : decode cL_law 577 = .ok (.aload_n 0, 1) := by decide +kernel
theorem dL_law_578 : decode cL_law 578 = .ok (.iload_n 3, 1) := by decide +kernel
theorem dL_law_579 : decode cL_law 579 = .ok (.iconst 1, 1) := by decide +kernel
theorem dL_law_580 : decode cL_law 580 = .ok (.iadd, 1) := by decide +kernel
theorem dL_law_581 : decode cL_law 581 = .ok (.iaload, 1) := by decide +kernel
theorem dL_law_582 : decode cL_law 582 = .ok (.invokevirtual 66, 3) := by decide +kernel
theorem dL_law_585 : decode cL_law 585 = .ok (.aload_n 2, 1) := by decide +kernel
theorem dL_law_586 : decode cL_law 586 = .ok (.aload_n 0, 1) := by decide +kernel
theorem dL_law_587 : decode cL_law 587 = .ok (.iload_n 3, 1) := by decide +kernel
theorem dL_law_588 : decode cL_law 588 = .ok (.iconst 1, 1) := by decide +kernel
theorem dL_law_589 : decode cL_law 589 = .ok (.iadd, 1) := by decide +kernel
theorem dL_law_590 : decode cL_law 590 = .ok (.iaload, 1) := by decide +kernel
theorem dL_law_591 : decode cL_law 591 = .ok (.invokevirtual 69, 3) := by decide +kernel
theorem dL_law_594 : decode cL_law 594 = .ok (.if_icmp .eq 891, 3) := by decide +kernel
theorem dL_law_597 : decode cL_law 597 = .ok (.iconst 0, 1) := by decide +kernel
theorem dL_law_598 : decode cL_law 598 = .ok (.ireturn, 1) := by decide +kernel
theorem dL_law_599 : decode cL_law 599 = .ok (.aload_n 1, 1) := by decide +kernel
theorem dL_law_600 : decode cL_law 600 = .ok (.aload_n 0, 1) := by decide +kernel
theorem dL_law_601 : decode cL_law 601 = .ok (.iload_n 3, 1) := by decide +kernel
theorem dL_law_602 : decode cL_law 602 = .ok (.iconst 1, 1) := by decide +kernel
theorem dL_law_603 : decode cL_law 603 = .ok (.iadd, 1) := by decide +kernel
theorem dL_law_604 : decode cL_law 604 = .ok (.iaload, 1) := by decide +kernel
theorem dL_law_605 : decode cL_law 605 = .ok (.aload_n 0, 1) := by decide +kernel
theorem dL_law_606 : decode cL_law 606 = .ok (.iload_n 3, 1) := by decide +kernel
theorem dL_law_607 : decode cL_law 607 = .ok (.iconst 2, 1) := by decide +kernel
theorem dL_law_608 : decode cL_law 608 = .ok (.iadd, 1) := by decide +kernel
theorem dL_law_609 : decode cL_law 609 = .ok (.iaload, 1) := by decide +kernel
theorem dL_law_610 : decode cL_law 610 = .ok (.invokevirtual 70, 3) := by decide +kernel
theorem dL_law_613 : decode cL_law 613 = .ok (.aload_n 2, 1) := by decide +kernel
theorem dL_law_614 : decode cL_law 614 = .ok (.aload_n 0, 1) := by decide +kernel
theorem dL_law_615 : decode cL_law 615 = .ok (.iload_n 3, 1) := by decide +kernel
theorem dL_law_616 : decode cL_law 616 = .ok (.iconst 1, 1) := by decide +kernel
theorem dL_law_617 : decode cL_law 617 = .ok (.iadd, 1) := by decide +kernel
theorem dL_law_618 : decode cL_law 618 = .ok (.iaload, 1) := by decide +kernel
theorem dL_law_619 : decode cL_law 619 = .ok (.aload_n 0, 1) := by decide +kernel
theorem dL_law_620 : decode cL_law 620 = .ok (.iload_n 3, 1) := by decide +kernel
theorem dL_law_621 : decode cL_law 621 = .ok (.iconst 2, 1) := by decide +kernel
theorem dL_law_622 : decode cL_law 622 = .ok (.iadd, 1) := by decide +kernel
theorem dL_law_623 : decode cL_law 623 = .ok (.iaload, 1) := by decide +kernel
theorem dL_law_624 : decode cL_law 624 = .ok (.invokevirtual 73, 3) := by decide +kernel
theorem dL_law_627 : decode cL_law 627 = .ok (.if_icmp .eq 858, 3) := by decide +kernel
theorem dL_law_630 : decode cL_law 630 = .ok (.iconst 0, 1) := by decide +kernel
theorem dL_law_631 : decode cL_law 631 = .ok (.ireturn, 1) := by decide +kernel
theorem dL_law_632 : decode cL_law 632 = .ok (.aload_n 1, 1) := by decide +kernel
theorem dL_law_633 : decode cL_law 633 = .ok (.aload_n 0, 1) := by decide +kernel
theorem dL_law_634 : decode cL_law 634 = .ok (.iload_n 3, 1) := by decide +kernel
theorem dL_law_635 : decode cL_law 635 = .ok (.iconst 1, 1) := by decide +kernel
theorem dL_law_636 : decode cL_law 636 = .ok (.iadd, 1) := by decide +kernel
theorem dL_law_637 : decode cL_law 637 = .ok (.iaload, 1) := by decide +kernel
theorem dL_law_638 : decode cL_law 638 = .ok (.aload_n 0, 1) := by decide +kernel
theorem dL_law_639 : decode cL_law 639 = .ok (.iload_n 3, 1) := by decide +kernel
theorem dL_law_640 : decode cL_law 640 = .ok (.iconst 2, 1) := by decide +kernel
theorem dL_law_641 : decode cL_law 641 = .ok (.iadd, 1) := by decide +kernel
theorem dL_law_642 : decode cL_law 642 = .ok (.iaload, 1) := by decide +kernel
theorem dL_law_643 : decode cL_law 643 = .ok (.aload_n 0, 1) := by decide +kernel
theorem dL_law_644 : decode cL_law 644 = .ok (.iload_n 3, 1) := by decide +kernel
theorem dL_law_645 : decode cL_law 645 = .ok (.iconst 3, 1) := by decide +kernel
theorem dL_law_646 : decode cL_law 646 = .ok (.iadd, 1) := by decide +kernel
theorem dL_law_647 : decode cL_law 647 = .ok (.iaload, 1) := by decide +kernel
theorem dL_law_648 : decode cL_law 648 = .ok (.invokevirtual 74, 3) := by decide +kernel
theorem dL_law_651 : decode cL_law 651 = .ok (.aload_n 2, 1) := by decide +kernel
theorem dL_law_652 : decode cL_law 652 = .ok (.aload_n 0, 1) := by decide +kernel
theorem dL_law_653 : decode cL_law 653 = .ok (.iload_n 3, 1) := by decide +kernel
theorem dL_law_654 : decode cL_law 654 = .ok (.iconst 1, 1) := by decide +kernel
theorem dL_law_655 : decode cL_law 655 = .ok (.iadd, 1) := by decide +kernel
theorem dL_law_656 : decode cL_law 656 = .ok (.iaload, 1) := by decide +kernel
theorem dL_law_657 : decode cL_law 657 = .ok (.aload_n 0, 1) := by decide +kernel
theorem dL_law_658 : decode cL_law 658 = .ok (.iload_n 3, 1) := by decide +kernel
theorem dL_law_659 : decode cL_law 659 = .ok (.iconst 2, 1) := by decide +kernel
theorem dL_law_660 : decode cL_law 660 = .ok (.iadd, 1) := by decide +kernel
theorem dL_law_661 : decode cL_law 661 = .ok (.iaload, 1) := by decide +kernel
theorem dL_law_662 : decode cL_law 662 = .ok (.aload_n 0, 1) := by decide +kernel
theorem dL_law_663 : decode cL_law 663 = .ok (.iload_n 3, 1) := by decide +kernel
theorem dL_law_664 : decode cL_law 664 = .ok (.iconst 3, 1) := by decide +kernel
theorem dL_law_665 : decode cL_law 665 = .ok (.iadd, 1) := by decide +kernel
theorem dL_law_666 : decode cL_law 666 = .ok (.iaload, 1) := by decide +kernel
theorem dL_law_667 : decode cL_law 667 = .ok (.invokevirtual 77, 3) := by decide +kernel
theorem dL_law_670 : decode cL_law 670 = .ok (.if_icmp .eq 815, 3) := by decide +kernel
theorem dL_law_673 : decode cL_law 673 = .ok (.iconst 0, 1) := by decide +kernel
theorem dL_law_674 : decode cL_law 674 = .ok (.ireturn, 1) := by decide +kernel
theorem dL_law_675 : decode cL_law 675 = .ok (.aload_n 1, 1) := by decide +kernel
theorem dL_law_676 : decode cL_law 676 = .ok (.aload_n 0, 1) := by decide +kernel
theorem dL_law_677 : decode cL_law 677 = .ok (.iload_n 3, 1) := by decide +kernel
theorem dL_law_678 : decode cL_law 678 = .ok (.iconst 1, 1) := by decide +kernel
theorem dL_law_679 : decode cL_law 679 = .ok (.iadd, 1) := by decide +kernel
theorem dL_law_680 : decode cL_law 680 = .ok (.iaload, 1) := by decide +kernel
theorem dL_law_681 : decode cL_law 681 = .ok (.aload_n 0, 1) := by decide +kernel
theorem dL_law_682 : decode cL_law 682 = .ok (.iload_n 3, 1) := by decide +kernel
theorem dL_law_683 : decode cL_law 683 = .ok (.iconst 2, 1) := by decide +kernel
theorem dL_law_684 : decode cL_law 684 = .ok (.iadd, 1) := by decide +kernel
theorem dL_law_685 : decode cL_law 685 = .ok (.iaload, 1) := by decide +kernel
theorem dL_law_686 : decode cL_law 686 = .ok (.invokevirtual 78, 3) := by decide +kernel
theorem dL_law_689 : decode cL_law 689 = .ok (.aload_n 2, 1) := by decide +kernel
theorem dL_law_690 : decode cL_law 690 = .ok (.aload_n 0, 1) := by decide +kernel
theorem dL_law_691 : decode cL_law 691 = .ok (.iload_n 3, 1) := by decide +kernel
theorem dL_law_692 : decode cL_law 692 = .ok (.iconst 1, 1) := by decide +kernel
theorem dL_law_693 : decode cL_law 693 = .ok (.iadd, 1) := by decide +kernel
theorem dL_law_694 : decode cL_law 694 = .ok (.iaload, 1) := by decide +kernel
theorem dL_law_695 : decode cL_law 695 = .ok (.aload_n 0, 1) := by decide +kernel
theorem dL_law_696 : decode cL_law 696 = .ok (.iload_n 3, 1) := by decide +kernel
theorem dL_law_697 : decode cL_law 697 = .ok (.iconst 2, 1) := by decide +kernel
theorem dL_law_698 : decode cL_law 698 = .ok (.iadd, 1) := by decide +kernel
theorem dL_law_699 : decode cL_law 699 = .ok (.iaload, 1) := by decide +kernel
theorem dL_law_700 : decode cL_law 700 = .ok (.invokevirtual 81, 3) := by decide +kernel
theorem dL_law_703 : decode cL_law 703 = .ok (.if_icmp .eq 782, 3) := by decide +kernel
theorem dL_law_706 : decode cL_law 706 = .ok (.iconst 0, 1) := by decide +kernel
theorem dL_law_707 : decode cL_law 707 = .ok (.ireturn, 1) := by decide +kernel
theorem dL_law_708 : decode cL_law 708 = .ok (.aload_n 1, 1) := by decide +kernel
theorem dL_law_709 : decode cL_law 709 = .ok (.aload_n 0, 1) := by decide +kernel
theorem dL_law_710 : decode cL_law 710 = .ok (.iload_n 3, 1) := by decide +kernel
theorem dL_law_711 : decode cL_law 711 = .ok (.iconst 1, 1) := by decide +kernel
theorem dL_law_712 : decode cL_law 712 = .ok (.iadd, 1) := by decide +kernel
theorem dL_law_713 : decode cL_law 713 = .ok (.iaload, 1) := by decide +kernel
theorem dL_law_714 : decode cL_law 714 = .ok (.aload_n 0, 1) := by decide +kernel
theorem dL_law_715 : decode cL_law 715 = .ok (.iload_n 3, 1) := by decide +kernel
theorem dL_law_716 : decode cL_law 716 = .ok (.iconst 2, 1) := by decide +kernel
theorem dL_law_717 : decode cL_law 717 = .ok (.iadd, 1) := by decide +kernel
theorem dL_law_718 : decode cL_law 718 = .ok (.iaload, 1) := by decide +kernel
theorem dL_law_719 : decode cL_law 719 = .ok (.invokevirtual 82, 3) := by decide +kernel
theorem dL_law_722 : decode cL_law 722 = .ok (.aload_n 2, 1) := by decide +kernel
theorem dL_law_723 : decode cL_law 723 = .ok (.aload_n 0, 1) := by decide +kernel
theorem dL_law_724 : decode cL_law 724 = .ok (.iload_n 3, 1) := by decide +kernel
theorem dL_law_725 : decode cL_law 725 = .ok (.iconst 1, 1) := by decide +kernel
theorem dL_law_726 : decode cL_law 726 = .ok (.iadd, 1) := by decide +kernel
theorem dL_law_727 : decode cL_law 727 = .ok (.iaload, 1) := by decide +kernel
theorem dL_law_728 : decode cL_law 728 = .ok (.aload_n 0, 1) := by decide +kernel
theorem dL_law_729 : decode cL_law 729 = .ok (.iload_n 3, 1) := by decide +kernel
theorem dL_law_730 : decode cL_law 730 = .ok (.iconst 2, 1) := by decide +kernel
theorem dL_law_731 : decode cL_law 731 = .ok (.iadd, 1) := by decide +kernel
theorem dL_law_732 : decode cL_law 732 = .ok (.iaload, 1) := by decide +kernel
theorem dL_law_733 : decode cL_law 733 = .ok (.invokevirtual 85, 3) := by decide +kernel
theorem dL_law_736 : decode cL_law 736 = .ok (.if_icmp .eq 749, 3) := by decide +kernel
theorem dL_law_739 : decode cL_law 739 = .ok (.iconst 0, 1) := by decide +kernel
theorem dL_law_740 : decode cL_law 740 = .ok (.ireturn, 1) := by decide +kernel
theorem dL_law_741 : decode cL_law 741 = .ok (.aload_n 1, 1) := by decide +kernel
theorem dL_law_742 : decode cL_law 742 = .ok (.aload_n 0, 1) := by decide +kernel
theorem dL_law_743 : decode cL_law 743 = .ok (.iload_n 3, 1) := by decide +kernel
theorem dL_law_744 : decode cL_law 744 = .ok (.iconst 1, 1) := by decide +kernel
theorem dL_law_745 : decode cL_law 745 = .ok (.iadd, 1) := by decide +kernel
theorem dL_law_746 : decode cL_law 746 = .ok (.iaload, 1) := by decide +kernel
theorem dL_law_747 : decode cL_law 747 = .ok (.aload_n 0, 1) := by decide +kernel
theorem dL_law_748 : decode cL_law 748 = .ok (.iload_n 3, 1) := by decide +kernel
theorem dL_law_749 : decode cL_law 749 = .ok (.iconst 2, 1) := by decide +kernel
theorem dL_law_750 : decode cL_law 750 = .ok (.iadd, 1) := by decide +kernel
theorem dL_law_751 : decode cL_law 751 = .ok (.iaload, 1) := by decide +kernel
theorem dL_law_752 : decode cL_law 752 = .ok (.aload_n 0, 1) := by decide +kernel
theorem dL_law_753 : decode cL_law 753 = .ok (.iload_n 3, 1) := by decide +kernel
theorem dL_law_754 : decode cL_law 754 = .ok (.iconst 3, 1) := by decide +kernel
theorem dL_law_755 : decode cL_law 755 = .ok (.iadd, 1) := by decide +kernel
theorem dL_law_756 : decode cL_law 756 = .ok (.iaload, 1) := by decide +kernel
theorem dL_law_757 : decode cL_law 757 = .ok (.invokevirtual 86, 3) := by decide +kernel
theorem dL_law_760 : decode cL_law 760 = .ok (.aload_n 2, 1) := by decide +kernel
theorem dL_law_761 : decode cL_law 761 = .ok (.aload_n 0, 1) := by decide +kernel
theorem dL_law_762 : decode cL_law 762 = .ok (.iload_n 3, 1) := by decide +kernel
theorem dL_law_763 : decode cL_law 763 = .ok (.iconst 1, 1) := by decide +kernel
theorem dL_law_764 : decode cL_law 764 = .ok (.iadd, 1) := by decide +kernel
theorem dL_law_765 : decode cL_law 765 = .ok (.iaload, 1) := by decide +kernel
theorem dL_law_766 : decode cL_law 766 = .ok (.aload_n 0, 1) := by decide +kernel
theorem dL_law_767 : decode cL_law 767 = .ok (.iload_n 3, 1) := by decide +kernel
theorem dL_law_768 : decode cL_law 768 = .ok (.iconst 2, 1) := by decide +kernel
theorem dL_law_769 : decode cL_law 769 = .ok (.iadd, 1) := by decide +kernel
theorem dL_law_770 : decode cL_law 770 = .ok (.iaload, 1) := by decide +kernel
theorem dL_law_771 : decode cL_law 771 = .ok (.aload_n 0, 1) := by decide +kernel
theorem dL_law_772 : decode cL_law 772 = .ok (.iload_n 3, 1) := by decide +kernel
theorem dL_law_773 : decode cL_law 773 = .ok (.iconst 3, 1) := by decide +kernel
theorem dL_law_774 : decode cL_law 774 = .ok (.iadd, 1) := by decide +kernel
theorem dL_law_775 : decode cL_law 775 = .ok (.iaload, 1) := by decide +kernel
theorem dL_law_776 : decode cL_law 776 = .ok (.invokevirtual 89, 3) := by decide +kernel
theorem dL_law_779 : decode cL_law 779 = .ok (.if_icmp .eq 706, 3) := by decide +kernel
theorem dL_law_782 : decode cL_law 782 = .ok (.iconst 0, 1) := by decide +kernel
theorem dL_law_783 : decode cL_law 783 = .ok (.ireturn, 1) := by decide +kernel
theorem dL_law_784 : decode cL_law 784 = .ok (.aload_n 1, 1) := by decide +kernel
theorem dL_law_785 : decode cL_law 785 = .ok (.aload_n 0, 1) := by decide +kernel
theorem dL_law_786 : decode cL_law 786 = .ok (.iload_n 3, 1) := by decide +kernel
theorem dL_law_787 : decode cL_law 787 = .ok (.iconst 1, 1) := by decide +kernel
theorem dL_law_788 : decode cL_law 788 = .ok (.iadd, 1) := by decide +kernel
theorem dL_law_789 : decode cL_law 789 = .ok (.iaload, 1) := by decide +kernel
theorem dL_law_790 : decode cL_law 790 = .ok (.aload_n 0, 1) := by decide +kernel
theorem dL_law_791 : decode cL_law 791 = .ok (.iload_n 3, 1) := by decide +kernel
theorem dL_law_792 : decode cL_law 792 = .ok (.iconst 2, 1) := by decide +kernel
theorem dL_law_793 : decode cL_law 793 = .ok (.iadd, 1) := by decide +kernel
theorem dL_law_794 : decode cL_law 794 = .ok (.iaload, 1) := by decide +kernel
theorem dL_law_795 : decode cL_law 795 = .ok (.invokevirtual 90, 3) := by decide +kernel
theorem dL_law_798 : decode cL_law 798 = .ok (.aload_n 2, 1) := by decide +kernel
theorem dL_law_799 : decode cL_law 799 = .ok (.aload_n 0, 1) := by decide +kernel
theorem dL_law_800 : decode cL_law 800 = .ok (.iload_n 3, 1) := by decide +kernel
theorem dL_law_801 : decode cL_law 801 = .ok (.iconst 1, 1) := by decide +kernel
theorem dL_law_802 : decode cL_law 802 = .ok (.iadd, 1) := by decide +kernel
theorem dL_law_803 : decode cL_law 803 = .ok (.iaload, 1) := by decide +kernel
theorem dL_law_804 : decode cL_law 804 = .ok (.aload_n 0, 1) := by decide +kernel
theorem dL_law_805 : decode cL_law 805 = .ok (.iload_n 3, 1) := by decide +kernel
theorem dL_law_806 : decode cL_law 806 = .ok (.iconst 2, 1) := by decide +kernel
theorem dL_law_807 : decode cL_law 807 = .ok (.iadd, 1) := by decide +kernel
theorem dL_law_808 : decode cL_law 808 = .ok (.iaload, 1) := by decide +kernel
theorem dL_law_809 : decode cL_law 809 = .ok (.invokevirtual 93, 3) := by decide +kernel
theorem dL_law_812 : decode cL_law 812 = .ok (.if_icmp .eq 673, 3) := by decide +kernel
theorem dL_law_815 : decode cL_law 815 = .ok (.iconst 0, 1) := by decide +kernel
theorem dL_law_816 : decode cL_law 816 = .ok (.ireturn, 1) := by decide +kernel
theorem dL_law_817 : decode cL_law 817 = .ok (.aload_n 1, 1) := by decide +kernel
theorem dL_law_818 : decode cL_law 818 = .ok (.aload_n 0, 1) := by decide +kernel
theorem dL_law_819 : decode cL_law 819 = .ok (.iload_n 3, 1) := by decide +kernel
theorem dL_law_820 : decode cL_law 820 = .ok (.iconst 1, 1) := by decide +kernel
theorem dL_law_821 : decode cL_law 821 = .ok (.iadd, 1) := by decide +kernel
theorem dL_law_822 : decode cL_law 822 = .ok (.iaload, 1) := by decide +kernel
theorem dL_law_823 : decode cL_law 823 = .ok (.invokevirtual 94, 3) := by decide +kernel
theorem dL_law_826 : decode cL_law 826 = .ok (.aload_n 2, 1) := by decide +kernel
theorem dL_law_827 : decode cL_law 827 = .ok (.aload_n 0, 1) := by decide +kernel
theorem dL_law_828 : decode cL_law 828 = .ok (.iload_n 3, 1) := by decide +kernel
theorem dL_law_829 : decode cL_law 829 = .ok (.iconst 1, 1) := by decide +kernel
theorem dL_law_830 : decode cL_law 830 = .ok (.iadd, 1) := by decide +kernel
theorem dL_law_831 : decode cL_law 831 = .ok (.iaload, 1) := by decide +kernel
theorem dL_law_832 : decode cL_law 832 = .ok (.invokevirtual 97, 3) := by decide +kernel
theorem dL_law_835 : decode cL_law 835 = .ok (.if_icmp .eq 650, 3) := by decide +kernel
theorem dL_law_838 : decode cL_law 838 = .ok (.iconst 0, 1) := by decide +kernel
theorem dL_law_839 : decode cL_law 839 = .ok (.ireturn, 1) := by decide +kernel
theorem dL_law_840 : decode cL_law 840 = .ok (.aload_n 1, 1) := by decide +kernel
theorem dL_law_841 : decode cL_law 841 = .ok (.aload_n 0, 1) := by decide +kernel
theorem dL_law_842 : decode cL_law 842 = .ok (.iload_n 3, 1) := by decide +kernel
theorem dL_law_843 : decode cL_law 843 = .ok (.iconst 1, 1) := by decide +kernel
theorem dL_law_844 : decode cL_law 844 = .ok (.iadd, 1) := by decide +kernel
theorem dL_law_845 : decode cL_law 845 = .ok (.iaload, 1) := by decide +kernel
theorem dL_law_846 : decode cL_law 846 = .ok (.invokevirtual 98, 3) := by decide +kernel
theorem dL_law_849 : decode cL_law 849 = .ok (.aload_n 2, 1) := by decide +kernel
theorem dL_law_850 : decode cL_law 850 = .ok (.aload_n 0, 1) := by decide +kernel
theorem dL_law_851 : decode cL_law 851 = .ok (.iload_n 3, 1) := by decide +kernel
theorem dL_law_852 : decode cL_law 852 = .ok (.iconst 1, 1) := by decide +kernel
theorem dL_law_853 : decode cL_law 853 = .ok (.iadd, 1) := by decide +kernel
theorem dL_law_854 : decode cL_law 854 = .ok (.iaload, 1) := by decide +kernel
theorem dL_law_855 : decode cL_law 855 = .ok (.invokevirtual 101, 3) := by decide +kernel
theorem dL_law_858 : decode cL_law 858 = .ok (.if_icmp .eq 627, 3) := by decide +kernel
theorem dL_law_861 : decode cL_law 861 = .ok (.iconst 0, 1) := by decide +kernel
theorem dL_law_862 : decode cL_law 862 = .ok (.ireturn, 1) := by decide +kernel
theorem dL_law_863 : decode cL_law 863 = .ok (.aload_n 1, 1) := by decide +kernel
theorem dL_law_864 : decode cL_law 864 = .ok (.aload_n 0, 1) := by decide +kernel
theorem dL_law_865 : decode cL_law 865 = .ok (.iload_n 3, 1) := by decide +kernel
theorem dL_law_866 : decode cL_law 866 = .ok (.iconst 1, 1) := by decide +kernel
theorem dL_law_867 : decode cL_law 867 = .ok (.iadd, 1) := by decide +kernel
theorem dL_law_868 : decode cL_law 868 = .ok (.iaload, 1) := by decide +kernel
theorem dL_law_869 : decode cL_law 869 = .ok (.aload_n 0, 1) := by decide +kernel
theorem dL_law_870 : decode cL_law 870 = .ok (.iload_n 3, 1) := by decide +kernel
theorem dL_law_871 : decode cL_law 871 = .ok (.iconst 2, 1) := by decide +kernel
theorem dL_law_872 : decode cL_law 872 = .ok (.iadd, 1) := by decide +kernel
theorem dL_law_873 : decode cL_law 873 = .ok (.iaload, 1) := by decide +kernel
theorem dL_law_874 : decode cL_law 874 = .ok (.aload_n 0, 1) := by decide +kernel
theorem dL_law_875 : decode cL_law 875 = .ok (.iload_n 3, 1) := by decide +kernel
theorem dL_law_876 : decode cL_law 876 = .ok (.iconst 3, 1) := by decide +kernel
theorem dL_law_877 : decode cL_law 877 = .ok (.iadd, 1) := by decide +kernel
theorem dL_law_878 : decode cL_law 878 = .ok (.iaload, 1) := by decide +kernel
theorem dL_law_879 : decode cL_law 879 = .ok (.invokevirtual 102, 3) := by decide +kernel
theorem dL_law_882 : decode cL_law 882 = .ok (.aload_n 2, 1) := by decide +kernel
theorem dL_law_883 : decode cL_law 883 = .ok (.aload_n 0, 1) := by decide +kernel
theorem dL_law_884 : decode cL_law 884 = .ok (.iload_n 3, 1) := by decide +kernel
theorem dL_law_885 : decode cL_law 885 = .ok (.iconst 1, 1) := by decide +kernel
theorem dL_law_886 : decode cL_law 886 = .ok (.iadd, 1) := by decide +kernel
theorem dL_law_887 : decode cL_law 887 = .ok (.iaload, 1) := by decide +kernel
theorem dL_law_888 : decode cL_law 888 = .ok (.aload_n 0, 1) := by decide +kernel
theorem dL_law_889 : decode cL_law 889 = .ok (.iload_n 3, 1) := by decide +kernel
theorem dL_law_890 : decode cL_law 890 = .ok (.iconst 2, 1) := by decide +kernel
theorem dL_law_891 : decode cL_law 891 = .ok (.iadd, 1) := by decide +kernel
theorem dL_law_892 : decode cL_law 892 = .ok (.iaload, 1) := by decide +kernel
theorem dL_law_893 : decode cL_law 893 = .ok (.aload_n 0, 1) := by decide +kernel
theorem dL_law_894 : decode cL_law 894 = .ok (.iload_n 3, 1) := by decide +kernel
theorem dL_law_895 : decode cL_law 895 = .ok (.iconst 3, 1) := by decide +kernel
theorem dL_law_896 : decode cL_law 896 = .ok (.iadd, 1) := by decide +kernel
theorem dL_law_897 : decode cL_law 897 = .ok (.iaload, 1) := by decide +kernel
theorem dL_law_898 : decode cL_law 898 = .ok (.invokevirtual 105, 3) := by decide +kernel
theorem dL_law_901 : decode cL_law 901 = .ok (.if_icmp .eq 584, 3) := by decide +kernel
theorem dL_law_904 : decode cL_law 904 = .ok (.iconst 0, 1) := by decide +kernel
theorem dL_law_905 : decode cL_law 905 = .ok (.ireturn, 1) := by decide +kernel
theorem dL_law_906 : decode cL_law 906 = .ok (.aload_n 1, 1) := by decide +kernel
theorem dL_law_907 : decode cL_law 907 = .ok (.aload_n 0, 1) := by decide +kernel
theorem dL_law_908 : decode cL_law 908 = .ok (.iload_n 3, 1) := by decide +kernel
theorem dL_law_909 : decode cL_law 909 = .ok (.iconst 1, 1) := by decide +kernel
theorem dL_law_910 : decode cL_law 910 = .ok (.iadd, 1) := by decide +kernel
theorem dL_law_911 : decode cL_law 911 = .ok (.iaload, 1) := by decide +kernel
theorem dL_law_912 : decode cL_law 912 = .ok (.aload_n 0, 1) := by decide +kernel
theorem dL_law_913 : decode cL_law 913 = .ok (.iload_n 3, 1) := by decide +kernel
theorem dL_law_914 : decode cL_law 914 = .ok (.iconst 2, 1) := by decide +kernel
theorem dL_law_915 : decode cL_law 915 = .ok (.iadd, 1) := by decide +kernel
theorem dL_law_916 : decode cL_law 916 = .ok (.iaload, 1) := by decide +kernel
theorem dL_law_917 : decode cL_law 917 = .ok (.aload_n 0, 1) := by decide +kernel
theorem dL_law_918 : decode cL_law 918 = .ok (.iload_n 3, 1) := by decide +kernel
theorem dL_law_919 : decode cL_law 919 = .ok (.iconst 3, 1) := by decide +kernel
theorem dL_law_920 : decode cL_law 920 = .ok (.iadd, 1) := by decide +kernel
theorem dL_law_921 : decode cL_law 921 = .ok (.iaload, 1) := by decide +kernel
theorem dL_law_922 : decode cL_law 922 = .ok (.invokevirtual 106, 3) := by decide +kernel
theorem dL_law_925 : decode cL_law 925 = .ok (.aload_n 2, 1) := by decide +kernel
theorem dL_law_926 : decode cL_law 926 = .ok (.aload_n 0, 1) := by decide +kernel
theorem dL_law_927 : decode cL_law 927 = .ok (.iload_n 3, 1) := by decide +kernel
theorem dL_law_928 : decode cL_law 928 = .ok (.iconst 1, 1) := by decide +kernel
theorem dL_law_929 : decode cL_law 929 = .ok (.iadd, 1) := by decide +kernel
theorem dL_law_930 : decode cL_law 930 = .ok (.iaload, 1) := by decide +kernel
theorem dL_law_931 : decode cL_law 931 = .ok (.aload_n 0, 1) := by decide +kernel
theorem dL_law_932 : decode cL_law 932 = .ok (.iload_n 3, 1) := by decide +kernel
theorem dL_law_933 : decode cL_law 933 = .ok (.iconst 2, 1) := by decide +kernel
theorem dL_law_934 : decode cL_law 934 = .ok (.iadd, 1) := by decide +kernel
theorem dL_law_935 : decode cL_law 935 = .ok (.iaload, 1) := by decide +kernel
theorem dL_law_936 : decode cL_law 936 = .ok (.aload_n 0, 1) := by decide +kernel
theorem dL_law_937 : decode cL_law 937 = .ok (.iload_n 3, 1) := by decide +kernel
theorem dL_law_938 : decode cL_law 938 = .ok (.iconst 3, 1) := by decide +kernel
theorem dL_law_939 : decode cL_law 939 = .ok (.iadd, 1) := by decide +kernel
theorem dL_law_940 : decode cL_law 940 = .ok (.iaload, 1) := by decide +kernel
theorem dL_law_941 : decode cL_law 941 = .ok (.invokevirtual 109, 3) := by decide +kernel
theorem dL_law_944 : decode cL_law 944 = .ok (.if_icmp .eq 541, 3) := by decide +kernel
theorem dL_law_947 : decode cL_law 947 = .ok (.iconst 0, 1) := by decide +kernel
theorem dL_law_948 : decode cL_law 948 = .ok (.ireturn, 1) := by decide +kernel
theorem dL_law_949 : decode cL_law 949 = .ok (.aload_n 1, 1) := by decide +kernel
theorem dL_law_950 : decode cL_law 950 = .ok (.aload_n 0, 1) := by decide +kernel
theorem dL_law_951 : decode cL_law 951 = .ok (.iload_n 3, 1) := by decide +kernel
theorem dL_law_952 : decode cL_law 952 = .ok (.iconst 1, 1) := by decide +kernel
theorem dL_law_953 : decode cL_law 953 = .ok (.iadd, 1) := by decide +kernel
theorem dL_law_954 : decode cL_law 954 = .ok (.iaload, 1) := by decide +kernel
theorem dL_law_955 : decode cL_law 955 = .ok (.aload_n 0, 1) := by decide +kernel
theorem dL_law_956 : decode cL_law 956 = .ok (.iload_n 3, 1) := by decide +kernel
theorem dL_law_957 : decode cL_law 957 = .ok (.iconst 2, 1) := by decide +kernel
theorem dL_law_958 : decode cL_law 958 = .ok (.iadd, 1) := by decide +kernel
theorem dL_law_959 : decode cL_law 959 = .ok (.iaload, 1) := by decide +kernel
theorem dL_law_960 : decode cL_law 960 = .ok (.invokevirtual 110, 3) := by decide +kernel
theorem dL_law_963 : decode cL_law 963 = .ok (.aload_n 2, 1) := by decide +kernel
theorem dL_law_964 : decode cL_law 964 = .ok (.aload_n 0, 1) := by decide +kernel
theorem dL_law_965 : decode cL_law 965 = .ok (.iload_n 3, 1) := by decide +kernel
theorem dL_law_966 : decode cL_law 966 = .ok (.iconst 1, 1) := by decide +kernel
theorem dL_law_967 : decode cL_law 967 = .ok (.iadd, 1) := by decide +kernel
theorem dL_law_968 : decode cL_law 968 = .ok (.iaload, 1) := by decide +kernel
theorem dL_law_969 : decode cL_law 969 = .ok (.aload_n 0, 1) := by decide +kernel
theorem dL_law_970 : decode cL_law 970 = .ok (.iload_n 3, 1) := by decide +kernel
theorem dL_law_971 : decode cL_law 971 = .ok (.iconst 2, 1) := by decide +kernel
theorem dL_law_972 : decode cL_law 972 = .ok (.iadd, 1) := by decide +kernel
theorem dL_law_973 : decode cL_law 973 = .ok (.iaload, 1) := by decide +kernel
theorem dL_law_974 : decode cL_law 974 = .ok (.invokevirtual 113, 3) := by decide +kernel
theorem dL_law_977 : decode cL_law 977 = .ok (.if_icmp .eq 508, 3) := by decide +kernel
theorem dL_law_980 : decode cL_law 980 = .ok (.iconst 0, 1) := by decide +kernel
theorem dL_law_981 : decode cL_law 981 = .ok (.ireturn, 1) := by decide +kernel
theorem dL_law_982 : decode cL_law 982 = .ok (.aload_n 1, 1) := by decide +kernel
theorem dL_law_983 : decode cL_law 983 = .ok (.aload_n 0, 1) := by decide +kernel
theorem dL_law_984 : decode cL_law 984 = .ok (.iload_n 3, 1) := by decide +kernel
theorem dL_law_985 : decode cL_law 985 = .ok (.iconst 1, 1) := by decide +kernel
theorem dL_law_986 : decode cL_law 986 = .ok (.iadd, 1) := by decide +kernel
theorem dL_law_987 : decode cL_law 987 = .ok (.iaload, 1) := by decide +kernel
theorem dL_law_988 : decode cL_law 988 = .ok (.aload_n 0, 1) := by decide +kernel
theorem dL_law_989 : decode cL_law 989 = .ok (.iload_n 3, 1) := by decide +kernel
theorem dL_law_990 : decode cL_law 990 = .ok (.iconst 2, 1) := by decide +kernel
theorem dL_law_991 : decode cL_law 991 = .ok (.iadd, 1) := by decide +kernel
theorem dL_law_992 : decode cL_law 992 = .ok (.iaload, 1) := by decide +kernel
theorem dL_law_993 : decode cL_law 993 = .ok (.aload_n 0, 1) := by decide +kernel
theorem dL_law_994 : decode cL_law 994 = .ok (.iload_n 3, 1) := by decide +kernel
theorem dL_law_995 : decode cL_law 995 = .ok (.iconst 3, 1) := by decide +kernel
theorem dL_law_996 : decode cL_law 996 = .ok (.iadd, 1) := by decide +kernel
theorem dL_law_997 : decode cL_law 997 = .ok (.iaload, 1) := by decide +kernel
theorem dL_law_998 : decode cL_law 998 = .ok (.aload_n 0, 1) := by decide +kernel
theorem dL_law_999 : decode cL_law 999 = .ok (.iload_n 3, 1) := by decide +kernel
theorem dL_law_1000 : decode cL_law 1000 = .ok (.iconst 4, 1) := by decide +kernel
theorem dL_law_1001 : decode cL_law 1001 = .ok (.iadd, 1) := by decide +kernel
theorem dL_law_1002 : decode cL_law 1002 = .ok (.iaload, 1) := by decide +kernel
theorem dL_law_1003 : decode cL_law 1003 = .ok (.invokevirtual 114, 3) := by decide +kernel
theorem dL_law_1006 : decode cL_law 1006 = .ok (.aload_n 2, 1) := by decide +kernel
theorem dL_law_1007 : decode cL_law 1007 = .ok (.aload_n 0, 1) := by decide +kernel
theorem dL_law_1008 : decode cL_law 1008 = .ok (.iload_n 3, 1) := by decide +kernel
theorem dL_law_1009 : decode cL_law 1009 = .ok (.iconst 1, 1) := by decide +kernel
theorem dL_law_1010 : decode cL_law 1010 = .ok (.iadd, 1) := by decide +kernel
theorem dL_law_1011 : decode cL_law 1011 = .ok (.iaload, 1) := by decide +kernel
theorem dL_law_1012 : decode cL_law 1012 = .ok (.aload_n 0, 1) := by decide +kernel
theorem dL_law_1013 : decode cL_law 1013 = .ok (.iload_n 3, 1) := by decide +kernel
theorem dL_law_1014 : decode cL_law 1014 = .ok (.iconst 2, 1) := by decide +kernel
theorem dL_law_1015 : decode cL_law 1015 = .ok (.iadd, 1) := by decide +kernel
theorem dL_law_1016 : decode cL_law 1016 = .ok (.iaload, 1) := by decide +kernel
theorem dL_law_1017 : decode cL_law 1017 = .ok (.aload_n 0, 1) := by decide +kernel
theorem dL_law_1018 : decode cL_law 1018 = .ok (.iload_n 3, 1) := by decide +kernel
theorem dL_law_1019 : decode cL_law 1019 = .ok (.iconst 3, 1) := by decide +kernel
theorem dL_law_1020 : decode cL_law 1020 = .ok (.iadd, 1) := by decide +kernel
theorem dL_law_1021 : decode cL_law 1021 = .ok (.iaload, 1) := by decide +kernel
theorem dL_law_1022 : decode cL_law 1022 = .ok (.aload_n 0, 1) := by decide +kernel
theorem dL_law_1023 : decode cL_law 1023 = .ok (.iload_n 3, 1) := by decide +kernel
theorem dL_law_1024 : decode cL_law 1024 = .ok (.iconst 4, 1) := by decide +kernel
theorem dL_law_1025 : decode cL_law 1025 = .ok (.iadd, 1) := by decide +kernel
theorem dL_law_1026 : decode cL_law 1026 = .ok (.iaload, 1) := by decide +kernel
theorem dL_law_1027 : decode cL_law 1027 = .ok (.invokevirtual 118, 3) := by decide +kernel
theorem dL_law_1030 : decode cL_law 1030 = .ok (.if_icmp .eq 455, 3) := by decide +kernel
theorem dL_law_1033 : decode cL_law 1033 = .ok (.iconst 0, 1) := by decide +kernel
theorem dL_law_1034 : decode cL_law 1034 = .ok (.ireturn, 1) := by decide +kernel
theorem dL_law_1035 : decode cL_law 1035 = .ok (.aload_n 1, 1) := by decide +kernel
theorem dL_law_1036 : decode cL_law 1036 = .ok (.aload_n 0, 1) := by decide +kernel
theorem dL_law_1037 : decode cL_law 1037 = .ok (.iload_n 3, 1) := by decide +kernel
theorem dL_law_1038 : decode cL_law 1038 = .ok (.iconst 1, 1) := by decide +kernel
theorem dL_law_1039 : decode cL_law 1039 = .ok (.iadd, 1) := by decide +kernel
theorem dL_law_1040 : decode cL_law 1040 = .ok (.iaload, 1) := by decide +kernel
theorem dL_law_1041 : decode cL_law 1041 = .ok (.aload_n 0, 1) := by decide +kernel
theorem dL_law_1042 : decode cL_law 1042 = .ok (.iload_n 3, 1) := by decide +kernel
theorem dL_law_1043 : decode cL_law 1043 = .ok (.iconst 2, 1) := by decide +kernel
theorem dL_law_1044 : decode cL_law 1044 = .ok (.iadd, 1) := by decide +kernel
theorem dL_law_1045 : decode cL_law 1045 = .ok (.iaload, 1) := by decide +kernel
theorem dL_law_1046 : decode cL_law 1046 = .ok (.invokevirtual 119, 3) := by decide +kernel
theorem dL_law_1049 : decode cL_law 1049 = .ok (.aload_n 2, 1) := by decide +kernel
theorem dL_law_1050 : decode cL_law 1050 = .ok (.aload_n 0, 1) := by decide +kernel
theorem dL_law_1051 : decode cL_law 1051 = .ok (.iload_n 3, 1) := by decide +kernel
theorem dL_law_1052 : decode cL_law 1052 = .ok (.iconst 1, 1) := by decide +kernel
theorem dL_law_1053 : decode cL_law 1053 = .ok (.iadd, 1) := by decide +kernel
theorem dL_law_1054 : decode cL_law 1054 = .ok (.iaload, 1) := by decide +kernel
theorem dL_law_1055 : decode cL_law 1055 = .ok (.aload_n 0, 1) := by decide +kernel
theorem dL_law_1056 : decode cL_law 1056 = .ok (.iload_n 3, 1) := by decide +kernel
theorem dL_law_1057 : decode cL_law 1057 = .ok (.iconst 2, 1) := by decide +kernel
theorem dL_law_1058 : decode cL_law 1058 = .ok (.iadd, 1) := by decide +kernel
theorem dL_law_1059 : decode cL_law 1059 = .ok (.iaload, 1) := by decide +kernel
theorem dL_law_1060 : decode cL_law 1060 = .ok (.invokevirtual 122, 3) := by decide +kernel
theorem dL_law_1063 : decode cL_law 1063 = .ok (.if_icmp .eq 422, 3) := by decide +kernel
theorem dL_law_1066 : decode cL_law 1066 = .ok (.iconst 0, 1) := by decide +kernel
theorem dL_law_1067 : decode cL_law 1067 = .ok (.ireturn, 1) := by decide +kernel
theorem dL_law_1068 : decode cL_law 1068 = .ok (.aload_n 1, 1) := by decide +kernel
theorem dL_law_1069 : decode cL_law 1069 = .ok (.aload_n 0, 1) := by decide +kernel
theorem dL_law_1070 : decode cL_law 1070 = .ok (.iload_n 3, 1) := by decide +kernel
theorem dL_law_1071 : decode cL_law 1071 = .ok (.iconst 1, 1) := by decide +kernel
theorem dL_law_1072 : decode cL_law 1072 = .ok (.iadd, 1) := by decide +kernel
theorem dL_law_1073 : decode cL_law 1073 = .ok (.iaload, 1) := by decide +kernel
theorem dL_law_1074 : decode cL_law 1074 = .ok (.invokevirtual 123, 3) := by decide +kernel
theorem dL_law_1077 : decode cL_law 1077 = .ok (.aload_n 2, 1) := by decide +kernel
theorem dL_law_1078 : decode cL_law 1078 = .ok (.aload_n 0, 1) := by decide +kernel
theorem dL_law_1079 : decode cL_law 1079 = .ok (.iload_n 3, 1) := by decide +kernel
theorem dL_law_1080 : decode cL_law 1080 = .ok (.iconst 1, 1) := by decide +kernel
theorem dL_law_1081 : decode cL_law 1081 = .ok (.iadd, 1) := by decide +kernel
theorem dL_law_1082 : decode cL_law 1082 = .ok (.iaload, 1) := by decide +kernel
theorem dL_law_1083 : decode cL_law 1083 = .ok (.invokevirtual 126, 3) := by decide +kernel
theorem dL_law_1086 : decode cL_law 1086 = .ok (.if_icmp .eq 399, 3) := by decide +kernel
theorem dL_law_1089 : decode cL_law 1089 = .ok (.iconst 0, 1) := by decide +kernel
theorem dL_law_1090 : decode cL_law 1090 = .ok (.ireturn, 1) := by decide +kernel
theorem dL_law_1091 : decode cL_law 1091 = .ok (.aload_n 1, 1) := by decide +kernel
theorem dL_law_1092 : decode cL_law 1092 = .ok (.aload_n 0, 1) := by decide +kernel
theorem dL_law_1093 : decode cL_law 1093 = .ok (.iload_n 3, 1) := by decide +kernel
theorem dL_law_1094 : decode cL_law 1094 = .ok (.iconst 1, 1) := by decide +kernel
theorem dL_law_1095 : decode cL_law 1095 = .ok (.iadd, 1) := by decide +kernel
theorem dL_law_1096 : decode cL_law 1096 = .ok (.iaload, 1) := by decide +kernel
theorem dL_law_1097 : decode cL_law 1097 = .ok (.aload_n 0, 1) := by decide +kernel
theorem dL_law_1098 : decode cL_law 1098 = .ok (.iload_n 3, 1) := by decide +kernel
theorem dL_law_1099 : decode cL_law 1099 = .ok (.iconst 2, 1) := by decide +kernel
theorem dL_law_1100 : decode cL_law 1100 = .ok (.iadd, 1) := by decide +kernel
theorem dL_law_1101 : decode cL_law 1101 = .ok (.iaload, 1) := by decide +kernel
theorem dL_law_1102 : decode cL_law 1102 = .ok (.invokevirtual 127, 3) := by decide +kernel
theorem dL_law_1105 : decode cL_law 1105 = .ok (.aload_n 2, 1) := by decide +kernel
theorem dL_law_1106 : decode cL_law 1106 = .ok (.aload_n 0, 1) := by decide +kernel
theorem dL_law_1107 : decode cL_law 1107 = .ok (.iload_n 3, 1) := by decide +kernel
theorem dL_law_1108 : decode cL_law 1108 = .ok (.iconst 1, 1) := by decide +kernel
theorem dL_law_1109 : decode cL_law 1109 = .ok (.iadd, 1) := by decide +kernel
theorem dL_law_1110 : decode cL_law 1110 = .ok (.iaload, 1) := by decide +kernel
theorem dL_law_1111 : decode cL_law 1111 = .ok (.aload_n 0, 1) := by decide +kernel
theorem dL_law_1112 : decode cL_law 1112 = .ok (.iload_n 3, 1) := by decide +kernel
theorem dL_law_1113 : decode cL_law 1113 = .ok (.iconst 2, 1) := by decide +kernel
theorem dL_law_1114 : decode cL_law 1114 = .ok (.iadd, 1) := by decide +kernel
theorem dL_law_1115 : decode cL_law 1115 = .ok (.iaload, 1) := by decide +kernel
theorem dL_law_1116 : decode cL_law 1116 = .ok (.invokevirtual 130, 3) := by decide +kernel
theorem dL_law_1119 : decode cL_law 1119 = .ok (.if_icmp .eq 366, 3) := by decide +kernel
theorem dL_law_1122 : decode cL_law 1122 = .ok (.iconst 0, 1) := by decide +kernel
theorem dL_law_1123 : decode cL_law 1123 = .ok (.ireturn, 1) := by decide +kernel
theorem dL_law_1124 : decode cL_law 1124 = .ok (.aload_n 1, 1) := by decide +kernel
theorem dL_law_1125 : decode cL_law 1125 = .ok (.aload_n 0, 1) := by decide +kernel
theorem dL_law_1126 : decode cL_law 1126 = .ok (.iload_n 3, 1) := by decide +kernel
theorem dL_law_1127 : decode cL_law 1127 = .ok (.iconst 1, 1) := by decide +kernel
theorem dL_law_1128 : decode cL_law 1128 = .ok (.iadd, 1) := by decide +kernel
theorem dL_law_1129 : decode cL_law 1129 = .ok (.iaload, 1) := by decide +kernel
theorem dL_law_1130 : decode cL_law 1130 = .ok (.invokevirtual 131, 3) := by decide +kernel
theorem dL_law_1133 : decode cL_law 1133 = .ok (.aload_n 2, 1) := by decide +kernel
theorem dL_law_1134 : decode cL_law 1134 = .ok (.aload_n 0, 1) := by decide +kernel
theorem dL_law_1135 : decode cL_law 1135 = .ok (.iload_n 3, 1) := by decide +kernel
theorem dL_law_1136 : decode cL_law 1136 = .ok (.iconst 1, 1) := by decide +kernel
theorem dL_law_1137 : decode cL_law 1137 = .ok (.iadd, 1) := by decide +kernel
theorem dL_law_1138 : decode cL_law 1138 = .ok (.iaload, 1) := by decide +kernel
theorem dL_law_1139 : decode cL_law 1139 = .ok (.invokevirtual 134, 3) := by decide +kernel
theorem dL_law_1142 : decode cL_law 1142 = .ok (.if_icmp .eq 343, 3) := by decide +kernel
theorem dL_law_1145 : decode cL_law 1145 = .ok (.iconst 0, 1) := by decide +kernel
theorem dL_law_1146 : decode cL_law 1146 = .ok (.ireturn, 1) := by decide +kernel
theorem dL_law_1147 : decode cL_law 1147 = .ok (.aload_n 1, 1) := by decide +kernel
theorem dL_law_1148 : decode cL_law 1148 = .ok (.aload_n 0, 1) := by decide +kernel
theorem dL_law_1149 : decode cL_law 1149 = .ok (.iload_n 3, 1) := by decide +kernel
theorem dL_law_1150 : decode cL_law 1150 = .ok (.iconst 1, 1) := by decide +kernel
theorem dL_law_1151 : decode cL_law 1151 = .ok (.iadd, 1) := by decide +kernel
theorem dL_law_1152 : decode cL_law 1152 = .ok (.iaload, 1) := by decide +kernel
theorem dL_law_1153 : decode cL_law 1153 = .ok (.aload_n 0, 1) := by decide +kernel
theorem dL_law_1154 : decode cL_law 1154 = .ok (.iload_n 3, 1) := by decide +kernel
theorem dL_law_1155 : decode cL_law 1155 = .ok (.iconst 2, 1) := by decide +kernel
theorem dL_law_1156 : decode cL_law 1156 = .ok (.iadd, 1) := by decide +kernel
theorem dL_law_1157 : decode cL_law 1157 = .ok (.iaload, 1) := by decide +kernel
theorem dL_law_1158 : decode cL_law 1158 = .ok (.aload_n 0, 1) := by decide +kernel
theorem dL_law_1159 : decode cL_law 1159 = .ok (.iload_n 3, 1) := by decide +kernel
theorem dL_law_1160 : decode cL_law 1160 = .ok (.iconst 3, 1) := by decide +kernel
theorem dL_law_1161 : decode cL_law 1161 = .ok (.iadd, 1) := by decide +kernel
theorem dL_law_1162 : decode cL_law 1162 = .ok (.iaload, 1) := by decide +kernel
theorem dL_law_1163 : decode cL_law 1163 = .ok (.invokevirtual 135, 3) := by decide +kernel
theorem dL_law_1166 : decode cL_law 1166 = .ok (.aload_n 2, 1) := by decide +kernel
theorem dL_law_1167 : decode cL_law 1167 = .ok (.aload_n 0, 1) := by decide +kernel
theorem dL_law_1168 : decode cL_law 1168 = .ok (.iload_n 3, 1) := by decide +kernel
theorem dL_law_1169 : decode cL_law 1169 = .ok (.iconst 1, 1) := by decide +kernel
theorem dL_law_1170 : decode cL_law 1170 = .ok (.iadd, 1) := by decide +kernel
theorem dL_law_1171 : decode cL_law 1171 = .ok (.iaload, 1) := by decide +kernel
theorem dL_law_1172 : decode cL_law 1172 = .ok (.aload_n 0, 1) := by decide +kernel
theorem dL_law_1173 : decode cL_law 1173 = .ok (.iload_n 3, 1) := by decide +kernel
theorem dL_law_1174 : decode cL_law 1174 = .ok (.iconst 2, 1) := by decide +kernel
theorem dL_law_1175 : decode cL_law 1175 = .ok (.iadd, 1) := by decide +kernel
theorem dL_law_1176 : decode cL_law 1176 = .ok (.iaload, 1) := by decide +kernel
theorem dL_law_1177 : decode cL_law 1177 = .ok (.aload_n 0, 1) := by decide +kernel
theorem dL_law_1178 : decode cL_law 1178 = .ok (.iload_n 3, 1) := by decide +kernel
theorem dL_law_1179 : decode cL_law 1179 = .ok (.iconst 3, 1) := by decide +kernel
theorem dL_law_1180 : decode cL_law 1180 = .ok (.iadd, 1) := by decide +kernel
theorem dL_law_1181 : decode cL_law 1181 = .ok (.iaload, 1) := by decide +kernel
theorem dL_law_1182 : decode cL_law 1182 = .ok (.invokevirtual 138, 3) := by decide +kernel
theorem dL_law_1185 : decode cL_law 1185 = .ok (.if_icmp .eq 300, 3) := by decide +kernel
theorem dL_law_1188 : decode cL_law 1188 = .ok (.iconst 0, 1) := by decide +kernel
theorem dL_law_1189 : decode cL_law 1189 = .ok (.ireturn, 1) := by decide +kernel
theorem dL_law_1190 : decode cL_law 1190 = .ok (.aload_n 1, 1) := by decide +kernel
theorem dL_law_1191 : decode cL_law 1191 = .ok (.aload_n 0, 1) := by decide +kernel
theorem dL_law_1192 : decode cL_law 1192 = .ok (.iload_n 3, 1) := by decide +kernel
theorem dL_law_1193 : decode cL_law 1193 = .ok (.iconst 1, 1) := by decide +kernel
theorem dL_law_1194 : decode cL_law 1194 = .ok (.iadd, 1) := by decide +kernel
theorem dL_law_1195 : decode cL_law 1195 = .ok (.iaload, 1) := by decide +kernel
theorem dL_law_1196 : decode cL_law 1196 = .ok (.aload_n 0, 1) := by decide +kernel
theorem dL_law_1197 : decode cL_law 1197 = .ok (.iload_n 3, 1) := by decide +kernel
theorem dL_law_1198 : decode cL_law 1198 = .ok (.iconst 2, 1) := by decide +kernel
theorem dL_law_1199 : decode cL_law 1199 = .ok (.iadd, 1) := by decide +kernel
theorem dL_law_1200 : decode cL_law 1200 = .ok (.iaload, 1) := by decide +kernel
theorem dL_law_1201 : decode cL_law 1201 = .ok (.invokevirtual 139, 3) := by decide +kernel
theorem dL_law_1204 : decode cL_law 1204 = .ok (.aload_n 2, 1) := by decide +kernel
theorem dL_law_1205 : decode cL_law 1205 = .ok (.aload_n 0, 1) := by decide +kernel
theorem dL_law_1206 : decode cL_law 1206 = .ok (.iload_n 3, 1) := by decide +kernel
theorem dL_law_1207 : decode cL_law 1207 = .ok (.iconst 1, 1) := by decide +kernel
theorem dL_law_1208 : decode cL_law 1208 = .ok (.iadd, 1) := by decide +kernel
theorem dL_law_1209 : decode cL_law 1209 = .ok (.iaload, 1) := by decide +kernel
theorem dL_law_1210 : decode cL_law 1210 = .ok (.aload_n 0, 1) := by decide +kernel
theorem dL_law_1211 : decode cL_law 1211 = .ok (.iload_n 3, 1) := by decide +kernel
theorem dL_law_1212 : decode cL_law 1212 = .ok (.iconst 2, 1) := by decide +kernel
theorem dL_law_1213 : decode cL_law 1213 = .ok (.iadd, 1) := by decide +kernel
theorem dL_law_1214 : decode cL_law 1214 = .ok (.iaload, 1) := by decide +kernel
theorem dL_law_1215 : decode cL_law 1215 = .ok (.invokevirtual 142, 3) := by decide +kernel
theorem dL_law_1218 : decode cL_law 1218 = .ok (.if_icmp .eq 267, 3) := by decide +kernel
theorem dL_law_1221 : decode cL_law 1221 = .ok (.iconst 0, 1) := by decide +kernel
theorem dL_law_1222 : decode cL_law 1222 = .ok (.ireturn, 1) := by decide +kernel
theorem dL_law_1223 : decode cL_law 1223 = .ok (.aload_n 1, 1) := by decide +kernel
theorem dL_law_1224 : decode cL_law 1224 = .ok (.aload_n 0, 1) := by decide +kernel
theorem dL_law_1225 : decode cL_law 1225 = .ok (.iload_n 3, 1) := by decide +kernel
theorem dL_law_1226 : decode cL_law 1226 = .ok (.iconst 1, 1) := by decide +kernel
theorem dL_law_1227 : decode cL_law 1227 = .ok (.iadd, 1) := by decide +kernel
theorem dL_law_1228 : decode cL_law 1228 = .ok (.iaload, 1) := by decide +kernel
theorem dL_law_1229 : decode cL_law 1229 = .ok (.aload_n 0, 1) := by decide +kernel
theorem dL_law_1230 : decode cL_law 1230 = .ok (.iload_n 3, 1) := by decide +kernel
theorem dL_law_1231 : decode cL_law 1231 = .ok (.iconst 2, 1) := by decide +kernel
theorem dL_law_1232 : decode cL_law 1232 = .ok (.iadd, 1) := by decide +kernel
theorem dL_law_1233 : decode cL_law 1233 = .ok (.iaload, 1) := by decide +kernel
theorem dL_law_1234 : decode cL_law 1234 = .ok (.aload_n 0, 1) := by decide +kernel
theorem dL_law_1235 : decode cL_law 1235 = .ok (.iload_n 3, 1) := by decide +kernel
theorem dL_law_1236 : decode cL_law 1236 = .ok (.iconst 3, 1) := by decide +kernel
theorem dL_law_1237 : decode cL_law 1237 = .ok (.iadd, 1) := by decide +kernel
theorem dL_law_1238 : decode cL_law 1238 = .ok (.iaload, 1) := by decide +kernel
theorem dL_law_1239 : decode cL_law 1239 = .ok (.invokevirtual 143, 3) := by decide +kernel
theorem dL_law_1242 : decode cL_law 1242 = .ok (.aload_n 2, 1) := by decide +kernel
theorem dL_law_1243 : decode cL_law 1243 = .ok (.aload_n 0, 1) := by decide +kernel
theorem dL_law_1244 : decode cL_law 1244 = .ok (.iload_n 3, 1) := by decide +kernel
theorem dL_law_1245 : decode cL_law 1245 = .ok (.iconst 1, 1) := by decide +kernel
theorem dL_law_1246 : decode cL_law 1246 = .ok (.iadd, 1) := by decide +kernel
theorem dL_law_1247 : decode cL_law 1247 = .ok (.iaload, 1) := by decide +kernel
theorem dL_law_1248 : decode cL_law 1248 = .ok (.aload_n 0, 1) := by decide +kernel
theorem dL_law_1249 : decode cL_law 1249 = .ok (.iload_n 3, 1) := by decide +kernel
theorem dL_law_1250 : decode cL_law 1250 = .ok (.iconst 2, 1) := by decide +kernel
theorem dL_law_1251 : decode cL_law 1251 = .ok (.iadd, 1) := by decide +kernel
theorem dL_law_1252 : decode cL_law 1252 = .ok (.iaload, 1) := by decide +kernel
theorem dL_law_1253 : decode cL_law 1253 = .ok (.aload_n 0, 1) := by decide +kernel
theorem dL_law_1254 : decode cL_law 1254 = .ok (.iload_n 3, 1) := by decide +kernel
theorem dL_law_1255 : decode cL_law 1255 = .ok (.iconst 3, 1) := by decide +kernel
theorem dL_law_1256 : decode cL_law 1256 = .ok (.iadd, 1) := by decide +kernel
theorem dL_law_1257 : decode cL_law 1257 = .ok (.iaload, 1) := by decide +kernel
theorem dL_law_1258 : decode cL_law 1258 = .ok (.invokevirtual 146, 3) := by decide +kernel
theorem dL_law_1261 : decode cL_law 1261 = .ok (.if_icmp .eq 224, 3) := by decide +kernel
theorem dL_law_1264 : decode cL_law 1264 = .ok (.iconst 0, 1) := by decide +kernel
theorem dL_law_1265 : decode cL_law 1265 = .ok (.ireturn, 1) := by decide +kernel
theorem dL_law_1266 : decode cL_law 1266 = .ok (.aload_n 1, 1) := by decide +kernel
theorem dL_law_1267 : decode cL_law 1267 = .ok (.aload_n 0, 1) := by decide +kernel
theorem dL_law_1268 : decode cL_law 1268 = .ok (.iload_n 3, 1) := by decide +kernel
theorem dL_law_1269 : decode cL_law 1269 = .ok (.iconst 1, 1) := by decide +kernel
theorem dL_law_1270 : decode cL_law 1270 = .ok (.iadd, 1) := by decide +kernel
theorem dL_law_1271 : decode cL_law 1271 = .ok (.iaload, 1) := by decide +kernel
theorem dL_law_1272 : decode cL_law 1272 = .ok (.invokevirtual 147, 3) := by decide +kernel
theorem dL_law_1275 : decode cL_law 1275 = .ok (.aload_n 2, 1) := by decide +kernel
theorem dL_law_1276 : decode cL_law 1276 = .ok (.aload_n 0, 1) := by decide +kernel
theorem dL_law_1277 : decode cL_law 1277 = .ok (.iload_n 3, 1) := by decide +kernel
theorem dL_law_1278 : decode cL_law 1278 = .ok (.iconst 1, 1) := by decide +kernel
theorem dL_law_1279 : decode cL_law 1279 = .ok (.iadd, 1) := by decide +kernel
theorem dL_law_1280 : decode cL_law 1280 = .ok (.iaload, 1) := by decide +kernel
theorem dL_law_1281 : decode cL_law 1281 = .ok (.invokevirtual 150, 3) := by decide +kernel
theorem dL_law_1284 : decode cL_law 1284 = .ok (.if_icmp .eq 201, 3) := by decide +kernel
theorem dL_law_1287 : decode cL_law 1287 = .ok (.iconst 0, 1) := by decide +kernel
theorem dL_law_1288 : decode cL_law 1288 = .ok (.ireturn, 1) := by decide +kernel
theorem dL_law_1289 : decode cL_law 1289 = .ok (.aload_n 1, 1) := by decide +kernel
theorem dL_law_1290 : decode cL_law 1290 = .ok (.aload_n 0, 1) := by decide +kernel
theorem dL_law_1291 : decode cL_law 1291 = .ok (.iload_n 3, 1) := by decide +kernel
theorem dL_law_1292 : decode cL_law 1292 = .ok (.iconst 1, 1) := by decide +kernel
theorem dL_law_1293 : decode cL_law 1293 = .ok (.iadd, 1) := by decide +kernel
theorem dL_law_1294 : decode cL_law 1294 = .ok (.iaload, 1) := by decide +kernel
theorem dL_law_1295 : decode cL_law 1295 = .ok (.aload_n 0, 1) := by decide +kernel
theorem dL_law_1296 : decode cL_law 1296 = .ok (.iload_n 3, 1) := by decide +kernel
theorem dL_law_1297 : decode cL_law 1297 = .ok (.iconst 2, 1) := by decide +kernel
theorem dL_law_1298 : decode cL_law 1298 = .ok (.iadd, 1) := by decide +kernel
theorem dL_law_1299 : decode cL_law 1299 = .ok (.iaload, 1) := by decide +kernel
theorem dL_law_1300 : decode cL_law 1300 = .ok (.aload_n 0, 1) := by decide +kernel
theorem dL_law_1301 : decode cL_law 1301 = .ok (.iload_n 3, 1) := by decide +kernel
theorem dL_law_1302 : decode cL_law 1302 = .ok (.iconst 3, 1) := by decide +kernel
theorem dL_law_1303 : decode cL_law 1303 = .ok (.iadd, 1) := by decide +kernel
theorem dL_law_1304 : decode cL_law 1304 = .ok (.iaload, 1) := by decide +kernel
theorem dL_law_1305 : decode cL_law 1305 = .ok (.aload_n 0, 1) := by decide +kernel
theorem dL_law_1306 : decode cL_law 1306 = .ok (.iload_n 3, 1) := by decide +kernel
theorem dL_law_1307 : decode cL_law 1307 = .ok (.iconst 4, 1) := by decide +kernel
theorem dL_law_1308 : decode cL_law 1308 = .ok (.iadd, 1) := by decide +kernel
theorem dL_law_1309 : decode cL_law 1309 = .ok (.iaload, 1) := by decide +kernel
theorem dL_law_1310 : decode cL_law 1310 = .ok (.invokevirtual 151, 3) := by decide +kernel
theorem dL_law_1313 : decode cL_law 1313 = .ok (.aload_n 2, 1) := by decide +kernel
theorem dL_law_1314 : decode cL_law 1314 = .ok (.aload_n 0, 1) := by decide +kernel
theorem dL_law_1315 : decode cL_law 1315 = .ok (.iload_n 3, 1) := by decide +kernel
theorem dL_law_1316 : decode cL_law 1316 = .ok (.iconst 1, 1) := by decide +kernel
theorem dL_law_1317 : decode cL_law 1317 = .ok (.iadd, 1) := by decide +kernel
theorem dL_law_1318 : decode cL_law 1318 = .ok (.iaload, 1) := by decide +kernel
theorem dL_law_1319 : decode cL_law 1319 = .ok (.aload_n 0, 1) := by decide +kernel
theorem dL_law_1320 : decode cL_law 1320 = .ok (.iload_n 3, 1) := by decide +kernel
theorem dL_law_1321 : decode cL_law 1321 = .ok (.iconst 2, 1) := by decide +kernel
theorem dL_law_1322 : decode cL_law 1322 = .ok (.iadd, 1) := by decide +kernel
theorem dL_law_1323 : decode cL_law 1323 = .ok (.iaload, 1) := by decide +kernel
theorem dL_law_1324 : decode cL_law 1324 = .ok (.aload_n 0, 1) := by decide +kernel
theorem dL_law_1325 : decode cL_law 1325 = .ok (.iload_n 3, 1) := by decide +kernel
theorem dL_law_1326 : decode cL_law 1326 = .ok (.iconst 3, 1) := by decide +kernel
theorem dL_law_1327 : decode cL_law 1327 = .ok (.iadd, 1) := by decide +kernel
theorem dL_law_1328 : decode cL_law 1328 = .ok (.iaload, 1) := by decide +kernel
theorem dL_law_1329 : decode cL_law 1329 = .ok (.aload_n 0, 1) := by decide +kernel
theorem dL_law_1330 : decode cL_law 1330 = .ok (.iload_n 3, 1) := by decide +kernel
theorem dL_law_1331 : decode cL_law 1331 = .ok (.iconst 4, 1) := by decide +kernel
theorem dL_law_1332 : decode cL_law 1332 = .ok (.iadd, 1) := by decide +kernel
theorem dL_law_1333 : decode cL_law 1333 = .ok (.iaload, 1) := by decide +kernel
theorem dL_law_1334 : decode cL_law 1334 = .ok (.invokevirtual 154, 3) := by decide +kernel
theorem dL_law_1337 : decode cL_law 1337 = .ok (.if_icmp .eq 148, 3) := by decide +kernel
theorem dL_law_1340 : decode cL_law 1340 = .ok (.iconst 0, 1) := by decide +kernel
theorem dL_law_1341 : decode cL_law 1341 = .ok (.ireturn, 1) := by decide +kernel
theorem dL_law_1342 : decode cL_law 1342 = .ok (.aload_n 1, 1) := by decide +kernel
theorem dL_law_1343 : decode cL_law 1343 = .ok (.aload_n 0, 1) := by decide +kernel
theorem dL_law_1344 : decode cL_law 1344 = .ok (.iload_n 3, 1) := by decide +kernel
theorem dL_law_1345 : decode cL_law 1345 = .ok (.iconst 1, 1) := by decide +kernel
theorem dL_law_1346 : decode cL_law 1346 = .ok (.iadd, 1) := by decide +kernel
theorem dL_law_1347 : decode cL_law 1347 = .ok (.iaload, 1) := by decide +kernel
theorem dL_law_1348 : decode cL_law 1348 = .ok (.aload_n 0, 1) := by decide +kernel
theorem dL_law_1349 : decode cL_law 1349 = .ok (.iload_n 3, 1) := by decide +kernel
theorem dL_law_1350 : decode cL_law 1350 = .ok (.iconst 2, 1) := by decide +kernel
theorem dL_law_1351 : decode cL_law 1351 = .ok (.iadd, 1) := by decide +kernel
theorem dL_law_1352 : decode cL_law 1352 = .ok (.iaload, 1) := by decide +kernel
theorem dL_law_1353 : decode cL_law 1353 = .ok (.aload_n 0, 1) := by decide +kernel
theorem dL_law_1354 : decode cL_law 1354 = .ok (.iload_n 3, 1) := by decide +kernel
theorem dL_law_1355 : decode cL_law 1355 = .ok (.iconst 3, 1) := by decide +kernel
theorem dL_law_1356 : decode cL_law 1356 = .ok (.iadd, 1) := by decide +kernel
theorem dL_law_1357 : decode cL_law 1357 = .ok (.iaload, 1) := by decide +kernel
theorem dL_law_1358 : decode cL_law 1358 = .ok (.invokevirtual 155, 3) := by decide +kernel
theorem dL_law_1361 : decode cL_law 1361 = .ok (.aload_n 2, 1) := by decide +kernel
theorem dL_law_1362 : decode cL_law 1362 = .ok (.aload_n 0, 1) := by decide +kernel
theorem dL_law_1363 : decode cL_law 1363 = .ok (.iload_n 3, 1) := by decide +kernel
theorem dL_law_1364 : decode cL_law 1364 = .ok (.iconst 1, 1) := by decide +kernel
theorem dL_law_1365 : decode cL_law 1365 = .ok (.iadd, 1) := by decide +kernel
theorem dL_law_1366 : decode cL_law 1366 = .ok (.iaload, 1) := by decide +kernel
theorem dL_law_1367 : decode cL_law 1367 = .ok (.aload_n 0, 1) := by decide +kernel
theorem dL_law_1368 : decode cL_law 1368 = .ok (.iload_n 3, 1) := by decide +kernel
theorem dL_law_1369 : decode cL_law 1369 = .ok (.iconst 2, 1) := by decide +kernel
theorem dL_law_1370 : decode cL_law 1370 = .ok (.iadd, 1) := by decide +kernel
theorem dL_law_1371 : decode cL_law 1371 = .ok (.iaload, 1) := by decide +kernel
theorem dL_law_1372 : decode cL_law 1372 = .ok (.aload_n 0, 1) := by decide +kernel
theorem dL_law_1373 : decode cL_law 1373 = .ok (.iload_n 3, 1) := by decide +kernel
theorem dL_law_1374 : decode cL_law 1374 = .ok (.iconst 3, 1) := by decide +kernel
theorem dL_law_1375 : decode cL_law 1375 = .ok (.iadd, 1) := by decide +kernel
theorem dL_law_1376 : decode cL_law 1376 = .ok (.iaload, 1) := by decide +kernel
theorem dL_law_1377 : decode cL_law 1377 = .ok (.invokevirtual 158, 3) := by decide +kernel
theorem dL_law_1380 : decode cL_law 1380 = .ok (.if_icmp .eq 105, 3) := by decide +kernel
theorem dL_law_1383 : decode cL_law 1383 = .ok (.iconst 0, 1) := by decide +kernel
theorem dL_law_1384 : decode cL_law 1384 = .ok (.ireturn, 1) := by decide +kernel
theorem dL_law_1385 : decode cL_law 1385 = .ok (.aload_n 1, 1) := by decide +kernel
theorem dL_law_1386 : decode cL_law 1386 = .ok (.aload_n 0, 1) := by decide +kernel
theorem dL_law_1387 : decode cL_law 1387 = .ok (.iload_n 3, 1) := by decide +kernel
theorem dL_law_1388 : decode cL_law 1388 = .ok (.iconst 1, 1) := by decide +kernel
theorem dL_law_1389 : decode cL_law 1389 = .ok (.iadd, 1) := by decide +kernel
theorem dL_law_1390 : decode cL_law 1390 = .ok (.iaload, 1) := by decide +kernel
theorem dL_law_1391 : decode cL_law 1391 = .ok (.aload_n 0, 1) := by decide +kernel
theorem dL_law_1392 : decode cL_law 1392 = .ok (.iload_n 3, 1) := by decide +kernel
theorem dL_law_1393 : decode cL_law 1393 = .ok (.iconst 2, 1) := by decide +kernel
theorem dL_law_1394 : decode cL_law 1394 = .ok (.iadd, 1) := by decide +kernel
theorem dL_law_1395 : decode cL_law 1395 = .ok (.iaload, 1) := by decide +kernel
theorem dL_law_1396 : decode cL_law 1396 = .ok (.aload_n 0, 1) := by decide +kernel
theorem dL_law_1397 : decode cL_law 1397 = .ok (.iload_n 3, 1) := by decide +kernel
theorem dL_law_1398 : decode cL_law 1398 = .ok (.iconst 3, 1) := by decide +kernel
theorem dL_law_1399 : decode cL_law 1399 = .ok (.iadd, 1) := by decide +kernel
theorem dL_law_1400 : decode cL_law 1400 = .ok (.iaload, 1) := by decide +kernel
theorem dL_law_1401 : decode cL_law 1401 = .ok (.aload_n 0, 1) := by decide +kernel
theorem dL_law_1402 : decode cL_law 1402 = .ok (.iload_n 3, 1) := by decide +kernel
theorem dL_law_1403 : decode cL_law 1403 = .ok (.iconst 4, 1) := by decide +kernel
theorem dL_law_1404 : decode cL_law 1404 = .ok (.iadd, 1) := by decide +kernel
theorem dL_law_1405 : decode cL_law 1405 = .ok (.iaload, 1) := by decide +kernel
theorem dL_law_1406 : decode cL_law 1406 = .ok (.aload_n 0, 1) := by decide +kernel
theorem dL_law_1407 : decode cL_law 1407 = .ok (.iload_n 3, 1) := by decide +kernel
theorem dL_law_1408 : decode cL_law 1408 = .ok (.iconst 5, 1) := by decide +kernel
theorem dL_law_1409 : decode cL_law 1409 = .ok (.iadd, 1) := by decide +kernel
theorem dL_law_1410 : decode cL_law 1410 = .ok (.iaload, 1) := by decide +kernel
theorem dL_law_1411 : decode cL_law 1411 = .ok (.invokevirtual 159, 3) := by decide +kernel
theorem dL_law_1414 : decode cL_law 1414 = .ok (.aload_n 2, 1) := by decide +kernel
theorem dL_law_1415 : decode cL_law 1415 = .ok (.aload_n 0, 1) := by decide +kernel
theorem dL_law_1416 : decode cL_law 1416 = .ok (.iload_n 3, 1) := by decide +kernel
theorem dL_law_1417 : decode cL_law 1417 = .ok (.iconst 1, 1) := by decide +kernel
theorem dL_law_1418 : decode cL_law 1418 = .ok (.iadd, 1) := by decide +kernel
theorem dL_law_1419 : decode cL_law 1419 = .ok (.iaload, 1) := by decide +kernel
theorem dL_law_1420 : decode cL_law 1420 = .ok (.aload_n 0, 1) := by decide +kernel
theorem dL_law_1421 : decode cL_law 1421 = .ok (.iload_n 3, 1) := by decide +kernel
theorem dL_law_1422 : decode cL_law 1422 = .ok (.iconst 2, 1) := by decide +kernel
theorem dL_law_1423 : decode cL_law 1423 = .ok (.iadd, 1) := by decide +kernel
theorem dL_law_1424 : decode cL_law 1424 = .ok (.iaload, 1) := by decide +kernel
theorem dL_law_1425 : decode cL_law 1425 = .ok (.aload_n 0, 1) := by decide +kernel
theorem dL_law_1426 : decode cL_law 1426 = .ok (.iload_n 3, 1) := by decide +kernel
theorem dL_law_1427 : decode cL_law 1427 = .ok (.iconst 3, 1) := by decide +kernel
theorem dL_law_1428 : decode cL_law 1428 = .ok (.iadd, 1) := by decide +kernel
theorem dL_law_1429 : decode cL_law 1429 = .ok (.iaload, 1) := by decide +kernel
theorem dL_law_1430 : decode cL_law 1430 = .ok (.aload_n 0, 1) := by decide +kernel
theorem dL_law_1431 : decode cL_law 1431 = .ok (.iload_n 3, 1) := by decide +kernel
theorem dL_law_1432 : decode cL_law 1432 = .ok (.iconst 4, 1) := by decide +kernel
theorem dL_law_1433 : decode cL_law 1433 = .ok (.iadd, 1) := by decide +kernel
theorem dL_law_1434 : decode cL_law 1434 = .ok (.iaload, 1) := by decide +kernel
theorem dL_law_1435 : decode cL_law 1435 = .ok (.aload_n 0, 1) := by decide +kernel
theorem dL_law_1436 : decode cL_law 1436 = .ok (.iload_n 3, 1) := by decide +kernel
theorem dL_law_1437 : decode cL_law 1437 = .ok (.iconst 5, 1) := by decide +kernel
theorem dL_law_1438 : decode cL_law 1438 = .ok (.iadd, 1) := by decide +kernel
theorem dL_law_1439 : decode cL_law 1439 = .ok (.iaload, 1) := by decide +kernel
theorem dL_law_1440 : decode cL_law 1440 = .ok (.invokevirtual 162, 3) := by decide +kernel
theorem dL_law_1443 : decode cL_law 1443 = .ok (.if_icmp .eq 42, 3) := by decide +kernel
theorem dL_law_1446 : decode cL_law 1446 = .ok (.iconst 0, 1) := by decide +kernel
theorem dL_law_1447 : decode cL_law 1447 = .ok (.ireturn, 1) := by decide +kernel
theorem dL_law_1448 : decode cL_law 1448 = .ok (.aload_n 1, 1) := by decide +kernel
theorem dL_law_1449 : decode cL_law 1449 = .ok (.aload_n 0, 1) := by decide +kernel
theorem dL_law_1450 : decode cL_law 1450 = .ok (.iload_n 3, 1) := by decide +kernel
theorem dL_law_1451 : decode cL_law 1451 = .ok (.iconst 1, 1) := by decide +kernel
theorem dL_law_1452 : decode cL_law 1452 = .ok (.iadd, 1) := by decide +kernel
theorem dL_law_1453 : decode cL_law 1453 = .ok (.iaload, 1) := by decide +kernel
theorem dL_law_1454 : decode cL_law 1454 = .ok (.invokevirtual 163, 3) := by decide +kernel
theorem dL_law_1457 : decode cL_law 1457 = .ok (.aload_n 2, 1) := by decide +kernel
theorem dL_law_1458 : decode cL_law 1458 = .ok (.aload_n 0, 1) := by decide +kernel
theorem dL_law_1459 : decode cL_law 1459 = .ok (.iload_n 3, 1) := by decide +kernel
theorem dL_law_1460 : decode cL_law 1460 = .ok (.iconst 1, 1) := by decide +kernel
theorem dL_law_1461 : decode cL_law 1461 = .ok (.iadd, 1) := by decide +kernel
theorem dL_law_1462 : decode cL_law 1462 = .ok (.iaload, 1) := by decide +kernel
theorem dL_law_1463 : decode cL_law 1463 = .ok (.invokevirtual 166, 3) := by decide +kernel
theorem dL_law_1466 : decode cL_law 1466 = .ok (.if_icmp .eq 19, 3) := by decide +kernel
theorem dL_law_1469 : decode cL_law 1469 = .ok (.iconst 0, 1) := by decide +kernel
theorem dL_law_1470 : decode cL_law 1470 = .ok (.ireturn, 1) := by decide +kernel
theorem dL_law_1471 : decode cL_law 1471 = .ok (.aload_n 1, 1) := by decide +kernel
theorem dL_law_1472 : decode cL_law 1472 = .ok (.invokevirtual 167, 3) := by decide +kernel
theorem dL_law_1475 : decode cL_law 1475 = .ok (.aload_n 2, 1) := by decide +kernel
theorem dL_law_1476 : decode cL_law 1476 = .ok (.invokevirtual 171, 3) := by decide +kernel
theorem dL_law_1479 : decode cL_law 1479 = .ok (.lcmp, 1) := by decide +kernel
theorem dL_law_1480 : decode cL_law 1480 = .ok (.ifCond .eq 5, 3) := by decide +kernel
theorem dL_law_1483 : decode cL_law 1483 = .ok (.iconst 0, 1) := by decide +kernel
theorem dL_law_1484 : decode cL_law 1484 = .ok (.ireturn, 1) := by decide +kernel
theorem dL_law_1485 : decode cL_law 1485 = .ok (.iinc 3 6, 3) := by decide +kernel
theorem dL_law_1488 : decode cL_law 1488 = .ok (.goto (-1470), 3) := by decide +kernel
theorem dL_law_1491 : decode cL_law 1491 = .ok (.iconst 1, 1) := by decide +kernel
theorem dL_law_1492 : decode cL_law 1492 = .ok (.ireturn, 1) := by decide +kernel
end
section
/-! THE ABSTRACT WORLD: all cells of class and reference at addresses that are variables, by number; a method's walk is said of locals, operands and contents alone -/
abbrev xM : Type := Nat → Nat → Int32
abbrev xL : Type := List (Option Value)
abbrev xK : Type := MethodName × ByteArray × Nat × Option FieldType × Nat × Nat
abbrev xS : Type := (Bool × Nat) ⊕ (Nat × List (Option Nat))
/-- a cell's contents anew -/
def xw (M : xM) (k : Nat) (f : Nat → Int32) : xM := fun q => if q = k then f else M q
theorem xw_s (M : xM) (k : Nat) (f : Nat → Int32) : xw M k f k = f := by simp [xw]
theorem xw_n {M : xM} {k q : Nat} {f : Nat → Int32} (h : q ≠ k) : xw M k f q = M q := by simp [xw, h]
def xcv (ad : Nat → Nat) : Value → Value
  | .ref q => .ref (ad q)
  | v => v
def xfs (ad : Nat → Nat) (f : Nat → Int32) : Nat → List (Option Nat) → List Value
  | _, [] => []
  | j, none :: r => .int (f j) :: xfs ad f (j + 1) r
  | j, some q :: r => .ref (ad q) :: xfs ad f (j + 1) r
def xcell (ad : Nat → Nat) (cI cZ : ClassId) (f : Nat → Int32) : xS → va_E
  | .inl (b, n) => .inl (if b = true then cZ else cI, n, .inl f)
  | .inr (ci, fs) => .inr (ci, xfs ad f 0 fs)
def xws (sh : List xS) (ad : Nat → Nat) (cI cZ : ClassId) (M : xM) : va_W := sh.mapIdx (fun k x => (ad k, xcell ad cI cZ (M k) x))
theorem xws_at {sh : List xS} {ad : Nat → Nat} {cI cZ : ClassId} {M : xM} {k : Nat} {x : xS} (h : sh[k]? = some x) : (xws sh ad cI cZ M)[k]? = some (ad k, xcell ad cI cZ (M k) x) := by
  simp [xws, h]
theorem xws_set {sh : List xS} {ad : Nat → Nat} {cI cZ : ClassId} {M : xM} {k : Nat} {x : xS} (h : sh[k]? = some x) (f : Nat → Int32) : (xws sh ad cI cZ M).set k (ad k, xcell ad cI cZ f x) = xws sh ad cI cZ (xw M k f) := by
  apply List.ext_getElem?
  intro i
  simp only [xws, List.getElem?_set, List.getElem?_mapIdx, List.length_mapIdx]
  by_cases hi : k = i
  · subst hi
    obtain ⟨hl, e⟩ := List.getElem?_eq_some_iff.mp h
    simp [hl, xw_s, e]
  · simp only [if_neg hi, xw_n (Ne.symm hi)]
theorem xfs_int {ad : Nat → Nat} {f : Nat → Int32} : ∀ {fs : List (Option Nat)} {i : Nat} (j : Nat), fs[i]? = some none → (xfs ad f j fs)[i]? = some (.int (f (j + i)))
  | [], i, j, h => by simp at h
  | none :: r, 0, j, h => by simp [xfs]
  | some q :: r, 0, j, h => by simp at h
  | none :: r, i + 1, j, h => by
    have := xfs_int (ad := ad) (f := f) (fs := r) (i := i) (j + 1) (by simpa using h)
    simp only [xfs, List.getElem?_cons_succ, this]
    congr 3; omega
  | some q :: r, i + 1, j, h => by
    have := xfs_int (ad := ad) (f := f) (fs := r) (i := i) (j + 1) (by simpa using h)
    simp only [xfs, List.getElem?_cons_succ, this]
    congr 3; omega
theorem xfs_ref {ad : Nat → Nat} {f : Nat → Int32} : ∀ {fs : List (Option Nat)} {i q : Nat} (j : Nat), fs[i]? = some (some q) → (xfs ad f j fs)[i]? = some (.ref (ad q))
  | [], i, q, j, h => by simp at h
  | none :: r, 0, q, j, h => by simp at h
  | some q' :: r, 0, q, j, h => by simp at h; simp [xfs, h]
  | none :: r, i + 1, q, j, h => by
    have := xfs_ref (ad := ad) (f := f) (fs := r) (i := i) (q := q) (j + 1) (by simpa using h)
    simpa only [xfs, List.getElem?_cons_succ] using this
  | some q' :: r, i + 1, q, j, h => by
    have := xfs_ref (ad := ad) (f := f) (fs := r) (i := i) (q := q) (j + 1) (by simpa using h)
    simpa only [xfs, List.getElem?_cons_succ] using this
theorem xfs_len {ad : Nat → Nat} {f : Nat → Int32} : ∀ (fs : List (Option Nat)) (j : Nat), (xfs ad f j fs).length = fs.length
  | [], j => rfl
  | none :: r, j => by simp [xfs, xfs_len r]
  | some q :: r, j => by simp [xfs, xfs_len r]
theorem xfs_low {ad : Nat → Nat} {f : Nat → Int32} {v : Int32} {p : Nat} : ∀ (fs : List (Option Nat)) (j : Nat), p < j → xfs ad (upd f p v) j fs = xfs ad f j fs
  | [], j, _ => rfl
  | none :: r, j, h => by
    rw [xfs, xfs, xfs_low (ad := ad) (f := f) (v := v) (p := p) r (j + 1) (by omega), upd, if_neg (show ¬ j = p by omega)]
  | some q :: r, j, h => by rw [xfs, xfs, xfs_low (ad := ad) (f := f) (v := v) (p := p) r (j + 1) (by omega)]
theorem xfs_set {ad : Nat → Nat} {f : Nat → Int32} {v : Int32} : ∀ {fs : List (Option Nat)} {i : Nat} (j : Nat), fs[i]? = some none → (xfs ad f j fs).set i (.int v) = xfs ad (upd f (j + i) v) j fs
  | [], i, j, h => by simp at h
  | none :: r, 0, j, h => by
    simp only [xfs, List.set_cons_zero, Nat.add_zero, xfs_low r (j + 1) (Nat.lt_succ_self j), upd, if_true]
  | some q :: r, 0, j, h => by simp at h
  | none :: r, i + 1, j, h => by
    have := xfs_set (ad := ad) (f := f) (v := v) (fs := r) (i := i) (j + 1) (by simpa using h)
    simp only [xfs, List.set_cons_succ, this, upd, if_neg (show ¬ j = j + (i + 1) by omega)]
    congr 3; omega
  | some q :: r, i + 1, j, h => by
    have := xfs_set (ad := ad) (f := f) (v := v) (fs := r) (i := i) (j + 1) (by simpa using h)
    simp only [xfs, List.set_cons_succ, this]
    rw [show j + 1 + i = j + (i + 1) by omega]
/-- locals: what the machine's slots hold -/
def xLr (ad : Nat → Nat) (n : Nat) (ls : Array Slot) (L : xL) : Prop := ls.size = n ∧ L.length = n ∧ lv_wf ls ∧ ∀ (i : Nat) (v : Value), L[i]? = some (some v) → ls[i]? = some (.val (xcv ad v))
theorem xLr.at {ad : Nat → Nat} {n : Nat} {ls : Array Slot} {L : xL} (h : xLr ad n ls L) {i : Nat} {v : Value} (hv : L[i]? = some (some v)) : ls[i]? = some (.val (xcv ad v)) := h.2.2.2 i v hv
def xlv (ad : Nat → Nat) (L : xL) : List (Nat × Value) := (L.zipIdx).filterMap (fun q => q.1.map (fun v => (q.2, xcv ad v)))
theorem xlv_mem {ad : Nat → Nat} {L : xL} {q : Nat × Value} : q ∈ xlv ad L ↔ ∃ v, L[q.1]? = some (some v) ∧ q.2 = xcv ad v := by
  obtain ⟨i, w⟩ := q
  simp only [xlv, List.mem_filterMap, Option.map_eq_some_iff, Prod.mk.injEq, Prod.exists, List.mem_zipIdx_iff_getElem?]
  constructor
  · rintro ⟨a, b, h1, v, h2, h3, h4⟩
    subst h3; subst h4; subst h2
    exact ⟨v, h1, rfl⟩
  · rintro ⟨v, h1, h2⟩
    exact ⟨some v, i, h1, v, rfl, rfl, h2.symm⟩
theorem xLr.has {ad : Nat → Nat} {n : Nat} {ls : Array Slot} {L : xL} (h : xLr ad n ls L) : lv_has ls n (xlv ad L) := by
  refine ⟨h.1, h.2.2.1, fun q hq => ?_⟩
  obtain ⟨v, h1, h2⟩ := xlv_mem.mp hq
  rw [h2]
  exact h.2.2.2 _ _ h1
/-- the local ahead of i isn't the first half of a long -/
def xok (L : xL) (i : Nat) : Bool := match i with
  | 0 => true
  | j + 1 => match L[j]? with
    | some (some (.long _)) => false
    | some (some (.double _)) => false
    | _ => true
theorem xcv_cat (ad : Nat → Nat) (v : Value) : (xcv ad v).category = v.category := by cases v <;> rfl
theorem xok_cat {L : xL} {i j : Nat} {v : Value} (h : xok L i = true) (hj : j + 1 = i) (hv : L[j]? = some (some v)) : v.category = 1 := by
  subst hj
  simp only [xok, hv] at h
  cases v <;> first | rfl | simp at h
theorem xLr.store1 {ad : Nat → Nat} {n : Nat} {ls ls' : Array Slot} {L : xL} (h : xLr ad n ls L) {i : Nat} {v w : Value} (hw : w = xcv ad v) (hok : xok L i = true)
    (h' : lv_has ls' n ((i, w) :: (xlv ad L).filter (fun q => !(q.1 == i) && !(q.1 + 1 == i && q.2.category == 2)))) : xLr ad n ls' (L.set i (some v)) := by
  subst hw
  refine ⟨h'.1, by rw [List.length_set]; exact h.2.1, h'.2.1, fun j u hj => ?_⟩
  rw [List.getElem?_set] at hj
  by_cases hij : i = j
  · subst hij
    rw [if_pos rfl] at hj
    split at hj
    · cases hj
      exact h'.2.2 (i, xcv ad v) List.mem_cons_self
    · cases hj
  · rw [if_neg hij] at hj
    refine h'.2.2 (j, xcv ad u) (List.mem_cons_of_mem _ (List.mem_filter.mpr ⟨xlv_mem.mpr ⟨u, hj, rfl⟩, ?_⟩))
    have h1 : (j == i) = false := by simp; omega
    simp only [h1, Bool.not_false, Bool.true_and, Bool.not_eq_true', Bool.and_eq_false_iff, beq_eq_false_iff_ne]
    by_cases h2 : j + 1 = i
    · right
      rw [xcv_cat, xok_cat hok h2 hj]
      decide
    · left
      exact h2
theorem xLr.store2 {ad : Nat → Nat} {n : Nat} {ls ls' : Array Slot} {L : xL} (h : xLr ad n ls L) {i : Nat} {v w : Value} (hw : w = xcv ad v) (hok : xok L i = true)
    (h' : lv_has ls' n ((i, w) :: (xlv ad L).filter (fun q => !(q.1 == i) && (!(q.1 == i + 1) && !(q.1 + 1 == i && q.2.category == 2))))) : xLr ad n ls' ((L.set (i + 1) none).set i (some v)) := by
  subst hw
  refine ⟨h'.1, by rw [List.length_set, List.length_set]; exact h.2.1, h'.2.1, fun j u hj => ?_⟩
  rw [List.getElem?_set, List.getElem?_set, List.length_set] at hj
  by_cases hij : i = j
  · subst hij
    rw [if_pos rfl] at hj
    split at hj
    · cases hj
      exact h'.2.2 (i, xcv ad v) List.mem_cons_self
    · cases hj
  · rw [if_neg hij] at hj
    by_cases hij2 : i + 1 = j
    · subst hij2
      rw [if_pos rfl] at hj
      split at hj <;> cases hj
    · rw [if_neg hij2] at hj
      refine h'.2.2 (j, xcv ad u) (List.mem_cons_of_mem _ (List.mem_filter.mpr ⟨xlv_mem.mpr ⟨u, hj, rfl⟩, ?_⟩))
      have h1 : (j == i) = false := by simp; omega
      have h3 : (j == i + 1) = false := by simp; omega
      simp only [h1, h3, Bool.not_false, Bool.true_and, Bool.not_eq_true', Bool.and_eq_false_iff, beq_eq_false_iff_ne]
      by_cases h2 : j + 1 = i
      · right
        rw [xcv_cat, xok_cat hok h2 hj]
        decide
      · left
        exact h2
/-- a method's locals at its entry -/
def xargs : Nat → List Value → xL
  | n, [] => List.replicate n none
  | n, .long x :: vs => some (.long x) :: none :: xargs (n - 2) vs
  | n, v :: vs => some v :: xargs (n - 1) vs
theorem xargs_at {ad : Nat → Nat} : ∀ (vs : List Value) (n b i : Nat) (v : Value), (∀ u ∈ vs, ∀ z, u ≠ .double z) → (xargs n vs)[i]? = some (some v) → (b + i, xcv ad v) ∈ lv_args b (vs.map (xcv ad))
  | [], n, b, i, v, hd, h => by
    simp only [xargs, List.getElem?_replicate] at h
    split at h <;> cases h
  | u :: vs, n, b, i, v, hd, h => by
    have hd' : ∀ u ∈ vs, ∀ z, u ≠ .double z := fun u hu => hd u (List.mem_cons_of_mem _ hu)
    simp only [List.map_cons, lv_args, xcv_cat]
    cases u with
    | long x =>
      simp only [xargs] at h
      match i, h with
      | 0, h => simp at h; subst h; exact List.mem_cons_self
      | 1, h => simp at h
      | i + 2, h =>
        have := xargs_at (ad := ad) vs (n - 2) (b + 2) i v hd' (by simpa using h)
        refine List.mem_cons_of_mem _ ?_
        rw [show b + (i + 2) = b + 2 + i by omega]
        exact this
    | double z => exact absurd rfl (hd _ List.mem_cons_self z)
    | int x =>
      simp only [xargs] at h
      match i, h with
      | 0, h => simp at h; subst h; exact List.mem_cons_self
      | i + 1, h =>
        have := xargs_at (ad := ad) vs (n - 1) (b + 1) i v hd' (by simpa using h)
        refine List.mem_cons_of_mem _ ?_
        rw [show b + (i + 1) = b + 1 + i by omega]
        exact this
    | float x =>
      simp only [xargs] at h
      match i, h with
      | 0, h => simp at h; subst h; exact List.mem_cons_self
      | i + 1, h =>
        have := xargs_at (ad := ad) vs (n - 1) (b + 1) i v hd' (by simpa using h)
        refine List.mem_cons_of_mem _ ?_
        rw [show b + (i + 1) = b + 1 + i by omega]
        exact this
    | null =>
      simp only [xargs] at h
      match i, h with
      | 0, h => simp at h; subst h; exact List.mem_cons_self
      | i + 1, h =>
        have := xargs_at (ad := ad) vs (n - 1) (b + 1) i v hd' (by simpa using h)
        refine List.mem_cons_of_mem _ ?_
        rw [show b + (i + 1) = b + 1 + i by omega]
        exact this
    | ref x =>
      simp only [xargs] at h
      match i, h with
      | 0, h => simp at h; subst h; exact List.mem_cons_self
      | i + 1, h =>
        have := xargs_at (ad := ad) vs (n - 1) (b + 1) i v hd' (by simpa using h)
        refine List.mem_cons_of_mem _ ?_
        rw [show b + (i + 1) = b + 1 + i by omega]
        exact this
    | retAddr x =>
      simp only [xargs] at h
      match i, h with
      | 0, h => simp at h; subst h; exact List.mem_cons_self
      | i + 1, h =>
        have := xargs_at (ad := ad) vs (n - 1) (b + 1) i v hd' (by simpa using h)
        refine List.mem_cons_of_mem _ ?_
        rw [show b + (i + 1) = b + 1 + i by omega]
        exact this
def xsh : List xS := [
  /- 0 CampWeek -/ .inr (9, [some 1, some 13, some 19, some 21, some 31, some 38, some 42]),
  /- 1 CampWeek$Lodgings -/ .inr (3, [some 2, some 5, none]),
  /- 2 CampWeek$Huts -/ .inr (1, [some 3, some 4, none]),
  /- 3 CampWeek$Huts.rows -/ .inl (false, 30),
  /- 4 CampWeek$Huts.beds -/ .inl (false, 30),
  /- 5 CampWeek$Parties -/ .inr (4, [some 6, some 7, some 8, some 9, some 10, some 11, some 12, none]),
  /- 6 CampWeek$Parties.sizes -/ .inl (false, 24),
  /- 7 CampWeek$Parties.children -/ .inl (false, 24),
  /- 8 CampWeek$Parties.firstWeeks -/ .inl (false, 24),
  /- 9 CampWeek$Parties.lastWeeks -/ .inl (false, 24),
  /- 10 CampWeek$Parties.tables -/ .inl (false, 24),
  /- 11 CampWeek$Parties.hutOf -/ .inl (false, 24),
  /- 12 CampWeek$Parties.told -/ .inl (false, 576),
  /- 13 CampWeek$Sittings -/ .inr (8, [none, none, none, none, none, some 14, some 15, some 16, some 17, some 18]),
  /- 14 CampWeek$Sittings.benchOf -/ .inl (false, 24),
  /- 15 CampWeek$Sittings.benchOfTable -/ .inl (false, 10),
  /- 16 CampWeek$Sittings.benchSize -/ .inl (false, 24),
  /- 17 CampWeek$Sittings.benchSitting -/ .inl (false, 24),
  /- 18 CampWeek$Sittings.madeFrom -/ .inl (false, 193),
  /- 19 CampWeek$Kitchen -/ .inr (2, [none, none, some 20]),
  /- 20 CampWeek$Kitchen.book -/ .inl (false, 200),
  /- 21 CampWeek$Shows -/ .inr (7, [some 22, some 23, some 24, none, some 25, some 26, some 27, some 28, some 29, some 30]),
  /- 22 CampWeek$Shows.hours -/ .inl (false, 12),
  /- 23 CampWeek$Shows.chosen -/ .inl (false, 24),
  /- 24 CampWeek$Shows.turnedAway -/ .inl (false, 24),
  /- 25 CampWeek$Shows.halls -/ .inl (false, 12),
  /- 26 CampWeek$Shows.wetHalls -/ .inl (false, 12),
  /- 27 CampWeek$Shows.rooms -/ .inl (false, 7),
  /- 28 CampWeek$Shows.roomLeft -/ .inl (false, 7),
  /- 29 CampWeek$Shows.wishes -/ .inl (false, 144),
  /- 30 CampWeek$Shows.wishCounts -/ .inl (false, 24),
  /- 31 CampWeek$Groups -/ .inr (0, [some 32, none, some 33, some 34, some 35, some 36, some 37]),
  /- 32 CampWeek$Groups.groupOf -/ .inl (false, 40),
  /- 33 CampWeek$Groups.parties -/ .inl (false, 40),
  /- 34 CampWeek$Groups.ages -/ .inl (false, 40),
  /- 35 CampWeek$Groups.youngest -/ .inl (false, 4),
  /- 36 CampWeek$Groups.oldest -/ .inl (false, 4),
  /- 37 CampWeek$Groups.mosts -/ .inl (false, 4),
  /- 38 CampWeek$PaybackLists -/ .inr (5, [none, some 39, some 40, some 41]),
  /- 39 CampWeek$PaybackLists.days -/ .inl (false, 30),
  /- 40 CampWeek$PaybackLists.notices -/ .inl (false, 30),
  /- 41 CampWeek$PaybackLists.hundredths -/ .inl (false, 30),
  /- 42 CampWeek$Sheets -/ .inr (6, [none, some 43, some 44, some 45]),
  /- 43 CampWeek$Sheets.forms -/ .inl (false, 4),
  /- 44 CampWeek$Sheets.lengths -/ .inl (false, 4),
  /- 45 CampWeek$Sheets.items -/ .inl (false, 240),
  /- 46 CampWeekModel -/ .inr (10, [none, some 47, some 48, none, some 49, some 50, some 51, some 52, some 53, some 54, some 55, none, some 56, none, some 57, some 58, some 59, some 60, none, none, some 61, some 62, none, some 63, some 64, some 65, some 66, some 67, some 68, some 69, some 70, some 71, some 72, some 73, none, some 74, some 75, some 76, none, some 77, some 78, some 79, some 80, some 81, some 82, some 83, none]),
  /- 47 CampWeekModel.row -/ .inl (false, 30),
  /- 48 CampWeekModel.beds -/ .inl (false, 30),
  /- 49 CampWeekModel.size -/ .inl (false, 24),
  /- 50 CampWeekModel.young -/ .inl (false, 24),
  /- 51 CampWeekModel.first -/ .inl (false, 24),
  /- 52 CampWeekModel.last -/ .inl (false, 24),
  /- 53 CampWeekModel.table -/ .inl (false, 24),
  /- 54 CampWeekModel.hut -/ .inl (false, 24),
  /- 55 CampWeekModel.pair -/ .inl (false, 576),
  /- 56 CampWeekModel.seats -/ .inl (false, 2),
  /- 57 CampWeekModel.unitOf -/ .inl (false, 24),
  /- 58 CampWeekModel.people -/ .inl (false, 24),
  /- 59 CampWeekModel.can -/ .inl (true, 5000),
  /- 60 CampWeekModel.sitting -/ .inl (false, 24),
  /- 61 CampWeekModel.book -/ .inl (false, 200),
  /- 62 CampWeekModel.hallRoom -/ .inl (false, 7),
  /- 63 CampWeekModel.showHall -/ .inl (false, 12),
  /- 64 CampWeekModel.showHour -/ .inl (false, 12),
  /- 65 CampWeekModel.showWet -/ .inl (false, 12),
  /- 66 CampWeekModel.wishes -/ .inl (false, 24),
  /- 67 CampWeekModel.wish -/ .inl (false, 144),
  /- 68 CampWeekModel.left -/ .inl (false, 7),
  /- 69 CampWeekModel.going -/ .inl (false, 24),
  /- 70 CampWeekModel.away -/ .inl (false, 24),
  /- 71 CampWeekModel.ageFrom -/ .inl (false, 4),
  /- 72 CampWeekModel.ageTo -/ .inl (false, 4),
  /- 73 CampWeekModel.most -/ .inl (false, 4),
  /- 74 CampWeekModel.parent -/ .inl (false, 40),
  /- 75 CampWeekModel.age -/ .inl (false, 40),
  /- 76 CampWeekModel.inGroup -/ .inl (false, 40),
  /- 77 CampWeekModel.listDay -/ .inl (false, 30),
  /- 78 CampWeekModel.listNotice -/ .inl (false, 30),
  /- 79 CampWeekModel.listPays -/ .inl (false, 30),
  /- 80 CampWeekModel.forms -/ .inl (false, 4),
  /- 81 CampWeekModel.sizes -/ .inl (false, 4),
  /- 82 CampWeekModel.items -/ .inl (false, 240),
  /- 83 CampWeekModel.copied -/ .inl (false, 60)]
/-! words of the tables that move with a call; nest mates' links apart -/
def xTB : List Cond := lw_tbl.filter goodWord
theorem xTB_of {w : Cond} (h : w ∈ lw_tbl) (hg : goodWord w = true) : w ∈ xTB := List.mem_filter.mpr ⟨h, hg⟩
def xnestL : List (String × Nat × MethodName) := [(RX1, 22, yX9_within), (RX4, 43, yX9_within), (RX4, 47, yX9_isWeek), (RX3, 33, yX9_within), (RX3, 92, yX9_isWeek), (RX8, 45, yX9_within), (RX2, 22, yX9_within), (RX7, 45, yX9_within), (RX7, 49, yX9_isHour), (RX0, 40, yX9_within), (RX5, 25, yX9_within), (RX6, 31, yX9_within)]
def xNest (U : State) : Prop := ∀ q ∈ xnestL, va_Nw (.methodLinkNest q.1 q.2.1 q.2.2 "CampWeek") U
theorem xNest.warm {s U : State} (hW : s.WarmedH U.vm) (h : xNest s) : xNest U := fun q hq => va_Nw.warmM hW (h q hq)
theorem xNest.same {u U : State} (e : u.vm = U.vm) (h : xNest u) : xNest U := fun q hq => va_Nw.same rfl e (h q hq)
def xTs (k : xK) : List Cond := Cond.code k.1 k.2.1 k.2.2.1 k.2.2.2.1 :: xTB
def xrm (k : xK) : Room := { frames := k.2.2.2.2.1, cells := 0, slots := 0, locals := k.2.2.2.2.2 }
/-- a method of the tables -/
def xMeth (k : xK) : Prop := Cond.code k.1 k.2.1 k.2.2.1 k.2.2.2.1 ∈ lw_tbl ∧ plainName k.1.cls = true ∧ k.1.cls ≠ "java/lang/invoke/MethodHandle" ∧ k.1.cls ≠ "java/lang/invoke/VarHandle" ∧ Cond.initialized k.1.cls ∈ lw_tbl
theorem xTs_in {k : xK} (h : xMeth k) : ∀ w ∈ xTs k, w ∈ xTB := fun w hw => by
  rcases List.mem_cons.mp hw with rfl | hw
  · exact xTB_of h.1 rfl
  · exact hw
theorem xgood {k : xK} : ∀ w ∈ xTB, w ∈ xTs k ∧ ((w.onTables && w.keeps) = true ∨ ∃ ty, w = .arrayClass ty) := fun w hw =>
  ⟨List.mem_cons_of_mem _ hw, good_of_word (List.mem_filter.mp hw).2⟩
abbrev xtys (cI cZ : ClassId) : List (ClassId × FieldType) := [(cI, .int), (cZ, .boolean)]
def xCtx (k : xK) (D : va_G) (ad : Nat → Nat) (cI cZ : ClassId) (p : Program) (s : State) (m : MethodId) (args : Array Value) (meth : Method) (c : Code) (A : Nat → Prop) : Prop :=
  p.tables.exec = Jvm.exec ∧ c.code = k.2.1 ∧ c.maxLocals = k.2.2.1 ∧ s.vm.findClass k.1.cls = some m.cls ∧ (∀ w ∈ xTs k, w.before args s = true) ∧ meth.sig.returnType = k.2.2.2.1 ∧ meth.locks = false ∧ va_K D vwCl (xtys cI cZ) s ∧ (∀ M, va_D A (xws xsh ad cI cZ M)) ∧ (∀ q, s.heap.size ≤ q → A q) ∧ xNest s
theorem xws_D {sh : List xS} {ad : Nat → Nat} {cI cZ : ClassId} {A : Nat → Prop} {M : xM} (h : va_D A (xws sh ad cI cZ M)) (M' : xM) : va_D A (xws sh ad cI cZ M') := by
  have key : ∀ (M1 : xM) (i : Nat) (p : Nat × va_E), (xws sh ad cI cZ M1)[i]? = some p → p.1 = ad i ∧ ∃ p', (xws sh ad cI cZ M)[i]? = some p' ∧ p'.1 = ad i := by
    intro M1 i p hp
    simp only [xws, List.getElem?_mapIdx, Option.map_eq_some_iff] at hp ⊢
    obtain ⟨x, h1, h2⟩ := hp
    subst h2
    exact ⟨rfl, _, ⟨x, h1, rfl⟩, rfl⟩
  refine ⟨fun i j p q hp hq e => ?_, fun k q hq => ?_⟩
  · obtain ⟨e1, p', g1, e1'⟩ := key _ _ _ hp
    obtain ⟨e2, q', g2, e2'⟩ := key _ _ _ hq
    exact h.1 i j p' q' g1 g2 (by rw [e1', e2', ← e1, ← e2]; exact e)
  · obtain ⟨e1, p', g1, e1'⟩ := key _ _ _ hq
    rw [e1, ← e1']
    exact h.2 k p' g1
def xQ (D : va_G) (ad : Nat → Nat) (cI cZ : ClassId) (A : Nat → Prop) (Φ : Option Value → xM → Prop) : Array Value → State → Outcome → State → Prop := fun _ st oc t =>
  (∃ (r : Option Value) (M : xM), oc = .returned (r.map (xcv ad)) ∧ Φ r M ∧ va_P D vwCl (xws xsh ad cI cZ M) t.heap ∧ va_K D vwCl (xtys cI cZ) t) ∧ va_F A st t
/-- from here the method of k comes to its end, with an answer and contents of which Φ holds -/
def P (k : xK) (pc : Nat) (L : xL) (st : List Value) (M : xM) (Φ : Option Value → xM → Prop) : Prop :=
  ∀ (l : Launch) (D : va_G) (ad : Nat → Nat) (cI cZ : ClassId) (p : Program) (e : Env) (s : State) (m : MethodId) (args : Array Value) (below : List Frame) (meth : Method) (c : Code) (A : Nat → Prop) (H : Heap) (locs : List Loc) (ls : Array Slot),
    xCtx k D ad cI cZ p s m args meth c A → xLr ad k.2.2.1 ls L → va_P D vwCl (xws xsh ad cI cZ M) H → va_S A s.heap H locs →
    W p l e (xrm k) s m args below meth c H locs 0 0 (MQ below (xQ D ad cI cZ A Φ) args s 0 0 A) (F0 m pc ls (st.map (xcv ad)))
/-- a whole call -/
def Sp (k : xK) (vs : List Value) (M : xM) (Φ : Option Value → xM → Prop) : Prop := P k 0 (xargs k.2.2.1 vs) [] M Φ
def xB (D : va_G) (ad : Nat → Nat) (cI cZ : ClassId) (M : xM) (sz : Nat) : State → Prop := fun U => U.heap.size = sz ∧ va_P D vwCl (xws xsh ad cI cZ M) U.heap ∧ va_K D vwCl (xtys cI cZ) U ∧ xNest U ∧ va_D (fun _ => True) (xws xsh ad cI cZ M)
theorem xB_blind {D : va_G} {ad : Nat → Nat} {cI cZ : ClassId} {M : xM} {sz : Nat} {vs : List Value} : FrameBlind (va_Pc vs (xB D ad cI cZ M sz)) := by
  intro a U g mk q
  obtain ⟨q0, q1, qP, qK, qN, qD⟩ := q
  exact ⟨q0, q1, qP, va_K.moved (u := U) (U := U.calling g mk a) (Vm.Alike.refl U.vm) qK, xNest.same rfl qN, qD⟩
theorem xargs_len {ad : Nat → Nat} (vs : List Value) (n : Nat) (h : (lg_sl (vs.map (xcv ad))).length ≤ n) (hd : ∀ u ∈ vs, ∀ z, u ≠ .double z) : (xargs n vs).length = n := by
  induction vs generalizing n with
  | nil => simp [xargs]
  | cons v vs ih =>
    have hd' : ∀ u ∈ vs, ∀ z, u ≠ .double z := fun u hu => hd u (List.mem_cons_of_mem _ hu)
    have e : lg_sl ((v :: vs).map (xcv ad)) = (if v.category = 2 then [.val (xcv ad v), .second] else [.val (xcv ad v)]) ++ lg_sl (vs.map (xcv ad)) := by
      simp [lg_sl, xcv_cat]
    rw [e] at h
    cases v with
    | long x =>
      have h2 : (Value.long x).category = 2 := rfl
      rw [if_pos h2] at h
      simp only [List.length_append, List.length_cons, List.length_nil] at h
      simp only [xargs, List.length_cons, ih (n - 2) (by omega) hd']
      omega
    | double z => exact absurd rfl (hd _ List.mem_cons_self z)
    | int x =>
      rw [if_neg (by simp [Value.category])] at h
      simp only [List.length_append, List.length_cons, List.length_nil] at h
      simp only [xargs, List.length_cons, ih (n - 1) (by omega) hd']
      omega
    | float x =>
      rw [if_neg (by simp [Value.category])] at h
      simp only [List.length_append, List.length_cons, List.length_nil] at h
      simp only [xargs, List.length_cons, ih (n - 1) (by omega) hd']
      omega
    | null =>
      rw [if_neg (by simp [Value.category])] at h
      simp only [List.length_append, List.length_cons, List.length_nil] at h
      simp only [xargs, List.length_cons, ih (n - 1) (by omega) hd']
      omega
    | ref x =>
      rw [if_neg (by simp [Value.category])] at h
      simp only [List.length_append, List.length_cons, List.length_nil] at h
      simp only [xargs, List.length_cons, ih (n - 1) (by omega) hd']
      omega
    | retAddr x =>
      rw [if_neg (by simp [Value.category])] at h
      simp only [List.length_append, List.length_cons, List.length_nil] at h
      simp only [xargs, List.length_cons, ih (n - 1) (by omega) hd']
      omega
/-- the machine's contract out of a walk -/
theorem Sp.met {k : xK} {vs : List Value} {M : xM} {Φ : Option Value → xM → Prop} (h : Sp k vs M Φ) (hk : xMeth k) (hd : ∀ u ∈ vs, ∀ z, u ≠ .double z) (l : Launch) (D : va_G) (ad : Nat → Nat) (cI cZ : ClassId) (sz : Nat) (hn : (lg_sl (vs.map (xcv ad))).length ≤ k.2.2.1) :
    Met l k.1 (xTs k) (xrm k) (va_Pc (vs.map (xcv ad)) (xB D ad cI cZ M sz)) (xQ D ad cI cZ (va_A (xws xsh ad cI cZ M) sz) Φ) 0 0 (va_A (xws xsh ad cI cZ M) sz) := by
  refine Met.ofW (cc := k.2.1) (maxL := k.2.2.1) (ret := k.2.2.2.1) hk.2.1 rfl ?_
  intro p e s m args below meth c s₁ B hml hv
  obtain ⟨rfl, hsz, hP, hK, hN, hD0⟩ := hv
  have hts := atoms_spec (ws := xTs k) B.pre
  have hown : s.vm.findClass k.1.cls = some m.cls := findClass_of_methodNamed B.named
  subst hsz
  have hD := hD0.self (sz := s.heap.size)
  rw [lg_entry_eq]
  have hl := lv_entry (vs.map (xcv ad)) (n := k.2.2.1) hn
  refine h l D ad cI cZ p e s m _ below meth c _ s.heap [] _ ⟨B.exec, B.bytes, hml, hown, hts, B.returns, B.notSynchronized, hK, fun M' => xws_D hD M', fun q h => Or.inr h, hN⟩ ⟨hl.1, xargs_len vs _ hn hd, hl.2.1, fun i v hv => ?_⟩ hP va_S.rf
  have := xargs_at (ad := ad) vs _ 0 i v hd hv
  rw [Nat.zero_add] at this
  exact hl.2.2 _ this
section XR
variable {k : xK} {pc : Nat} {L : xL} {st : List Value} {M : xM} {Φ : Option Value → xM → Prop}
theorem P.iconst {n : Int} {v : Int32} (hd : decode k.2.1 pc = .ok (.iconst n, 1)) (hv : Int32.ofInt n = v) (h : P k (pc + 1) L (.int v :: st) M Φ) : P k pc L st M Φ := by
  intro l D ad cI cZ p e s m args below meth c A H locs ls C hL hP hS
  exact lv_iconst C.1 C.2.1 hd hv (h l D ad cI cZ p e s m args below meth c A H locs ls C hL hP hS)
theorem P.bipush {n : Int} {v : Int32} (hd : decode k.2.1 pc = .ok (.bipush n, 2)) (hv : (Int8.ofInt n).toInt32 = v) (h : P k (pc + 2) L (.int v :: st) M Φ) : P k pc L st M Φ := by
  intro l D ad cI cZ p e s m args below meth c A H locs ls C hL hP hS
  exact lv_bipush C.1 C.2.1 hd hv (h l D ad cI cZ p e s m args below meth c A H locs ls C hL hP hS)
theorem P.sipush {n : Int} {v : Int32} (hd : decode k.2.1 pc = .ok (.sipush n, 3)) (hv : (Int16.ofInt n).toInt32 = v) (h : P k (pc + 3) L (.int v :: st) M Φ) : P k pc L st M Φ := by
  intro l D ad cI cZ p e s m args below meth c A H locs ls C hL hP hS
  exact lv_sipush C.1 C.2.1 hd hv (h l D ad cI cZ p e s m args below meth c A H locs ls C hL hP hS)
theorem P.lconst {n : Fin 2} {v : Int64} (hd : decode k.2.1 pc = .ok (.lconst n, 1)) (hv : Int64.ofNat (n : Nat) = v) (h : P k (pc + 1) L (.long v :: st) M Φ) : P k pc L st M Φ := by
  intro l D ad cI cZ p e s m args below meth c A H locs ls C hL hP hS
  exact lv_lconst C.1 C.2.1 hd hv (h l D ad cI cZ p e s m args below meth c A H locs ls C hL hP hS)
def xCI (own : String) (idx : Nat) (v : Int32) : Prop := Cond.constant own idx v ∈ lw_tbl
def xCL (own : String) (idx : Nat) (v : Int64) : Prop := Cond.constantLong own idx v ∈ lw_tbl
theorem P.ldc {idx : Nat} {v : Int32} (hc : xCI k.1.cls idx v) (hd : decode k.2.1 pc = .ok (.ldc idx, 2)) (h : P k (pc + 2) L (.int v :: st) M Φ) : P k pc L st M Φ := by
  intro l D ad cI cZ p e s m args below meth c A H locs ls C hL hP hS
  exact lv_ldc C.1 C.2.1 C.2.2.2.1 (C.2.2.2.2.1 _ (List.mem_cons_of_mem _ (xTB_of hc rfl))) hd (h l D ad cI cZ p e s m args below meth c A H locs ls C hL hP hS)
theorem P.ldc2 {idx : Nat} {v : Int64} (hc : xCL k.1.cls idx v) (hd : decode k.2.1 pc = .ok (.ldc2_w idx, 3)) (h : P k (pc + 3) L (.long v :: st) M Φ) : P k pc L st M Φ := by
  intro l D ad cI cZ p e s m args below meth c A H locs ls C hL hP hS
  exact lv_ldc2 C.1 C.2.1 C.2.2.2.1 (C.2.2.2.2.1 _ (List.mem_cons_of_mem _ (xTB_of hc rfl))) hd (h l D ad cI cZ p e s m args below meth c A H locs ls C hL hP hS)
theorem P.iload_n {n : Fin 4} (i : Nat) {x : Int32} (hd : decode k.2.1 pc = .ok (.iload_n n, 1)) (hi : (n : Nat) = i) (hx : L[i]? = some (some (.int x))) (h : P k (pc + 1) L (.int x :: st) M Φ) : P k pc L st M Φ := by
  intro l D ad cI cZ p e s m args below meth c A H locs ls C hL hP hS
  exact lv_iload_n C.1 C.2.1 hd hi (hL.at hx) (h l D ad cI cZ p e s m args below meth c A H locs ls C hL hP hS)
theorem P.iload (i : Nat) {x : Int32} (hd : decode k.2.1 pc = .ok (.iload i, 2)) (hx : L[i]? = some (some (.int x))) (h : P k (pc + 2) L (.int x :: st) M Φ) : P k pc L st M Φ := by
  intro l D ad cI cZ p e s m args below meth c A H locs ls C hL hP hS
  exact lv_iload C.1 C.2.1 hd (hL.at hx) (h l D ad cI cZ p e s m args below meth c A H locs ls C hL hP hS)
theorem P.lload_n {n : Fin 4} (i : Nat) {x : Int64} (hd : decode k.2.1 pc = .ok (.lload_n n, 1)) (hi : (n : Nat) = i) (hx : L[i]? = some (some (.long x))) (h : P k (pc + 1) L (.long x :: st) M Φ) : P k pc L st M Φ := by
  intro l D ad cI cZ p e s m args below meth c A H locs ls C hL hP hS
  exact lv_lload_n C.1 C.2.1 hd hi (hL.at hx) (h l D ad cI cZ p e s m args below meth c A H locs ls C hL hP hS)
theorem P.lload (i : Nat) {x : Int64} (hd : decode k.2.1 pc = .ok (.lload i, 2)) (hx : L[i]? = some (some (.long x))) (h : P k (pc + 2) L (.long x :: st) M Φ) : P k pc L st M Φ := by
  intro l D ad cI cZ p e s m args below meth c A H locs ls C hL hP hS
  exact lv_lload C.1 C.2.1 hd (hL.at hx) (h l D ad cI cZ p e s m args below meth c A H locs ls C hL hP hS)
theorem P.aload_n {n : Fin 4} (i : Nat) {x : Nat} (hd : decode k.2.1 pc = .ok (.aload_n n, 1)) (hi : (n : Nat) = i) (hx : L[i]? = some (some (.ref x))) (h : P k (pc + 1) L (.ref x :: st) M Φ) : P k pc L st M Φ := by
  intro l D ad cI cZ p e s m args below meth c A H locs ls C hL hP hS
  exact lv_aload_n C.1 C.2.1 hd hi (hL.at hx) (h l D ad cI cZ p e s m args below meth c A H locs ls C hL hP hS)
theorem P.istore_n {n : Fin 4} (i : Nat) {x : Int32} (hd : decode k.2.1 pc = .ok (.istore_n n, 1)) (hi : (n : Nat) = i) (hn : i < k.2.2.1) (hok : xok L i = true) (h : P k (pc + 1) (L.set i (some (.int x))) st M Φ) : P k pc L (.int x :: st) M Φ := by
  intro l D ad cI cZ p e s m args below meth c A H locs ls C hL hP hS
  exact lv_istore_n C.1 C.2.1 hd hi hL.has hn rfl (fun ls' h' => h l D ad cI cZ p e s m args below meth c A H locs ls' C (hL.store1 rfl hok h') hP hS)
theorem P.istore (i : Nat) {x : Int32} (hd : decode k.2.1 pc = .ok (.istore i, 2)) (hn : i < k.2.2.1) (hok : xok L i = true) (h : P k (pc + 2) (L.set i (some (.int x))) st M Φ) : P k pc L (.int x :: st) M Φ := by
  intro l D ad cI cZ p e s m args below meth c A H locs ls C hL hP hS
  exact lv_istore C.1 C.2.1 hd hL.has hn rfl (fun ls' h' => h l D ad cI cZ p e s m args below meth c A H locs ls' C (hL.store1 rfl hok h') hP hS)
theorem P.lstore_n {n : Fin 4} (i : Nat) {x : Int64} (hd : decode k.2.1 pc = .ok (.lstore_n n, 1)) (hi : (n : Nat) = i) (hn : i + 1 < k.2.2.1) (hok : xok L i = true) (h : P k (pc + 1) ((L.set (i + 1) none).set i (some (.long x))) st M Φ) : P k pc L (.long x :: st) M Φ := by
  intro l D ad cI cZ p e s m args below meth c A H locs ls C hL hP hS
  exact lv_lstore_n C.1 C.2.1 hd hi hL.has hn rfl (fun ls' h' => h l D ad cI cZ p e s m args below meth c A H locs ls' C (hL.store2 rfl hok h') hP hS)
theorem P.iinc (i : Nat) {n : Int} {x : Int32} (v : Int32) (hd : decode k.2.1 pc = .ok (.iinc i n, 3)) (hx : L[i]? = some (some (.int x))) (hv : Int32.ofInt n = v) (hn : i < k.2.2.1) (hok : xok L i = true) (h : P k (pc + 3) (L.set i (some (.int (x + v)))) st M Φ) : P k pc L st M Φ := by
  intro l D ad cI cZ p e s m args below meth c A H locs ls C hL hP hS
  obtain ⟨q, hq⟩ := List.getElem?_of_mem (xlv_mem (ad := ad) (q := (i, Value.int x)).mpr ⟨_, hx, rfl⟩)
  exact lv_iinc C.1 C.2.1 hd hL.has hq rfl hn rfl (fun ls' h' => by subst hv; exact h l D ad cI cZ p e s m args below meth c A H locs ls' C (hL.store1 rfl hok h') hP hS)
theorem P.iadd {x y : Int32} (hd : decode k.2.1 pc = .ok (.iadd, 1)) (h : P k (pc + 1) L (.int (x + y) :: st) M Φ) : P k pc L (.int y :: .int x :: st) M Φ := by
  intro l D ad cI cZ p e s m args below meth c A H locs ls C hL hP hS
  exact lv_iadd C.1 C.2.1 hd (h l D ad cI cZ p e s m args below meth c A H locs ls C hL hP hS)
theorem P.isub {x y : Int32} (hd : decode k.2.1 pc = .ok (.isub, 1)) (h : P k (pc + 1) L (.int (x - y) :: st) M Φ) : P k pc L (.int y :: .int x :: st) M Φ := by
  intro l D ad cI cZ p e s m args below meth c A H locs ls C hL hP hS
  exact lv_isub C.1 C.2.1 hd (h l D ad cI cZ p e s m args below meth c A H locs ls C hL hP hS)
theorem P.imul {x y : Int32} (hd : decode k.2.1 pc = .ok (.imul, 1)) (h : P k (pc + 1) L (.int (x * y) :: st) M Φ) : P k pc L (.int y :: .int x :: st) M Φ := by
  intro l D ad cI cZ p e s m args below meth c A H locs ls C hL hP hS
  exact lv_imul C.1 C.2.1 hd (h l D ad cI cZ p e s m args below meth c A H locs ls C hL hP hS)
theorem P.idiv {x y : Int32} (hd : decode k.2.1 pc = .ok (.idiv, 1)) (hne : ¬ y = 0) (h : P k (pc + 1) L (.int (x / y) :: st) M Φ) : P k pc L (.int y :: .int x :: st) M Φ := by
  intro l D ad cI cZ p e s m args below meth c A H locs ls C hL hP hS
  exact lv_idiv C.1 C.2.1 hd hne (h l D ad cI cZ p e s m args below meth c A H locs ls C hL hP hS)
theorem P.irem {x y : Int32} (hd : decode k.2.1 pc = .ok (.irem, 1)) (hne : ¬ y = 0) (h : P k (pc + 1) L (.int (x - x / y * y) :: st) M Φ) : P k pc L (.int y :: .int x :: st) M Φ := by
  intro l D ad cI cZ p e s m args below meth c A H locs ls C hL hP hS
  exact lv_irem C.1 C.2.1 hd hne (h l D ad cI cZ p e s m args below meth c A H locs ls C hL hP hS)
theorem P.ladd {x y : Int64} (hd : decode k.2.1 pc = .ok (.ladd, 1)) (h : P k (pc + 1) L (.long (x + y) :: st) M Φ) : P k pc L (.long y :: .long x :: st) M Φ := by
  intro l D ad cI cZ p e s m args below meth c A H locs ls C hL hP hS
  exact lv_ladd C.1 C.2.1 hd (h l D ad cI cZ p e s m args below meth c A H locs ls C hL hP hS)
theorem P.lmul {x y : Int64} (hd : decode k.2.1 pc = .ok (.lmul, 1)) (h : P k (pc + 1) L (.long (x * y) :: st) M Φ) : P k pc L (.long y :: .long x :: st) M Φ := by
  intro l D ad cI cZ p e s m args below meth c A H locs ls C hL hP hS
  exact lv_lmul C.1 C.2.1 hd (h l D ad cI cZ p e s m args below meth c A H locs ls C hL hP hS)
theorem P.lcmp {x y : Int64} (hd : decode k.2.1 pc = .ok (.lcmp, 1)) (h : P k (pc + 1) L (.int (lg_cmp x y) :: st) M Φ) : P k pc L (.long y :: .long x :: st) M Φ := by
  intro l D ad cI cZ p e s m args below meth c A H locs ls C hL hP hS
  exact W.lcmp C.1 C.2.1 hd (h l D ad cI cZ p e s m args below meth c A H locs ls C hL hP hS)
theorem P.i2l {x : Int32} (hd : decode k.2.1 pc = .ok (.i2l, 1)) (h : P k (pc + 1) L (.long x.toInt64 :: st) M Φ) : P k pc L (.int x :: st) M Φ := by
  intro l D ad cI cZ p e s m args below meth c A H locs ls C hL hP hS
  exact lv_i2l C.1 C.2.1 hd rfl (h l D ad cI cZ p e s m args below meth c A H locs ls C hL hP hS)
theorem P.i2b {x : Int32} (hd : decode k.2.1 pc = .ok (.i2b, 1)) (h : P k (pc + 1) L (.int x.toInt8.toInt32 :: st) M Φ) : P k pc L (.int x :: st) M Φ := by
  intro l D ad cI cZ p e s m args below meth c A H locs ls C hL hP hS
  exact lv_i2b C.1 C.2.1 hd rfl (h l D ad cI cZ p e s m args below meth c A H locs ls C hL hP hS)
theorem P.i2s {x : Int32} (hd : decode k.2.1 pc = .ok (.i2s, 1)) (h : P k (pc + 1) L (.int x.toInt16.toInt32 :: st) M Φ) : P k pc L (.int x :: st) M Φ := by
  intro l D ad cI cZ p e s m args below meth c A H locs ls C hL hP hS
  exact lv_i2s C.1 C.2.1 hd rfl (h l D ad cI cZ p e s m args below meth c A H locs ls C hL hP hS)
theorem P.dup {v : Value} (hd : decode k.2.1 pc = .ok (.dup, 1)) (hv : v.category = 1) (h : P k (pc + 1) L (v :: v :: st) M Φ) : P k pc L (v :: st) M Φ := by
  intro l D ad cI cZ p e s m args below meth c A H locs ls C hL hP hS
  exact lv_dup C.1 C.2.1 hd (by rw [xcv_cat]; exact hv) (h l D ad cI cZ p e s m args below meth c A H locs ls C hL hP hS)
theorem P.dup2 {v w : Value} (hd : decode k.2.1 pc = .ok (.dup2, 1)) (hv : v.category = 1) (hw : w.category = 1) (h : P k (pc + 1) L (v :: w :: v :: w :: st) M Φ) : P k pc L (v :: w :: st) M Φ := by
  intro l D ad cI cZ p e s m args below meth c A H locs ls C hL hP hS
  exact lv_dup2_11 C.1 C.2.1 hd (by rw [xcv_cat]; exact hv) (by rw [xcv_cat]; exact hw) (h l D ad cI cZ p e s m args below meth c A H locs ls C hL hP hS)
theorem P.pop {v : Value} (hd : decode k.2.1 pc = .ok (.pop, 1)) (hv : v.category = 1) (h : P k (pc + 1) L st M Φ) : P k pc L (v :: st) M Φ := by
  intro l D ad cI cZ p e s m args below meth c A H locs ls C hL hP hS
  exact lv_pop C.1 C.2.1 hd (by rw [xcv_cat]; exact hv) (h l D ad cI cZ p e s m args below meth c A H locs ls C hL hP hS)
theorem P.goto {off : Int} (tgt : Nat) (hd : decode k.2.1 pc = .ok (.goto off, 3)) (ht : (pc : Int) + off = (tgt : Int)) (h : P k tgt L st M Φ) : P k pc L st M Φ := by
  intro l D ad cI cZ p e s m args below meth c A H locs ls C hL hP hS
  exact lv_goto C.1 C.2.1 hd ht (h l D ad cI cZ p e s m args below meth c A H locs ls C hL hP hS)
theorem P.ifeq {x : Int32} {off : Int} (tgt : Nat) (hd : decode k.2.1 pc = .ok (.ifCond .eq off, 3)) (ht : (pc : Int) + off = (tgt : Int)) (kt : x = 0 → P k tgt L st M Φ) (kf : ¬ x = 0 → P k (pc + 3) L st M Φ) : P k pc L (.int x :: st) M Φ := by
  intro l D ad cI cZ p e s m args below meth c A H locs ls C hL hP hS
  exact lv_if_eq C.1 C.2.1 hd ht (fun q => kt q l D ad cI cZ p e s m args below meth c A H locs ls C hL hP hS) (fun q => kf q l D ad cI cZ p e s m args below meth c A H locs ls C hL hP hS)
theorem P.ifne {x : Int32} {off : Int} (tgt : Nat) (hd : decode k.2.1 pc = .ok (.ifCond .ne off, 3)) (ht : (pc : Int) + off = (tgt : Int)) (kt : ¬ x = 0 → P k tgt L st M Φ) (kf : x = 0 → P k (pc + 3) L st M Φ) : P k pc L (.int x :: st) M Φ := by
  intro l D ad cI cZ p e s m args below meth c A H locs ls C hL hP hS
  exact lv_if_ne C.1 C.2.1 hd ht (fun q => kt q l D ad cI cZ p e s m args below meth c A H locs ls C hL hP hS) (fun q => kf q l D ad cI cZ p e s m args below meth c A H locs ls C hL hP hS)
theorem P.iflt {x : Int32} {off : Int} (tgt : Nat) (hd : decode k.2.1 pc = .ok (.ifCond .lt off, 3)) (ht : (pc : Int) + off = (tgt : Int)) (kt : x < 0 → P k tgt L st M Φ) (kf : ¬ x < 0 → P k (pc + 3) L st M Φ) : P k pc L (.int x :: st) M Φ := by
  intro l D ad cI cZ p e s m args below meth c A H locs ls C hL hP hS
  exact lv_if_lt C.1 C.2.1 hd ht (fun q => kt q l D ad cI cZ p e s m args below meth c A H locs ls C hL hP hS) (fun q => kf q l D ad cI cZ p e s m args below meth c A H locs ls C hL hP hS)
theorem P.ifge {x : Int32} {off : Int} (tgt : Nat) (hd : decode k.2.1 pc = .ok (.ifCond .ge off, 3)) (ht : (pc : Int) + off = (tgt : Int)) (kt : 0 ≤ x → P k tgt L st M Φ) (kf : ¬ 0 ≤ x → P k (pc + 3) L st M Φ) : P k pc L (.int x :: st) M Φ := by
  intro l D ad cI cZ p e s m args below meth c A H locs ls C hL hP hS
  exact lv_if_ge C.1 C.2.1 hd ht (fun q => kt q l D ad cI cZ p e s m args below meth c A H locs ls C hL hP hS) (fun q => kf q l D ad cI cZ p e s m args below meth c A H locs ls C hL hP hS)
theorem P.ifgt {x : Int32} {off : Int} (tgt : Nat) (hd : decode k.2.1 pc = .ok (.ifCond .gt off, 3)) (ht : (pc : Int) + off = (tgt : Int)) (kt : 0 < x → P k tgt L st M Φ) (kf : ¬ 0 < x → P k (pc + 3) L st M Φ) : P k pc L (.int x :: st) M Φ := by
  intro l D ad cI cZ p e s m args below meth c A H locs ls C hL hP hS
  exact lv_if_gt C.1 C.2.1 hd ht (fun q => kt q l D ad cI cZ p e s m args below meth c A H locs ls C hL hP hS) (fun q => kf q l D ad cI cZ p e s m args below meth c A H locs ls C hL hP hS)
theorem P.ifle {x : Int32} {off : Int} (tgt : Nat) (hd : decode k.2.1 pc = .ok (.ifCond .le off, 3)) (ht : (pc : Int) + off = (tgt : Int)) (kt : x ≤ 0 → P k tgt L st M Φ) (kf : ¬ x ≤ 0 → P k (pc + 3) L st M Φ) : P k pc L (.int x :: st) M Φ := by
  intro l D ad cI cZ p e s m args below meth c A H locs ls C hL hP hS
  exact lv_if_le C.1 C.2.1 hd ht (fun q => kt q l D ad cI cZ p e s m args below meth c A H locs ls C hL hP hS) (fun q => kf q l D ad cI cZ p e s m args below meth c A H locs ls C hL hP hS)
theorem P.iceq {x y : Int32} {off : Int} (tgt : Nat) (hd : decode k.2.1 pc = .ok (.if_icmp .eq off, 3)) (ht : (pc : Int) + off = (tgt : Int)) (kt : x = y → P k tgt L st M Φ) (kf : ¬ x = y → P k (pc + 3) L st M Φ) : P k pc L (.int y :: .int x :: st) M Φ := by
  intro l D ad cI cZ p e s m args below meth c A H locs ls C hL hP hS
  exact lv_icmp_eq C.1 C.2.1 hd ht (fun q => kt q l D ad cI cZ p e s m args below meth c A H locs ls C hL hP hS) (fun q => kf q l D ad cI cZ p e s m args below meth c A H locs ls C hL hP hS)
theorem P.icne {x y : Int32} {off : Int} (tgt : Nat) (hd : decode k.2.1 pc = .ok (.if_icmp .ne off, 3)) (ht : (pc : Int) + off = (tgt : Int)) (kt : ¬ x = y → P k tgt L st M Φ) (kf : x = y → P k (pc + 3) L st M Φ) : P k pc L (.int y :: .int x :: st) M Φ := by
  intro l D ad cI cZ p e s m args below meth c A H locs ls C hL hP hS
  exact lv_icmp_ne C.1 C.2.1 hd ht (fun q => kt q l D ad cI cZ p e s m args below meth c A H locs ls C hL hP hS) (fun q => kf q l D ad cI cZ p e s m args below meth c A H locs ls C hL hP hS)
theorem P.iclt {x y : Int32} {off : Int} (tgt : Nat) (hd : decode k.2.1 pc = .ok (.if_icmp .lt off, 3)) (ht : (pc : Int) + off = (tgt : Int)) (kt : x < y → P k tgt L st M Φ) (kf : ¬ x < y → P k (pc + 3) L st M Φ) : P k pc L (.int y :: .int x :: st) M Φ := by
  intro l D ad cI cZ p e s m args below meth c A H locs ls C hL hP hS
  exact lv_icmp_lt C.1 C.2.1 hd ht (fun q => kt q l D ad cI cZ p e s m args below meth c A H locs ls C hL hP hS) (fun q => kf q l D ad cI cZ p e s m args below meth c A H locs ls C hL hP hS)
theorem P.icge {x y : Int32} {off : Int} (tgt : Nat) (hd : decode k.2.1 pc = .ok (.if_icmp .ge off, 3)) (ht : (pc : Int) + off = (tgt : Int)) (kt : y ≤ x → P k tgt L st M Φ) (kf : ¬ y ≤ x → P k (pc + 3) L st M Φ) : P k pc L (.int y :: .int x :: st) M Φ := by
  intro l D ad cI cZ p e s m args below meth c A H locs ls C hL hP hS
  exact lv_icmp_ge C.1 C.2.1 hd ht (fun q => kt q l D ad cI cZ p e s m args below meth c A H locs ls C hL hP hS) (fun q => kf q l D ad cI cZ p e s m args below meth c A H locs ls C hL hP hS)
theorem P.icgt {x y : Int32} {off : Int} (tgt : Nat) (hd : decode k.2.1 pc = .ok (.if_icmp .gt off, 3)) (ht : (pc : Int) + off = (tgt : Int)) (kt : y < x → P k tgt L st M Φ) (kf : ¬ y < x → P k (pc + 3) L st M Φ) : P k pc L (.int y :: .int x :: st) M Φ := by
  intro l D ad cI cZ p e s m args below meth c A H locs ls C hL hP hS
  exact lv_icmp_gt C.1 C.2.1 hd ht (fun q => kt q l D ad cI cZ p e s m args below meth c A H locs ls C hL hP hS) (fun q => kf q l D ad cI cZ p e s m args below meth c A H locs ls C hL hP hS)
theorem P.icle {x y : Int32} {off : Int} (tgt : Nat) (hd : decode k.2.1 pc = .ok (.if_icmp .le off, 3)) (ht : (pc : Int) + off = (tgt : Int)) (kt : x ≤ y → P k tgt L st M Φ) (kf : ¬ x ≤ y → P k (pc + 3) L st M Φ) : P k pc L (.int y :: .int x :: st) M Φ := by
  intro l D ad cI cZ p e s m args below meth c A H locs ls C hL hP hS
  exact lv_icmp_le C.1 C.2.1 hd ht (fun q => kt q l D ad cI cZ p e s m args below meth c A H locs ls C hL hP hS) (fun q => kf q l D ad cI cZ p e s m args below meth c A H locs ls C hL hP hS)
theorem P.tswIn {dflt lo hi : Int} {offs : Array Int} {len : Nat} {x : Int32} {off : Int} (tgt : Nat) (hd : decode k.2.1 pc = .ok (.tableswitch dflt lo hi offs, len)) (h1 : ¬ x.toInt < lo) (h2 : ¬ hi < x.toInt) (ho : offs[(x.toInt - lo).toNat]? = some off) (ht : (pc : Int) + off = (tgt : Int)) (h : P k tgt L st M Φ) : P k pc L (.int x :: st) M Φ := by
  intro l D ad cI cZ p e s m args below meth c A H locs ls C hL hP hS
  exact lv_tableIn C.1 C.2.1 hd h1 h2 ho ht (h l D ad cI cZ p e s m args below meth c A H locs ls C hL hP hS)
theorem P.tswOut {dflt lo hi : Int} {offs : Array Int} {len : Nat} {x : Int32} (tgt : Nat) (hd : decode k.2.1 pc = .ok (.tableswitch dflt lo hi offs, len)) (h1 : x.toInt < lo ∨ hi < x.toInt) (ht : (pc : Int) + dflt = (tgt : Int)) (h : P k tgt L st M Φ) : P k pc L (.int x :: st) M Φ := by
  intro l D ad cI cZ p e s m args below meth c A H locs ls C hL hP hS
  exact lv_tableOut C.1 C.2.1 hd h1 ht (h l D ad cI cZ p e s m args below meth c A H locs ls C hL hP hS)
/-- a link to a field: class and place -/
def xFL (own : String) (idx ci j : Nat) : Prop := ∃ (C : String) (T : u_T) (N : Nat) (ty : Nat → FieldType), vwCl[ci]? = some (C, T, N) ∧ j < N ∧ Cond.fieldLink own idx (T j).1 (T j).2.1 (T j).2.2.1 ∈ lw_tbl ∧ (∀ w ∈ u_ws C T N, w ∈ lw_tbl) ∧ (∀ k, k < N → parseFieldDescriptor (T k).2.2.1 = some (ty k)) ∧ (∀ a, a < N → ∀ b, b < N → a ≠ b → (T a).2.1 ≠ (T b).2.1) ∧ (∀ w ∈ u_ws C T N, goodWord w = true)
/-- the same, of an int that isn't final -/
def xFP (own : String) (idx ci j : Nat) : Prop := xFL own idx ci j ∧ ∃ (C : String) (T : u_T) (N : Nat), vwCl[ci]? = some (C, T, N) ∧ (T j).2.2.2 = false ∧ parseFieldDescriptor (T j).2.2.1 = some .int
theorem P.getR {idx ci j q q' : Nat} {fs : List (Option Nat)} (hf : xFL k.1.cls idx ci j) (hd : decode k.2.1 pc = .ok (.getfield idx, 3)) (hq : xsh[q]? = some (.inr (ci, fs))) (hj : fs[j]? = some (some q')) (h : P k (pc + 3) L (.ref q' :: st) M Φ) : P k pc L (.ref q :: st) M Φ := by
  intro l D ad cI cZ p e s m args below meth c A H locs ls C hL hP hS
  obtain ⟨Cn, T, N, ty, h1, h2, h3, h4, h5, h6, h7⟩ := hf
  exact va_get (v := .ref (ad q')) C.1 C.2.1 C.2.2.2.2.1 (fun w hw => List.mem_cons_of_mem _ (xTB_of (h4 w hw) (h7 w hw))) C.2.2.2.1 C.2.2.2.2.2.2.2.1 hP q (xws_at hq) h1 j h2 (C.2.2.2.2.1 _ (List.mem_cons_of_mem _ (xTB_of h3 rfl))) (fun _ h9 => h9) (xfs_ref 0 hj) hd (h l D ad cI cZ p e s m args below meth c A H locs ls C hL hP hS)
theorem P.getI {idx ci j q : Nat} {fs : List (Option Nat)} (hf : xFL k.1.cls idx ci j) (hd : decode k.2.1 pc = .ok (.getfield idx, 3)) (hq : xsh[q]? = some (.inr (ci, fs))) (hj : fs[j]? = some none) (h : P k (pc + 3) L (.int (M q j) :: st) M Φ) : P k pc L (.ref q :: st) M Φ := by
  intro l D ad cI cZ p e s m args below meth c A H locs ls C hL hP hS
  obtain ⟨Cn, T, N, ty, h1, h2, h3, h4, h5, h6, h7⟩ := hf
  exact va_get (v := .int (M q j)) C.1 C.2.1 C.2.2.2.2.1 (fun w hw => List.mem_cons_of_mem _ (xTB_of (h4 w hw) (h7 w hw))) C.2.2.2.1 C.2.2.2.2.2.2.2.1 hP q (xws_at hq) h1 j h2 (C.2.2.2.2.1 _ (List.mem_cons_of_mem _ (xTB_of h3 rfl))) (fun _ h9 => h9) (by have := xfs_int (ad := ad) (f := M q) 0 hj; rwa [Nat.zero_add] at this) hd (h l D ad cI cZ p e s m args below meth c A H locs ls C hL hP hS)
theorem P.put {idx ci j q : Nat} {fs : List (Option Nat)} {v : Int32} (hf : xFP k.1.cls idx ci j) (hd : decode k.2.1 pc = .ok (.putfield idx, 3)) (hq : xsh[q]? = some (.inr (ci, fs))) (hj : fs[j]? = some none) (h : P k (pc + 3) L st (xw M q (upd (M q) j v)) Φ) : P k pc L (.int v :: .ref q :: st) M Φ := by
  intro l D ad cI cZ p e s m args below meth c A H locs ls C hL hP hS
  obtain ⟨⟨Cn, T, N, ty, h1, h2, h3, h4, h5, h6, h7⟩, Cn', T', N', g1, g2, g3⟩ := hf
  cases h1.symm.trans g1
  refine va_put (ty := .int) C.1 C.2.1 C.2.2.2.2.1 (fun w hw => List.mem_cons_of_mem _ (xTB_of (h4 w hw) (h7 w hw))) ty h5 h6 C.2.2.2.1 C.2.2.2.2.2.2.2.1 hP (C.2.2.2.2.2.2.2.2.1 M) hS q (xws_at hq) h1 j h2 (C.2.2.2.2.1 _ (List.mem_cons_of_mem _ (xTB_of h3 rfl))) (fun _ h9 => h9) g2 g3 rfl rfl (by rw [xfs_len]; exact (List.getElem?_eq_some_iff.mp hj).1) hd (fun H1 locs1 hP1 hD1 hS1 => ?_)
  rw [show (xfs ad (M q) 0 fs).set j (xcv ad (.int v)) = xfs ad (upd (M q) j v) 0 fs by have := xfs_set (ad := ad) (f := M q) (v := v) 0 hj; rwa [Nat.zero_add] at this] at hP1
  have hP2 : va_P D vwCl (xws xsh ad cI cZ (xw M q (upd (M q) j v))) H1 := by rw [← xws_set hq]; exact hP1
  exact h l D ad cI cZ p e s m args below meth c A H1 locs1 ls C hL hP2 hS1
theorem P.iald {q n : Nat} {i : Int32} (hd : decode k.2.1 pc = .ok (.iaload, 1)) (hq : xsh[q]? = some (.inl (false, n))) (hi : vp_in i n) (h : P k (pc + 1) L (.int (M q i.toNatClampNeg) :: st) M Φ) : P k pc L (.int i :: .ref q :: st) M Φ := by
  intro l D ad cI cZ p e s m args below meth c A H locs ls C hL hP hS
  exact va_iald C.1 C.2.1 C.2.2.2.2.2.2.2.1 hP q 0 (xws_at hq) rfl hi hd (h l D ad cI cZ p e s m args below meth c A H locs ls C hL hP hS)
theorem P.zald {q n : Nat} {i : Int32} (hd : decode k.2.1 pc = .ok (.baload, 1)) (hq : xsh[q]? = some (.inl (true, n))) (hi : vp_in i n) (h : P k (pc + 1) L (.int (M q i.toNatClampNeg) :: st) M Φ) : P k pc L (.int i :: .ref q :: st) M Φ := by
  intro l D ad cI cZ p e s m args below meth c A H locs ls C hL hP hS
  exact va_zald C.1 C.2.1 C.2.2.2.2.2.2.2.1 hP q 1 (xws_at hq) rfl hi hd (h l D ad cI cZ p e s m args below meth c A H locs ls C hL hP hS)
theorem P.iast {q n : Nat} {i x : Int32} (hd : decode k.2.1 pc = .ok (.iastore, 1)) (hq : xsh[q]? = some (.inl (false, n))) (hi : vp_in i n) (h : P k (pc + 1) L st (xw M q (upd (M q) i.toNatClampNeg x)) Φ) : P k pc L (.int x :: .int i :: .ref q :: st) M Φ := by
  intro l D ad cI cZ p e s m args below meth c A H locs ls C hL hP hS
  refine va_iast C.1 C.2.1 C.2.2.2.2.2.2.2.1 hP (C.2.2.2.2.2.2.2.2.1 M) hS q 0 (xws_at hq) rfl hi hd (fun H1 locs1 hP1 hD1 hS1 => ?_)
  have hP2 : va_P D vwCl (xws xsh ad cI cZ (xw M q (upd (M q) i.toNatClampNeg x))) H1 := by rw [← xws_set hq]; exact hP1
  exact h l D ad cI cZ p e s m args below meth c A H1 locs1 ls C hL hP2 hS1
theorem P.zast {q n : Nat} {i x : Int32} (hd : decode k.2.1 pc = .ok (.bastore, 1)) (hq : xsh[q]? = some (.inl (true, n))) (hi : vp_in i n) (h : P k (pc + 1) L st (xw M q (upd (M q) i.toNatClampNeg (vp_nar .boolean x))) Φ) : P k pc L (.int x :: .int i :: .ref q :: st) M Φ := by
  intro l D ad cI cZ p e s m args below meth c A H locs ls C hL hP hS
  refine va_zast C.1 C.2.1 C.2.2.2.2.2.2.2.1 hP (C.2.2.2.2.2.2.2.2.1 M) hS q 1 (xws_at hq) rfl hi hd (fun H1 locs1 hP1 hD1 hS1 => ?_)
  have hP2 : va_P D vwCl (xws xsh ad cI cZ (xw M q (upd (M q) i.toNatClampNeg (vp_nar .boolean x)))) H1 := by rw [← xws_set hq]; exact hP1
  exact h l D ad cI cZ p e s m args below meth c A H1 locs1 ls C hL hP2 hS1
theorem P.alen {q n : Nat} (hd : decode k.2.1 pc = .ok (.arraylength, 1)) (hq : xsh[q]? = some (.inl (false, n))) (h : P k (pc + 1) L (.int (nI n) :: st) M Φ) : P k pc L (.ref q :: st) M Φ := by
  intro l D ad cI cZ p e s m args below meth c A H locs ls C hL hP hS
  exact va_alen C.1 C.2.1 C.2.2.2.2.2.2.2.1 hP q 0 (xws_at hq) rfl rfl hd (h l D ad cI cZ p e s m args below meth c A H locs ls C hL hP hS)
theorem P.iret {v : Int32} (hd : decode k.2.1 pc = .ok (.ireturn, 1)) (hr : k.2.2.2.1 = some .int) (h : Φ (some (.int v)) M) : P k pc L [.int v] M Φ := by
  intro l D ad cI cZ p e s m args below meth c A H locs ls C hL hP hS
  have hlocks : meth.locks = false := C.2.2.2.2.2.2.1
  exact W.iret (v := v) C.1 C.2.1 (C.2.2.2.2.2.1.trans hr) (fun t ht hW => ⟨⟨some (.int v), M, rfl, h, by rw [ht]; exact hP, va_K.moved hW.alike C.2.2.2.2.2.2.2.1⟩, hS.F ht⟩) hS.2.2 hd
theorem P.zret {v : Int32} (hd : decode k.2.1 pc = .ok (.ireturn, 1)) (hr : k.2.2.2.1 = some .boolean) (hn : narrow .boolean (.int v) = .int v) (h : Φ (some (.int v)) M) : P k pc L [.int v] M Φ := by
  intro l D ad cI cZ p e s m args below meth c A H locs ls C hL hP hS
  have hlocks : meth.locks = false := C.2.2.2.2.2.2.1
  exact W.zret (v := v) C.1 C.2.1 (C.2.2.2.2.2.1.trans hr) hn (fun t ht hW => ⟨⟨some (.int v), M, rfl, h, by rw [ht]; exact hP, va_K.moved hW.alike C.2.2.2.2.2.2.2.1⟩, hS.F ht⟩) hS.2.2 hd
theorem P.lret {v : Int64} (hd : decode k.2.1 pc = .ok (.lreturn, 1)) (hr : k.2.2.2.1 = some .long) (h : Φ (some (.long v)) M) : P k pc L [.long v] M Φ := by
  intro l D ad cI cZ p e s m args below meth c A H locs ls C hL hP hS
  have hlocks : meth.locks = false := C.2.2.2.2.2.2.1
  exact W.lret (v := v) C.1 C.2.1 (C.2.2.2.2.2.1.trans hr) (fun t ht hW => ⟨⟨some (.long v), M, rfl, h, by rw [ht]; exact hP, va_K.moved hW.alike C.2.2.2.2.2.2.2.1⟩, hS.F ht⟩) hS.2.2 hd
theorem P.vret (hd : decode k.2.1 pc = .ok (.return_, 1)) (hr : k.2.2.2.1 = none) (h : Φ none M) : P k pc L [] M Φ := by
  intro l D ad cI cZ p e s m args below meth c A H locs ls C hL hP hS
  have hlocks : meth.locks = false := C.2.2.2.2.2.2.1
  exact W.vret C.1 C.2.1 (C.2.2.2.2.2.1.trans hr) (fun t ht hW => ⟨⟨none, M, rfl, h, by rw [ht]; exact hP, va_K.moved hW.alike C.2.2.2.2.2.2.2.1⟩, hS.F ht⟩) hS.2.2 hd
end XR
section XC
variable {p : Program} {l : Launch} {e : Env} {R : Room} {s : State} {m : MethodId} {args : Array Value} {below : List Frame} {meth : Method} {c : Code} {H : Heap} {locs : List Loc} {Q : State → Prop}
theorem x_call {D : va_G} {ad : Nat → Nat} {cI cZ : ClassId} {A0 A1 : Nat → Prop} {Ψ : Option Value → xM → Prop} {pc : Nat} {ls : Array Slot} {st0 rest : List Value} {a : Array Value} {free : Addr → Prop} {H0 : Heap}
    (hr : va_Run p l e R s m args below meth c H locs 0 0 0 0 (F0 m pc ls st0) rest (xQ D ad cI cZ A1 Ψ a) free) (hS : va_S A0 H0 H locs) (hA : ∀ q, q < H.size → A1 q → A0 q) (hf : ∀ q, free q → A0 q)
    (kk : ∀ (r : Option Value) (M : xM) (H1 : Heap) (locs1 : List Loc), Ψ r M → va_P D vwCl (xws xsh ad cI cZ M) H1 → va_S A0 H0 H1 locs1 → W p l e R s m args below meth c H1 locs1 0 0 Q (F0 m (pc + 3) ls ((r.map (xcv ad)).toList ++ rest))) : W p l e R s m args below meth c H locs 0 0 Q (F0 m pc ls st0) := by
  intro T hT X
  obtain ⟨v, st₀, t, T', L, h0, X', hL, e1, e2, ⟨⟨r, M, hv, hp, hb, hk0⟩, hz, hk⟩, st⟩ := hr T hT X
  cases hv
  rw [h0] at hz hk
  obtain ⟨t2, a1, b1⟩ := kk r M T'.heap (locs ++ L) hp (by rw [e1]; exact hb)
    ⟨Nat.le_trans hS.1 (by rw [e1]; exact hz), fun q h1 h2 => by rw [e1, hk q (Nat.lt_of_lt_of_le h1 hS.1) (fun z => h2 (hA q (Nat.lt_of_lt_of_le h1 hS.1) z))]; exact hS.2.1 q h1 h2, fun q hq => by
      rcases List.mem_append.mp hq with h | h
      · exact hS.2.2 q h
      · exact hf _ (hL q h)⟩ T' rfl X'
  exact ⟨t2, st t2 a1, b1⟩
end XC
def xgoodA (n : Nat) (vs : List Value) : Bool := vs.all (fun v => match v with | .double _ => false | _ => true) && Nat.ble ((vs.map fun v => v.category).sum) n
theorem xsl_len (ad : Nat → Nat) (vs : List Value) : (lg_sl (vs.map (xcv ad))).length = (vs.map fun v => v.category).sum := by
  induction vs with
  | nil => rfl
  | cons v vs ih =>
    have e : lg_sl ((v :: vs).map (xcv ad)) = (if v.category = 2 then [.val (xcv ad v), .second] else [.val (xcv ad v)]) ++ lg_sl (vs.map (xcv ad)) := by
      simp [lg_sl, xcv_cat]
    rw [e, List.length_append, ih, List.map_cons, List.sum_cons]
    rcases lv_cat v with h | h <;> simp [h]
theorem xgoodA_spec {n : Nat} {vs : List Value} (h : xgoodA n vs = true) (ad : Nat → Nat) : (lg_sl (vs.map (xcv ad))).length ≤ n ∧ ∀ u ∈ vs, ∀ z, u ≠ .double z := by
  simp only [xgoodA, Bool.and_eq_true, List.all_eq_true] at h
  refine ⟨by rw [xsl_len]; exact Nat.le_of_ble_eq_true h.2, fun u hu z e => ?_⟩
  have := h.1 u hu
  rw [e] at this
  cases this
theorem xcat_map (ad : Nat → Nat) (vs : List Value) : ((vs.map (xcv ad)).map fun v => v.category) = vs.map fun v => v.category := by
  rw [List.map_map]
  apply List.map_congr_left
  intro v _
  exact xcv_cat ad v
/-- a call's words: of an object's method; of a static one; of a nest mate's static one -/
def xCR (k kc : xK) (n : Nat) : Prop := xMeth kc ∧ (parseMethodDescriptor kc.1.desc).map (fun d => d.parameters.length) = some n ∧ kc.2.2.2.2.1 + 1 ≤ k.2.2.2.2.1 ∧ 8 + (kc.2.2.1 + 11) + kc.2.2.2.2.2 ≤ k.2.2.2.2.2
def xCV (k kc : xK) (idx ci n : Nat) : Prop := xCR k kc n ∧ Cond.methodLink k.1.cls idx kc.1 ∈ lw_tbl ∧ Cond.instanceMethod kc.1 ∈ lw_tbl ∧ Cond.selects kc.1.cls kc.1 kc.1 ∈ lw_tbl ∧ (vwCl[ci]?).map (fun q => q.1) = some kc.1.cls
def xCS (k kc : xK) (idx n : Nat) : Prop := xCR k kc n ∧ Cond.methodLink k.1.cls idx kc.1 ∈ lw_tbl ∧ Cond.static kc.1 ∈ lw_tbl
def xCN (k kc : xK) (idx n : Nat) : Prop := xCR k kc n ∧ (k.1.cls, idx, kc.1) ∈ xnestL ∧ Cond.static kc.1 ∈ lw_tbl
theorem xGI {k : xK} {ws : List Cond} (h : ∀ w ∈ ws, w ∈ xTB) : GoodIn (xTs k) ws := fun w hw => xgood w (h w hw)
section XR2
variable {k kc : xK} {pc : Nat} {L : xL} {st : List Value} {M : xM} {Φ Ψ : Option Value → xM → Prop}
theorem xfree {D : va_G} {ad : Nat → Nat} {cI cZ : ClassId} {p : Program} {s : State} {m : MethodId} {args : Array Value} {meth : Method} {c : Code} {A : Nat → Prop} {H : Heap} {locs : List Loc} (C : xCtx k D ad cI cZ p s m args meth c A) (hS : va_S A s.heap H locs) : ∀ q, va_A (xws xsh ad cI cZ M) H.size q → A q := by
  intro q h
  rcases h with ⟨i, e, h⟩ | h
  · exact (C.2.2.2.2.2.2.2.2.1 M).2 i (q, e) h
  · exact C.2.2.2.2.2.2.2.2.2.1 q (Nat.le_trans hS.1 h)
theorem P.callV {idx ci n b : Nat} {fs : List (Option Nat)} {As rest : List Value} (hc : xCV k kc idx ci n) (hd : decode k.2.1 pc = .ok (.invokevirtual idx, 3)) (hb : xsh[b]? = some (.inr (ci, fs))) (hn : As.length = n) (hg : xgoodA kc.2.2.1 (.ref b :: As) = true) (hrest : Nat.ble ((rest.map fun v => v.category).sum) 8 = true) (hst : st = As.reverse ++ .ref b :: rest)
    (hs : Sp kc (.ref b :: As) M Ψ) (h : ∀ r M', Ψ r M' → P k (pc + 3) L (r.toList ++ rest) M' Φ) : P k pc L st M Φ := by
  intro l D ad cI cZ p e s m args below meth c A H locs ls C hL hP hS
  subst hst
  obtain ⟨⟨hme, hde, hfr, hlo⟩, hlk, hin, hse, hcl⟩ := hc
  obtain ⟨hg1, hg2⟩ := xgoodA_spec hg ad
  have hM := hs.met hme hg2 l D ad cI cZ H.size hg1
  obtain ⟨q, hq, hq1⟩ := Option.map_eq_some_iff.mp hcl
  have hFc := xfree (M := M) C hS
  have hcw : CallW (xrm k) s args k.1.cls kc.1.cls idx kc.1 kc.2.1 kc.2.2.1 kc.2.2.2.1 (xTs kc) (xrm kc) 0 0 n := by
    refine cwV n C.2.2.2.2.1 (xGI ?_) rfl rfl rfl ⟨rfl, hme.2.2.1, hme.2.2.2.1, hde⟩ ⟨hfr, hlo⟩
    intro w hw
    rcases List.mem_append.mp hw with hw | hw
    · simp only [List.mem_cons, List.not_mem_nil, or_false] at hw
      rcases hw with rfl | rfl | rfl | rfl
      · exact xTB_of hlk rfl
      · exact xTB_of hin rfl
      · exact xTB_of hse rfl
      · exact xTB_of hme.2.2.2.2 rfl
    · exact xTs_in hme w hw
  refine x_call (rest := rest.map (xcv ad)) (va_runV (As := As.map (xcv ad)) (rest := rest.map (xcv ad)) ⟨C.1, C.2.1, C.2.2.1, C.2.2.2.1, C.2.2.2.2.1⟩ hM hcw ⟨xB_blind, ?_, fun U hU hW => ⟨rfl, by rw [hU], by rw [hU]; exact hP, va_K.moved hW.alike C.2.2.2.2.2.2.2.1, C.2.2.2.2.2.2.2.2.2.2.warm hW, (C.2.2.2.2.2.2.2.2.1 M).weaken (fun _ _ _ _ => trivial)⟩⟩ rfl (by rw [List.length_map]; exact hn) hL.1 ?_ (lv_room (by rw [xcat_map]; exact Nat.le_of_ble_eq_true hrest)) hd ⟨Nat.le_refl _, Nat.le_refl _⟩) hS (fun q _ h => hFc q h) hFc (fun r M' H1 locs1 hr hP1 hS1 => ?_)
  · obtain ⟨cell, g1, g2, g3⟩ := va_recv C.2.2.2.2.2.2.2.1 hP hq (xws_at hb)
    exact ⟨cell, g1, g2, by rw [← hq1]; exact g3⟩
  · simp [F0, List.map_append, List.map_reverse, xcv]
  · have := h r M' hr l D ad cI cZ p e s m args below meth c A H1 locs1 ls C hL hP1 hS1
    have e2 : (r.toList ++ rest).map (xcv ad) = (r.map (xcv ad)).toList ++ rest.map (xcv ad) := by cases r <;> simp
    rw [e2] at this
    exact this
theorem P.callS {idx n : Nat} {As rest : List Value} (hc : xCS k kc idx n) (hd : decode k.2.1 pc = .ok (.invokestatic idx, 3)) (hn : As.length = n) (hg : xgoodA kc.2.2.1 As = true) (hrest : Nat.ble ((rest.map fun v => v.category).sum) 8 = true) (hst : st = As.reverse ++ rest)
    (hs : Sp kc As M Ψ) (h : ∀ r M', Ψ r M' → P k (pc + 3) L (r.toList ++ rest) M' Φ) : P k pc L st M Φ := by
  intro l D ad cI cZ p e s m args below meth c A H locs ls C hL hP hS
  subst hst
  obtain ⟨⟨hme, hde, hfr, hlo⟩, hlk, hsta⟩ := hc
  obtain ⟨hg1, hg2⟩ := xgoodA_spec hg ad
  have hM := hs.met hme hg2 l D ad cI cZ H.size hg1
  have hFc := xfree (M := M) C hS
  have hcw : CallB (xrm k) s args k.1.cls idx kc.1 kc.2.1 kc.2.2.1 kc.2.2.2.1 (xTs kc) (xrm kc) 0 0 n ∧ (Cond.static kc.1).before args s = true := by
    refine va_cwS n C.2.2.2.2.1 (xGI ?_) rfl rfl rfl ⟨hme.2.2.1, hme.2.2.2.1, hde⟩ ⟨hfr, hlo⟩
    intro w hw
    rcases List.mem_append.mp hw with hw | hw
    · simp only [List.mem_cons, List.not_mem_nil, or_false] at hw
      rcases hw with rfl | rfl | rfl
      · exact xTB_of hlk rfl
      · exact xTB_of hsta rfl
      · exact xTB_of hme.2.2.2.2 rfl
    · exact xTs_in hme w hw
  refine x_call (rest := rest.map (xcv ad)) (va_runS (As := As.map (xcv ad)) (rest := rest.map (xcv ad)) ⟨C.1, C.2.1, C.2.2.1, C.2.2.2.1, C.2.2.2.2.1⟩ hM hcw ⟨xB_blind, fun U hU hW => ⟨rfl, by rw [hU], by rw [hU]; exact hP, va_K.moved hW.alike C.2.2.2.2.2.2.2.1, C.2.2.2.2.2.2.2.2.2.2.warm hW, (C.2.2.2.2.2.2.2.2.1 M).weaken (fun _ _ _ _ => trivial)⟩⟩ rfl (by rw [List.length_map]; exact hn) hL.1 ?_ (lv_room (by rw [xcat_map]; exact Nat.le_of_ble_eq_true hrest)) hd ⟨Nat.le_refl _, Nat.le_refl _⟩) hS (fun q _ h => hFc q h) hFc (fun r M' H1 locs1 hr hP1 hS1 => ?_)
  · simp [F0, List.map_append, List.map_reverse]
  · have := h r M' hr l D ad cI cZ p e s m args below meth c A H1 locs1 ls C hL hP1 hS1
    have e2 : (r.toList ++ rest).map (xcv ad) = (r.map (xcv ad)).toList ++ rest.map (xcv ad) := by cases r <;> simp
    rw [e2] at this
    exact this
theorem P.callN {idx n : Nat} {As rest : List Value} (hc : xCN k kc idx n) (hd : decode k.2.1 pc = .ok (.invokestatic idx, 3)) (hn : As.length = n) (hg : xgoodA kc.2.2.1 As = true) (hrest : Nat.ble ((rest.map fun v => v.category).sum) 8 = true) (hst : st = As.reverse ++ rest)
    (hs : Sp kc As M Ψ) (h : ∀ r M', Ψ r M' → P k (pc + 3) L (r.toList ++ rest) M' Φ) : P k pc L st M Φ := by
  intro l D ad cI cZ p e s m args below meth c A H locs ls C hL hP hS
  subst hst
  obtain ⟨⟨hme, hde, hfr, hlo⟩, hlk, hsta⟩ := hc
  obtain ⟨hg1, hg2⟩ := xgoodA_spec hg ad
  have hM := hs.met hme hg2 l D ad cI cZ H.size hg1
  have hFc := xfree (M := M) C hS
  have hw' : ∀ w ∈ xTB, w.before args s = true := fun w hw => C.2.2.2.2.1 w (List.mem_cons_of_mem _ hw)
  have hcw : va_CN (xrm k) s args k.1.cls idx kc.1 "CampWeek" kc.2.1 kc.2.2.1 kc.2.2.2.1 (xTs kc) (xrm kc) 0 0 n ∧ (Cond.static kc.1).before args s = true ∧ True :=
    ⟨va_cnB n C.2.2.2.2.1 (xGI (xTs_in hme)) rfl rfl rfl (C.2.2.2.2.2.2.2.2.2.2 _ hlk) (hw' _ (xTB_of hme.2.2.2.2 rfl)) ⟨hme.2.2.1, hme.2.2.2.1, hde⟩ ⟨hfr, hlo⟩, hw' _ (xTB_of hsta rfl), trivial⟩
  refine x_call (rest := rest.map (xcv ad)) (va_runSN (As := As.map (xcv ad)) (rest := rest.map (xcv ad)) ⟨C.1, C.2.1, C.2.2.1, C.2.2.2.1, C.2.2.2.2.1⟩ hM hcw ⟨xB_blind, fun U hU hW => ⟨rfl, by rw [hU], by rw [hU]; exact hP, va_K.moved hW.alike C.2.2.2.2.2.2.2.1, C.2.2.2.2.2.2.2.2.2.2.warm hW, (C.2.2.2.2.2.2.2.2.1 M).weaken (fun _ _ _ _ => trivial)⟩⟩ rfl (by rw [List.length_map]; exact hn) hL.1 ?_ (lv_room (by rw [xcat_map]; exact Nat.le_of_ble_eq_true hrest)) hd ⟨Nat.le_refl _, Nat.le_refl _⟩) hS (fun q _ h => hFc q h) hFc (fun r M' H1 locs1 hr hP1 hS1 => ?_)
  · simp [F0, List.map_append, List.map_reverse]
  · have := h r M' hr l D ad cI cZ p e s m args below meth c A H1 locs1 ls C hL hP1 hS1
    have e2 : (r.toList ++ rest).map (xcv ad) = (r.map (xcv ad)).toList ++ rest.map (xcv ad) := by cases r <;> simp
    rw [e2] at this
    exact this
/-- Math.max, Math.abs, System.arraycopy -/
def xMX (own : String) (idx : Nat) : Prop := Cond.methodLink own idx Lib.Math.max.name ∈ lw_tbl ∧ Cond.static Lib.Math.max.name ∈ lw_tbl ∧ Cond.initialized "java/lang/Math" ∈ lw_tbl ∧ Cond.code Lib.Math.max.name Lib.Math.max.code 2 (some .int) ∈ lw_tbl
def xMA (own : String) (idx : Nat) : Prop := Cond.methodLink own idx Lib.Math.abs.name ∈ lw_tbl ∧ Cond.static Lib.Math.abs.name ∈ lw_tbl ∧ Cond.initialized "java/lang/Math" ∈ lw_tbl ∧ Cond.code Lib.Math.abs.name Lib.Math.abs.code 1 (some .int) ∈ lw_tbl
def xMC (own : String) (idx : Nat) : Prop := Cond.methodLink own idx arraycopyName ∈ lw_tbl ∧ Cond.native arraycopyName ∈ lw_tbl ∧ Cond.static arraycopyName ∈ lw_tbl ∧ Cond.initialized "java/lang/System" ∈ lw_tbl
theorem P.mmax {idx : Nat} {x y : Int32} (hc : xMX k.1.cls idx) (hd : decode k.2.1 pc = .ok (.invokestatic idx, 3)) (hrest : Nat.ble ((st.map fun v => v.category).sum) 8 = true) (hR : Nat.ble 1 k.2.2.2.2.1 = true ∧ Nat.ble 40 k.2.2.2.2.2 = true)
    (h : P k (pc + 3) L (.int (if x < y then y else x) :: st) M Φ) : P k pc L (.int y :: .int x :: st) M Φ := by
  intro l D ad cI cZ p e s m args below meth c A H locs ls C hL hP hS
  have hw' : ∀ w ∈ xTB, w.before args s = true := fun w hw => C.2.2.2.2.1 w (List.mem_cons_of_mem _ hw)
  have h1 := Nat.le_of_ble_eq_true hrest
  have h2 := Nat.le_of_ble_eq_true hR.2
  exact va_mmax C.1 C.2.1 (C.2.2.1.trans hL.1.symm) C.2.2.2.1 (hw' _ (xTB_of hc.1 rfl)) (hw' _ (xTB_of hc.2.1 rfl)) (hw' _ (xTB_of hc.2.2.1 rfl)) (hw' _ (xTB_of hc.2.2.2 rfl)) (Nat.le_of_ble_eq_true hR.1) (by rw [xcat_map]; show _ + 13 ≤ k.2.2.2.2.2; omega) (Nat.zero_le _) (Nat.zero_le _) hd (h l D ad cI cZ p e s m args below meth c A H locs ls C hL hP hS)
theorem P.mabs {idx : Nat} {x : Int32} (hc : xMA k.1.cls idx) (hd : decode k.2.1 pc = .ok (.invokestatic idx, 3)) (hrest : Nat.ble ((st.map fun v => v.category).sum) 8 = true) (hR : Nat.ble 1 k.2.2.2.2.1 = true ∧ Nat.ble 40 k.2.2.2.2.2 = true)
    (h : P k (pc + 3) L (.int (if 0 ≤ x then x else 0 - x) :: st) M Φ) : P k pc L (.int x :: st) M Φ := by
  intro l D ad cI cZ p e s m args below meth c A H locs ls C hL hP hS
  have hw' : ∀ w ∈ xTB, w.before args s = true := fun w hw => C.2.2.2.2.1 w (List.mem_cons_of_mem _ hw)
  have h1 := Nat.le_of_ble_eq_true hrest
  have h2 := Nat.le_of_ble_eq_true hR.2
  exact va_mabs C.1 C.2.1 (C.2.2.1.trans hL.1.symm) C.2.2.2.1 (hw' _ (xTB_of hc.1 rfl)) (hw' _ (xTB_of hc.2.1 rfl)) (hw' _ (xTB_of hc.2.2.1 rfl)) (hw' _ (xTB_of hc.2.2.2 rfl)) (Nat.le_of_ble_eq_true hR.1) (by rw [xcat_map]; show _ + 13 ≤ k.2.2.2.2.2; omega) (Nat.zero_le _) (Nat.zero_le _) hd (h l D ad cI cZ p e s m args below meth c A H locs ls C hL hP hS)
theorem P.copy {idx q0 q1 n0 n1 : Nat} {sp dp n : Int32} (hc : xMC k.1.cls idx) (hd : decode k.2.1 pc = .ok (.invokestatic idx, 3)) (ha0 : xsh[q0]? = some (.inl (false, n0))) (ha1 : xsh[q1]? = some (.inl (false, n1))) (hrest : Nat.ble ((st.map fun v => v.category).sum) 8 = true) (hR : Nat.ble 1 k.2.2.2.2.1 = true ∧ Nat.ble (8 + (nativeFrameWords "java/lang/System" "arraycopy" 5 + 11)) k.2.2.2.2.2 = true)
    (h1 : ¬ sp < 0) (h2 : ¬ dp < 0) (h3 : ¬ n < 0) (h4 : sp.toNatClampNeg + n.toNatClampNeg ≤ n0) (h5 : dp.toNatClampNeg + n.toNatClampNeg ≤ n1)
    (h : P k (pc + 3) L st (xw M q1 (va_cpy (M q0) (M q1) sp.toNatClampNeg dp.toNatClampNeg n.toNatClampNeg)) Φ) : P k pc L (.int n :: .int dp :: .ref q1 :: .int sp :: .ref q0 :: st) M Φ := by
  intro l D ad cI cZ p e s m args below meth c A H locs ls C hL hP hS
  have hw' : ∀ w ∈ xTB, w.before args s = true := fun w hw => C.2.2.2.2.1 w (List.mem_cons_of_mem _ hw)
  have h6 := Nat.le_of_ble_eq_true hrest
  have h7 := Nat.le_of_ble_eq_true hR.2
  refine va_copyi C.1 C.2.1 (C.2.2.1.trans hL.1.symm) C.2.2.2.1 (hw' _ (xTB_of hc.1 rfl)) (hw' _ (xTB_of hc.2.1 rfl)) (hw' _ (xTB_of hc.2.2.1 rfl)) (hw' _ (xTB_of hc.2.2.2 rfl)) C.2.2.2.2.2.2.2.1 hP (C.2.2.2.2.2.2.2.2.1 M) hS q0 q1 0 0 (xws_at ha0) (xws_at ha1) rfl rfl rfl h1 h2 h3 h4 h5 (fun i _ => rfl) (Nat.le_of_ble_eq_true hR.1) (by rw [xcat_map]; show _ ≤ k.2.2.2.2.2; omega) hd (fun H1 locs1 hP1 hD1 hS1 => ?_)
  have hP2 : va_P D vwCl (xws xsh ad cI cZ (xw M q1 (va_cpy (M q0) (M q1) sp.toNatClampNeg dp.toNatClampNeg n.toNatClampNeg))) H1 := by rw [← xws_set ha1]; exact hP1
  exact h l D ad cI cZ p e s m args below meth c A H1 locs1 ls C hL hP2 hS1
end XR2
end
section
theorem inX0 : ∀ w ∈ u_ws RX0 TX0 7, w ∈ lw_tbl := by decide +kernel
theorem gdX0 : ∀ w ∈ u_ws RX0 TX0 7, goodWord w = true := by decide +kernel
theorem inX1 : ∀ w ∈ u_ws RX1 TX1 3, w ∈ lw_tbl := by decide +kernel
theorem gdX1 : ∀ w ∈ u_ws RX1 TX1 3, goodWord w = true := by decide +kernel
theorem inX2 : ∀ w ∈ u_ws RX2 TX2 3, w ∈ lw_tbl := by decide +kernel
theorem gdX2 : ∀ w ∈ u_ws RX2 TX2 3, goodWord w = true := by decide +kernel
theorem inX3 : ∀ w ∈ u_ws RX3 TX3 3, w ∈ lw_tbl := by decide +kernel
theorem gdX3 : ∀ w ∈ u_ws RX3 TX3 3, goodWord w = true := by decide +kernel
theorem inX4 : ∀ w ∈ u_ws RX4 TX4 8, w ∈ lw_tbl := by decide +kernel
theorem gdX4 : ∀ w ∈ u_ws RX4 TX4 8, goodWord w = true := by decide +kernel
theorem inX5 : ∀ w ∈ u_ws RX5 TX5 4, w ∈ lw_tbl := by decide +kernel
theorem gdX5 : ∀ w ∈ u_ws RX5 TX5 4, goodWord w = true := by decide +kernel
theorem inX6 : ∀ w ∈ u_ws RX6 TX6 4, w ∈ lw_tbl := by decide +kernel
theorem gdX6 : ∀ w ∈ u_ws RX6 TX6 4, goodWord w = true := by decide +kernel
theorem inX7 : ∀ w ∈ u_ws RX7 TX7 10, w ∈ lw_tbl := by decide +kernel
theorem gdX7 : ∀ w ∈ u_ws RX7 TX7 10, goodWord w = true := by decide +kernel
theorem inX8 : ∀ w ∈ u_ws RX8 TX8 10, w ∈ lw_tbl := by decide +kernel
theorem gdX8 : ∀ w ∈ u_ws RX8 TX8 10, goodWord w = true := by decide +kernel
theorem inX9 : ∀ w ∈ u_ws RX9 TX9 7, w ∈ lw_tbl := by decide +kernel
theorem gdX9 : ∀ w ∈ u_ws RX9 TX9 7, goodWord w = true := by decide +kernel
theorem inX10 : ∀ w ∈ u_ws RX10 TX10 47, w ∈ lw_tbl := by decide +kernel
theorem gdX10 : ∀ w ∈ u_ws RX10 TX10 47, goodWord w = true := by decide +kernel
theorem ini_RL : Cond.initialized RL ∈ lw_tbl := List.mem_of_getElem? (i := 47) (by decide +kernel)
theorem ini_RX9 : Cond.initialized RX9 ∈ lw_tbl := List.mem_of_getElem? (i := 48) (by decide +kernel)
theorem ini_RX3 : Cond.initialized RX3 ∈ lw_tbl := List.mem_of_getElem? (i := 49) (by decide +kernel)
theorem ini_RX1 : Cond.initialized RX1 ∈ lw_tbl := List.mem_of_getElem? (i := 50) (by decide +kernel)
theorem ini_RX4 : Cond.initialized RX4 ∈ lw_tbl := List.mem_of_getElem? (i := 51) (by decide +kernel)
theorem ini_RJ7 : Cond.initialized RJ7 ∈ lw_tbl := List.mem_of_getElem? (i := 52) (by decide +kernel)
theorem ini_RX8 : Cond.initialized RX8 ∈ lw_tbl := List.mem_of_getElem? (i := 53) (by decide +kernel)
theorem ini_RX2 : Cond.initialized RX2 ∈ lw_tbl := List.mem_of_getElem? (i := 54) (by decide +kernel)
theorem ini_RX7 : Cond.initialized RX7 ∈ lw_tbl := List.mem_of_getElem? (i := 55) (by decide +kernel)
theorem ini_RX0 : Cond.initialized RX0 ∈ lw_tbl := List.mem_of_getElem? (i := 56) (by decide +kernel)
theorem ini_RX5 : Cond.initialized RX5 ∈ lw_tbl := List.mem_of_getElem? (i := 57) (by decide +kernel)
theorem ini_RX6 : Cond.initialized RX6 ∈ lw_tbl := List.mem_of_getElem? (i := 58) (by decide +kernel)
theorem ini_RX10 : Cond.initialized RX10 ∈ lw_tbl := List.mem_of_getElem? (i := 59) (by decide +kernel)
theorem ini_RJ9 : Cond.initialized RJ9 ∈ lw_tbl := List.mem_of_getElem? (i := 60) (by decide +kernel)
theorem ini_RJ10 : Cond.initialized RJ10 ∈ lw_tbl := List.mem_of_getElem? (i := 61) (by decide +kernel)
abbrev mX0_define : xK := (yX0_define, cX0_define, 5, (some .int), 1, 24)
theorem me_X0_define : xMeth mX0_define := ⟨List.mem_of_getElem? (i := 679) (by decide +kernel), by decide +kernel, by decide +kernel, by decide +kernel, ini_RX0⟩
theorem pd_X0_define : (parseMethodDescriptor (mX0_define).1.desc).map (fun d => d.parameters.length) = some 4 := by decide +kernel
theorem im_X0_define : Cond.instanceMethod yX0_define ∈ lw_tbl := List.mem_of_getElem? (i := 677) (by decide +kernel)
theorem se_X0_define : Cond.selects yX0_define.cls yX0_define yX0_define ∈ lw_tbl := List.mem_of_getElem? (i := 678) (by decide +kernel)
abbrev mX0_isOfAnother : xK := (yX0_isOfAnother, cX0_isOfAnother, 5, (some .boolean), 0, 0)
theorem me_X0_isOfAnother : xMeth mX0_isOfAnother := ⟨List.mem_of_getElem? (i := 684) (by decide +kernel), by decide +kernel, by decide +kernel, by decide +kernel, ini_RX0⟩
theorem pd_X0_isOfAnother : (parseMethodDescriptor (mX0_isOfAnother).1.desc).map (fun d => d.parameters.length) = some 3 := by decide +kernel
theorem im_X0_isOfAnother : Cond.instanceMethod yX0_isOfAnother ∈ lw_tbl := List.mem_of_getElem? (i := 683) (by decide +kernel)
theorem se_X0_isOfAnother : Cond.selects yX0_isOfAnother.cls yX0_isOfAnother yX0_isOfAnother ∈ lw_tbl := List.mem_of_getElem? (i := 19) (by decide +kernel)
abbrev mX0_childrenIn : xK := (yX0_childrenIn, cX0_childrenIn, 4, (some .int), 0, 0)
theorem me_X0_childrenIn : xMeth mX0_childrenIn := ⟨List.mem_of_getElem? (i := 688) (by decide +kernel), by decide +kernel, by decide +kernel, by decide +kernel, ini_RX0⟩
theorem pd_X0_childrenIn : (parseMethodDescriptor (mX0_childrenIn).1.desc).map (fun d => d.parameters.length) = some 1 := by decide +kernel
theorem im_X0_childrenIn : Cond.instanceMethod yX0_childrenIn ∈ lw_tbl := List.mem_of_getElem? (i := 687) (by decide +kernel)
theorem se_X0_childrenIn : Cond.selects yX0_childrenIn.cls yX0_childrenIn yX0_childrenIn ∈ lw_tbl := List.mem_of_getElem? (i := 20) (by decide +kernel)
abbrev mX0_hasChild : xK := (yX0_hasChild, cX0_hasChild, 2, (some .boolean), 1, 22)
theorem me_X0_hasChild : xMeth mX0_hasChild := ⟨List.mem_of_getElem? (i := 712) (by decide +kernel), by decide +kernel, by decide +kernel, by decide +kernel, ini_RX0⟩
theorem pd_X0_hasChild : (parseMethodDescriptor (mX0_hasChild).1.desc).map (fun d => d.parameters.length) = some 1 := by decide +kernel
theorem im_X0_hasChild : Cond.instanceMethod yX0_hasChild ∈ lw_tbl := List.mem_of_getElem? (i := 710) (by decide +kernel)
theorem se_X0_hasChild : Cond.selects yX0_hasChild.cls yX0_hasChild yX0_hasChild ∈ lw_tbl := List.mem_of_getElem? (i := 711) (by decide +kernel)
abbrev mX0_addChild : xK := (yX0_addChild, cX0_addChild, 4, (some .int), 1, 23)
theorem me_X0_addChild : xMeth mX0_addChild := ⟨List.mem_of_getElem? (i := 696) (by decide +kernel), by decide +kernel, by decide +kernel, by decide +kernel, ini_RX0⟩
theorem pd_X0_addChild : (parseMethodDescriptor (mX0_addChild).1.desc).map (fun d => d.parameters.length) = some 3 := by decide +kernel
theorem im_X0_addChild : Cond.instanceMethod yX0_addChild ∈ lw_tbl := List.mem_of_getElem? (i := 694) (by decide +kernel)
theorem se_X0_addChild : Cond.selects yX0_addChild.cls yX0_addChild yX0_addChild ∈ lw_tbl := List.mem_of_getElem? (i := 695) (by decide +kernel)
abbrev mX0_childrenOf : xK := (yX0_childrenOf, cX0_childrenOf, 4, (some .int), 0, 0)
theorem me_X0_childrenOf : xMeth mX0_childrenOf := ⟨List.mem_of_getElem? (i := 700) (by decide +kernel), by decide +kernel, by decide +kernel, by decide +kernel, ini_RX0⟩
theorem pd_X0_childrenOf : (parseMethodDescriptor (mX0_childrenOf).1.desc).map (fun d => d.parameters.length) = some 1 := by decide +kernel
theorem im_X0_childrenOf : Cond.instanceMethod yX0_childrenOf ∈ lw_tbl := List.mem_of_getElem? (i := 699) (by decide +kernel)
theorem se_X0_childrenOf : Cond.selects yX0_childrenOf.cls yX0_childrenOf yX0_childrenOf ∈ lw_tbl := List.mem_of_getElem? (i := 21) (by decide +kernel)
abbrev mX0_handOver : xK := (yX0_handOver, cX0_handOver, 3, (some .int), 2, 44)
theorem me_X0_handOver : xMeth mX0_handOver := ⟨List.mem_of_getElem? (i := 708) (by decide +kernel), by decide +kernel, by decide +kernel, by decide +kernel, ini_RX0⟩
theorem pd_X0_handOver : (parseMethodDescriptor (mX0_handOver).1.desc).map (fun d => d.parameters.length) = some 1 := by decide +kernel
theorem im_X0_handOver : Cond.instanceMethod yX0_handOver ∈ lw_tbl := List.mem_of_getElem? (i := 706) (by decide +kernel)
theorem se_X0_handOver : Cond.selects yX0_handOver.cls yX0_handOver yX0_handOver ∈ lw_tbl := List.mem_of_getElem? (i := 707) (by decide +kernel)
abbrev mX0_groupFor : xK := (yX0_groupFor, cX0_groupFor, 3, (some .int), 1, 22)
theorem me_X0_groupFor : xMeth mX0_groupFor := ⟨List.mem_of_getElem? (i := 716) (by decide +kernel), by decide +kernel, by decide +kernel, by decide +kernel, ini_RX0⟩
theorem pd_X0_groupFor : (parseMethodDescriptor (mX0_groupFor).1.desc).map (fun d => d.parameters.length) = some 1 := by decide +kernel
theorem im_X0_groupFor : Cond.instanceMethod yX0_groupFor ∈ lw_tbl := List.mem_of_getElem? (i := 715) (by decide +kernel)
theorem se_X0_groupFor : Cond.selects yX0_groupFor.cls yX0_groupFor yX0_groupFor ∈ lw_tbl := List.mem_of_getElem? (i := 22) (by decide +kernel)
abbrev mX0_giveBack : xK := (yX0_giveBack, cX0_giveBack, 3, (some .int), 2, 43)
theorem me_X0_giveBack : xMeth mX0_giveBack := ⟨List.mem_of_getElem? (i := 724) (by decide +kernel), by decide +kernel, by decide +kernel, by decide +kernel, ini_RX0⟩
theorem pd_X0_giveBack : (parseMethodDescriptor (mX0_giveBack).1.desc).map (fun d => d.parameters.length) = some 2 := by decide +kernel
theorem im_X0_giveBack : Cond.instanceMethod yX0_giveBack ∈ lw_tbl := List.mem_of_getElem? (i := 722) (by decide +kernel)
theorem se_X0_giveBack : Cond.selects yX0_giveBack.cls yX0_giveBack yX0_giveBack ∈ lw_tbl := List.mem_of_getElem? (i := 723) (by decide +kernel)
abbrev mX1_has : xK := (yX1_has, cX1_has, 2, (some .boolean), 1, 22)
theorem me_X1_has : xMeth mX1_has := ⟨List.mem_of_getElem? (i := 468) (by decide +kernel), by decide +kernel, by decide +kernel, by decide +kernel, ini_RX1⟩
theorem pd_X1_has : (parseMethodDescriptor (mX1_has).1.desc).map (fun d => d.parameters.length) = some 1 := by decide +kernel
theorem im_X1_has : Cond.instanceMethod yX1_has ∈ lw_tbl := List.mem_of_getElem? (i := 466) (by decide +kernel)
theorem se_X1_has : Cond.selects yX1_has.cls yX1_has yX1_has ∈ lw_tbl := List.mem_of_getElem? (i := 467) (by decide +kernel)
abbrev mX1_add : xK := (yX1_add, cX1_add, 3, (some .int), 1, 22)
theorem me_X1_add : xMeth mX1_add := ⟨List.mem_of_getElem? (i := 353) (by decide +kernel), by decide +kernel, by decide +kernel, by decide +kernel, ini_RX1⟩
theorem pd_X1_add : (parseMethodDescriptor (mX1_add).1.desc).map (fun d => d.parameters.length) = some 2 := by decide +kernel
theorem im_X1_add : Cond.instanceMethod yX1_add ∈ lw_tbl := List.mem_of_getElem? (i := 351) (by decide +kernel)
theorem se_X1_add : Cond.selects yX1_add.cls yX1_add yX1_add ∈ lw_tbl := List.mem_of_getElem? (i := 352) (by decide +kernel)
abbrev mX2_setPart : xK := (yX2_setPart, cX2_setPart, 3, (some .int), 1, 22)
theorem me_X2_setPart : xMeth mX2_setPart := ⟨List.mem_of_getElem? (i := 557) (by decide +kernel), by decide +kernel, by decide +kernel, by decide +kernel, ini_RX2⟩
theorem pd_X2_setPart : (parseMethodDescriptor (mX2_setPart).1.desc).map (fun d => d.parameters.length) = some 1 := by decide +kernel
theorem im_X2_setPart : Cond.instanceMethod yX2_setPart ∈ lw_tbl := List.mem_of_getElem? (i := 555) (by decide +kernel)
theorem se_X2_setPart : Cond.selects yX2_setPart.cls yX2_setPart yX2_setPart ∈ lw_tbl := List.mem_of_getElem? (i := 556) (by decide +kernel)
abbrev mX2_serve : xK := (yX2_serve, cX2_serve, 7, (some .int), 0, 0)
theorem me_X2_serve : xMeth mX2_serve := ⟨List.mem_of_getElem? (i := 576) (by decide +kernel), by decide +kernel, by decide +kernel, by decide +kernel, ini_RX2⟩
theorem pd_X2_serve : (parseMethodDescriptor (mX2_serve).1.desc).map (fun d => d.parameters.length) = some 4 := by decide +kernel
theorem im_X2_serve : Cond.instanceMethod yX2_serve ∈ lw_tbl := List.mem_of_getElem? (i := 574) (by decide +kernel)
theorem se_X2_serve : Cond.selects yX2_serve.cls yX2_serve yX2_serve ∈ lw_tbl := List.mem_of_getElem? (i := 575) (by decide +kernel)
abbrev mX2_entry : xK := (yX2_entry, cX2_entry, 3, (some .int), 1, 22)
theorem me_X2_entry : xMeth mX2_entry := ⟨List.mem_of_getElem? (i := 584) (by decide +kernel), by decide +kernel, by decide +kernel, by decide +kernel, ini_RX2⟩
theorem pd_X2_entry : (parseMethodDescriptor (mX2_entry).1.desc).map (fun d => d.parameters.length) = some 2 := by decide +kernel
theorem im_X2_entry : Cond.instanceMethod yX2_entry ∈ lw_tbl := List.mem_of_getElem? (i := 582) (by decide +kernel)
theorem se_X2_entry : Cond.selects yX2_entry.cls yX2_entry yX2_entry ∈ lw_tbl := List.mem_of_getElem? (i := 583) (by decide +kernel)
abbrev mX3_relate : xK := (yX3_relate, cX3_relate, 4, (some .int), 3, 65)
theorem me_X3_relate : xMeth mX3_relate := ⟨List.mem_of_getElem? (i := 377) (by decide +kernel), by decide +kernel, by decide +kernel, by decide +kernel, ini_RX3⟩
theorem pd_X3_relate : (parseMethodDescriptor (mX3_relate).1.desc).map (fun d => d.parameters.length) = some 3 := by decide +kernel
theorem im_X3_relate : Cond.instanceMethod yX3_relate ∈ lw_tbl := List.mem_of_getElem? (i := 375) (by decide +kernel)
theorem se_X3_relate : Cond.selects yX3_relate.cls yX3_relate yX3_relate ∈ lw_tbl := List.mem_of_getElem? (i := 376) (by decide +kernel)
abbrev mX3_liveInOneRow : xK := (yX3_liveInOneRow, cX3_liveInOneRow, 3, (some .boolean), 2, 43)
theorem me_X3_liveInOneRow : xMeth mX3_liveInOneRow := ⟨List.mem_of_getElem? (i := 386) (by decide +kernel), by decide +kernel, by decide +kernel, by decide +kernel, ini_RX3⟩
theorem pd_X3_liveInOneRow : (parseMethodDescriptor (mX3_liveInOneRow).1.desc).map (fun d => d.parameters.length) = some 2 := by decide +kernel
theorem im_X3_liveInOneRow : Cond.instanceMethod yX3_liveInOneRow ∈ lw_tbl := List.mem_of_getElem? (i := 385) (by decide +kernel)
theorem se_X3_liveInOneRow : Cond.selects yX3_liveInOneRow.cls yX3_liveInOneRow yX3_liveInOneRow ∈ lw_tbl := List.mem_of_getElem? (i := 0) (by decide +kernel)
abbrev mX3_isInRow : xK := (yX3_isInRow, cX3_isInRow, 3, (some .boolean), 1, 21)
theorem me_X3_isInRow : xMeth mX3_isInRow := ⟨List.mem_of_getElem? (i := 394) (by decide +kernel), by decide +kernel, by decide +kernel, by decide +kernel, ini_RX3⟩
theorem pd_X3_isInRow : (parseMethodDescriptor (mX3_isInRow).1.desc).map (fun d => d.parameters.length) = some 2 := by decide +kernel
theorem im_X3_isInRow : Cond.instanceMethod yX3_isInRow ∈ lw_tbl := List.mem_of_getElem? (i := 393) (by decide +kernel)
theorem se_X3_isInRow : Cond.selects yX3_isInRow.cls yX3_isInRow yX3_isInRow ∈ lw_tbl := List.mem_of_getElem? (i := 1) (by decide +kernel)
abbrev mX3_takeIn : xK := (yX3_takeIn, cX3_takeIn, 4, (some .int), 6, 138)
theorem me_X3_takeIn : xMeth mX3_takeIn := ⟨List.mem_of_getElem? (i := 410) (by decide +kernel), by decide +kernel, by decide +kernel, by decide +kernel, ini_RX3⟩
theorem pd_X3_takeIn : (parseMethodDescriptor (mX3_takeIn).1.desc).map (fun d => d.parameters.length) = some 1 := by decide +kernel
theorem im_X3_takeIn : Cond.instanceMethod yX3_takeIn ∈ lw_tbl := List.mem_of_getElem? (i := 408) (by decide +kernel)
theorem se_X3_takeIn : Cond.selects yX3_takeIn.cls yX3_takeIn yX3_takeIn ∈ lw_tbl := List.mem_of_getElem? (i := 409) (by decide +kernel)
abbrev mX3_dearestHut : xK := (yX3_dearestHut, cX3_dearestHut, 6, (some .int), 4, 89)
theorem me_X3_dearestHut : xMeth mX3_dearestHut := ⟨List.mem_of_getElem? (i := 414) (by decide +kernel), by decide +kernel, by decide +kernel, by decide +kernel, ini_RX3⟩
theorem pd_X3_dearestHut : (parseMethodDescriptor (mX3_dearestHut).1.desc).map (fun d => d.parameters.length) = some 1 := by decide +kernel
theorem im_X3_dearestHut : Cond.instanceMethod yX3_dearestHut ∈ lw_tbl := List.mem_of_getElem? (i := 413) (by decide +kernel)
theorem se_X3_dearestHut : Cond.selects yX3_dearestHut.cls yX3_dearestHut yX3_dearestHut ∈ lw_tbl := List.mem_of_getElem? (i := 2) (by decide +kernel)
abbrev mX3_mayHave : xK := (yX3_mayHave, cX3_mayHave, 4, (some .boolean), 2, 43)
theorem me_X3_mayHave : xMeth mX3_mayHave := ⟨List.mem_of_getElem? (i := 418) (by decide +kernel), by decide +kernel, by decide +kernel, by decide +kernel, ini_RX3⟩
theorem pd_X3_mayHave : (parseMethodDescriptor (mX3_mayHave).1.desc).map (fun d => d.parameters.length) = some 2 := by decide +kernel
theorem im_X3_mayHave : Cond.instanceMethod yX3_mayHave ∈ lw_tbl := List.mem_of_getElem? (i := 417) (by decide +kernel)
theorem se_X3_mayHave : Cond.selects yX3_mayHave.cls yX3_mayHave yX3_mayHave ∈ lw_tbl := List.mem_of_getElem? (i := 3) (by decide +kernel)
abbrev mX3_cost : xK := (yX3_cost, cX3_cost, 4, (some .int), 3, 66)
theorem me_X3_cost : xMeth mX3_cost := ⟨List.mem_of_getElem? (i := 426) (by decide +kernel), by decide +kernel, by decide +kernel, by decide +kernel, ini_RX3⟩
theorem pd_X3_cost : (parseMethodDescriptor (mX3_cost).1.desc).map (fun d => d.parameters.length) = some 2 := by decide +kernel
theorem im_X3_cost : Cond.instanceMethod yX3_cost ∈ lw_tbl := List.mem_of_getElem? (i := 425) (by decide +kernel)
theorem se_X3_cost : Cond.selects yX3_cost.cls yX3_cost yX3_cost ∈ lw_tbl := List.mem_of_getElem? (i := 4) (by decide +kernel)
abbrev mX3_isNextTo : xK := (yX3_isNextTo, cX3_isNextTo, 4, (some .boolean), 2, 43)
theorem me_X3_isNextTo : xMeth mX3_isNextTo := ⟨List.mem_of_getElem? (i := 430) (by decide +kernel), by decide +kernel, by decide +kernel, by decide +kernel, ini_RX3⟩
theorem pd_X3_isNextTo : (parseMethodDescriptor (mX3_isNextTo).1.desc).map (fun d => d.parameters.length) = some 2 := by decide +kernel
theorem im_X3_isNextTo : Cond.instanceMethod yX3_isNextTo ∈ lw_tbl := List.mem_of_getElem? (i := 429) (by decide +kernel)
theorem se_X3_isNextTo : Cond.selects yX3_isNextTo.cls yX3_isNextTo yX3_isNextTo ∈ lw_tbl := List.mem_of_getElem? (i := 5) (by decide +kernel)
abbrev mX3_makesRoom : xK := (yX3_makesRoom, cX3_makesRoom, 5, (some .boolean), 5, 114)
theorem me_X3_makesRoom : xMeth mX3_makesRoom := ⟨List.mem_of_getElem? (i := 434) (by decide +kernel), by decide +kernel, by decide +kernel, by decide +kernel, ini_RX3⟩
theorem pd_X3_makesRoom : (parseMethodDescriptor (mX3_makesRoom).1.desc).map (fun d => d.parameters.length) = some 2 := by decide +kernel
theorem im_X3_makesRoom : Cond.instanceMethod yX3_makesRoom ∈ lw_tbl := List.mem_of_getElem? (i := 433) (by decide +kernel)
theorem se_X3_makesRoom : Cond.selects yX3_makesRoom.cls yX3_makesRoom yX3_makesRoom ∈ lw_tbl := List.mem_of_getElem? (i := 6) (by decide +kernel)
abbrev mX3_guest : xK := (yX3_guest, cX3_guest, 3, (some .int), 3, 67)
theorem me_X3_guest : xMeth mX3_guest := ⟨List.mem_of_getElem? (i := 464) (by decide +kernel), by decide +kernel, by decide +kernel, by decide +kernel, ini_RX3⟩
theorem pd_X3_guest : (parseMethodDescriptor (mX3_guest).1.desc).map (fun d => d.parameters.length) = some 2 := by decide +kernel
theorem im_X3_guest : Cond.instanceMethod yX3_guest ∈ lw_tbl := List.mem_of_getElem? (i := 462) (by decide +kernel)
theorem se_X3_guest : Cond.selects yX3_guest.cls yX3_guest yX3_guest ∈ lw_tbl := List.mem_of_getElem? (i := 463) (by decide +kernel)
abbrev mX3_whoIsIn : xK := (yX3_whoIsIn, cX3_whoIsIn, 4, (some .int), 2, 44)
theorem me_X3_whoIsIn : xMeth mX3_whoIsIn := ⟨List.mem_of_getElem? (i := 473) (by decide +kernel), by decide +kernel, by decide +kernel, by decide +kernel, ini_RX3⟩
theorem pd_X3_whoIsIn : (parseMethodDescriptor (mX3_whoIsIn).1.desc).map (fun d => d.parameters.length) = some 2 := by decide +kernel
theorem im_X3_whoIsIn : Cond.instanceMethod yX3_whoIsIn ∈ lw_tbl := List.mem_of_getElem? (i := 472) (by decide +kernel)
theorem se_X3_whoIsIn : Cond.selects yX3_whoIsIn.cls yX3_whoIsIn yX3_whoIsIn ∈ lw_tbl := List.mem_of_getElem? (i := 7) (by decide +kernel)
abbrev mX3_emptyBeds : xK := (yX3_emptyBeds, cX3_emptyBeds, 4, (some .int), 3, 67)
theorem me_X3_emptyBeds : xMeth mX3_emptyBeds := ⟨List.mem_of_getElem? (i := 485) (by decide +kernel), by decide +kernel, by decide +kernel, by decide +kernel, ini_RX3⟩
theorem pd_X3_emptyBeds : (parseMethodDescriptor (mX3_emptyBeds).1.desc).map (fun d => d.parameters.length) = some 1 := by decide +kernel
theorem im_X3_emptyBeds : Cond.instanceMethod yX3_emptyBeds ∈ lw_tbl := List.mem_of_getElem? (i := 483) (by decide +kernel)
theorem se_X3_emptyBeds : Cond.selects yX3_emptyBeds.cls yX3_emptyBeds yX3_emptyBeds ∈ lw_tbl := List.mem_of_getElem? (i := 484) (by decide +kernel)
abbrev mX4_has : xK := (yX4_has, cX4_has, 2, (some .boolean), 1, 22)
theorem me_X4_has : xMeth mX4_has := ⟨List.mem_of_getElem? (i := 381) (by decide +kernel), by decide +kernel, by decide +kernel, by decide +kernel, ini_RX4⟩
theorem pd_X4_has : (parseMethodDescriptor (mX4_has).1.desc).map (fun d => d.parameters.length) = some 1 := by decide +kernel
theorem im_X4_has : Cond.instanceMethod yX4_has ∈ lw_tbl := List.mem_of_getElem? (i := 379) (by decide +kernel)
theorem se_X4_has : Cond.selects yX4_has.cls yX4_has yX4_has ∈ lw_tbl := List.mem_of_getElem? (i := 380) (by decide +kernel)
abbrev mX4_add : xK := (yX4_add, cX4_add, 6, (some .int), 2, 42)
theorem me_X4_add : xMeth mX4_add := ⟨List.mem_of_getElem? (i := 364) (by decide +kernel), by decide +kernel, by decide +kernel, by decide +kernel, ini_RX4⟩
theorem pd_X4_add : (parseMethodDescriptor (mX4_add).1.desc).map (fun d => d.parameters.length) = some 5 := by decide +kernel
theorem im_X4_add : Cond.instanceMethod yX4_add ∈ lw_tbl := List.mem_of_getElem? (i := 362) (by decide +kernel)
theorem se_X4_add : Cond.selects yX4_add.cls yX4_add yX4_add ∈ lw_tbl := List.mem_of_getElem? (i := 363) (by decide +kernel)
abbrev mX4_isLodged : xK := (yX4_isLodged, cX4_isLodged, 2, (some .boolean), 0, 0)
theorem me_X4_isLodged : xMeth mX4_isLodged := ⟨List.mem_of_getElem? (i := 390) (by decide +kernel), by decide +kernel, by decide +kernel, by decide +kernel, ini_RX4⟩
theorem pd_X4_isLodged : (parseMethodDescriptor (mX4_isLodged).1.desc).map (fun d => d.parameters.length) = some 1 := by decide +kernel
theorem im_X4_isLodged : Cond.instanceMethod yX4_isLodged ∈ lw_tbl := List.mem_of_getElem? (i := 388) (by decide +kernel)
theorem se_X4_isLodged : Cond.selects yX4_isLodged.cls yX4_isLodged yX4_isLodged ∈ lw_tbl := List.mem_of_getElem? (i := 389) (by decide +kernel)
abbrev mX4_isThere : xK := (yX4_isThere, cX4_isThere, 3, (some .boolean), 1, 22)
theorem me_X4_isThere : xMeth mX4_isThere := ⟨List.mem_of_getElem? (i := 477) (by decide +kernel), by decide +kernel, by decide +kernel, by decide +kernel, ini_RX4⟩
theorem pd_X4_isThere : (parseMethodDescriptor (mX4_isThere).1.desc).map (fun d => d.parameters.length) = some 2 := by decide +kernel
theorem im_X4_isThere : Cond.instanceMethod yX4_isThere ∈ lw_tbl := List.mem_of_getElem? (i := 475) (by decide +kernel)
theorem se_X4_isThere : Cond.selects yX4_isThere.cls yX4_isThere yX4_isThere ∈ lw_tbl := List.mem_of_getElem? (i := 476) (by decide +kernel)
abbrev mX4_shareWeek : xK := (yX4_shareWeek, cX4_shareWeek, 3, (some .boolean), 0, 0)
theorem me_X4_shareWeek : xMeth mX4_shareWeek := ⟨List.mem_of_getElem? (i := 398) (by decide +kernel), by decide +kernel, by decide +kernel, by decide +kernel, ini_RX4⟩
theorem pd_X4_shareWeek : (parseMethodDescriptor (mX4_shareWeek).1.desc).map (fun d => d.parameters.length) = some 2 := by decide +kernel
theorem im_X4_shareWeek : Cond.instanceMethod yX4_shareWeek ∈ lw_tbl := List.mem_of_getElem? (i := 396) (by decide +kernel)
theorem se_X4_shareWeek : Cond.selects yX4_shareWeek.cls yX4_shareWeek yX4_shareWeek ∈ lw_tbl := List.mem_of_getElem? (i := 397) (by decide +kernel)
abbrev mX4_areTold : xK := (yX4_areTold, cX4_areTold, 4, (some .boolean), 0, 0)
theorem me_X4_areTold : xMeth mX4_areTold := ⟨List.mem_of_getElem? (i := 422) (by decide +kernel), by decide +kernel, by decide +kernel, by decide +kernel, ini_RX4⟩
theorem pd_X4_areTold : (parseMethodDescriptor (mX4_areTold).1.desc).map (fun d => d.parameters.length) = some 3 := by decide +kernel
theorem im_X4_areTold : Cond.instanceMethod yX4_areTold ∈ lw_tbl := List.mem_of_getElem? (i := 420) (by decide +kernel)
theorem se_X4_areTold : Cond.selects yX4_areTold.cls yX4_areTold yX4_areTold ∈ lw_tbl := List.mem_of_getElem? (i := 421) (by decide +kernel)
abbrev mX4_setTold : xK := (yX4_setTold, cX4_setTold, 5, (some .int), 0, 0)
theorem me_X4_setTold : xMeth mX4_setTold := ⟨List.mem_of_getElem? (i := 402) (by decide +kernel), by decide +kernel, by decide +kernel, by decide +kernel, ini_RX4⟩
theorem pd_X4_setTold : (parseMethodDescriptor (mX4_setTold).1.desc).map (fun d => d.parameters.length) = some 3 := by decide +kernel
theorem im_X4_setTold : Cond.instanceMethod yX4_setTold ∈ lw_tbl := List.mem_of_getElem? (i := 400) (by decide +kernel)
theorem se_X4_setTold : Cond.selects yX4_setTold.cls yX4_setTold yX4_setTold ∈ lw_tbl := List.mem_of_getElem? (i := 401) (by decide +kernel)
abbrev mX4_giveUpHut : xK := (yX4_giveUpHut, cX4_giveUpHut, 3, (some .int), 2, 43)
theorem me_X4_giveUpHut : xMeth mX4_giveUpHut := ⟨List.mem_of_getElem? (i := 446) (by decide +kernel), by decide +kernel, by decide +kernel, by decide +kernel, ini_RX4⟩
theorem pd_X4_giveUpHut : (parseMethodDescriptor (mX4_giveUpHut).1.desc).map (fun d => d.parameters.length) = some 1 := by decide +kernel
theorem im_X4_giveUpHut : Cond.instanceMethod yX4_giveUpHut ∈ lw_tbl := List.mem_of_getElem? (i := 444) (by decide +kernel)
theorem se_X4_giveUpHut : Cond.selects yX4_giveUpHut.cls yX4_giveUpHut yX4_giveUpHut ∈ lw_tbl := List.mem_of_getElem? (i := 445) (by decide +kernel)
abbrev mX4_fact : xK := (yX4_fact, cX4_fact, 3, (some .int), 2, 43)
theorem me_X4_fact : xMeth mX4_fact := ⟨List.mem_of_getElem? (i := 456) (by decide +kernel), by decide +kernel, by decide +kernel, by decide +kernel, ini_RX4⟩
theorem pd_X4_fact : (parseMethodDescriptor (mX4_fact).1.desc).map (fun d => d.parameters.length) = some 2 := by decide +kernel
theorem im_X4_fact : Cond.instanceMethod yX4_fact ∈ lw_tbl := List.mem_of_getElem? (i := 454) (by decide +kernel)
theorem se_X4_fact : Cond.selects yX4_fact.cls yX4_fact yX4_fact ∈ lw_tbl := List.mem_of_getElem? (i := 455) (by decide +kernel)
abbrev mX4_lodgedCount : xK := (yX4_lodgedCount, cX4_lodgedCount, 3, (some .int), 1, 21)
theorem me_X4_lodgedCount : xMeth mX4_lodgedCount := ⟨List.mem_of_getElem? (i := 829) (by decide +kernel), by decide +kernel, by decide +kernel, by decide +kernel, ini_RX4⟩
theorem pd_X4_lodgedCount : (parseMethodDescriptor (mX4_lodgedCount).1.desc).map (fun d => d.parameters.length) = some 0 := by decide +kernel
theorem im_X4_lodgedCount : Cond.instanceMethod yX4_lodgedCount ∈ lw_tbl := List.mem_of_getElem? (i := 827) (by decide +kernel)
theorem se_X4_lodgedCount : Cond.selects yX4_lodgedCount.cls yX4_lodgedCount yX4_lodgedCount ∈ lw_tbl := List.mem_of_getElem? (i := 828) (by decide +kernel)
abbrev mX5_add : xK := (yX5_add, cX5_add, 4, (some .int), 1, 22)
theorem me_X5_add : xMeth mX5_add := ⟨List.mem_of_getElem? (i := 737) (by decide +kernel), by decide +kernel, by decide +kernel, by decide +kernel, ini_RX5⟩
theorem pd_X5_add : (parseMethodDescriptor (mX5_add).1.desc).map (fun d => d.parameters.length) = some 3 := by decide +kernel
theorem im_X5_add : Cond.instanceMethod yX5_add ∈ lw_tbl := List.mem_of_getElem? (i := 735) (by decide +kernel)
theorem se_X5_add : Cond.selects yX5_add.cls yX5_add yX5_add ∈ lw_tbl := List.mem_of_getElem? (i := 736) (by decide +kernel)
abbrev mX5_paidBack : xK := (yX5_paidBack, cX5_paidBack, 6, (some .int), 2, 63)
theorem me_X5_paidBack : xMeth mX5_paidBack := ⟨List.mem_of_getElem? (i := 746) (by decide +kernel), by decide +kernel, by decide +kernel, by decide +kernel, ini_RX5⟩
theorem pd_X5_paidBack : (parseMethodDescriptor (mX5_paidBack).1.desc).map (fun d => d.parameters.length) = some 2 := by decide +kernel
theorem im_X5_paidBack : Cond.instanceMethod yX5_paidBack ∈ lw_tbl := List.mem_of_getElem? (i := 744) (by decide +kernel)
theorem se_X5_paidBack : Cond.selects yX5_paidBack.cls yX5_paidBack yX5_paidBack ∈ lw_tbl := List.mem_of_getElem? (i := 745) (by decide +kernel)
abbrev mX5_latestDay : xK := (yX5_latestDay, cX5_latestDay, 4, (some .int), 1, 40)
theorem me_X5_latestDay : xMeth mX5_latestDay := ⟨List.mem_of_getElem? (i := 750) (by decide +kernel), by decide +kernel, by decide +kernel, by decide +kernel, ini_RX5⟩
theorem pd_X5_latestDay : (parseMethodDescriptor (mX5_latestDay).1.desc).map (fun d => d.parameters.length) = some 1 := by decide +kernel
theorem im_X5_latestDay : Cond.instanceMethod yX5_latestDay ∈ lw_tbl := List.mem_of_getElem? (i := 749) (by decide +kernel)
theorem se_X5_latestDay : Cond.selects yX5_latestDay.cls yX5_latestDay yX5_latestDay ∈ lw_tbl := List.mem_of_getElem? (i := 23) (by decide +kernel)
abbrev mX6_has : xK := (yX6_has, cX6_has, 2, (some .boolean), 1, 22)
theorem me_X6_has : xMeth mX6_has := ⟨List.mem_of_getElem? (i := 765) (by decide +kernel), by decide +kernel, by decide +kernel, by decide +kernel, ini_RX6⟩
theorem pd_X6_has : (parseMethodDescriptor (mX6_has).1.desc).map (fun d => d.parameters.length) = some 1 := by decide +kernel
theorem im_X6_has : Cond.instanceMethod yX6_has ∈ lw_tbl := List.mem_of_getElem? (i := 764) (by decide +kernel)
theorem se_X6_has : Cond.selects yX6_has.cls yX6_has yX6_has ∈ lw_tbl := List.mem_of_getElem? (i := 24) (by decide +kernel)
abbrev mX6_find : xK := (yX6_find, cX6_find, 2, (some .int), 0, 0)
theorem me_X6_find : xMeth mX6_find := ⟨List.mem_of_getElem? (i := 770) (by decide +kernel), by decide +kernel, by decide +kernel, by decide +kernel, ini_RX6⟩
theorem pd_X6_find : (parseMethodDescriptor (mX6_find).1.desc).map (fun d => d.parameters.length) = some 1 := by decide +kernel
theorem im_X6_find : Cond.instanceMethod yX6_find ∈ lw_tbl := List.mem_of_getElem? (i := 769) (by decide +kernel)
theorem se_X6_find : Cond.selects yX6_find.cls yX6_find yX6_find ∈ lw_tbl := List.mem_of_getElem? (i := 25) (by decide +kernel)
abbrev mX6_renew : xK := (yX6_renew, cX6_renew, 4, (some .int), 2, 46)
theorem me_X6_renew : xMeth mX6_renew := ⟨List.mem_of_getElem? (i := 761) (by decide +kernel), by decide +kernel, by decide +kernel, by decide +kernel, ini_RX6⟩
theorem pd_X6_renew : (parseMethodDescriptor (mX6_renew).1.desc).map (fun d => d.parameters.length) = some 3 := by decide +kernel
theorem im_X6_renew : Cond.instanceMethod yX6_renew ∈ lw_tbl := List.mem_of_getElem? (i := 759) (by decide +kernel)
theorem se_X6_renew : Cond.selects yX6_renew.cls yX6_renew yX6_renew ∈ lw_tbl := List.mem_of_getElem? (i := 760) (by decide +kernel)
abbrev mX6_drop : xK := (yX6_drop, cX6_drop, 2, (some .int), 2, 43)
theorem me_X6_drop : xMeth mX6_drop := ⟨List.mem_of_getElem? (i := 784) (by decide +kernel), by decide +kernel, by decide +kernel, by decide +kernel, ini_RX6⟩
theorem pd_X6_drop : (parseMethodDescriptor (mX6_drop).1.desc).map (fun d => d.parameters.length) = some 1 := by decide +kernel
theorem im_X6_drop : Cond.instanceMethod yX6_drop ∈ lw_tbl := List.mem_of_getElem? (i := 782) (by decide +kernel)
theorem se_X6_drop : Cond.selects yX6_drop.cls yX6_drop yX6_drop ∈ lw_tbl := List.mem_of_getElem? (i := 783) (by decide +kernel)
abbrev mX6_store : xK := (yX6_store, cX6_store, 6, (some .int), 3, 66)
theorem me_X6_store : xMeth mX6_store := ⟨List.mem_of_getElem? (i := 792) (by decide +kernel), by decide +kernel, by decide +kernel, by decide +kernel, ini_RX6⟩
theorem pd_X6_store : (parseMethodDescriptor (mX6_store).1.desc).map (fun d => d.parameters.length) = some 4 := by decide +kernel
theorem im_X6_store : Cond.instanceMethod yX6_store ∈ lw_tbl := List.mem_of_getElem? (i := 790) (by decide +kernel)
theorem se_X6_store : Cond.selects yX6_store.cls yX6_store yX6_store ∈ lw_tbl := List.mem_of_getElem? (i := 791) (by decide +kernel)
abbrev mX6_read : xK := (yX6_read, cX6_read, 4, (some .int), 3, 66)
theorem me_X6_read : xMeth mX6_read := ⟨List.mem_of_getElem? (i := 807) (by decide +kernel), by decide +kernel, by decide +kernel, by decide +kernel, ini_RX6⟩
theorem pd_X6_read : (parseMethodDescriptor (mX6_read).1.desc).map (fun d => d.parameters.length) = some 3 := by decide +kernel
theorem im_X6_read : Cond.instanceMethod yX6_read ∈ lw_tbl := List.mem_of_getElem? (i := 805) (by decide +kernel)
theorem se_X6_read : Cond.selects yX6_read.cls yX6_read yX6_read ∈ lw_tbl := List.mem_of_getElem? (i := 806) (by decide +kernel)
abbrev mX6_refusal : xK := (yX6_refusal, cX6_refusal, 4, (some .int), 2, 43)
theorem me_X6_refusal : xMeth mX6_refusal := ⟨List.mem_of_getElem? (i := 796) (by decide +kernel), by decide +kernel, by decide +kernel, by decide +kernel, ini_RX6⟩
theorem pd_X6_refusal : (parseMethodDescriptor (mX6_refusal).1.desc).map (fun d => d.parameters.length) = some 3 := by decide +kernel
theorem im_X6_refusal : Cond.instanceMethod yX6_refusal ∈ lw_tbl := List.mem_of_getElem? (i := 795) (by decide +kernel)
theorem se_X6_refusal : Cond.selects yX6_refusal.cls yX6_refusal yX6_refusal ∈ lw_tbl := List.mem_of_getElem? (i := 26) (by decide +kernel)
abbrev mX6_cut : xK := (yX6_cut, cX6_cut, 2, (some .int), 0, 0)
theorem me_X6_cut : xMeth mX6_cut := ⟨List.mem_of_getElem? (i := 799) (by decide +kernel), by decide +kernel, by decide +kernel, by decide +kernel, ini_RX6⟩
theorem pd_X6_cut : (parseMethodDescriptor (mX6_cut).1.desc).map (fun d => d.parameters.length) = some 2 := by decide +kernel
theorem st_X6_cut : Cond.static yX6_cut ∈ lw_tbl := List.mem_of_getElem? (i := 798) (by decide +kernel)
abbrev mX6_transfer : xK := (yX6_transfer, cX6_transfer, 6, (some .int), 2, 43)
theorem me_X6_transfer : xMeth mX6_transfer := ⟨List.mem_of_getElem? (i := 816) (by decide +kernel), by decide +kernel, by decide +kernel, by decide +kernel, ini_RX6⟩
theorem pd_X6_transfer : (parseMethodDescriptor (mX6_transfer).1.desc).map (fun d => d.parameters.length) = some 5 := by decide +kernel
theorem im_X6_transfer : Cond.instanceMethod yX6_transfer ∈ lw_tbl := List.mem_of_getElem? (i := 814) (by decide +kernel)
theorem se_X6_transfer : Cond.selects yX6_transfer.cls yX6_transfer yX6_transfer ∈ lw_tbl := List.mem_of_getElem? (i := 815) (by decide +kernel)
abbrev mX6_hasItems : xK := (yX6_hasItems, cX6_hasItems, 4, (some .boolean), 0, 0)
theorem me_X6_hasItems : xMeth mX6_hasItems := ⟨List.mem_of_getElem? (i := 820) (by decide +kernel), by decide +kernel, by decide +kernel, by decide +kernel, ini_RX6⟩
theorem pd_X6_hasItems : (parseMethodDescriptor (mX6_hasItems).1.desc).map (fun d => d.parameters.length) = some 3 := by decide +kernel
theorem im_X6_hasItems : Cond.instanceMethod yX6_hasItems ∈ lw_tbl := List.mem_of_getElem? (i := 819) (by decide +kernel)
theorem se_X6_hasItems : Cond.selects yX6_hasItems.cls yX6_hasItems yX6_hasItems ∈ lw_tbl := List.mem_of_getElem? (i := 27) (by decide +kernel)
abbrev mX6_countsAsWet : xK := (yX6_countsAsWet, cX6_countsAsWet, 3, (some .boolean), 1, 21)
theorem me_X6_countsAsWet : xMeth mX6_countsAsWet := ⟨List.mem_of_getElem? (i := 629) (by decide +kernel), by decide +kernel, by decide +kernel, by decide +kernel, ini_RX6⟩
theorem pd_X6_countsAsWet : (parseMethodDescriptor (mX6_countsAsWet).1.desc).map (fun d => d.parameters.length) = some 1 := by decide +kernel
theorem im_X6_countsAsWet : Cond.instanceMethod yX6_countsAsWet ∈ lw_tbl := List.mem_of_getElem? (i := 627) (by decide +kernel)
theorem se_X6_countsAsWet : Cond.selects yX6_countsAsWet.cls yX6_countsAsWet yX6_countsAsWet ∈ lw_tbl := List.mem_of_getElem? (i := 628) (by decide +kernel)
abbrev mX6_isWet : xK := (yX6_isWet, cX6_isWet, 2, (some .boolean), 0, 0)
theorem me_X6_isWet : xMeth mX6_isWet := ⟨List.mem_of_getElem? (i := 633) (by decide +kernel), by decide +kernel, by decide +kernel, by decide +kernel, ini_RX6⟩
theorem pd_X6_isWet : (parseMethodDescriptor (mX6_isWet).1.desc).map (fun d => d.parameters.length) = some 1 := by decide +kernel
theorem im_X6_isWet : Cond.instanceMethod yX6_isWet ∈ lw_tbl := List.mem_of_getElem? (i := 632) (by decide +kernel)
theorem se_X6_isWet : Cond.selects yX6_isWet.cls yX6_isWet yX6_isWet ∈ lw_tbl := List.mem_of_getElem? (i := 17) (by decide +kernel)
abbrev mX7_has : xK := (yX7_has, cX7_has, 2, (some .boolean), 1, 22)
theorem me_X7_has : xMeth mX7_has := ⟨List.mem_of_getElem? (i := 616) (by decide +kernel), by decide +kernel, by decide +kernel, by decide +kernel, ini_RX7⟩
theorem pd_X7_has : (parseMethodDescriptor (mX7_has).1.desc).map (fun d => d.parameters.length) = some 1 := by decide +kernel
theorem im_X7_has : Cond.instanceMethod yX7_has ∈ lw_tbl := List.mem_of_getElem? (i := 614) (by decide +kernel)
theorem se_X7_has : Cond.selects yX7_has.cls yX7_has yX7_has ∈ lw_tbl := List.mem_of_getElem? (i := 615) (by decide +kernel)
abbrev mX7_setRoom : xK := (yX7_setRoom, cX7_setRoom, 4, (some .int), 1, 22)
theorem me_X7_setRoom : xMeth mX7_setRoom := ⟨List.mem_of_getElem? (i := 592) (by decide +kernel), by decide +kernel, by decide +kernel, by decide +kernel, ini_RX7⟩
theorem pd_X7_setRoom : (parseMethodDescriptor (mX7_setRoom).1.desc).map (fun d => d.parameters.length) = some 2 := by decide +kernel
theorem im_X7_setRoom : Cond.instanceMethod yX7_setRoom ∈ lw_tbl := List.mem_of_getElem? (i := 590) (by decide +kernel)
theorem se_X7_setRoom : Cond.selects yX7_setRoom.cls yX7_setRoom yX7_setRoom ∈ lw_tbl := List.mem_of_getElem? (i := 591) (by decide +kernel)
abbrev mX7_add : xK := (yX7_add, cX7_add, 4, (some .int), 2, 42)
theorem me_X7_add : xMeth mX7_add := ⟨List.mem_of_getElem? (i := 601) (by decide +kernel), by decide +kernel, by decide +kernel, by decide +kernel, ini_RX7⟩
theorem pd_X7_add : (parseMethodDescriptor (mX7_add).1.desc).map (fun d => d.parameters.length) = some 3 := by decide +kernel
theorem im_X7_add : Cond.instanceMethod yX7_add ∈ lw_tbl := List.mem_of_getElem? (i := 599) (by decide +kernel)
theorem se_X7_add : Cond.selects yX7_add.cls yX7_add yX7_add ∈ lw_tbl := List.mem_of_getElem? (i := 600) (by decide +kernel)
abbrev mX7_addWish : xK := (yX7_addWish, cX7_addWish, 3, (some .int), 2, 43)
theorem me_X7_addWish : xMeth mX7_addWish := ⟨List.mem_of_getElem? (i := 612) (by decide +kernel), by decide +kernel, by decide +kernel, by decide +kernel, ini_RX7⟩
theorem pd_X7_addWish : (parseMethodDescriptor (mX7_addWish).1.desc).map (fun d => d.parameters.length) = some 2 := by decide +kernel
theorem im_X7_addWish : Cond.instanceMethod yX7_addWish ∈ lw_tbl := List.mem_of_getElem? (i := 610) (by decide +kernel)
theorem se_X7_addWish : Cond.selects yX7_addWish.cls yX7_addWish yX7_addWish ∈ lw_tbl := List.mem_of_getElem? (i := 611) (by decide +kernel)
abbrev mX7_isWished : xK := (yX7_isWished, cX7_isWished, 4, (some .boolean), 0, 0)
theorem me_X7_isWished : xMeth mX7_isWished := ⟨List.mem_of_getElem? (i := 620) (by decide +kernel), by decide +kernel, by decide +kernel, by decide +kernel, ini_RX7⟩
theorem pd_X7_isWished : (parseMethodDescriptor (mX7_isWished).1.desc).map (fun d => d.parameters.length) = some 2 := by decide +kernel
theorem im_X7_isWished : Cond.instanceMethod yX7_isWished ∈ lw_tbl := List.mem_of_getElem? (i := 619) (by decide +kernel)
theorem se_X7_isWished : Cond.selects yX7_isWished.cls yX7_isWished yX7_isWished ∈ lw_tbl := List.mem_of_getElem? (i := 16) (by decide +kernel)
abbrev mX7_place : xK := (yX7_place, cX7_place, 3, (some .int), 0, 0)
theorem me_X7_place : xMeth mX7_place := ⟨List.mem_of_getElem? (i := 642) (by decide +kernel), by decide +kernel, by decide +kernel, by decide +kernel, ini_RX7⟩
theorem pd_X7_place : (parseMethodDescriptor (mX7_place).1.desc).map (fun d => d.parameters.length) = some 2 := by decide +kernel
theorem im_X7_place : Cond.instanceMethod yX7_place ∈ lw_tbl := List.mem_of_getElem? (i := 640) (by decide +kernel)
theorem se_X7_place : Cond.selects yX7_place.cls yX7_place yX7_place ∈ lw_tbl := List.mem_of_getElem? (i := 641) (by decide +kernel)
abbrev mX7_send : xK := (yX7_send, cX7_send, 6, none, 2, 49)
theorem me_X7_send : xMeth mX7_send := ⟨List.mem_of_getElem? (i := 650) (by decide +kernel), by decide +kernel, by decide +kernel, by decide +kernel, ini_RX7⟩
theorem pd_X7_send : (parseMethodDescriptor (mX7_send).1.desc).map (fun d => d.parameters.length) = some 4 := by decide +kernel
theorem im_X7_send : Cond.instanceMethod yX7_send ∈ lw_tbl := List.mem_of_getElem? (i := 648) (by decide +kernel)
theorem se_X7_send : Cond.selects yX7_send.cls yX7_send yX7_send ∈ lw_tbl := List.mem_of_getElem? (i := 649) (by decide +kernel)
abbrev mX7_sendParty : xK := (yX7_sendParty, cX7_sendParty, 8, none, 1, 22)
theorem me_X7_sendParty : xMeth mX7_sendParty := ⟨List.mem_of_getElem? (i := 658) (by decide +kernel), by decide +kernel, by decide +kernel, by decide +kernel, ini_RX7⟩
theorem pd_X7_sendParty : (parseMethodDescriptor (mX7_sendParty).1.desc).map (fun d => d.parameters.length) = some 4 := by decide +kernel
theorem im_X7_sendParty : Cond.instanceMethod yX7_sendParty ∈ lw_tbl := List.mem_of_getElem? (i := 657) (by decide +kernel)
theorem se_X7_sendParty : Cond.selects yX7_sendParty.cls yX7_sendParty yX7_sendParty ∈ lw_tbl := List.mem_of_getElem? (i := 18) (by decide +kernel)
abbrev mX7_peopleIn : xK := (yX7_peopleIn, cX7_peopleIn, 5, (some .int), 0, 0)
theorem me_X7_peopleIn : xMeth mX7_peopleIn := ⟨List.mem_of_getElem? (i := 671) (by decide +kernel), by decide +kernel, by decide +kernel, by decide +kernel, ini_RX7⟩
theorem pd_X7_peopleIn : (parseMethodDescriptor (mX7_peopleIn).1.desc).map (fun d => d.parameters.length) = some 2 := by decide +kernel
theorem im_X7_peopleIn : Cond.instanceMethod yX7_peopleIn ∈ lw_tbl := List.mem_of_getElem? (i := 669) (by decide +kernel)
theorem se_X7_peopleIn : Cond.selects yX7_peopleIn.cls yX7_peopleIn yX7_peopleIn ∈ lw_tbl := List.mem_of_getElem? (i := 670) (by decide +kernel)
abbrev mX8_setSeats : xK := (yX8_setSeats, cX8_setSeats, 3, (some .int), 1, 22)
theorem me_X8_setSeats : xMeth mX8_setSeats := ⟨List.mem_of_getElem? (i := 493) (by decide +kernel), by decide +kernel, by decide +kernel, by decide +kernel, ini_RX8⟩
theorem pd_X8_setSeats : (parseMethodDescriptor (mX8_setSeats).1.desc).map (fun d => d.parameters.length) = some 2 := by decide +kernel
theorem im_X8_setSeats : Cond.instanceMethod yX8_setSeats ∈ lw_tbl := List.mem_of_getElem? (i := 491) (by decide +kernel)
theorem se_X8_setSeats : Cond.selects yX8_setSeats.cls yX8_setSeats yX8_setSeats ∈ lw_tbl := List.mem_of_getElem? (i := 492) (by decide +kernel)
abbrev mX8_arrange : xK := (yX8_arrange, cX8_arrange, 3, none, 4, 89)
theorem me_X8_arrange : xMeth mX8_arrange := ⟨List.mem_of_getElem? (i := 503) (by decide +kernel), by decide +kernel, by decide +kernel, by decide +kernel, ini_RX8⟩
theorem pd_X8_arrange : (parseMethodDescriptor (mX8_arrange).1.desc).map (fun d => d.parameters.length) = some 2 := by decide +kernel
theorem im_X8_arrange : Cond.instanceMethod yX8_arrange ∈ lw_tbl := List.mem_of_getElem? (i := 501) (by decide +kernel)
theorem se_X8_arrange : Cond.selects yX8_arrange.cls yX8_arrange yX8_arrange ∈ lw_tbl := List.mem_of_getElem? (i := 502) (by decide +kernel)
abbrev mX8_fillBenches : xK := (yX8_fillBenches, cX8_fillBenches, 5, none, 2, 44)
theorem me_X8_fillBenches : xMeth mX8_fillBenches := ⟨List.mem_of_getElem? (i := 507) (by decide +kernel), by decide +kernel, by decide +kernel, by decide +kernel, ini_RX8⟩
theorem pd_X8_fillBenches : (parseMethodDescriptor (mX8_fillBenches).1.desc).map (fun d => d.parameters.length) = some 2 := by decide +kernel
theorem im_X8_fillBenches : Cond.instanceMethod yX8_fillBenches ∈ lw_tbl := List.mem_of_getElem? (i := 506) (by decide +kernel)
theorem se_X8_fillBenches : Cond.selects yX8_fillBenches.cls yX8_fillBenches yX8_fillBenches ∈ lw_tbl := List.mem_of_getElem? (i := 8) (by decide +kernel)
abbrev mX8_benchFor : xK := (yX8_benchFor, cX8_benchFor, 3, (some .int), 0, 0)
theorem me_X8_benchFor : xMeth mX8_benchFor := ⟨List.mem_of_getElem? (i := 513) (by decide +kernel), by decide +kernel, by decide +kernel, by decide +kernel, ini_RX8⟩
theorem pd_X8_benchFor : (parseMethodDescriptor (mX8_benchFor).1.desc).map (fun d => d.parameters.length) = some 1 := by decide +kernel
theorem im_X8_benchFor : Cond.instanceMethod yX8_benchFor ∈ lw_tbl := List.mem_of_getElem? (i := 512) (by decide +kernel)
theorem se_X8_benchFor : Cond.selects yX8_benchFor.cls yX8_benchFor yX8_benchFor ∈ lw_tbl := List.mem_of_getElem? (i := 9) (by decide +kernel)
abbrev mX8_findNumbers : xK := (yX8_findNumbers, cX8_findNumbers, 5, none, 1, 23)
theorem me_X8_findNumbers : xMeth mX8_findNumbers := ⟨List.mem_of_getElem? (i := 517) (by decide +kernel), by decide +kernel, by decide +kernel, by decide +kernel, ini_RX8⟩
theorem pd_X8_findNumbers : (parseMethodDescriptor (mX8_findNumbers).1.desc).map (fun d => d.parameters.length) = some 0 := by decide +kernel
theorem im_X8_findNumbers : Cond.instanceMethod yX8_findNumbers ∈ lw_tbl := List.mem_of_getElem? (i := 516) (by decide +kernel)
theorem se_X8_findNumbers : Cond.selects yX8_findNumbers.cls yX8_findNumbers yX8_findNumbers ∈ lw_tbl := List.mem_of_getElem? (i := 10) (by decide +kernel)
abbrev mX8_findDifference : xK := (yX8_findDifference, cX8_findDifference, 3, none, 1, 40)
theorem me_X8_findDifference : xMeth mX8_findDifference := ⟨List.mem_of_getElem? (i := 521) (by decide +kernel), by decide +kernel, by decide +kernel, by decide +kernel, ini_RX8⟩
theorem pd_X8_findDifference : (parseMethodDescriptor (mX8_findDifference).1.desc).map (fun d => d.parameters.length) = some 0 := by decide +kernel
theorem im_X8_findDifference : Cond.instanceMethod yX8_findDifference ∈ lw_tbl := List.mem_of_getElem? (i := 520) (by decide +kernel)
theorem se_X8_findDifference : Cond.selects yX8_findDifference.cls yX8_findDifference yX8_findDifference ∈ lw_tbl := List.mem_of_getElem? (i := 11) (by decide +kernel)
abbrev mX8_isWay : xK := (yX8_isWay, cX8_isWay, 2, (some .boolean), 0, 0)
theorem me_X8_isWay : xMeth mX8_isWay := ⟨List.mem_of_getElem? (i := 528) (by decide +kernel), by decide +kernel, by decide +kernel, by decide +kernel, ini_RX8⟩
theorem pd_X8_isWay : (parseMethodDescriptor (mX8_isWay).1.desc).map (fun d => d.parameters.length) = some 1 := by decide +kernel
theorem im_X8_isWay : Cond.instanceMethod yX8_isWay ∈ lw_tbl := List.mem_of_getElem? (i := 527) (by decide +kernel)
theorem se_X8_isWay : Cond.selects yX8_isWay.cls yX8_isWay yX8_isWay ∈ lw_tbl := List.mem_of_getElem? (i := 12) (by decide +kernel)
abbrev mX8_partBenches : xK := (yX8_partBenches, cX8_partBenches, 4, none, 3, 66)
theorem me_X8_partBenches : xMeth mX8_partBenches := ⟨List.mem_of_getElem? (i := 532) (by decide +kernel), by decide +kernel, by decide +kernel, by decide +kernel, ini_RX8⟩
theorem pd_X8_partBenches : (parseMethodDescriptor (mX8_partBenches).1.desc).map (fun d => d.parameters.length) = some 0 := by decide +kernel
theorem im_X8_partBenches : Cond.instanceMethod yX8_partBenches ∈ lw_tbl := List.mem_of_getElem? (i := 531) (by decide +kernel)
theorem se_X8_partBenches : Cond.selects yX8_partBenches.cls yX8_partBenches yX8_partBenches ∈ lw_tbl := List.mem_of_getElem? (i := 13) (by decide +kernel)
abbrev mX8_leadsToBest : xK := (yX8_leadsToBest, cX8_leadsToBest, 3, (some .boolean), 2, 44)
theorem me_X8_leadsToBest : xMeth mX8_leadsToBest := ⟨List.mem_of_getElem? (i := 536) (by decide +kernel), by decide +kernel, by decide +kernel, by decide +kernel, ini_RX8⟩
theorem pd_X8_leadsToBest : (parseMethodDescriptor (mX8_leadsToBest).1.desc).map (fun d => d.parameters.length) = some 2 := by decide +kernel
theorem im_X8_leadsToBest : Cond.instanceMethod yX8_leadsToBest ∈ lw_tbl := List.mem_of_getElem? (i := 535) (by decide +kernel)
theorem se_X8_leadsToBest : Cond.selects yX8_leadsToBest.cls yX8_leadsToBest yX8_leadsToBest ∈ lw_tbl := List.mem_of_getElem? (i := 14) (by decide +kernel)
abbrev mX8_canBecome : xK := (yX8_canBecome, cX8_canBecome, 4, (some .boolean), 1, 21)
theorem me_X8_canBecome : xMeth mX8_canBecome := ⟨List.mem_of_getElem? (i := 540) (by decide +kernel), by decide +kernel, by decide +kernel, by decide +kernel, ini_RX8⟩
theorem pd_X8_canBecome : (parseMethodDescriptor (mX8_canBecome).1.desc).map (fun d => d.parameters.length) = some 3 := by decide +kernel
theorem im_X8_canBecome : Cond.instanceMethod yX8_canBecome ∈ lw_tbl := List.mem_of_getElem? (i := 539) (by decide +kernel)
theorem se_X8_canBecome : Cond.selects yX8_canBecome.cls yX8_canBecome yX8_canBecome ∈ lw_tbl := List.mem_of_getElem? (i := 15) (by decide +kernel)
abbrev mX8_sittingOf : xK := (yX8_sittingOf, cX8_sittingOf, 2, (some .int), 0, 0)
theorem me_X8_sittingOf : xMeth mX8_sittingOf := ⟨List.mem_of_getElem? (i := 549) (by decide +kernel), by decide +kernel, by decide +kernel, by decide +kernel, ini_RX8⟩
theorem pd_X8_sittingOf : (parseMethodDescriptor (mX8_sittingOf).1.desc).map (fun d => d.parameters.length) = some 1 := by decide +kernel
theorem im_X8_sittingOf : Cond.instanceMethod yX8_sittingOf ∈ lw_tbl := List.mem_of_getElem? (i := 547) (by decide +kernel)
theorem se_X8_sittingOf : Cond.selects yX8_sittingOf.cls yX8_sittingOf yX8_sittingOf ∈ lw_tbl := List.mem_of_getElem? (i := 548) (by decide +kernel)
abbrev mX8_dinners : xK := (yX8_dinners, cX8_dinners, 6, (some .int), 1, 21)
theorem me_X8_dinners : xMeth mX8_dinners := ⟨List.mem_of_getElem? (i := 566) (by decide +kernel), by decide +kernel, by decide +kernel, by decide +kernel, ini_RX8⟩
theorem pd_X8_dinners : (parseMethodDescriptor (mX8_dinners).1.desc).map (fun d => d.parameters.length) = some 2 := by decide +kernel
theorem im_X8_dinners : Cond.instanceMethod yX8_dinners ∈ lw_tbl := List.mem_of_getElem? (i := 564) (by decide +kernel)
theorem se_X8_dinners : Cond.selects yX8_dinners.cls yX8_dinners yX8_dinners ∈ lw_tbl := List.mem_of_getElem? (i := 565) (by decide +kernel)
abbrev mX9_hut : xK := (yX9_hut, cX9_hut, 3, (some .int), 2, 44)
theorem me_X9_hut : xMeth mX9_hut := ⟨List.mem_of_getElem? (i := 349) (by decide +kernel), by decide +kernel, by decide +kernel, by decide +kernel, ini_RX9⟩
theorem pd_X9_hut : (parseMethodDescriptor (mX9_hut).1.desc).map (fun d => d.parameters.length) = some 2 := by decide +kernel
theorem im_X9_hut : Cond.instanceMethod yX9_hut ∈ lw_tbl := List.mem_of_getElem? (i := 347) (by decide +kernel)
theorem se_X9_hut : Cond.selects yX9_hut.cls yX9_hut yX9_hut ∈ lw_tbl := List.mem_of_getElem? (i := 348) (by decide +kernel)
abbrev mX9_party : xK := (yX9_party, cX9_party, 6, (some .int), 3, 67)
theorem me_X9_party : xMeth mX9_party := ⟨List.mem_of_getElem? (i := 360) (by decide +kernel), by decide +kernel, by decide +kernel, by decide +kernel, ini_RX9⟩
theorem pd_X9_party : (parseMethodDescriptor (mX9_party).1.desc).map (fun d => d.parameters.length) = some 5 := by decide +kernel
theorem im_X9_party : Cond.instanceMethod yX9_party ∈ lw_tbl := List.mem_of_getElem? (i := 358) (by decide +kernel)
theorem se_X9_party : Cond.selects yX9_party.cls yX9_party yX9_party ∈ lw_tbl := List.mem_of_getElem? (i := 359) (by decide +kernel)
abbrev mX9_tell : xK := (yX9_tell, cX9_tell, 4, (some .int), 4, 88)
theorem me_X9_tell : xMeth mX9_tell := ⟨List.mem_of_getElem? (i := 373) (by decide +kernel), by decide +kernel, by decide +kernel, by decide +kernel, ini_RX9⟩
theorem pd_X9_tell : (parseMethodDescriptor (mX9_tell).1.desc).map (fun d => d.parameters.length) = some 3 := by decide +kernel
theorem im_X9_tell : Cond.instanceMethod yX9_tell ∈ lw_tbl := List.mem_of_getElem? (i := 371) (by decide +kernel)
theorem se_X9_tell : Cond.selects yX9_tell.cls yX9_tell yX9_tell ∈ lw_tbl := List.mem_of_getElem? (i := 372) (by decide +kernel)
abbrev mX9_lodge : xK := (yX9_lodge, cX9_lodge, 2, (some .int), 7, 161)
theorem me_X9_lodge : xMeth mX9_lodge := ⟨List.mem_of_getElem? (i := 406) (by decide +kernel), by decide +kernel, by decide +kernel, by decide +kernel, ini_RX9⟩
theorem pd_X9_lodge : (parseMethodDescriptor (mX9_lodge).1.desc).map (fun d => d.parameters.length) = some 1 := by decide +kernel
theorem im_X9_lodge : Cond.instanceMethod yX9_lodge ∈ lw_tbl := List.mem_of_getElem? (i := 404) (by decide +kernel)
theorem se_X9_lodge : Cond.selects yX9_lodge.cls yX9_lodge yX9_lodge ∈ lw_tbl := List.mem_of_getElem? (i := 405) (by decide +kernel)
abbrev mX9_moved : xK := (yX9_moved, cX9_moved, 1, (some .int), 0, 0)
theorem me_X9_moved : xMeth mX9_moved := ⟨List.mem_of_getElem? (i := 438) (by decide +kernel), by decide +kernel, by decide +kernel, by decide +kernel, ini_RX9⟩
theorem pd_X9_moved : (parseMethodDescriptor (mX9_moved).1.desc).map (fun d => d.parameters.length) = some 0 := by decide +kernel
theorem im_X9_moved : Cond.instanceMethod yX9_moved ∈ lw_tbl := List.mem_of_getElem? (i := 436) (by decide +kernel)
theorem se_X9_moved : Cond.selects yX9_moved.cls yX9_moved yX9_moved ∈ lw_tbl := List.mem_of_getElem? (i := 437) (by decide +kernel)
abbrev mX9_leave : xK := (yX9_leave, cX9_leave, 2, (some .int), 3, 65)
theorem me_X9_leave : xMeth mX9_leave := ⟨List.mem_of_getElem? (i := 442) (by decide +kernel), by decide +kernel, by decide +kernel, by decide +kernel, ini_RX9⟩
theorem pd_X9_leave : (parseMethodDescriptor (mX9_leave).1.desc).map (fun d => d.parameters.length) = some 1 := by decide +kernel
theorem im_X9_leave : Cond.instanceMethod yX9_leave ∈ lw_tbl := List.mem_of_getElem? (i := 440) (by decide +kernel)
theorem se_X9_leave : Cond.selects yX9_leave.cls yX9_leave yX9_leave ∈ lw_tbl := List.mem_of_getElem? (i := 441) (by decide +kernel)
abbrev mX9_about : xK := (yX9_about, cX9_about, 3, (some .int), 3, 65)
theorem me_X9_about : xMeth mX9_about := ⟨List.mem_of_getElem? (i := 452) (by decide +kernel), by decide +kernel, by decide +kernel, by decide +kernel, ini_RX9⟩
theorem pd_X9_about : (parseMethodDescriptor (mX9_about).1.desc).map (fun d => d.parameters.length) = some 2 := by decide +kernel
theorem im_X9_about : Cond.instanceMethod yX9_about ∈ lw_tbl := List.mem_of_getElem? (i := 450) (by decide +kernel)
theorem se_X9_about : Cond.selects yX9_about.cls yX9_about yX9_about ∈ lw_tbl := List.mem_of_getElem? (i := 451) (by decide +kernel)
abbrev mX9_in : xK := (yX9_in, cX9_in, 3, (some .int), 4, 89)
theorem me_X9_in : xMeth mX9_in := ⟨List.mem_of_getElem? (i := 460) (by decide +kernel), by decide +kernel, by decide +kernel, by decide +kernel, ini_RX9⟩
theorem pd_X9_in : (parseMethodDescriptor (mX9_in).1.desc).map (fun d => d.parameters.length) = some 2 := by decide +kernel
theorem im_X9_in : Cond.instanceMethod yX9_in ∈ lw_tbl := List.mem_of_getElem? (i := 458) (by decide +kernel)
theorem se_X9_in : Cond.selects yX9_in.cls yX9_in yX9_in ∈ lw_tbl := List.mem_of_getElem? (i := 459) (by decide +kernel)
abbrev mX9_empty : xK := (yX9_empty, cX9_empty, 2, (some .int), 4, 90)
theorem me_X9_empty : xMeth mX9_empty := ⟨List.mem_of_getElem? (i := 481) (by decide +kernel), by decide +kernel, by decide +kernel, by decide +kernel, ini_RX9⟩
theorem pd_X9_empty : (parseMethodDescriptor (mX9_empty).1.desc).map (fun d => d.parameters.length) = some 1 := by decide +kernel
theorem im_X9_empty : Cond.instanceMethod yX9_empty ∈ lw_tbl := List.mem_of_getElem? (i := 479) (by decide +kernel)
theorem se_X9_empty : Cond.selects yX9_empty.cls yX9_empty yX9_empty ∈ lw_tbl := List.mem_of_getElem? (i := 480) (by decide +kernel)
abbrev mX9_seats : xK := (yX9_seats, cX9_seats, 3, (some .int), 2, 44)
theorem me_X9_seats : xMeth mX9_seats := ⟨List.mem_of_getElem? (i := 489) (by decide +kernel), by decide +kernel, by decide +kernel, by decide +kernel, ini_RX9⟩
theorem pd_X9_seats : (parseMethodDescriptor (mX9_seats).1.desc).map (fun d => d.parameters.length) = some 2 := by decide +kernel
theorem im_X9_seats : Cond.instanceMethod yX9_seats ∈ lw_tbl := List.mem_of_getElem? (i := 487) (by decide +kernel)
theorem se_X9_seats : Cond.selects yX9_seats.cls yX9_seats yX9_seats ∈ lw_tbl := List.mem_of_getElem? (i := 488) (by decide +kernel)
abbrev mX9_apart : xK := (yX9_apart, cX9_apart, 2, (some .int), 5, 111)
theorem me_X9_apart : xMeth mX9_apart := ⟨List.mem_of_getElem? (i := 498) (by decide +kernel), by decide +kernel, by decide +kernel, by decide +kernel, ini_RX9⟩
theorem pd_X9_apart : (parseMethodDescriptor (mX9_apart).1.desc).map (fun d => d.parameters.length) = some 1 := by decide +kernel
theorem im_X9_apart : Cond.instanceMethod yX9_apart ∈ lw_tbl := List.mem_of_getElem? (i := 496) (by decide +kernel)
theorem se_X9_apart : Cond.selects yX9_apart.cls yX9_apart yX9_apart ∈ lw_tbl := List.mem_of_getElem? (i := 497) (by decide +kernel)
abbrev mX9_sits : xK := (yX9_sits, cX9_sits, 3, (some .int), 5, 111)
theorem me_X9_sits : xMeth mX9_sits := ⟨List.mem_of_getElem? (i := 544) (by decide +kernel), by decide +kernel, by decide +kernel, by decide +kernel, ini_RX9⟩
theorem pd_X9_sits : (parseMethodDescriptor (mX9_sits).1.desc).map (fun d => d.parameters.length) = some 2 := by decide +kernel
theorem im_X9_sits : Cond.instanceMethod yX9_sits ∈ lw_tbl := List.mem_of_getElem? (i := 542) (by decide +kernel)
theorem se_X9_sits : Cond.selects yX9_sits.cls yX9_sits yX9_sits ∈ lw_tbl := List.mem_of_getElem? (i := 543) (by decide +kernel)
abbrev mX9_more : xK := (yX9_more, cX9_more, 2, (some .int), 2, 44)
theorem me_X9_more : xMeth mX9_more := ⟨List.mem_of_getElem? (i := 553) (by decide +kernel), by decide +kernel, by decide +kernel, by decide +kernel, ini_RX9⟩
theorem pd_X9_more : (parseMethodDescriptor (mX9_more).1.desc).map (fun d => d.parameters.length) = some 1 := by decide +kernel
theorem im_X9_more : Cond.instanceMethod yX9_more ∈ lw_tbl := List.mem_of_getElem? (i := 551) (by decide +kernel)
theorem se_X9_more : Cond.selects yX9_more.cls yX9_more yX9_more ∈ lw_tbl := List.mem_of_getElem? (i := 552) (by decide +kernel)
abbrev mX9_foretell : xK := (yX9_foretell, cX9_foretell, 3, (some .int), 5, 111)
theorem me_X9_foretell : xMeth mX9_foretell := ⟨List.mem_of_getElem? (i := 562) (by decide +kernel), by decide +kernel, by decide +kernel, by decide +kernel, ini_RX9⟩
theorem pd_X9_foretell : (parseMethodDescriptor (mX9_foretell).1.desc).map (fun d => d.parameters.length) = some 2 := by decide +kernel
theorem im_X9_foretell : Cond.instanceMethod yX9_foretell ∈ lw_tbl := List.mem_of_getElem? (i := 560) (by decide +kernel)
theorem se_X9_foretell : Cond.selects yX9_foretell.cls yX9_foretell yX9_foretell ∈ lw_tbl := List.mem_of_getElem? (i := 561) (by decide +kernel)
abbrev mX9_cook : xK := (yX9_cook, cX9_cook, 5, (some .int), 6, 133)
theorem me_X9_cook : xMeth mX9_cook := ⟨List.mem_of_getElem? (i := 571) (by decide +kernel), by decide +kernel, by decide +kernel, by decide +kernel, ini_RX9⟩
theorem pd_X9_cook : (parseMethodDescriptor (mX9_cook).1.desc).map (fun d => d.parameters.length) = some 3 := by decide +kernel
theorem im_X9_cook : Cond.instanceMethod yX9_cook ∈ lw_tbl := List.mem_of_getElem? (i := 569) (by decide +kernel)
theorem se_X9_cook : Cond.selects yX9_cook.cls yX9_cook yX9_cook ∈ lw_tbl := List.mem_of_getElem? (i := 570) (by decide +kernel)
abbrev mX9_line : xK := (yX9_line, cX9_line, 3, (some .int), 2, 44)
theorem me_X9_line : xMeth mX9_line := ⟨List.mem_of_getElem? (i := 580) (by decide +kernel), by decide +kernel, by decide +kernel, by decide +kernel, ini_RX9⟩
theorem pd_X9_line : (parseMethodDescriptor (mX9_line).1.desc).map (fun d => d.parameters.length) = some 2 := by decide +kernel
theorem im_X9_line : Cond.instanceMethod yX9_line ∈ lw_tbl := List.mem_of_getElem? (i := 578) (by decide +kernel)
theorem se_X9_line : Cond.selects yX9_line.cls yX9_line yX9_line ∈ lw_tbl := List.mem_of_getElem? (i := 579) (by decide +kernel)
abbrev mX9_hall : xK := (yX9_hall, cX9_hall, 3, (some .int), 2, 45)
theorem me_X9_hall : xMeth mX9_hall := ⟨List.mem_of_getElem? (i := 588) (by decide +kernel), by decide +kernel, by decide +kernel, by decide +kernel, ini_RX9⟩
theorem pd_X9_hall : (parseMethodDescriptor (mX9_hall).1.desc).map (fun d => d.parameters.length) = some 2 := by decide +kernel
theorem im_X9_hall : Cond.instanceMethod yX9_hall ∈ lw_tbl := List.mem_of_getElem? (i := 586) (by decide +kernel)
theorem se_X9_hall : Cond.selects yX9_hall.cls yX9_hall yX9_hall ∈ lw_tbl := List.mem_of_getElem? (i := 587) (by decide +kernel)
abbrev mX9_show : xK := (yX9_show, cX9_show, 4, (some .int), 3, 65)
theorem me_X9_show : xMeth mX9_show := ⟨List.mem_of_getElem? (i := 597) (by decide +kernel), by decide +kernel, by decide +kernel, by decide +kernel, ini_RX9⟩
theorem pd_X9_show : (parseMethodDescriptor (mX9_show).1.desc).map (fun d => d.parameters.length) = some 3 := by decide +kernel
theorem im_X9_show : Cond.instanceMethod yX9_show ∈ lw_tbl := List.mem_of_getElem? (i := 595) (by decide +kernel)
theorem se_X9_show : Cond.selects yX9_show.cls yX9_show yX9_show ∈ lw_tbl := List.mem_of_getElem? (i := 596) (by decide +kernel)
abbrev mX9_wish : xK := (yX9_wish, cX9_wish, 3, (some .int), 3, 65)
theorem me_X9_wish : xMeth mX9_wish := ⟨List.mem_of_getElem? (i := 608) (by decide +kernel), by decide +kernel, by decide +kernel, by decide +kernel, ini_RX9⟩
theorem pd_X9_wish : (parseMethodDescriptor (mX9_wish).1.desc).map (fun d => d.parameters.length) = some 2 := by decide +kernel
theorem im_X9_wish : Cond.instanceMethod yX9_wish ∈ lw_tbl := List.mem_of_getElem? (i := 606) (by decide +kernel)
theorem se_X9_wish : Cond.selects yX9_wish.cls yX9_wish yX9_wish ∈ lw_tbl := List.mem_of_getElem? (i := 607) (by decide +kernel)
abbrev mX9_wet : xK := (yX9_wet, cX9_wet, 2, (some .int), 2, 43)
theorem me_X9_wet : xMeth mX9_wet := ⟨List.mem_of_getElem? (i := 624) (by decide +kernel), by decide +kernel, by decide +kernel, by decide +kernel, ini_RX9⟩
theorem pd_X9_wet : (parseMethodDescriptor (mX9_wet).1.desc).map (fun d => d.parameters.length) = some 1 := by decide +kernel
theorem im_X9_wet : Cond.instanceMethod yX9_wet ∈ lw_tbl := List.mem_of_getElem? (i := 622) (by decide +kernel)
theorem se_X9_wet : Cond.selects yX9_wet.cls yX9_wet yX9_wet ∈ lw_tbl := List.mem_of_getElem? (i := 623) (by decide +kernel)
abbrev mX9_where : xK := (yX9_where, cX9_where, 2, (some .int), 2, 43)
theorem me_X9_where : xMeth mX9_where := ⟨List.mem_of_getElem? (i := 637) (by decide +kernel), by decide +kernel, by decide +kernel, by decide +kernel, ini_RX9⟩
theorem pd_X9_where : (parseMethodDescriptor (mX9_where).1.desc).map (fun d => d.parameters.length) = some 1 := by decide +kernel
theorem im_X9_where : Cond.instanceMethod yX9_where ∈ lw_tbl := List.mem_of_getElem? (i := 635) (by decide +kernel)
theorem se_X9_where : Cond.selects yX9_where.cls yX9_where yX9_where ∈ lw_tbl := List.mem_of_getElem? (i := 636) (by decide +kernel)
abbrev mX9_goes : xK := (yX9_goes, cX9_goes, 4, (some .int), 3, 74)
theorem me_X9_goes : xMeth mX9_goes := ⟨List.mem_of_getElem? (i := 646) (by decide +kernel), by decide +kernel, by decide +kernel, by decide +kernel, ini_RX9⟩
theorem pd_X9_goes : (parseMethodDescriptor (mX9_goes).1.desc).map (fun d => d.parameters.length) = some 3 := by decide +kernel
theorem im_X9_goes : Cond.instanceMethod yX9_goes ∈ lw_tbl := List.mem_of_getElem? (i := 644) (by decide +kernel)
theorem se_X9_goes : Cond.selects yX9_goes.cls yX9_goes yX9_goes ∈ lw_tbl := List.mem_of_getElem? (i := 645) (by decide +kernel)
abbrev mX9_turned : xK := (yX9_turned, cX9_turned, 4, (some .int), 3, 74)
theorem me_X9_turned : xMeth mX9_turned := ⟨List.mem_of_getElem? (i := 663) (by decide +kernel), by decide +kernel, by decide +kernel, by decide +kernel, ini_RX9⟩
theorem pd_X9_turned : (parseMethodDescriptor (mX9_turned).1.desc).map (fun d => d.parameters.length) = some 3 := by decide +kernel
theorem im_X9_turned : Cond.instanceMethod yX9_turned ∈ lw_tbl := List.mem_of_getElem? (i := 661) (by decide +kernel)
theorem se_X9_turned : Cond.selects yX9_turned.cls yX9_turned yX9_turned ∈ lw_tbl := List.mem_of_getElem? (i := 662) (by decide +kernel)
abbrev mX9_crowd : xK := (yX9_crowd, cX9_crowd, 4, (some .int), 3, 74)
theorem me_X9_crowd : xMeth mX9_crowd := ⟨List.mem_of_getElem? (i := 667) (by decide +kernel), by decide +kernel, by decide +kernel, by decide +kernel, ini_RX9⟩
theorem pd_X9_crowd : (parseMethodDescriptor (mX9_crowd).1.desc).map (fun d => d.parameters.length) = some 2 := by decide +kernel
theorem im_X9_crowd : Cond.instanceMethod yX9_crowd ∈ lw_tbl := List.mem_of_getElem? (i := 665) (by decide +kernel)
theorem se_X9_crowd : Cond.selects yX9_crowd.cls yX9_crowd yX9_crowd ∈ lw_tbl := List.mem_of_getElem? (i := 666) (by decide +kernel)
abbrev mX9_group : xK := (yX9_group, cX9_group, 5, (some .int), 2, 48)
theorem me_X9_group : xMeth mX9_group := ⟨List.mem_of_getElem? (i := 675) (by decide +kernel), by decide +kernel, by decide +kernel, by decide +kernel, ini_RX9⟩
theorem pd_X9_group : (parseMethodDescriptor (mX9_group).1.desc).map (fun d => d.parameters.length) = some 4 := by decide +kernel
theorem im_X9_group : Cond.instanceMethod yX9_group ∈ lw_tbl := List.mem_of_getElem? (i := 673) (by decide +kernel)
theorem se_X9_group : Cond.selects yX9_group.cls yX9_group yX9_group ∈ lw_tbl := List.mem_of_getElem? (i := 674) (by decide +kernel)
abbrev mX9_child : xK := (yX9_child, cX9_child, 3, (some .int), 2, 46)
theorem me_X9_child : xMeth mX9_child := ⟨List.mem_of_getElem? (i := 692) (by decide +kernel), by decide +kernel, by decide +kernel, by decide +kernel, ini_RX9⟩
theorem pd_X9_child : (parseMethodDescriptor (mX9_child).1.desc).map (fun d => d.parameters.length) = some 2 := by decide +kernel
theorem im_X9_child : Cond.instanceMethod yX9_child ∈ lw_tbl := List.mem_of_getElem? (i := 690) (by decide +kernel)
theorem se_X9_child : Cond.selects yX9_child.cls yX9_child yX9_child ∈ lw_tbl := List.mem_of_getElem? (i := 691) (by decide +kernel)
abbrev mX9_hand : xK := (yX9_hand, cX9_hand, 2, (some .int), 3, 66)
theorem me_X9_hand : xMeth mX9_hand := ⟨List.mem_of_getElem? (i := 704) (by decide +kernel), by decide +kernel, by decide +kernel, by decide +kernel, ini_RX9⟩
theorem pd_X9_hand : (parseMethodDescriptor (mX9_hand).1.desc).map (fun d => d.parameters.length) = some 1 := by decide +kernel
theorem im_X9_hand : Cond.instanceMethod yX9_hand ∈ lw_tbl := List.mem_of_getElem? (i := 702) (by decide +kernel)
theorem se_X9_hand : Cond.selects yX9_hand.cls yX9_hand yX9_hand ∈ lw_tbl := List.mem_of_getElem? (i := 703) (by decide +kernel)
abbrev mX9_fetch : xK := (yX9_fetch, cX9_fetch, 3, (some .int), 3, 65)
theorem me_X9_fetch : xMeth mX9_fetch := ⟨List.mem_of_getElem? (i := 720) (by decide +kernel), by decide +kernel, by decide +kernel, by decide +kernel, ini_RX9⟩
theorem pd_X9_fetch : (parseMethodDescriptor (mX9_fetch).1.desc).map (fun d => d.parameters.length) = some 2 := by decide +kernel
theorem im_X9_fetch : Cond.instanceMethod yX9_fetch ∈ lw_tbl := List.mem_of_getElem? (i := 718) (by decide +kernel)
theorem se_X9_fetch : Cond.selects yX9_fetch.cls yX9_fetch yX9_fetch ∈ lw_tbl := List.mem_of_getElem? (i := 719) (by decide +kernel)
abbrev mX9_with : xK := (yX9_with, cX9_with, 2, (some .int), 2, 43)
theorem me_X9_with : xMeth mX9_with := ⟨List.mem_of_getElem? (i := 728) (by decide +kernel), by decide +kernel, by decide +kernel, by decide +kernel, ini_RX9⟩
theorem pd_X9_with : (parseMethodDescriptor (mX9_with).1.desc).map (fun d => d.parameters.length) = some 1 := by decide +kernel
theorem im_X9_with : Cond.instanceMethod yX9_with ∈ lw_tbl := List.mem_of_getElem? (i := 726) (by decide +kernel)
theorem se_X9_with : Cond.selects yX9_with.cls yX9_with yX9_with ∈ lw_tbl := List.mem_of_getElem? (i := 727) (by decide +kernel)
abbrev mX9_list : xK := (yX9_list, cX9_list, 4, (some .int), 2, 45)
theorem me_X9_list : xMeth mX9_list := ⟨List.mem_of_getElem? (i := 733) (by decide +kernel), by decide +kernel, by decide +kernel, by decide +kernel, ini_RX9⟩
theorem pd_X9_list : (parseMethodDescriptor (mX9_list).1.desc).map (fun d => d.parameters.length) = some 3 := by decide +kernel
theorem im_X9_list : Cond.instanceMethod yX9_list ∈ lw_tbl := List.mem_of_getElem? (i := 731) (by decide +kernel)
theorem se_X9_list : Cond.selects yX9_list.cls yX9_list yX9_list ∈ lw_tbl := List.mem_of_getElem? (i := 732) (by decide +kernel)
abbrev mX9_pays : xK := (yX9_pays, cX9_pays, 3, (some .int), 3, 88)
theorem me_X9_pays : xMeth mX9_pays := ⟨List.mem_of_getElem? (i := 742) (by decide +kernel), by decide +kernel, by decide +kernel, by decide +kernel, ini_RX9⟩
theorem pd_X9_pays : (parseMethodDescriptor (mX9_pays).1.desc).map (fun d => d.parameters.length) = some 2 := by decide +kernel
theorem im_X9_pays : Cond.instanceMethod yX9_pays ∈ lw_tbl := List.mem_of_getElem? (i := 740) (by decide +kernel)
theorem se_X9_pays : Cond.selects yX9_pays.cls yX9_pays yX9_pays ∈ lw_tbl := List.mem_of_getElem? (i := 741) (by decide +kernel)
abbrev mX9_sheet : xK := (yX9_sheet, cX9_sheet, 4, (some .int), 3, 69)
theorem me_X9_sheet : xMeth mX9_sheet := ⟨List.mem_of_getElem? (i := 757) (by decide +kernel), by decide +kernel, by decide +kernel, by decide +kernel, ini_RX9⟩
theorem pd_X9_sheet : (parseMethodDescriptor (mX9_sheet).1.desc).map (fun d => d.parameters.length) = some 3 := by decide +kernel
theorem im_X9_sheet : Cond.instanceMethod yX9_sheet ∈ lw_tbl := List.mem_of_getElem? (i := 755) (by decide +kernel)
theorem se_X9_sheet : Cond.selects yX9_sheet.cls yX9_sheet yX9_sheet ∈ lw_tbl := List.mem_of_getElem? (i := 756) (by decide +kernel)
abbrev mX9_lose : xK := (yX9_lose, cX9_lose, 2, (some .int), 3, 64)
theorem me_X9_lose : xMeth mX9_lose := ⟨List.mem_of_getElem? (i := 780) (by decide +kernel), by decide +kernel, by decide +kernel, by decide +kernel, ini_RX9⟩
theorem pd_X9_lose : (parseMethodDescriptor (mX9_lose).1.desc).map (fun d => d.parameters.length) = some 1 := by decide +kernel
theorem im_X9_lose : Cond.instanceMethod yX9_lose ∈ lw_tbl := List.mem_of_getElem? (i := 778) (by decide +kernel)
theorem se_X9_lose : Cond.selects yX9_lose.cls yX9_lose yX9_lose ∈ lw_tbl := List.mem_of_getElem? (i := 779) (by decide +kernel)
abbrev mX9_put : xK := (yX9_put, cX9_put, 5, (some .int), 4, 91)
theorem me_X9_put : xMeth mX9_put := ⟨List.mem_of_getElem? (i := 788) (by decide +kernel), by decide +kernel, by decide +kernel, by decide +kernel, ini_RX9⟩
theorem pd_X9_put : (parseMethodDescriptor (mX9_put).1.desc).map (fun d => d.parameters.length) = some 4 := by decide +kernel
theorem im_X9_put : Cond.instanceMethod yX9_put ∈ lw_tbl := List.mem_of_getElem? (i := 786) (by decide +kernel)
theorem se_X9_put : Cond.selects yX9_put.cls yX9_put yX9_put ∈ lw_tbl := List.mem_of_getElem? (i := 787) (by decide +kernel)
abbrev mX9_get : xK := (yX9_get, cX9_get, 4, (some .int), 4, 89)
theorem me_X9_get : xMeth mX9_get := ⟨List.mem_of_getElem? (i := 803) (by decide +kernel), by decide +kernel, by decide +kernel, by decide +kernel, ini_RX9⟩
theorem pd_X9_get : (parseMethodDescriptor (mX9_get).1.desc).map (fun d => d.parameters.length) = some 3 := by decide +kernel
theorem im_X9_get : Cond.instanceMethod yX9_get ∈ lw_tbl := List.mem_of_getElem? (i := 801) (by decide +kernel)
theorem se_X9_get : Cond.selects yX9_get.cls yX9_get yX9_get ∈ lw_tbl := List.mem_of_getElem? (i := 802) (by decide +kernel)
abbrev mX9_copy : xK := (yX9_copy, cX9_copy, 6, (some .int), 3, 68)
theorem me_X9_copy : xMeth mX9_copy := ⟨List.mem_of_getElem? (i := 812) (by decide +kernel), by decide +kernel, by decide +kernel, by decide +kernel, ini_RX9⟩
theorem pd_X9_copy : (parseMethodDescriptor (mX9_copy).1.desc).map (fun d => d.parameters.length) = some 5 := by decide +kernel
theorem im_X9_copy : Cond.instanceMethod yX9_copy ∈ lw_tbl := List.mem_of_getElem? (i := 810) (by decide +kernel)
theorem se_X9_copy : Cond.selects yX9_copy.cls yX9_copy yX9_copy ∈ lw_tbl := List.mem_of_getElem? (i := 811) (by decide +kernel)
abbrev mX9_count : xK := (yX9_count, cX9_count, 2, (some .int), 2, 43)
theorem me_X9_count : xMeth mX9_count := ⟨List.mem_of_getElem? (i := 825) (by decide +kernel), by decide +kernel, by decide +kernel, by decide +kernel, ini_RX9⟩
theorem pd_X9_count : (parseMethodDescriptor (mX9_count).1.desc).map (fun d => d.parameters.length) = some 1 := by decide +kernel
theorem im_X9_count : Cond.instanceMethod yX9_count ∈ lw_tbl := List.mem_of_getElem? (i := 823) (by decide +kernel)
theorem se_X9_count : Cond.selects yX9_count.cls yX9_count yX9_count ∈ lw_tbl := List.mem_of_getElem? (i := 824) (by decide +kernel)
abbrev mX9_digest : xK := (yX9_digest, cX9_digest, 4, (some .long), 6, 132)
theorem me_X9_digest : xMeth mX9_digest := ⟨List.mem_of_getElem? (i := 833) (by decide +kernel), by decide +kernel, by decide +kernel, by decide +kernel, ini_RX9⟩
theorem pd_X9_digest : (parseMethodDescriptor (mX9_digest).1.desc).map (fun d => d.parameters.length) = some 0 := by decide +kernel
theorem im_X9_digest : Cond.instanceMethod yX9_digest ∈ lw_tbl := List.mem_of_getElem? (i := 831) (by decide +kernel)
theorem se_X9_digest : Cond.selects yX9_digest.cls yX9_digest yX9_digest ∈ lw_tbl := List.mem_of_getElem? (i := 832) (by decide +kernel)
abbrev mX9_within : xK := (yX9_within, cX9_within, 3, (some .boolean), 0, 0)
theorem me_X9_within : xMeth mX9_within := ⟨List.mem_of_getElem? (i := 356) (by decide +kernel), by decide +kernel, by decide +kernel, by decide +kernel, ini_RX9⟩
theorem pd_X9_within : (parseMethodDescriptor (mX9_within).1.desc).map (fun d => d.parameters.length) = some 3 := by decide +kernel
theorem st_X9_within : Cond.static yX9_within ∈ lw_tbl := List.mem_of_getElem? (i := 355) (by decide +kernel)
abbrev mX9_isWeek : xK := (yX9_isWeek, cX9_isWeek, 1, (some .boolean), 1, 22)
theorem me_X9_isWeek : xMeth mX9_isWeek := ⟨List.mem_of_getElem? (i := 368) (by decide +kernel), by decide +kernel, by decide +kernel, by decide +kernel, ini_RX9⟩
theorem pd_X9_isWeek : (parseMethodDescriptor (mX9_isWeek).1.desc).map (fun d => d.parameters.length) = some 1 := by decide +kernel
theorem st_X9_isWeek : Cond.static yX9_isWeek ∈ lw_tbl := List.mem_of_getElem? (i := 367) (by decide +kernel)
abbrev mX9_isHour : xK := (yX9_isHour, cX9_isHour, 1, (some .boolean), 1, 22)
theorem me_X9_isHour : xMeth mX9_isHour := ⟨List.mem_of_getElem? (i := 604) (by decide +kernel), by decide +kernel, by decide +kernel, by decide +kernel, ini_RX9⟩
theorem pd_X9_isHour : (parseMethodDescriptor (mX9_isHour).1.desc).map (fun d => d.parameters.length) = some 1 := by decide +kernel
theorem st_X9_isHour : Cond.static yX9_isHour ∈ lw_tbl := List.mem_of_getElem? (i := 603) (by decide +kernel)
abbrev mX10_within : xK := (yX10_within, cX10_within, 6, (some .boolean), 0, 0)
theorem me_X10_within : xMeth mX10_within := ⟨List.mem_of_getElem? (i := 995) (by decide +kernel), by decide +kernel, by decide +kernel, by decide +kernel, ini_RX10⟩
theorem pd_X10_within : (parseMethodDescriptor (mX10_within).1.desc).map (fun d => d.parameters.length) = some 3 := by decide +kernel
theorem st_X10_within : Cond.static yX10_within ∈ lw_tbl := List.mem_of_getElem? (i := 994) (by decide +kernel)
abbrev mX10_isHut : xK := (yX10_isHut, cX10_isHut, 2, (some .boolean), 1, 25)
theorem me_X10_isHut : xMeth mX10_isHut := ⟨List.mem_of_getElem? (i := 1058) (by decide +kernel), by decide +kernel, by decide +kernel, by decide +kernel, ini_RX10⟩
theorem pd_X10_isHut : (parseMethodDescriptor (mX10_isHut).1.desc).map (fun d => d.parameters.length) = some 1 := by decide +kernel
theorem im_X10_isHut : Cond.instanceMethod yX10_isHut ∈ lw_tbl := List.mem_of_getElem? (i := 1057) (by decide +kernel)
theorem se_X10_isHut : Cond.selects yX10_isHut.cls yX10_isHut yX10_isHut ∈ lw_tbl := List.mem_of_getElem? (i := 34) (by decide +kernel)
abbrev mX10_isParty : xK := (yX10_isParty, cX10_isParty, 2, (some .boolean), 1, 25)
theorem me_X10_isParty : xMeth mX10_isParty := ⟨List.mem_of_getElem? (i := 1013) (by decide +kernel), by decide +kernel, by decide +kernel, by decide +kernel, ini_RX10⟩
theorem pd_X10_isParty : (parseMethodDescriptor (mX10_isParty).1.desc).map (fun d => d.parameters.length) = some 1 := by decide +kernel
theorem im_X10_isParty : Cond.instanceMethod yX10_isParty ∈ lw_tbl := List.mem_of_getElem? (i := 1012) (by decide +kernel)
theorem se_X10_isParty : Cond.selects yX10_isParty.cls yX10_isParty yX10_isParty ∈ lw_tbl := List.mem_of_getElem? (i := 28) (by decide +kernel)
abbrev mX10_isWeek : xK := (yX10_isWeek, cX10_isWeek, 1, (some .boolean), 1, 25)
theorem me_X10_isWeek : xMeth mX10_isWeek := ⟨List.mem_of_getElem? (i := 1003) (by decide +kernel), by decide +kernel, by decide +kernel, by decide +kernel, ini_RX10⟩
theorem pd_X10_isWeek : (parseMethodDescriptor (mX10_isWeek).1.desc).map (fun d => d.parameters.length) = some 1 := by decide +kernel
theorem st_X10_isWeek : Cond.static yX10_isWeek ∈ lw_tbl := List.mem_of_getElem? (i := 1002) (by decide +kernel)
abbrev mX10_hut : xK := (yX10_hut, cX10_hut, 3, (some .int), 1, 25)
theorem me_X10_hut : xMeth mX10_hut := ⟨List.mem_of_getElem? (i := 991) (by decide +kernel), by decide +kernel, by decide +kernel, by decide +kernel, ini_RX10⟩
theorem pd_X10_hut : (parseMethodDescriptor (mX10_hut).1.desc).map (fun d => d.parameters.length) = some 2 := by decide +kernel
theorem im_X10_hut : Cond.instanceMethod yX10_hut ∈ lw_tbl := List.mem_of_getElem? (i := 989) (by decide +kernel)
theorem se_X10_hut : Cond.selects yX10_hut.cls yX10_hut yX10_hut ∈ lw_tbl := List.mem_of_getElem? (i := 990) (by decide +kernel)
abbrev mX10_party : xK := (yX10_party, cX10_party, 6, (some .int), 2, 45)
theorem me_X10_party : xMeth mX10_party := ⟨List.mem_of_getElem? (i := 1000) (by decide +kernel), by decide +kernel, by decide +kernel, by decide +kernel, ini_RX10⟩
theorem pd_X10_party : (parseMethodDescriptor (mX10_party).1.desc).map (fun d => d.parameters.length) = some 5 := by decide +kernel
theorem im_X10_party : Cond.instanceMethod yX10_party ∈ lw_tbl := List.mem_of_getElem? (i := 998) (by decide +kernel)
theorem se_X10_party : Cond.selects yX10_party.cls yX10_party yX10_party ∈ lw_tbl := List.mem_of_getElem? (i := 999) (by decide +kernel)
abbrev mX10_meet : xK := (yX10_meet, cX10_meet, 3, (some .boolean), 0, 0)
theorem me_X10_meet : xMeth mX10_meet := ⟨List.mem_of_getElem? (i := 1018) (by decide +kernel), by decide +kernel, by decide +kernel, by decide +kernel, ini_RX10⟩
theorem pd_X10_meet : (parseMethodDescriptor (mX10_meet).1.desc).map (fun d => d.parameters.length) = some 2 := by decide +kernel
theorem im_X10_meet : Cond.instanceMethod yX10_meet ∈ lw_tbl := List.mem_of_getElem? (i := 1017) (by decide +kernel)
theorem se_X10_meet : Cond.selects yX10_meet.cls yX10_meet yX10_meet ∈ lw_tbl := List.mem_of_getElem? (i := 29) (by decide +kernel)
abbrev mX10_tell : xK := (yX10_tell, cX10_tell, 5, (some .int), 2, 46)
theorem me_X10_tell : xMeth mX10_tell := ⟨List.mem_of_getElem? (i := 1009) (by decide +kernel), by decide +kernel, by decide +kernel, by decide +kernel, ini_RX10⟩
theorem pd_X10_tell : (parseMethodDescriptor (mX10_tell).1.desc).map (fun d => d.parameters.length) = some 3 := by decide +kernel
theorem im_X10_tell : Cond.instanceMethod yX10_tell ∈ lw_tbl := List.mem_of_getElem? (i := 1007) (by decide +kernel)
theorem se_X10_tell : Cond.selects yX10_tell.cls yX10_tell yX10_tell ∈ lw_tbl := List.mem_of_getElem? (i := 1008) (by decide +kernel)
abbrev mX10_isFree : xK := (yX10_isFree, cX10_isFree, 4, (some .boolean), 1, 22)
theorem me_X10_isFree : xMeth mX10_isFree := ⟨List.mem_of_getElem? (i := 1034) (by decide +kernel), by decide +kernel, by decide +kernel, by decide +kernel, ini_RX10⟩
theorem pd_X10_isFree : (parseMethodDescriptor (mX10_isFree).1.desc).map (fun d => d.parameters.length) = some 2 := by decide +kernel
theorem im_X10_isFree : Cond.instanceMethod yX10_isFree ∈ lw_tbl := List.mem_of_getElem? (i := 1033) (by decide +kernel)
theorem se_X10_isFree : Cond.selects yX10_isFree.cls yX10_isFree yX10_isFree ∈ lw_tbl := List.mem_of_getElem? (i := 32) (by decide +kernel)
abbrev mX10_hasTold : xK := (yX10_hasTold, cX10_hasTold, 5, (some .boolean), 1, 22)
theorem me_X10_hasTold : xMeth mX10_hasTold := ⟨List.mem_of_getElem? (i := 1038) (by decide +kernel), by decide +kernel, by decide +kernel, by decide +kernel, ini_RX10⟩
theorem pd_X10_hasTold : (parseMethodDescriptor (mX10_hasTold).1.desc).map (fun d => d.parameters.length) = some 3 := by decide +kernel
theorem im_X10_hasTold : Cond.instanceMethod yX10_hasTold ∈ lw_tbl := List.mem_of_getElem? (i := 1037) (by decide +kernel)
theorem se_X10_hasTold : Cond.selects yX10_hasTold.cls yX10_hasTold yX10_hasTold ∈ lw_tbl := List.mem_of_getElem? (i := 33) (by decide +kernel)
abbrev mX10_mayLodge : xK := (yX10_mayLodge, cX10_mayLodge, 3, (some .boolean), 2, 46)
theorem me_X10_mayLodge : xMeth mX10_mayLodge := ⟨List.mem_of_getElem? (i := 1030) (by decide +kernel), by decide +kernel, by decide +kernel, by decide +kernel, ini_RX10⟩
theorem pd_X10_mayLodge : (parseMethodDescriptor (mX10_mayLodge).1.desc).map (fun d => d.parameters.length) = some 2 := by decide +kernel
theorem im_X10_mayLodge : Cond.instanceMethod yX10_mayLodge ∈ lw_tbl := List.mem_of_getElem? (i := 1029) (by decide +kernel)
theorem se_X10_mayLodge : Cond.selects yX10_mayLodge.cls yX10_mayLodge yX10_mayLodge ∈ lw_tbl := List.mem_of_getElem? (i := 31) (by decide +kernel)
abbrev mX10_dearest : xK := (yX10_dearest, cX10_dearest, 8, (some .int), 3, 68)
theorem me_X10_dearest : xMeth mX10_dearest := ⟨List.mem_of_getElem? (i := 1026) (by decide +kernel), by decide +kernel, by decide +kernel, by decide +kernel, ini_RX10⟩
theorem pd_X10_dearest : (parseMethodDescriptor (mX10_dearest).1.desc).map (fun d => d.parameters.length) = some 2 := by decide +kernel
theorem im_X10_dearest : Cond.instanceMethod yX10_dearest ∈ lw_tbl := List.mem_of_getElem? (i := 1025) (by decide +kernel)
theorem se_X10_dearest : Cond.selects yX10_dearest.cls yX10_dearest yX10_dearest ∈ lw_tbl := List.mem_of_getElem? (i := 30) (by decide +kernel)
abbrev mX10_lodge : xK := (yX10_lodge, cX10_lodge, 6, (some .int), 4, 95)
theorem me_X10_lodge : xMeth mX10_lodge := ⟨List.mem_of_getElem? (i := 1022) (by decide +kernel), by decide +kernel, by decide +kernel, by decide +kernel, ini_RX10⟩
theorem pd_X10_lodge : (parseMethodDescriptor (mX10_lodge).1.desc).map (fun d => d.parameters.length) = some 1 := by decide +kernel
theorem im_X10_lodge : Cond.instanceMethod yX10_lodge ∈ lw_tbl := List.mem_of_getElem? (i := 1020) (by decide +kernel)
theorem se_X10_lodge : Cond.selects yX10_lodge.cls yX10_lodge yX10_lodge ∈ lw_tbl := List.mem_of_getElem? (i := 1021) (by decide +kernel)
abbrev mX10_moved : xK := (yX10_moved, cX10_moved, 1, (some .int), 0, 0)
theorem me_X10_moved : xMeth mX10_moved := ⟨List.mem_of_getElem? (i := 1042) (by decide +kernel), by decide +kernel, by decide +kernel, by decide +kernel, ini_RX10⟩
theorem pd_X10_moved : (parseMethodDescriptor (mX10_moved).1.desc).map (fun d => d.parameters.length) = some 0 := by decide +kernel
theorem im_X10_moved : Cond.instanceMethod yX10_moved ∈ lw_tbl := List.mem_of_getElem? (i := 1040) (by decide +kernel)
theorem se_X10_moved : Cond.selects yX10_moved.cls yX10_moved yX10_moved ∈ lw_tbl := List.mem_of_getElem? (i := 1041) (by decide +kernel)
abbrev mX10_leave : xK := (yX10_leave, cX10_leave, 3, (some .int), 2, 46)
theorem me_X10_leave : xMeth mX10_leave := ⟨List.mem_of_getElem? (i := 1046) (by decide +kernel), by decide +kernel, by decide +kernel, by decide +kernel, ini_RX10⟩
theorem pd_X10_leave : (parseMethodDescriptor (mX10_leave).1.desc).map (fun d => d.parameters.length) = some 1 := by decide +kernel
theorem im_X10_leave : Cond.instanceMethod yX10_leave ∈ lw_tbl := List.mem_of_getElem? (i := 1044) (by decide +kernel)
theorem se_X10_leave : Cond.selects yX10_leave.cls yX10_leave yX10_leave ∈ lw_tbl := List.mem_of_getElem? (i := 1045) (by decide +kernel)
abbrev mX10_about : xK := (yX10_about, cX10_about, 3, (some .int), 2, 46)
theorem me_X10_about : xMeth mX10_about := ⟨List.mem_of_getElem? (i := 1050) (by decide +kernel), by decide +kernel, by decide +kernel, by decide +kernel, ini_RX10⟩
theorem pd_X10_about : (parseMethodDescriptor (mX10_about).1.desc).map (fun d => d.parameters.length) = some 2 := by decide +kernel
theorem im_X10_about : Cond.instanceMethod yX10_about ∈ lw_tbl := List.mem_of_getElem? (i := 1048) (by decide +kernel)
theorem se_X10_about : Cond.selects yX10_about.cls yX10_about yX10_about ∈ lw_tbl := List.mem_of_getElem? (i := 1049) (by decide +kernel)
abbrev mX10_isThere : xK := (yX10_isThere, cX10_isThere, 3, (some .boolean), 1, 25)
theorem me_X10_isThere : xMeth mX10_isThere := ⟨List.mem_of_getElem? (i := 1066) (by decide +kernel), by decide +kernel, by decide +kernel, by decide +kernel, ini_RX10⟩
theorem pd_X10_isThere : (parseMethodDescriptor (mX10_isThere).1.desc).map (fun d => d.parameters.length) = some 2 := by decide +kernel
theorem im_X10_isThere : Cond.instanceMethod yX10_isThere ∈ lw_tbl := List.mem_of_getElem? (i := 1065) (by decide +kernel)
theorem se_X10_isThere : Cond.selects yX10_isThere.cls yX10_isThere yX10_isThere ∈ lw_tbl := List.mem_of_getElem? (i := 36) (by decide +kernel)
abbrev mX10_who : xK := (yX10_who, cX10_who, 4, (some .int), 2, 47)
theorem me_X10_who : xMeth mX10_who := ⟨List.mem_of_getElem? (i := 1062) (by decide +kernel), by decide +kernel, by decide +kernel, by decide +kernel, ini_RX10⟩
theorem pd_X10_who : (parseMethodDescriptor (mX10_who).1.desc).map (fun d => d.parameters.length) = some 2 := by decide +kernel
theorem im_X10_who : Cond.instanceMethod yX10_who ∈ lw_tbl := List.mem_of_getElem? (i := 1061) (by decide +kernel)
theorem se_X10_who : Cond.selects yX10_who.cls yX10_who yX10_who ∈ lw_tbl := List.mem_of_getElem? (i := 35) (by decide +kernel)
abbrev mX10_in : xK := (yX10_in, cX10_in, 3, (some .int), 3, 70)
theorem me_X10_in : xMeth mX10_in := ⟨List.mem_of_getElem? (i := 1054) (by decide +kernel), by decide +kernel, by decide +kernel, by decide +kernel, ini_RX10⟩
theorem pd_X10_in : (parseMethodDescriptor (mX10_in).1.desc).map (fun d => d.parameters.length) = some 2 := by decide +kernel
theorem im_X10_in : Cond.instanceMethod yX10_in ∈ lw_tbl := List.mem_of_getElem? (i := 1052) (by decide +kernel)
theorem se_X10_in : Cond.selects yX10_in.cls yX10_in yX10_in ∈ lw_tbl := List.mem_of_getElem? (i := 1053) (by decide +kernel)
abbrev mX10_empty : xK := (yX10_empty, cX10_empty, 4, (some .int), 3, 70)
theorem me_X10_empty : xMeth mX10_empty := ⟨List.mem_of_getElem? (i := 1070) (by decide +kernel), by decide +kernel, by decide +kernel, by decide +kernel, ini_RX10⟩
theorem pd_X10_empty : (parseMethodDescriptor (mX10_empty).1.desc).map (fun d => d.parameters.length) = some 1 := by decide +kernel
theorem im_X10_empty : Cond.instanceMethod yX10_empty ∈ lw_tbl := List.mem_of_getElem? (i := 1068) (by decide +kernel)
theorem se_X10_empty : Cond.selects yX10_empty.cls yX10_empty yX10_empty ∈ lw_tbl := List.mem_of_getElem? (i := 1069) (by decide +kernel)
abbrev mX10_seats : xK := (yX10_seats, cX10_seats, 3, (some .int), 1, 25)
theorem me_X10_seats : xMeth mX10_seats := ⟨List.mem_of_getElem? (i := 1074) (by decide +kernel), by decide +kernel, by decide +kernel, by decide +kernel, ini_RX10⟩
theorem pd_X10_seats : (parseMethodDescriptor (mX10_seats).1.desc).map (fun d => d.parameters.length) = some 2 := by decide +kernel
theorem im_X10_seats : Cond.instanceMethod yX10_seats ∈ lw_tbl := List.mem_of_getElem? (i := 1072) (by decide +kernel)
theorem se_X10_seats : Cond.selects yX10_seats.cls yX10_seats yX10_seats ∈ lw_tbl := List.mem_of_getElem? (i := 1073) (by decide +kernel)
abbrev mX10_findUnits : xK := (yX10_findUnits, cX10_findUnits, 4, none, 2, 47)
theorem me_X10_findUnits : xMeth mX10_findUnits := ⟨List.mem_of_getElem? (i := 1087) (by decide +kernel), by decide +kernel, by decide +kernel, by decide +kernel, ini_RX10⟩
theorem pd_X10_findUnits : (parseMethodDescriptor (mX10_findUnits).1.desc).map (fun d => d.parameters.length) = some 1 := by decide +kernel
theorem im_X10_findUnits : Cond.instanceMethod yX10_findUnits ∈ lw_tbl := List.mem_of_getElem? (i := 1086) (by decide +kernel)
theorem se_X10_findUnits : Cond.selects yX10_findUnits.cls yX10_findUnits yX10_findUnits ∈ lw_tbl := List.mem_of_getElem? (i := 38) (by decide +kernel)
abbrev mX10_findSittings : xK := (yX10_findSittings, cX10_findSittings, 13, (some .int), 3, 70)
theorem me_X10_findSittings : xMeth mX10_findSittings := ⟨List.mem_of_getElem? (i := 1083) (by decide +kernel), by decide +kernel, by decide +kernel, by decide +kernel, ini_RX10⟩
theorem pd_X10_findSittings : (parseMethodDescriptor (mX10_findSittings).1.desc).map (fun d => d.parameters.length) = some 1 := by decide +kernel
theorem im_X10_findSittings : Cond.instanceMethod yX10_findSittings ∈ lw_tbl := List.mem_of_getElem? (i := 1082) (by decide +kernel)
theorem se_X10_findSittings : Cond.selects yX10_findSittings.cls yX10_findSittings yX10_findSittings ∈ lw_tbl := List.mem_of_getElem? (i := 37) (by decide +kernel)
abbrev mX10_apart : xK := (yX10_apart, cX10_apart, 2, (some .int), 4, 102)
theorem me_X10_apart : xMeth mX10_apart := ⟨List.mem_of_getElem? (i := 1079) (by decide +kernel), by decide +kernel, by decide +kernel, by decide +kernel, ini_RX10⟩
theorem pd_X10_apart : (parseMethodDescriptor (mX10_apart).1.desc).map (fun d => d.parameters.length) = some 1 := by decide +kernel
theorem im_X10_apart : Cond.instanceMethod yX10_apart ∈ lw_tbl := List.mem_of_getElem? (i := 1077) (by decide +kernel)
theorem se_X10_apart : Cond.selects yX10_apart.cls yX10_apart yX10_apart ∈ lw_tbl := List.mem_of_getElem? (i := 1078) (by decide +kernel)
abbrev mX10_sits : xK := (yX10_sits, cX10_sits, 3, (some .int), 4, 102)
theorem me_X10_sits : xMeth mX10_sits := ⟨List.mem_of_getElem? (i := 1091) (by decide +kernel), by decide +kernel, by decide +kernel, by decide +kernel, ini_RX10⟩
theorem pd_X10_sits : (parseMethodDescriptor (mX10_sits).1.desc).map (fun d => d.parameters.length) = some 2 := by decide +kernel
theorem im_X10_sits : Cond.instanceMethod yX10_sits ∈ lw_tbl := List.mem_of_getElem? (i := 1089) (by decide +kernel)
theorem se_X10_sits : Cond.selects yX10_sits.cls yX10_sits yX10_sits ∈ lw_tbl := List.mem_of_getElem? (i := 1090) (by decide +kernel)
abbrev mX10_more : xK := (yX10_more, cX10_more, 3, (some .int), 1, 25)
theorem me_X10_more : xMeth mX10_more := ⟨List.mem_of_getElem? (i := 1095) (by decide +kernel), by decide +kernel, by decide +kernel, by decide +kernel, ini_RX10⟩
theorem pd_X10_more : (parseMethodDescriptor (mX10_more).1.desc).map (fun d => d.parameters.length) = some 1 := by decide +kernel
theorem im_X10_more : Cond.instanceMethod yX10_more ∈ lw_tbl := List.mem_of_getElem? (i := 1093) (by decide +kernel)
theorem se_X10_more : Cond.selects yX10_more.cls yX10_more yX10_more ∈ lw_tbl := List.mem_of_getElem? (i := 1094) (by decide +kernel)
abbrev mX10_dinners : xK := (yX10_dinners, cX10_dinners, 6, (some .int), 4, 102)
theorem me_X10_dinners : xMeth mX10_dinners := ⟨List.mem_of_getElem? (i := 1104) (by decide +kernel), by decide +kernel, by decide +kernel, by decide +kernel, ini_RX10⟩
theorem pd_X10_dinners : (parseMethodDescriptor (mX10_dinners).1.desc).map (fun d => d.parameters.length) = some 2 := by decide +kernel
theorem im_X10_dinners : Cond.instanceMethod yX10_dinners ∈ lw_tbl := List.mem_of_getElem? (i := 1103) (by decide +kernel)
theorem se_X10_dinners : Cond.selects yX10_dinners.cls yX10_dinners yX10_dinners ∈ lw_tbl := List.mem_of_getElem? (i := 39) (by decide +kernel)
abbrev mX10_foretell : xK := (yX10_foretell, cX10_foretell, 3, (some .int), 5, 127)
theorem me_X10_foretell : xMeth mX10_foretell := ⟨List.mem_of_getElem? (i := 1100) (by decide +kernel), by decide +kernel, by decide +kernel, by decide +kernel, ini_RX10⟩
theorem pd_X10_foretell : (parseMethodDescriptor (mX10_foretell).1.desc).map (fun d => d.parameters.length) = some 2 := by decide +kernel
theorem im_X10_foretell : Cond.instanceMethod yX10_foretell ∈ lw_tbl := List.mem_of_getElem? (i := 1098) (by decide +kernel)
theorem se_X10_foretell : Cond.selects yX10_foretell.cls yX10_foretell yX10_foretell ∈ lw_tbl := List.mem_of_getElem? (i := 1099) (by decide +kernel)
abbrev mX10_cook : xK := (yX10_cook, cX10_cook, 6, (some .int), 5, 127)
theorem me_X10_cook : xMeth mX10_cook := ⟨List.mem_of_getElem? (i := 1108) (by decide +kernel), by decide +kernel, by decide +kernel, by decide +kernel, ini_RX10⟩
theorem pd_X10_cook : (parseMethodDescriptor (mX10_cook).1.desc).map (fun d => d.parameters.length) = some 3 := by decide +kernel
theorem im_X10_cook : Cond.instanceMethod yX10_cook ∈ lw_tbl := List.mem_of_getElem? (i := 1106) (by decide +kernel)
theorem se_X10_cook : Cond.selects yX10_cook.cls yX10_cook yX10_cook ∈ lw_tbl := List.mem_of_getElem? (i := 1107) (by decide +kernel)
abbrev mX10_line : xK := (yX10_line, cX10_line, 3, (some .int), 1, 25)
theorem me_X10_line : xMeth mX10_line := ⟨List.mem_of_getElem? (i := 1113) (by decide +kernel), by decide +kernel, by decide +kernel, by decide +kernel, ini_RX10⟩
theorem pd_X10_line : (parseMethodDescriptor (mX10_line).1.desc).map (fun d => d.parameters.length) = some 2 := by decide +kernel
theorem im_X10_line : Cond.instanceMethod yX10_line ∈ lw_tbl := List.mem_of_getElem? (i := 1111) (by decide +kernel)
theorem se_X10_line : Cond.selects yX10_line.cls yX10_line yX10_line ∈ lw_tbl := List.mem_of_getElem? (i := 1112) (by decide +kernel)
abbrev mX10_hall : xK := (yX10_hall, cX10_hall, 4, (some .int), 1, 25)
theorem me_X10_hall : xMeth mX10_hall := ⟨List.mem_of_getElem? (i := 1118) (by decide +kernel), by decide +kernel, by decide +kernel, by decide +kernel, ini_RX10⟩
theorem pd_X10_hall : (parseMethodDescriptor (mX10_hall).1.desc).map (fun d => d.parameters.length) = some 2 := by decide +kernel
theorem im_X10_hall : Cond.instanceMethod yX10_hall ∈ lw_tbl := List.mem_of_getElem? (i := 1116) (by decide +kernel)
theorem se_X10_hall : Cond.selects yX10_hall.cls yX10_hall yX10_hall ∈ lw_tbl := List.mem_of_getElem? (i := 1117) (by decide +kernel)
abbrev mX10_show : xK := (yX10_show, cX10_show, 4, (some .int), 1, 25)
theorem me_X10_show : xMeth mX10_show := ⟨List.mem_of_getElem? (i := 1122) (by decide +kernel), by decide +kernel, by decide +kernel, by decide +kernel, ini_RX10⟩
theorem pd_X10_show : (parseMethodDescriptor (mX10_show).1.desc).map (fun d => d.parameters.length) = some 3 := by decide +kernel
theorem im_X10_show : Cond.instanceMethod yX10_show ∈ lw_tbl := List.mem_of_getElem? (i := 1120) (by decide +kernel)
theorem se_X10_show : Cond.selects yX10_show.cls yX10_show yX10_show ∈ lw_tbl := List.mem_of_getElem? (i := 1121) (by decide +kernel)
abbrev mX10_wish : xK := (yX10_wish, cX10_wish, 4, (some .int), 2, 46)
theorem me_X10_wish : xMeth mX10_wish := ⟨List.mem_of_getElem? (i := 1127) (by decide +kernel), by decide +kernel, by decide +kernel, by decide +kernel, ini_RX10⟩
theorem pd_X10_wish : (parseMethodDescriptor (mX10_wish).1.desc).map (fun d => d.parameters.length) = some 2 := by decide +kernel
theorem im_X10_wish : Cond.instanceMethod yX10_wish ∈ lw_tbl := List.mem_of_getElem? (i := 1125) (by decide +kernel)
theorem se_X10_wish : Cond.selects yX10_wish.cls yX10_wish yX10_wish ∈ lw_tbl := List.mem_of_getElem? (i := 1126) (by decide +kernel)
abbrev mX10_isWet : xK := (yX10_isWet, cX10_isWet, 4, (some .boolean), 0, 0)
theorem me_X10_isWet : xMeth mX10_isWet := ⟨List.mem_of_getElem? (i := 1135) (by decide +kernel), by decide +kernel, by decide +kernel, by decide +kernel, ini_RX10⟩
theorem pd_X10_isWet : (parseMethodDescriptor (mX10_isWet).1.desc).map (fun d => d.parameters.length) = some 1 := by decide +kernel
theorem im_X10_isWet : Cond.instanceMethod yX10_isWet ∈ lw_tbl := List.mem_of_getElem? (i := 1134) (by decide +kernel)
theorem se_X10_isWet : Cond.selects yX10_isWet.cls yX10_isWet yX10_isWet ∈ lw_tbl := List.mem_of_getElem? (i := 40) (by decide +kernel)
abbrev mX10_wet : xK := (yX10_wet, cX10_wet, 2, (some .int), 1, 25)
theorem me_X10_wet : xMeth mX10_wet := ⟨List.mem_of_getElem? (i := 1131) (by decide +kernel), by decide +kernel, by decide +kernel, by decide +kernel, ini_RX10⟩
theorem pd_X10_wet : (parseMethodDescriptor (mX10_wet).1.desc).map (fun d => d.parameters.length) = some 1 := by decide +kernel
theorem im_X10_wet : Cond.instanceMethod yX10_wet ∈ lw_tbl := List.mem_of_getElem? (i := 1129) (by decide +kernel)
theorem se_X10_wet : Cond.selects yX10_wet.cls yX10_wet yX10_wet ∈ lw_tbl := List.mem_of_getElem? (i := 1130) (by decide +kernel)
abbrev mX10_placeOf : xK := (yX10_placeOf, cX10_placeOf, 2, (some .int), 1, 23)
theorem me_X10_placeOf : xMeth mX10_placeOf := ⟨List.mem_of_getElem? (i := 1143) (by decide +kernel), by decide +kernel, by decide +kernel, by decide +kernel, ini_RX10⟩
theorem pd_X10_placeOf : (parseMethodDescriptor (mX10_placeOf).1.desc).map (fun d => d.parameters.length) = some 1 := by decide +kernel
theorem im_X10_placeOf : Cond.instanceMethod yX10_placeOf ∈ lw_tbl := List.mem_of_getElem? (i := 1142) (by decide +kernel)
theorem se_X10_placeOf : Cond.selects yX10_placeOf.cls yX10_placeOf yX10_placeOf ∈ lw_tbl := List.mem_of_getElem? (i := 41) (by decide +kernel)
abbrev mX10_where : xK := (yX10_where, cX10_where, 2, (some .int), 2, 44)
theorem me_X10_where : xMeth mX10_where := ⟨List.mem_of_getElem? (i := 1139) (by decide +kernel), by decide +kernel, by decide +kernel, by decide +kernel, ini_RX10⟩
theorem pd_X10_where : (parseMethodDescriptor (mX10_where).1.desc).map (fun d => d.parameters.length) = some 1 := by decide +kernel
theorem im_X10_where : Cond.instanceMethod yX10_where ∈ lw_tbl := List.mem_of_getElem? (i := 1137) (by decide +kernel)
theorem se_X10_where : Cond.selects yX10_where.cls yX10_where yX10_where ∈ lw_tbl := List.mem_of_getElem? (i := 1138) (by decide +kernel)
abbrev mX10_findCrowds : xK := (yX10_findCrowds, cX10_findCrowds, 7, none, 2, 47)
theorem me_X10_findCrowds : xMeth mX10_findCrowds := ⟨List.mem_of_getElem? (i := 1151) (by decide +kernel), by decide +kernel, by decide +kernel, by decide +kernel, ini_RX10⟩
theorem pd_X10_findCrowds : (parseMethodDescriptor (mX10_findCrowds).1.desc).map (fun d => d.parameters.length) = some 2 := by decide +kernel
theorem im_X10_findCrowds : Cond.instanceMethod yX10_findCrowds ∈ lw_tbl := List.mem_of_getElem? (i := 1150) (by decide +kernel)
theorem se_X10_findCrowds : Cond.selects yX10_findCrowds.cls yX10_findCrowds yX10_findCrowds ∈ lw_tbl := List.mem_of_getElem? (i := 42) (by decide +kernel)
abbrev mX10_goes : xK := (yX10_goes, cX10_goes, 4, (some .int), 3, 73)
theorem me_X10_goes : xMeth mX10_goes := ⟨List.mem_of_getElem? (i := 1147) (by decide +kernel), by decide +kernel, by decide +kernel, by decide +kernel, ini_RX10⟩
theorem pd_X10_goes : (parseMethodDescriptor (mX10_goes).1.desc).map (fun d => d.parameters.length) = some 3 := by decide +kernel
theorem im_X10_goes : Cond.instanceMethod yX10_goes ∈ lw_tbl := List.mem_of_getElem? (i := 1145) (by decide +kernel)
theorem se_X10_goes : Cond.selects yX10_goes.cls yX10_goes yX10_goes ∈ lw_tbl := List.mem_of_getElem? (i := 1146) (by decide +kernel)
abbrev mX10_turned : xK := (yX10_turned, cX10_turned, 4, (some .int), 3, 73)
theorem me_X10_turned : xMeth mX10_turned := ⟨List.mem_of_getElem? (i := 1155) (by decide +kernel), by decide +kernel, by decide +kernel, by decide +kernel, ini_RX10⟩
theorem pd_X10_turned : (parseMethodDescriptor (mX10_turned).1.desc).map (fun d => d.parameters.length) = some 3 := by decide +kernel
theorem im_X10_turned : Cond.instanceMethod yX10_turned ∈ lw_tbl := List.mem_of_getElem? (i := 1153) (by decide +kernel)
theorem se_X10_turned : Cond.selects yX10_turned.cls yX10_turned yX10_turned ∈ lw_tbl := List.mem_of_getElem? (i := 1154) (by decide +kernel)
abbrev mX10_crowd : xK := (yX10_crowd, cX10_crowd, 5, (some .int), 3, 73)
theorem me_X10_crowd : xMeth mX10_crowd := ⟨List.mem_of_getElem? (i := 1159) (by decide +kernel), by decide +kernel, by decide +kernel, by decide +kernel, ini_RX10⟩
theorem pd_X10_crowd : (parseMethodDescriptor (mX10_crowd).1.desc).map (fun d => d.parameters.length) = some 2 := by decide +kernel
theorem im_X10_crowd : Cond.instanceMethod yX10_crowd ∈ lw_tbl := List.mem_of_getElem? (i := 1157) (by decide +kernel)
theorem se_X10_crowd : Cond.selects yX10_crowd.cls yX10_crowd yX10_crowd ∈ lw_tbl := List.mem_of_getElem? (i := 1158) (by decide +kernel)
abbrev mX10_manyIn : xK := (yX10_manyIn, cX10_manyIn, 4, (some .int), 0, 0)
theorem me_X10_manyIn : xMeth mX10_manyIn := ⟨List.mem_of_getElem? (i := 1170) (by decide +kernel), by decide +kernel, by decide +kernel, by decide +kernel, ini_RX10⟩
theorem pd_X10_manyIn : (parseMethodDescriptor (mX10_manyIn).1.desc).map (fun d => d.parameters.length) = some 1 := by decide +kernel
theorem im_X10_manyIn : Cond.instanceMethod yX10_manyIn ∈ lw_tbl := List.mem_of_getElem? (i := 1169) (by decide +kernel)
theorem se_X10_manyIn : Cond.selects yX10_manyIn.cls yX10_manyIn yX10_manyIn ∈ lw_tbl := List.mem_of_getElem? (i := 43) (by decide +kernel)
abbrev mX10_group : xK := (yX10_group, cX10_group, 6, (some .int), 1, 25)
theorem me_X10_group : xMeth mX10_group := ⟨List.mem_of_getElem? (i := 1163) (by decide +kernel), by decide +kernel, by decide +kernel, by decide +kernel, ini_RX10⟩
theorem pd_X10_group : (parseMethodDescriptor (mX10_group).1.desc).map (fun d => d.parameters.length) = some 4 := by decide +kernel
theorem im_X10_group : Cond.instanceMethod yX10_group ∈ lw_tbl := List.mem_of_getElem? (i := 1161) (by decide +kernel)
theorem se_X10_group : Cond.selects yX10_group.cls yX10_group yX10_group ∈ lw_tbl := List.mem_of_getElem? (i := 1162) (by decide +kernel)
abbrev mX10_isChild : xK := (yX10_isChild, cX10_isChild, 2, (some .boolean), 1, 25)
theorem me_X10_isChild : xMeth mX10_isChild := ⟨List.mem_of_getElem? (i := 1182) (by decide +kernel), by decide +kernel, by decide +kernel, by decide +kernel, ini_RX10⟩
theorem pd_X10_isChild : (parseMethodDescriptor (mX10_isChild).1.desc).map (fun d => d.parameters.length) = some 1 := by decide +kernel
theorem im_X10_isChild : Cond.instanceMethod yX10_isChild ∈ lw_tbl := List.mem_of_getElem? (i := 1181) (by decide +kernel)
theorem se_X10_isChild : Cond.selects yX10_isChild.cls yX10_isChild yX10_isChild ∈ lw_tbl := List.mem_of_getElem? (i := 44) (by decide +kernel)
abbrev mX10_child : xK := (yX10_child, cX10_child, 5, (some .int), 2, 46)
theorem me_X10_child : xMeth mX10_child := ⟨List.mem_of_getElem? (i := 1174) (by decide +kernel), by decide +kernel, by decide +kernel, by decide +kernel, ini_RX10⟩
theorem pd_X10_child : (parseMethodDescriptor (mX10_child).1.desc).map (fun d => d.parameters.length) = some 2 := by decide +kernel
theorem im_X10_child : Cond.instanceMethod yX10_child ∈ lw_tbl := List.mem_of_getElem? (i := 1172) (by decide +kernel)
theorem se_X10_child : Cond.selects yX10_child.cls yX10_child yX10_child ∈ lw_tbl := List.mem_of_getElem? (i := 1173) (by decide +kernel)
abbrev mX10_hand : xK := (yX10_hand, cX10_hand, 4, (some .int), 2, 46)
theorem me_X10_hand : xMeth mX10_hand := ⟨List.mem_of_getElem? (i := 1178) (by decide +kernel), by decide +kernel, by decide +kernel, by decide +kernel, ini_RX10⟩
theorem pd_X10_hand : (parseMethodDescriptor (mX10_hand).1.desc).map (fun d => d.parameters.length) = some 1 := by decide +kernel
theorem im_X10_hand : Cond.instanceMethod yX10_hand ∈ lw_tbl := List.mem_of_getElem? (i := 1176) (by decide +kernel)
theorem se_X10_hand : Cond.selects yX10_hand.cls yX10_hand yX10_hand ∈ lw_tbl := List.mem_of_getElem? (i := 1177) (by decide +kernel)
abbrev mX10_fetch : xK := (yX10_fetch, cX10_fetch, 3, (some .int), 2, 46)
theorem me_X10_fetch : xMeth mX10_fetch := ⟨List.mem_of_getElem? (i := 1186) (by decide +kernel), by decide +kernel, by decide +kernel, by decide +kernel, ini_RX10⟩
theorem pd_X10_fetch : (parseMethodDescriptor (mX10_fetch).1.desc).map (fun d => d.parameters.length) = some 2 := by decide +kernel
theorem im_X10_fetch : Cond.instanceMethod yX10_fetch ∈ lw_tbl := List.mem_of_getElem? (i := 1184) (by decide +kernel)
theorem se_X10_fetch : Cond.selects yX10_fetch.cls yX10_fetch yX10_fetch ∈ lw_tbl := List.mem_of_getElem? (i := 1185) (by decide +kernel)
abbrev mX10_with : xK := (yX10_with, cX10_with, 2, (some .int), 2, 46)
theorem me_X10_with : xMeth mX10_with := ⟨List.mem_of_getElem? (i := 1190) (by decide +kernel), by decide +kernel, by decide +kernel, by decide +kernel, ini_RX10⟩
theorem pd_X10_with : (parseMethodDescriptor (mX10_with).1.desc).map (fun d => d.parameters.length) = some 1 := by decide +kernel
theorem im_X10_with : Cond.instanceMethod yX10_with ∈ lw_tbl := List.mem_of_getElem? (i := 1188) (by decide +kernel)
theorem se_X10_with : Cond.selects yX10_with.cls yX10_with yX10_with ∈ lw_tbl := List.mem_of_getElem? (i := 1189) (by decide +kernel)
abbrev mX10_list : xK := (yX10_list, cX10_list, 4, (some .int), 1, 25)
theorem me_X10_list : xMeth mX10_list := ⟨List.mem_of_getElem? (i := 1194) (by decide +kernel), by decide +kernel, by decide +kernel, by decide +kernel, ini_RX10⟩
theorem pd_X10_list : (parseMethodDescriptor (mX10_list).1.desc).map (fun d => d.parameters.length) = some 3 := by decide +kernel
theorem im_X10_list : Cond.instanceMethod yX10_list ∈ lw_tbl := List.mem_of_getElem? (i := 1192) (by decide +kernel)
theorem se_X10_list : Cond.selects yX10_list.cls yX10_list yX10_list ∈ lw_tbl := List.mem_of_getElem? (i := 1193) (by decide +kernel)
abbrev mX10_pays : xK := (yX10_pays, cX10_pays, 7, (some .int), 1, 25)
theorem me_X10_pays : xMeth mX10_pays := ⟨List.mem_of_getElem? (i := 1201) (by decide +kernel), by decide +kernel, by decide +kernel, by decide +kernel, ini_RX10⟩
theorem pd_X10_pays : (parseMethodDescriptor (mX10_pays).1.desc).map (fun d => d.parameters.length) = some 2 := by decide +kernel
theorem im_X10_pays : Cond.instanceMethod yX10_pays ∈ lw_tbl := List.mem_of_getElem? (i := 1199) (by decide +kernel)
theorem se_X10_pays : Cond.selects yX10_pays.cls yX10_pays yX10_pays ∈ lw_tbl := List.mem_of_getElem? (i := 1200) (by decide +kernel)
abbrev mX10_met : xK := (yX10_met, cX10_met, 2, (some .int), 0, 0)
theorem me_X10_met : xMeth mX10_met := ⟨List.mem_of_getElem? (i := 1212) (by decide +kernel), by decide +kernel, by decide +kernel, by decide +kernel, ini_RX10⟩
theorem pd_X10_met : (parseMethodDescriptor (mX10_met).1.desc).map (fun d => d.parameters.length) = some 1 := by decide +kernel
theorem im_X10_met : Cond.instanceMethod yX10_met ∈ lw_tbl := List.mem_of_getElem? (i := 1211) (by decide +kernel)
theorem se_X10_met : Cond.selects yX10_met.cls yX10_met yX10_met ∈ lw_tbl := List.mem_of_getElem? (i := 45) (by decide +kernel)
abbrev mX10_isSheet : xK := (yX10_isSheet, cX10_isSheet, 1, (some .boolean), 1, 25)
theorem me_X10_isSheet : xMeth mX10_isSheet := ⟨List.mem_of_getElem? (i := 1208) (by decide +kernel), by decide +kernel, by decide +kernel, by decide +kernel, ini_RX10⟩
theorem pd_X10_isSheet : (parseMethodDescriptor (mX10_isSheet).1.desc).map (fun d => d.parameters.length) = some 1 := by decide +kernel
theorem st_X10_isSheet : Cond.static yX10_isSheet ∈ lw_tbl := List.mem_of_getElem? (i := 1207) (by decide +kernel)
abbrev mX10_sheet : xK := (yX10_sheet, cX10_sheet, 5, (some .int), 2, 45)
theorem me_X10_sheet : xMeth mX10_sheet := ⟨List.mem_of_getElem? (i := 1205) (by decide +kernel), by decide +kernel, by decide +kernel, by decide +kernel, ini_RX10⟩
theorem pd_X10_sheet : (parseMethodDescriptor (mX10_sheet).1.desc).map (fun d => d.parameters.length) = some 3 := by decide +kernel
theorem im_X10_sheet : Cond.instanceMethod yX10_sheet ∈ lw_tbl := List.mem_of_getElem? (i := 1203) (by decide +kernel)
theorem se_X10_sheet : Cond.selects yX10_sheet.cls yX10_sheet yX10_sheet ∈ lw_tbl := List.mem_of_getElem? (i := 1204) (by decide +kernel)
abbrev mX10_lose : xK := (yX10_lose, cX10_lose, 2, (some .int), 2, 45)
theorem me_X10_lose : xMeth mX10_lose := ⟨List.mem_of_getElem? (i := 1216) (by decide +kernel), by decide +kernel, by decide +kernel, by decide +kernel, ini_RX10⟩
theorem pd_X10_lose : (parseMethodDescriptor (mX10_lose).1.desc).map (fun d => d.parameters.length) = some 1 := by decide +kernel
theorem im_X10_lose : Cond.instanceMethod yX10_lose ∈ lw_tbl := List.mem_of_getElem? (i := 1214) (by decide +kernel)
theorem se_X10_lose : Cond.selects yX10_lose.cls yX10_lose yX10_lose ∈ lw_tbl := List.mem_of_getElem? (i := 1215) (by decide +kernel)
abbrev mX10_lacks : xK := (yX10_lacks, cX10_lacks, 4, (some .int), 1, 25)
theorem me_X10_lacks : xMeth mX10_lacks := ⟨List.mem_of_getElem? (i := 1224) (by decide +kernel), by decide +kernel, by decide +kernel, by decide +kernel, ini_RX10⟩
theorem pd_X10_lacks : (parseMethodDescriptor (mX10_lacks).1.desc).map (fun d => d.parameters.length) = some 3 := by decide +kernel
theorem im_X10_lacks : Cond.instanceMethod yX10_lacks ∈ lw_tbl := List.mem_of_getElem? (i := 1223) (by decide +kernel)
theorem se_X10_lacks : Cond.selects yX10_lacks.cls yX10_lacks yX10_lacks ∈ lw_tbl := List.mem_of_getElem? (i := 46) (by decide +kernel)
abbrev mX10_put : xK := (yX10_put, cX10_put, 6, (some .int), 2, 48)
theorem me_X10_put : xMeth mX10_put := ⟨List.mem_of_getElem? (i := 1220) (by decide +kernel), by decide +kernel, by decide +kernel, by decide +kernel, ini_RX10⟩
theorem pd_X10_put : (parseMethodDescriptor (mX10_put).1.desc).map (fun d => d.parameters.length) = some 4 := by decide +kernel
theorem im_X10_put : Cond.instanceMethod yX10_put ∈ lw_tbl := List.mem_of_getElem? (i := 1218) (by decide +kernel)
theorem se_X10_put : Cond.selects yX10_put.cls yX10_put yX10_put ∈ lw_tbl := List.mem_of_getElem? (i := 1219) (by decide +kernel)
abbrev mX10_get : xK := (yX10_get, cX10_get, 4, (some .int), 2, 48)
theorem me_X10_get : xMeth mX10_get := ⟨List.mem_of_getElem? (i := 1228) (by decide +kernel), by decide +kernel, by decide +kernel, by decide +kernel, ini_RX10⟩
theorem pd_X10_get : (parseMethodDescriptor (mX10_get).1.desc).map (fun d => d.parameters.length) = some 3 := by decide +kernel
theorem im_X10_get : Cond.instanceMethod yX10_get ∈ lw_tbl := List.mem_of_getElem? (i := 1226) (by decide +kernel)
theorem se_X10_get : Cond.selects yX10_get.cls yX10_get yX10_get ∈ lw_tbl := List.mem_of_getElem? (i := 1227) (by decide +kernel)
abbrev mX10_copy : xK := (yX10_copy, cX10_copy, 7, (some .int), 2, 45)
theorem me_X10_copy : xMeth mX10_copy := ⟨List.mem_of_getElem? (i := 1233) (by decide +kernel), by decide +kernel, by decide +kernel, by decide +kernel, ini_RX10⟩
theorem pd_X10_copy : (parseMethodDescriptor (mX10_copy).1.desc).map (fun d => d.parameters.length) = some 5 := by decide +kernel
theorem im_X10_copy : Cond.instanceMethod yX10_copy ∈ lw_tbl := List.mem_of_getElem? (i := 1231) (by decide +kernel)
theorem se_X10_copy : Cond.selects yX10_copy.cls yX10_copy yX10_copy ∈ lw_tbl := List.mem_of_getElem? (i := 1232) (by decide +kernel)
abbrev mX10_count : xK := (yX10_count, cX10_count, 4, (some .int), 0, 0)
theorem me_X10_count : xMeth mX10_count := ⟨List.mem_of_getElem? (i := 1237) (by decide +kernel), by decide +kernel, by decide +kernel, by decide +kernel, ini_RX10⟩
theorem pd_X10_count : (parseMethodDescriptor (mX10_count).1.desc).map (fun d => d.parameters.length) = some 1 := by decide +kernel
theorem im_X10_count : Cond.instanceMethod yX10_count ∈ lw_tbl := List.mem_of_getElem? (i := 1235) (by decide +kernel)
theorem se_X10_count : Cond.selects yX10_count.cls yX10_count yX10_count ∈ lw_tbl := List.mem_of_getElem? (i := 1236) (by decide +kernel)
abbrev mX10_digest : xK := (yX10_digest, cX10_digest, 4, (some .long), 5, 123)
theorem me_X10_digest : xMeth mX10_digest := ⟨List.mem_of_getElem? (i := 1241) (by decide +kernel), by decide +kernel, by decide +kernel, by decide +kernel, ini_RX10⟩
theorem pd_X10_digest : (parseMethodDescriptor (mX10_digest).1.desc).map (fun d => d.parameters.length) = some 0 := by decide +kernel
theorem im_X10_digest : Cond.instanceMethod yX10_digest ∈ lw_tbl := List.mem_of_getElem? (i := 1239) (by decide +kernel)
theorem se_X10_digest : Cond.selects yX10_digest.cls yX10_digest yX10_digest ∈ lw_tbl := List.mem_of_getElem? (i := 1240) (by decide +kernel)
abbrev mJ7_rangeCheck_23922 : xK := (yJ7_rangeCheck_23922, cJ7_rangeCheck_23922, 3, none, 0, 0)
theorem me_J7_rangeCheck_23922 : xMeth mJ7_rangeCheck_23922 := ⟨List.mem_of_getElem? (i := 776) (by decide +kernel), by decide +kernel, by decide +kernel, by decide +kernel, ini_RJ7⟩
theorem pd_J7_rangeCheck_23922 : (parseMethodDescriptor (mJ7_rangeCheck_23922).1.desc).map (fun d => d.parameters.length) = some 3 := by decide +kernel
theorem st_J7_rangeCheck_23922 : Cond.static yJ7_rangeCheck_23922 ∈ lw_tbl := List.mem_of_getElem? (i := 775) (by decide +kernel)
abbrev mJ7_fill_53178 : xK := (yJ7_fill_53178, cJ7_fill_53178, 4, none, 0, 0)
theorem me_J7_fill_53178 : xMeth mJ7_fill_53178 := ⟨List.mem_of_getElem? (i := 105) (by decide +kernel), by decide +kernel, by decide +kernel, by decide +kernel, ini_RJ7⟩
theorem pd_J7_fill_53178 : (parseMethodDescriptor (mJ7_fill_53178).1.desc).map (fun d => d.parameters.length) = some 2 := by decide +kernel
theorem st_J7_fill_53178 : Cond.static yJ7_fill_53178 ∈ lw_tbl := List.mem_of_getElem? (i := 104) (by decide +kernel)
abbrev mJ7_fill_fda19 : xK := (yJ7_fill_fda19, cJ7_fill_fda19, 5, none, 1, 22)
theorem me_J7_fill_fda19 : xMeth mJ7_fill_fda19 := ⟨List.mem_of_getElem? (i := 773) (by decide +kernel), by decide +kernel, by decide +kernel, by decide +kernel, ini_RJ7⟩
theorem pd_J7_fill_fda19 : (parseMethodDescriptor (mJ7_fill_fda19).1.desc).map (fun d => d.parameters.length) = some 4 := by decide +kernel
theorem st_J7_fill_fda19 : Cond.static yJ7_fill_fda19 ∈ lw_tbl := List.mem_of_getElem? (i := 772) (by decide +kernel)
theorem fl_X1_11 : xFL RX1 11 1 0 := ⟨RX1, TX1, 3, tyX1, rfl, by decide, List.mem_of_getElem? (i := 82) (by decide +kernel), inX1, tyX1_ok, nmX1, gdX1⟩
theorem fl_X3_48 : xFL RX3 48 1 0 := ⟨RX1, TX1, 3, tyX1, rfl, by decide, List.mem_of_getElem? (i := 83) (by decide +kernel), inX1, tyX1_ok, nmX1, gdX1⟩
theorem fl_X1_15 : xFL RX1 15 1 1 := ⟨RX1, TX1, 3, tyX1, rfl, by decide, List.mem_of_getElem? (i := 84) (by decide +kernel), inX1, tyX1_ok, nmX1, gdX1⟩
theorem fl_X3_79 : xFL RX3 79 1 1 := ⟨RX1, TX1, 3, tyX1, rfl, by decide, List.mem_of_getElem? (i := 85) (by decide +kernel), inX1, tyX1_ok, nmX1, gdX1⟩
theorem fl_X1_18 : xFL RX1 18 1 2 := ⟨RX1, TX1, 3, tyX1, rfl, by decide, List.mem_of_getElem? (i := 86) (by decide +kernel), inX1, tyX1_ok, nmX1, gdX1⟩
theorem fp_X1_18 : xFP RX1 18 1 2 := ⟨fl_X1_18, RX1, TX1, 3, rfl, rfl, by decide +kernel⟩
theorem fl_X3_71 : xFL RX3 71 1 2 := ⟨RX1, TX1, 3, tyX1, rfl, by decide, List.mem_of_getElem? (i := 87) (by decide +kernel), inX1, tyX1_ok, nmX1, gdX1⟩
theorem fp_X3_71 : xFP RX3 71 1 2 := ⟨fl_X3_71, RX1, TX1, 3, rfl, rfl, by decide +kernel⟩
theorem fl_X9_219 : xFL RX9 219 1 2 := ⟨RX1, TX1, 3, tyX1, rfl, by decide, List.mem_of_getElem? (i := 88) (by decide +kernel), inX1, tyX1_ok, nmX1, gdX1⟩
theorem fp_X9_219 : xFP RX9 219 1 2 := ⟨fl_X9_219, RX1, TX1, 3, rfl, rfl, by decide +kernel⟩
theorem fl_X4_11 : xFL RX4 11 4 0 := ⟨RX4, TX4, 8, tyX4, rfl, by decide, List.mem_of_getElem? (i := 106) (by decide +kernel), inX4, tyX4_ok, nmX4, gdX4⟩
theorem fl_X8_82 : xFL RX8 82 4 0 := ⟨RX4, TX4, 8, tyX4, rfl, by decide, List.mem_of_getElem? (i := 107) (by decide +kernel), inX4, tyX4_ok, nmX4, gdX4⟩
theorem fl_X3_82 : xFL RX3 82 4 0 := ⟨RX4, TX4, 8, tyX4, rfl, by decide, List.mem_of_getElem? (i := 108) (by decide +kernel), inX4, tyX4_ok, nmX4, gdX4⟩
theorem fl_X7_70 : xFL RX7 70 4 0 := ⟨RX4, TX4, 8, tyX4, rfl, by decide, List.mem_of_getElem? (i := 109) (by decide +kernel), inX4, tyX4_ok, nmX4, gdX4⟩
theorem fl_X4_15 : xFL RX4 15 4 1 := ⟨RX4, TX4, 8, tyX4, rfl, by decide, List.mem_of_getElem? (i := 110) (by decide +kernel), inX4, tyX4_ok, nmX4, gdX4⟩
theorem fl_X8_103 : xFL RX8 103 4 1 := ⟨RX4, TX4, 8, tyX4, rfl, by decide, List.mem_of_getElem? (i := 111) (by decide +kernel), inX4, tyX4_ok, nmX4, gdX4⟩
theorem fl_X9_182 : xFL RX9 182 4 1 := ⟨RX4, TX4, 8, tyX4, rfl, by decide, List.mem_of_getElem? (i := 112) (by decide +kernel), inX4, tyX4_ok, nmX4, gdX4⟩
theorem fl_X4_18 : xFL RX4 18 4 2 := ⟨RX4, TX4, 8, tyX4, rfl, by decide, List.mem_of_getElem? (i := 113) (by decide +kernel), inX4, tyX4_ok, nmX4, gdX4⟩
theorem fl_X4_21 : xFL RX4 21 4 3 := ⟨RX4, TX4, 8, tyX4, rfl, by decide, List.mem_of_getElem? (i := 114) (by decide +kernel), inX4, tyX4_ok, nmX4, gdX4⟩
theorem fl_X4_24 : xFL RX4 24 4 4 := ⟨RX4, TX4, 8, tyX4, rfl, by decide, List.mem_of_getElem? (i := 115) (by decide +kernel), inX4, tyX4_ok, nmX4, gdX4⟩
theorem fl_X8_75 : xFL RX8 75 4 4 := ⟨RX4, TX4, 8, tyX4, rfl, by decide, List.mem_of_getElem? (i := 116) (by decide +kernel), inX4, tyX4_ok, nmX4, gdX4⟩
theorem fl_X4_27 : xFL RX4 27 4 5 := ⟨RX4, TX4, 8, tyX4, rfl, by decide, List.mem_of_getElem? (i := 117) (by decide +kernel), inX4, tyX4_ok, nmX4, gdX4⟩
theorem fl_X3_52 : xFL RX3 52 4 5 := ⟨RX4, TX4, 8, tyX4, rfl, by decide, List.mem_of_getElem? (i := 118) (by decide +kernel), inX4, tyX4_ok, nmX4, gdX4⟩
theorem fl_X9_244 : xFL RX9 244 4 5 := ⟨RX4, TX4, 8, tyX4, rfl, by decide, List.mem_of_getElem? (i := 119) (by decide +kernel), inX4, tyX4_ok, nmX4, gdX4⟩
theorem fl_X4_30 : xFL RX4 30 4 6 := ⟨RX4, TX4, 8, tyX4, rfl, by decide, List.mem_of_getElem? (i := 120) (by decide +kernel), inX4, tyX4_ok, nmX4, gdX4⟩
theorem fl_X4_33 : xFL RX4 33 4 7 := ⟨RX4, TX4, 8, tyX4, rfl, by decide, List.mem_of_getElem? (i := 121) (by decide +kernel), inX4, tyX4_ok, nmX4, gdX4⟩
theorem fp_X4_33 : xFP RX4 33 4 7 := ⟨fl_X4_33, RX4, TX4, 8, rfl, rfl, by decide +kernel⟩
theorem fl_X8_68 : xFL RX8 68 4 7 := ⟨RX4, TX4, 8, tyX4, rfl, by decide, List.mem_of_getElem? (i := 122) (by decide +kernel), inX4, tyX4_ok, nmX4, gdX4⟩
theorem fp_X8_68 : xFP RX8 68 4 7 := ⟨fl_X8_68, RX4, TX4, 8, rfl, rfl, by decide +kernel⟩
theorem fl_X3_65 : xFL RX3 65 4 7 := ⟨RX4, TX4, 8, tyX4, rfl, by decide, List.mem_of_getElem? (i := 123) (by decide +kernel), inX4, tyX4_ok, nmX4, gdX4⟩
theorem fp_X3_65 : xFP RX3 65 4 7 := ⟨fl_X3_65, RX4, TX4, 8, rfl, rfl, by decide +kernel⟩
theorem fl_X7_66 : xFL RX7 66 4 7 := ⟨RX4, TX4, 8, tyX4, rfl, by decide, List.mem_of_getElem? (i := 124) (by decide +kernel), inX4, tyX4_ok, nmX4, gdX4⟩
theorem fp_X7_66 : xFP RX7 66 4 7 := ⟨fl_X7_66, RX4, TX4, 8, rfl, rfl, by decide +kernel⟩
theorem fl_X9_222 : xFL RX9 222 4 7 := ⟨RX4, TX4, 8, tyX4, rfl, by decide, List.mem_of_getElem? (i := 125) (by decide +kernel), inX4, tyX4_ok, nmX4, gdX4⟩
theorem fp_X9_222 : xFP RX9 222 4 7 := ⟨fl_X9_222, RX4, TX4, 8, rfl, rfl, by decide +kernel⟩
theorem fl_X3_12 : xFL RX3 12 3 0 := ⟨RX3, TX3, 3, tyX3, rfl, by decide, List.mem_of_getElem? (i := 143) (by decide +kernel), inX3, tyX3_ok, nmX3, gdX3⟩
theorem fl_X9_58 : xFL RX9 58 3 0 := ⟨RX3, TX3, 3, tyX3, rfl, by decide, List.mem_of_getElem? (i := 144) (by decide +kernel), inX3, tyX3_ok, nmX3, gdX3⟩
theorem fl_X3_21 : xFL RX3 21 3 1 := ⟨RX3, TX3, 3, tyX3, rfl, by decide, List.mem_of_getElem? (i := 145) (by decide +kernel), inX3, tyX3_ok, nmX3, gdX3⟩
theorem fl_X9_68 : xFL RX9 68 3 1 := ⟨RX3, TX3, 3, tyX3, rfl, by decide, List.mem_of_getElem? (i := 146) (by decide +kernel), inX3, tyX3_ok, nmX3, gdX3⟩
theorem fl_X3_25 : xFL RX3 25 3 2 := ⟨RX3, TX3, 3, tyX3, rfl, by decide, List.mem_of_getElem? (i := 147) (by decide +kernel), inX3, tyX3_ok, nmX3, gdX3⟩
theorem fp_X3_25 : xFP RX3 25 3 2 := ⟨fl_X3_25, RX3, TX3, 3, rfl, rfl, by decide +kernel⟩
theorem fl_X9_85 : xFL RX9 85 3 2 := ⟨RX3, TX3, 3, tyX3, rfl, by decide, List.mem_of_getElem? (i := 148) (by decide +kernel), inX3, tyX3_ok, nmX3, gdX3⟩
theorem fp_X9_85 : xFP RX9 85 3 2 := ⟨fl_X9_85, RX3, TX3, 3, rfl, rfl, by decide +kernel⟩
theorem fl_X8_13 : xFL RX8 13 8 0 := ⟨RX8, TX8, 10, tyX8, rfl, by decide, List.mem_of_getElem? (i := 162) (by decide +kernel), inX8, tyX8_ok, nmX8, gdX8⟩
theorem fp_X8_13 : xFP RX8 13 8 0 := ⟨fl_X8_13, RX8, TX8, 10, rfl, rfl, by decide +kernel⟩
theorem fl_X8_17 : xFL RX8 17 8 1 := ⟨RX8, TX8, 10, tyX8, rfl, by decide, List.mem_of_getElem? (i := 163) (by decide +kernel), inX8, tyX8_ok, nmX8, gdX8⟩
theorem fp_X8_17 : xFP RX8 17 8 1 := ⟨fl_X8_17, RX8, TX8, 10, rfl, rfl, by decide +kernel⟩
theorem fl_X8_20 : xFL RX8 20 8 2 := ⟨RX8, TX8, 10, tyX8, rfl, by decide, List.mem_of_getElem? (i := 164) (by decide +kernel), inX8, tyX8_ok, nmX8, gdX8⟩
theorem fp_X8_20 : xFP RX8 20 8 2 := ⟨fl_X8_20, RX8, TX8, 10, rfl, rfl, by decide +kernel⟩
theorem fl_X9_112 : xFL RX9 112 8 2 := ⟨RX8, TX8, 10, tyX8, rfl, by decide, List.mem_of_getElem? (i := 165) (by decide +kernel), inX8, tyX8_ok, nmX8, gdX8⟩
theorem fp_X9_112 : xFP RX9 112 8 2 := ⟨fl_X9_112, RX8, TX8, 10, rfl, rfl, by decide +kernel⟩
theorem fl_X8_23 : xFL RX8 23 8 3 := ⟨RX8, TX8, 10, tyX8, rfl, by decide, List.mem_of_getElem? (i := 166) (by decide +kernel), inX8, tyX8_ok, nmX8, gdX8⟩
theorem fp_X8_23 : xFP RX8 23 8 3 := ⟨fl_X8_23, RX8, TX8, 10, rfl, rfl, by decide +kernel⟩
theorem fl_X8_26 : xFL RX8 26 8 4 := ⟨RX8, TX8, 10, tyX8, rfl, by decide, List.mem_of_getElem? (i := 167) (by decide +kernel), inX8, tyX8_ok, nmX8, gdX8⟩
theorem fp_X8_26 : xFP RX8 26 8 4 := ⟨fl_X8_26, RX8, TX8, 10, rfl, rfl, by decide +kernel⟩
theorem fl_X8_29 : xFL RX8 29 8 5 := ⟨RX8, TX8, 10, tyX8, rfl, by decide, List.mem_of_getElem? (i := 168) (by decide +kernel), inX8, tyX8_ok, nmX8, gdX8⟩
theorem fl_X8_33 : xFL RX8 33 8 6 := ⟨RX8, TX8, 10, tyX8, rfl, by decide, List.mem_of_getElem? (i := 169) (by decide +kernel), inX8, tyX8_ok, nmX8, gdX8⟩
theorem fl_X8_36 : xFL RX8 36 8 7 := ⟨RX8, TX8, 10, tyX8, rfl, by decide, List.mem_of_getElem? (i := 170) (by decide +kernel), inX8, tyX8_ok, nmX8, gdX8⟩
theorem fl_X8_39 : xFL RX8 39 8 8 := ⟨RX8, TX8, 10, tyX8, rfl, by decide, List.mem_of_getElem? (i := 171) (by decide +kernel), inX8, tyX8_ok, nmX8, gdX8⟩
theorem fl_X8_42 : xFL RX8 42 8 9 := ⟨RX8, TX8, 10, tyX8, rfl, by decide, List.mem_of_getElem? (i := 172) (by decide +kernel), inX8, tyX8_ok, nmX8, gdX8⟩
theorem fl_X2_9 : xFL RX2 9 2 0 := ⟨RX2, TX2, 3, tyX2, rfl, by decide, List.mem_of_getElem? (i := 200) (by decide +kernel), inX2, tyX2_ok, nmX2, gdX2⟩
theorem fp_X2_9 : xFP RX2 9 2 0 := ⟨fl_X2_9, RX2, TX2, 3, rfl, rfl, by decide +kernel⟩
theorem fl_X2_15 : xFL RX2 15 2 1 := ⟨RX2, TX2, 3, tyX2, rfl, by decide, List.mem_of_getElem? (i := 201) (by decide +kernel), inX2, tyX2_ok, nmX2, gdX2⟩
theorem fp_X2_15 : xFP RX2 15 2 1 := ⟨fl_X2_15, RX2, TX2, 3, rfl, rfl, by decide +kernel⟩
theorem fl_X9_231 : xFL RX9 231 2 1 := ⟨RX2, TX2, 3, tyX2, rfl, by decide, List.mem_of_getElem? (i := 202) (by decide +kernel), inX2, tyX2_ok, nmX2, gdX2⟩
theorem fp_X9_231 : xFP RX9 231 2 1 := ⟨fl_X9_231, RX2, TX2, 3, rfl, rfl, by decide +kernel⟩
theorem fl_X2_18 : xFL RX2 18 2 2 := ⟨RX2, TX2, 3, tyX2, rfl, by decide, List.mem_of_getElem? (i := 203) (by decide +kernel), inX2, tyX2_ok, nmX2, gdX2⟩
theorem fl_X7_11 : xFL RX7 11 7 0 := ⟨RX7, TX7, 10, tyX7, rfl, by decide, List.mem_of_getElem? (i := 217) (by decide +kernel), inX7, tyX7_ok, nmX7, gdX7⟩
theorem fl_X9_157 : xFL RX9 157 7 0 := ⟨RX7, TX7, 10, tyX7, rfl, by decide, List.mem_of_getElem? (i := 218) (by decide +kernel), inX7, tyX7_ok, nmX7, gdX7⟩
theorem fl_X7_17 : xFL RX7 17 7 1 := ⟨RX7, TX7, 10, tyX7, rfl, by decide, List.mem_of_getElem? (i := 219) (by decide +kernel), inX7, tyX7_ok, nmX7, gdX7⟩
theorem fl_X9_169 : xFL RX9 169 7 1 := ⟨RX7, TX7, 10, tyX7, rfl, by decide, List.mem_of_getElem? (i := 220) (by decide +kernel), inX7, tyX7_ok, nmX7, gdX7⟩
theorem fl_X7_20 : xFL RX7 20 7 2 := ⟨RX7, TX7, 10, tyX7, rfl, by decide, List.mem_of_getElem? (i := 221) (by decide +kernel), inX7, tyX7_ok, nmX7, gdX7⟩
theorem fl_X9_172 : xFL RX9 172 7 2 := ⟨RX7, TX7, 10, tyX7, rfl, by decide, List.mem_of_getElem? (i := 222) (by decide +kernel), inX7, tyX7_ok, nmX7, gdX7⟩
theorem fl_X7_23 : xFL RX7 23 7 3 := ⟨RX7, TX7, 10, tyX7, rfl, by decide, List.mem_of_getElem? (i := 223) (by decide +kernel), inX7, tyX7_ok, nmX7, gdX7⟩
theorem fp_X7_23 : xFP RX7 23 7 3 := ⟨fl_X7_23, RX7, TX7, 10, rfl, rfl, by decide +kernel⟩
theorem fl_X9_227 : xFL RX9 227 7 3 := ⟨RX7, TX7, 10, tyX7, rfl, by decide, List.mem_of_getElem? (i := 224) (by decide +kernel), inX7, tyX7_ok, nmX7, gdX7⟩
theorem fp_X9_227 : xFP RX9 227 7 3 := ⟨fl_X9_227, RX7, TX7, 10, rfl, rfl, by decide +kernel⟩
theorem fl_X7_27 : xFL RX7 27 7 4 := ⟨RX7, TX7, 10, tyX7, rfl, by decide, List.mem_of_getElem? (i := 225) (by decide +kernel), inX7, tyX7_ok, nmX7, gdX7⟩
theorem fl_X7_30 : xFL RX7 30 7 5 := ⟨RX7, TX7, 10, tyX7, rfl, by decide, List.mem_of_getElem? (i := 226) (by decide +kernel), inX7, tyX7_ok, nmX7, gdX7⟩
theorem fl_X7_33 : xFL RX7 33 7 6 := ⟨RX7, TX7, 10, tyX7, rfl, by decide, List.mem_of_getElem? (i := 227) (by decide +kernel), inX7, tyX7_ok, nmX7, gdX7⟩
theorem fl_X7_36 : xFL RX7 36 7 7 := ⟨RX7, TX7, 10, tyX7, rfl, by decide, List.mem_of_getElem? (i := 228) (by decide +kernel), inX7, tyX7_ok, nmX7, gdX7⟩
theorem fl_X7_39 : xFL RX7 39 7 8 := ⟨RX7, TX7, 10, tyX7, rfl, by decide, List.mem_of_getElem? (i := 229) (by decide +kernel), inX7, tyX7_ok, nmX7, gdX7⟩
theorem fl_X7_42 : xFL RX7 42 7 9 := ⟨RX7, TX7, 10, tyX7, rfl, by decide, List.mem_of_getElem? (i := 230) (by decide +kernel), inX7, tyX7_ok, nmX7, gdX7⟩
theorem fl_X0_11 : xFL RX0 11 0 0 := ⟨RX0, TX0, 7, tyX0, rfl, by decide, List.mem_of_getElem? (i := 259) (by decide +kernel), inX0, tyX0_ok, nmX0, gdX0⟩
theorem fl_X9_197 : xFL RX9 197 0 0 := ⟨RX0, TX0, 7, tyX0, rfl, by decide, List.mem_of_getElem? (i := 260) (by decide +kernel), inX0, tyX0_ok, nmX0, gdX0⟩
theorem fl_X0_15 : xFL RX0 15 0 1 := ⟨RX0, TX0, 7, tyX0, rfl, by decide, List.mem_of_getElem? (i := 261) (by decide +kernel), inX0, tyX0_ok, nmX0, gdX0⟩
theorem fp_X0_15 : xFP RX0 15 0 1 := ⟨fl_X0_15, RX0, TX0, 7, rfl, rfl, by decide +kernel⟩
theorem fl_X9_228 : xFL RX9 228 0 1 := ⟨RX0, TX0, 7, tyX0, rfl, by decide, List.mem_of_getElem? (i := 262) (by decide +kernel), inX0, tyX0_ok, nmX0, gdX0⟩
theorem fp_X9_228 : xFP RX9 228 0 1 := ⟨fl_X9_228, RX0, TX0, 7, rfl, rfl, by decide +kernel⟩
theorem fl_X0_19 : xFL RX0 19 0 2 := ⟨RX0, TX0, 7, tyX0, rfl, by decide, List.mem_of_getElem? (i := 263) (by decide +kernel), inX0, tyX0_ok, nmX0, gdX0⟩
theorem fl_X0_22 : xFL RX0 22 0 3 := ⟨RX0, TX0, 7, tyX0, rfl, by decide, List.mem_of_getElem? (i := 264) (by decide +kernel), inX0, tyX0_ok, nmX0, gdX0⟩
theorem fl_X0_25 : xFL RX0 25 0 4 := ⟨RX0, TX0, 7, tyX0, rfl, by decide, List.mem_of_getElem? (i := 265) (by decide +kernel), inX0, tyX0_ok, nmX0, gdX0⟩
theorem fl_X0_28 : xFL RX0 28 0 5 := ⟨RX0, TX0, 7, tyX0, rfl, by decide, List.mem_of_getElem? (i := 266) (by decide +kernel), inX0, tyX0_ok, nmX0, gdX0⟩
theorem fl_X0_31 : xFL RX0 31 0 6 := ⟨RX0, TX0, 7, tyX0, rfl, by decide, List.mem_of_getElem? (i := 267) (by decide +kernel), inX0, tyX0_ok, nmX0, gdX0⟩
theorem fl_X5_9 : xFL RX5 9 5 0 := ⟨RX5, TX5, 4, tyX5, rfl, by decide, List.mem_of_getElem? (i := 289) (by decide +kernel), inX5, tyX5_ok, nmX5, gdX5⟩
theorem fp_X5_9 : xFP RX5 9 5 0 := ⟨fl_X5_9, RX5, TX5, 4, rfl, rfl, by decide +kernel⟩
theorem fl_X9_234 : xFL RX9 234 5 0 := ⟨RX5, TX5, 4, tyX5, rfl, by decide, List.mem_of_getElem? (i := 290) (by decide +kernel), inX5, tyX5_ok, nmX5, gdX5⟩
theorem fp_X9_234 : xFP RX9 234 5 0 := ⟨fl_X9_234, RX5, TX5, 4, rfl, rfl, by decide +kernel⟩
theorem fl_X5_15 : xFL RX5 15 5 1 := ⟨RX5, TX5, 4, tyX5, rfl, by decide, List.mem_of_getElem? (i := 291) (by decide +kernel), inX5, tyX5_ok, nmX5, gdX5⟩
theorem fl_X5_19 : xFL RX5 19 5 2 := ⟨RX5, TX5, 4, tyX5, rfl, by decide, List.mem_of_getElem? (i := 292) (by decide +kernel), inX5, tyX5_ok, nmX5, gdX5⟩
theorem fl_X5_22 : xFL RX5 22 5 3 := ⟨RX5, TX5, 4, tyX5, rfl, by decide, List.mem_of_getElem? (i := 293) (by decide +kernel), inX5, tyX5_ok, nmX5, gdX5⟩
theorem fl_X6_9 : xFL RX6 9 6 0 := ⟨RX6, TX6, 4, tyX6, rfl, by decide, List.mem_of_getElem? (i := 310) (by decide +kernel), inX6, tyX6_ok, nmX6, gdX6⟩
theorem fp_X6_9 : xFP RX6 9 6 0 := ⟨fl_X6_9, RX6, TX6, 4, rfl, rfl, by decide +kernel⟩
theorem fl_X9_235 : xFL RX9 235 6 0 := ⟨RX6, TX6, 4, tyX6, rfl, by decide, List.mem_of_getElem? (i := 311) (by decide +kernel), inX6, tyX6_ok, nmX6, gdX6⟩
theorem fp_X9_235 : xFP RX9 235 6 0 := ⟨fl_X9_235, RX6, TX6, 4, rfl, rfl, by decide +kernel⟩
theorem fl_X6_15 : xFL RX6 15 6 1 := ⟨RX6, TX6, 4, tyX6, rfl, by decide, List.mem_of_getElem? (i := 312) (by decide +kernel), inX6, tyX6_ok, nmX6, gdX6⟩
theorem fl_X6_19 : xFL RX6 19 6 2 := ⟨RX6, TX6, 4, tyX6, rfl, by decide, List.mem_of_getElem? (i := 313) (by decide +kernel), inX6, tyX6_ok, nmX6, gdX6⟩
theorem fl_X6_22 : xFL RX6 22 6 3 := ⟨RX6, TX6, 4, tyX6, rfl, by decide, List.mem_of_getElem? (i := 314) (by decide +kernel), inX6, tyX6_ok, nmX6, gdX6⟩
theorem fl_X9_10 : xFL RX9 10 9 0 := ⟨RX9, TX9, 7, tyX9, rfl, by decide, List.mem_of_getElem? (i := 324) (by decide +kernel), inX9, tyX9_ok, nmX9, gdX9⟩
theorem fl_X9_19 : xFL RX9 19 9 1 := ⟨RX9, TX9, 7, tyX9, rfl, by decide, List.mem_of_getElem? (i := 325) (by decide +kernel), inX9, tyX9_ok, nmX9, gdX9⟩
theorem fl_X9_26 : xFL RX9 26 9 2 := ⟨RX9, TX9, 7, tyX9, rfl, by decide, List.mem_of_getElem? (i := 326) (by decide +kernel), inX9, tyX9_ok, nmX9, gdX9⟩
theorem fl_X9_33 : xFL RX9 33 9 3 := ⟨RX9, TX9, 7, tyX9, rfl, by decide, List.mem_of_getElem? (i := 327) (by decide +kernel), inX9, tyX9_ok, nmX9, gdX9⟩
theorem fl_X9_40 : xFL RX9 40 9 4 := ⟨RX9, TX9, 7, tyX9, rfl, by decide, List.mem_of_getElem? (i := 328) (by decide +kernel), inX9, tyX9_ok, nmX9, gdX9⟩
theorem fl_X9_47 : xFL RX9 47 9 5 := ⟨RX9, TX9, 7, tyX9, rfl, by decide, List.mem_of_getElem? (i := 329) (by decide +kernel), inX9, tyX9_ok, nmX9, gdX9⟩
theorem fl_X9_54 : xFL RX9 54 9 6 := ⟨RX9, TX9, 7, tyX9, rfl, by decide, List.mem_of_getElem? (i := 330) (by decide +kernel), inX9, tyX9_ok, nmX9, gdX9⟩
theorem fl_X10_129 : xFL RX10 129 10 0 := ⟨RX10, TX10, 47, tyX10, rfl, by decide, List.mem_of_getElem? (i := 845) (by decide +kernel), inX10, tyX10_ok, nmX10, gdX10⟩
theorem fp_X10_129 : xFP RX10 129 10 0 := ⟨fl_X10_129, RX10, TX10, 47, rfl, rfl, by decide +kernel⟩
theorem fl_X10_7 : xFL RX10 7 10 1 := ⟨RX10, TX10, 47, tyX10, rfl, by decide, List.mem_of_getElem? (i := 846) (by decide +kernel), inX10, tyX10_ok, nmX10, gdX10⟩
theorem fl_X10_13 : xFL RX10 13 10 2 := ⟨RX10, TX10, 47, tyX10, rfl, by decide, List.mem_of_getElem? (i := 847) (by decide +kernel), inX10, tyX10_ok, nmX10, gdX10⟩
theorem fl_X10_136 : xFL RX10 136 10 3 := ⟨RX10, TX10, 47, tyX10, rfl, by decide, List.mem_of_getElem? (i := 848) (by decide +kernel), inX10, tyX10_ok, nmX10, gdX10⟩
theorem fp_X10_136 : xFP RX10 136 10 3 := ⟨fl_X10_136, RX10, TX10, 47, rfl, rfl, by decide +kernel⟩
theorem fl_X10_16 : xFL RX10 16 10 4 := ⟨RX10, TX10, 47, tyX10, rfl, by decide, List.mem_of_getElem? (i := 849) (by decide +kernel), inX10, tyX10_ok, nmX10, gdX10⟩
theorem fl_X10_19 : xFL RX10 19 10 5 := ⟨RX10, TX10, 47, tyX10, rfl, by decide, List.mem_of_getElem? (i := 850) (by decide +kernel), inX10, tyX10_ok, nmX10, gdX10⟩
theorem fl_X10_22 : xFL RX10 22 10 6 := ⟨RX10, TX10, 47, tyX10, rfl, by decide, List.mem_of_getElem? (i := 851) (by decide +kernel), inX10, tyX10_ok, nmX10, gdX10⟩
theorem fl_X10_25 : xFL RX10 25 10 7 := ⟨RX10, TX10, 47, tyX10, rfl, by decide, List.mem_of_getElem? (i := 852) (by decide +kernel), inX10, tyX10_ok, nmX10, gdX10⟩
theorem fl_X10_28 : xFL RX10 28 10 8 := ⟨RX10, TX10, 47, tyX10, rfl, by decide, List.mem_of_getElem? (i := 853) (by decide +kernel), inX10, tyX10_ok, nmX10, gdX10⟩
theorem fl_X10_31 : xFL RX10 31 10 9 := ⟨RX10, TX10, 47, tyX10, rfl, by decide, List.mem_of_getElem? (i := 854) (by decide +kernel), inX10, tyX10_ok, nmX10, gdX10⟩
theorem fl_X10_34 : xFL RX10 34 10 10 := ⟨RX10, TX10, 47, tyX10, rfl, by decide, List.mem_of_getElem? (i := 855) (by decide +kernel), inX10, tyX10_ok, nmX10, gdX10⟩
theorem fl_X10_37 : xFL RX10 37 10 11 := ⟨RX10, TX10, 47, tyX10, rfl, by decide, List.mem_of_getElem? (i := 856) (by decide +kernel), inX10, tyX10_ok, nmX10, gdX10⟩
theorem fp_X10_37 : xFP RX10 37 10 11 := ⟨fl_X10_37, RX10, TX10, 47, rfl, rfl, by decide +kernel⟩
theorem fl_X10_41 : xFL RX10 41 10 12 := ⟨RX10, TX10, 47, tyX10, rfl, by decide, List.mem_of_getElem? (i := 857) (by decide +kernel), inX10, tyX10_ok, nmX10, gdX10⟩
theorem fl_X10_185 : xFL RX10 185 10 13 := ⟨RX10, TX10, 47, tyX10, rfl, by decide, List.mem_of_getElem? (i := 858) (by decide +kernel), inX10, tyX10_ok, nmX10, gdX10⟩
theorem fp_X10_185 : xFP RX10 185 10 13 := ⟨fl_X10_185, RX10, TX10, 47, rfl, rfl, by decide +kernel⟩
theorem fl_X10_44 : xFL RX10 44 10 14 := ⟨RX10, TX10, 47, tyX10, rfl, by decide, List.mem_of_getElem? (i := 859) (by decide +kernel), inX10, tyX10_ok, nmX10, gdX10⟩
theorem fl_X10_47 : xFL RX10 47 10 15 := ⟨RX10, TX10, 47, tyX10, rfl, by decide, List.mem_of_getElem? (i := 860) (by decide +kernel), inX10, tyX10_ok, nmX10, gdX10⟩
theorem fl_X10_50 : xFL RX10 50 10 16 := ⟨RX10, TX10, 47, tyX10, rfl, by decide, List.mem_of_getElem? (i := 861) (by decide +kernel), inX10, tyX10_ok, nmX10, gdX10⟩
theorem fl_X10_54 : xFL RX10 54 10 17 := ⟨RX10, TX10, 47, tyX10, rfl, by decide, List.mem_of_getElem? (i := 862) (by decide +kernel), inX10, tyX10_ok, nmX10, gdX10⟩
theorem fl_X10_57 : xFL RX10 57 10 18 := ⟨RX10, TX10, 47, tyX10, rfl, by decide, List.mem_of_getElem? (i := 863) (by decide +kernel), inX10, tyX10_ok, nmX10, gdX10⟩
theorem fp_X10_57 : xFP RX10 57 10 18 := ⟨fl_X10_57, RX10, TX10, 47, rfl, rfl, by decide +kernel⟩
theorem fl_X10_203 : xFL RX10 203 10 19 := ⟨RX10, TX10, 47, tyX10, rfl, by decide, List.mem_of_getElem? (i := 864) (by decide +kernel), inX10, tyX10_ok, nmX10, gdX10⟩
theorem fp_X10_203 : xFP RX10 203 10 19 := ⟨fl_X10_203, RX10, TX10, 47, rfl, rfl, by decide +kernel⟩
theorem fl_X10_60 : xFL RX10 60 10 20 := ⟨RX10, TX10, 47, tyX10, rfl, by decide, List.mem_of_getElem? (i := 865) (by decide +kernel), inX10, tyX10_ok, nmX10, gdX10⟩
theorem fl_X10_63 : xFL RX10 63 10 21 := ⟨RX10, TX10, 47, tyX10, rfl, by decide, List.mem_of_getElem? (i := 866) (by decide +kernel), inX10, tyX10_ok, nmX10, gdX10⟩
theorem fl_X10_210 : xFL RX10 210 10 22 := ⟨RX10, TX10, 47, tyX10, rfl, by decide, List.mem_of_getElem? (i := 867) (by decide +kernel), inX10, tyX10_ok, nmX10, gdX10⟩
theorem fp_X10_210 : xFP RX10 210 10 22 := ⟨fl_X10_210, RX10, TX10, 47, rfl, rfl, by decide +kernel⟩
theorem fl_X10_66 : xFL RX10 66 10 23 := ⟨RX10, TX10, 47, tyX10, rfl, by decide, List.mem_of_getElem? (i := 868) (by decide +kernel), inX10, tyX10_ok, nmX10, gdX10⟩
theorem fl_X10_69 : xFL RX10 69 10 24 := ⟨RX10, TX10, 47, tyX10, rfl, by decide, List.mem_of_getElem? (i := 869) (by decide +kernel), inX10, tyX10_ok, nmX10, gdX10⟩
theorem fl_X10_72 : xFL RX10 72 10 25 := ⟨RX10, TX10, 47, tyX10, rfl, by decide, List.mem_of_getElem? (i := 870) (by decide +kernel), inX10, tyX10_ok, nmX10, gdX10⟩
theorem fl_X10_75 : xFL RX10 75 10 26 := ⟨RX10, TX10, 47, tyX10, rfl, by decide, List.mem_of_getElem? (i := 871) (by decide +kernel), inX10, tyX10_ok, nmX10, gdX10⟩
theorem fl_X10_78 : xFL RX10 78 10 27 := ⟨RX10, TX10, 47, tyX10, rfl, by decide, List.mem_of_getElem? (i := 872) (by decide +kernel), inX10, tyX10_ok, nmX10, gdX10⟩
theorem fl_X10_81 : xFL RX10 81 10 28 := ⟨RX10, TX10, 47, tyX10, rfl, by decide, List.mem_of_getElem? (i := 873) (by decide +kernel), inX10, tyX10_ok, nmX10, gdX10⟩
theorem fl_X10_84 : xFL RX10 84 10 29 := ⟨RX10, TX10, 47, tyX10, rfl, by decide, List.mem_of_getElem? (i := 874) (by decide +kernel), inX10, tyX10_ok, nmX10, gdX10⟩
theorem fl_X10_87 : xFL RX10 87 10 30 := ⟨RX10, TX10, 47, tyX10, rfl, by decide, List.mem_of_getElem? (i := 875) (by decide +kernel), inX10, tyX10_ok, nmX10, gdX10⟩
theorem fl_X10_90 : xFL RX10 90 10 31 := ⟨RX10, TX10, 47, tyX10, rfl, by decide, List.mem_of_getElem? (i := 876) (by decide +kernel), inX10, tyX10_ok, nmX10, gdX10⟩
theorem fl_X10_93 : xFL RX10 93 10 32 := ⟨RX10, TX10, 47, tyX10, rfl, by decide, List.mem_of_getElem? (i := 877) (by decide +kernel), inX10, tyX10_ok, nmX10, gdX10⟩
theorem fl_X10_96 : xFL RX10 96 10 33 := ⟨RX10, TX10, 47, tyX10, rfl, by decide, List.mem_of_getElem? (i := 878) (by decide +kernel), inX10, tyX10_ok, nmX10, gdX10⟩
theorem fl_X10_223 : xFL RX10 223 10 34 := ⟨RX10, TX10, 47, tyX10, rfl, by decide, List.mem_of_getElem? (i := 879) (by decide +kernel), inX10, tyX10_ok, nmX10, gdX10⟩
theorem fp_X10_223 : xFP RX10 223 10 34 := ⟨fl_X10_223, RX10, TX10, 47, rfl, rfl, by decide +kernel⟩
theorem fl_X10_99 : xFL RX10 99 10 35 := ⟨RX10, TX10, 47, tyX10, rfl, by decide, List.mem_of_getElem? (i := 880) (by decide +kernel), inX10, tyX10_ok, nmX10, gdX10⟩
theorem fl_X10_102 : xFL RX10 102 10 36 := ⟨RX10, TX10, 47, tyX10, rfl, by decide, List.mem_of_getElem? (i := 881) (by decide +kernel), inX10, tyX10_ok, nmX10, gdX10⟩
theorem fl_X10_105 : xFL RX10 105 10 37 := ⟨RX10, TX10, 47, tyX10, rfl, by decide, List.mem_of_getElem? (i := 882) (by decide +kernel), inX10, tyX10_ok, nmX10, gdX10⟩
theorem fl_X10_244 : xFL RX10 244 10 38 := ⟨RX10, TX10, 47, tyX10, rfl, by decide, List.mem_of_getElem? (i := 883) (by decide +kernel), inX10, tyX10_ok, nmX10, gdX10⟩
theorem fp_X10_244 : xFP RX10 244 10 38 := ⟨fl_X10_244, RX10, TX10, 47, rfl, rfl, by decide +kernel⟩
theorem fl_X10_108 : xFL RX10 108 10 39 := ⟨RX10, TX10, 47, tyX10, rfl, by decide, List.mem_of_getElem? (i := 884) (by decide +kernel), inX10, tyX10_ok, nmX10, gdX10⟩
theorem fl_X10_111 : xFL RX10 111 10 40 := ⟨RX10, TX10, 47, tyX10, rfl, by decide, List.mem_of_getElem? (i := 885) (by decide +kernel), inX10, tyX10_ok, nmX10, gdX10⟩
theorem fl_X10_114 : xFL RX10 114 10 41 := ⟨RX10, TX10, 47, tyX10, rfl, by decide, List.mem_of_getElem? (i := 886) (by decide +kernel), inX10, tyX10_ok, nmX10, gdX10⟩
theorem fl_X10_117 : xFL RX10 117 10 42 := ⟨RX10, TX10, 47, tyX10, rfl, by decide, List.mem_of_getElem? (i := 887) (by decide +kernel), inX10, tyX10_ok, nmX10, gdX10⟩
theorem fl_X10_120 : xFL RX10 120 10 43 := ⟨RX10, TX10, 47, tyX10, rfl, by decide, List.mem_of_getElem? (i := 888) (by decide +kernel), inX10, tyX10_ok, nmX10, gdX10⟩
theorem fl_X10_123 : xFL RX10 123 10 44 := ⟨RX10, TX10, 47, tyX10, rfl, by decide, List.mem_of_getElem? (i := 889) (by decide +kernel), inX10, tyX10_ok, nmX10, gdX10⟩
theorem fl_X10_126 : xFL RX10 126 10 45 := ⟨RX10, TX10, 47, tyX10, rfl, by decide, List.mem_of_getElem? (i := 890) (by decide +kernel), inX10, tyX10_ok, nmX10, gdX10⟩
theorem fl_X10_247 : xFL RX10 247 10 46 := ⟨RX10, TX10, 47, tyX10, rfl, by decide, List.mem_of_getElem? (i := 891) (by decide +kernel), inX10, tyX10_ok, nmX10, gdX10⟩
theorem fp_X10_247 : xFP RX10 247 10 46 := ⟨fl_X10_247, RX10, TX10, 47, rfl, rfl, by decide +kernel⟩
theorem kc_X6_54 : xCI RX6 54 (-2147483648) := List.mem_of_getElem? (i := 808) (by decide +kernel)
theorem kc_X9_238 : xCL RX9 238 (17) := List.mem_of_getElem? (i := 834) (by decide +kernel)
theorem kc_X9_240 : xCL RX9 240 (31) := List.mem_of_getElem? (i := 835) (by decide +kernel)
theorem kc_X10_141 : xCL RX10 141 (5) := List.mem_of_getElem? (i := 992) (by decide +kernel)
theorem kc_X10_143 : xCL RX10 143 (8) := List.mem_of_getElem? (i := 996) (by decide +kernel)
theorem kc_X10_139 : xCL RX10 139 (9) := List.mem_of_getElem? (i := 1004) (by decide +kernel)
theorem kc_X10_149 : xCL RX10 149 (-1) := List.mem_of_getElem? (i := 1005) (by decide +kernel)
theorem kc_X10_154 : xCL RX10 154 (2) := List.mem_of_getElem? (i := 1014) (by decide +kernel)
theorem kc_X10_183 : xCL RX10 183 (200) := List.mem_of_getElem? (i := 1075) (by decide +kernel)
theorem kc_X10_196 : xCL RX10 196 (50) := List.mem_of_getElem? (i := 1096) (by decide +kernel)
theorem kc_X10_201 : xCL RX10 201 (500) := List.mem_of_getElem? (i := 1109) (by decide +kernel)
theorem kc_X10_206 : xCL RX10 206 (4) := List.mem_of_getElem? (i := 1114) (by decide +kernel)
theorem kc_X10_208 : xCL RX10 208 (39) := List.mem_of_getElem? (i := 1123) (by decide +kernel)
theorem kc_X10_226 : xCL RX10 226 (3) := List.mem_of_getElem? (i := 1164) (by decide +kernel)
theorem kc_X10_228 : xCL RX10 228 (17) := List.mem_of_getElem? (i := 1165) (by decide +kernel)
theorem kc_X10_230 : xCL RX10 230 (20) := List.mem_of_getElem? (i := 1166) (by decide +kernel)
theorem kc_X10_238 : xCL RX10 238 (999) := List.mem_of_getElem? (i := 1195) (by decide +kernel)
theorem kc_X10_240 : xCL RX10 240 (99) := List.mem_of_getElem? (i := 1196) (by decide +kernel)
theorem kc_X10_242 : xCL RX10 242 (100) := List.mem_of_getElem? (i := 1197) (by decide +kernel)
theorem kc_X10_260 : xCI RX10 260 (-2147483648) := List.mem_of_getElem? (i := 1229) (by decide +kernel)
theorem kc_X10_261 : xCL RX10 261 (31) := List.mem_of_getElem? (i := 1242) (by decide +kernel)
theorem lk_X4_37 : Cond.methodLink RX4 37 yJ7_fill_53178 ∈ lw_tbl := List.mem_of_getElem? (i := 103) (by decide +kernel)
theorem lk_X0_34 : Cond.methodLink RX0 34 yJ7_fill_53178 ∈ lw_tbl := List.mem_of_getElem? (i := 258) (by decide +kernel)
theorem lk_X6_25 : Cond.methodLink RX6 25 yJ7_fill_53178 ∈ lw_tbl := List.mem_of_getElem? (i := 309) (by decide +kernel)
theorem lk_X9_62 : Cond.methodLink RX9 62 yX1_add ∈ lw_tbl := List.mem_of_getElem? (i := 350) (by decide +kernel)
theorem lk_X9_72 : Cond.methodLink RX9 72 yX4_add ∈ lw_tbl := List.mem_of_getElem? (i := 361) (by decide +kernel)
theorem lk_X9_124 : Cond.methodLink RX9 124 yX9_within ∈ lw_tbl := List.mem_of_getElem? (i := 369) (by decide +kernel)
theorem lk_X9_77 : Cond.methodLink RX9 77 yX3_relate ∈ lw_tbl := List.mem_of_getElem? (i := 374) (by decide +kernel)
theorem lk_X3_29 : Cond.methodLink RX3 29 yX4_has ∈ lw_tbl := List.mem_of_getElem? (i := 378) (by decide +kernel)
theorem lk_X3_37 : Cond.methodLink RX3 37 yX3_liveInOneRow ∈ lw_tbl := List.mem_of_getElem? (i := 383) (by decide +kernel)
theorem lk_X3_45 : Cond.methodLink RX3 45 yX4_isLodged ∈ lw_tbl := List.mem_of_getElem? (i := 387) (by decide +kernel)
theorem lk_X3_55 : Cond.methodLink RX3 55 yX3_isInRow ∈ lw_tbl := List.mem_of_getElem? (i := 391) (by decide +kernel)
theorem lk_X3_58 : Cond.methodLink RX3 58 yX4_shareWeek ∈ lw_tbl := List.mem_of_getElem? (i := 395) (by decide +kernel)
theorem lk_X3_41 : Cond.methodLink RX3 41 yX4_setTold ∈ lw_tbl := List.mem_of_getElem? (i := 399) (by decide +kernel)
theorem lk_X9_81 : Cond.methodLink RX9 81 yX3_takeIn ∈ lw_tbl := List.mem_of_getElem? (i := 407) (by decide +kernel)
theorem lk_X3_61 : Cond.methodLink RX3 61 yX3_dearestHut ∈ lw_tbl := List.mem_of_getElem? (i := 411) (by decide +kernel)
theorem lk_X3_72 : Cond.methodLink RX3 72 yX3_mayHave ∈ lw_tbl := List.mem_of_getElem? (i := 415) (by decide +kernel)
theorem lk_X3_85 : Cond.methodLink RX3 85 yX4_areTold ∈ lw_tbl := List.mem_of_getElem? (i := 419) (by decide +kernel)
theorem lk_X3_75 : Cond.methodLink RX3 75 yX3_cost ∈ lw_tbl := List.mem_of_getElem? (i := 423) (by decide +kernel)
theorem lk_X3_88 : Cond.methodLink RX3 88 yX3_isNextTo ∈ lw_tbl := List.mem_of_getElem? (i := 427) (by decide +kernel)
theorem lk_X3_68 : Cond.methodLink RX3 68 yX3_makesRoom ∈ lw_tbl := List.mem_of_getElem? (i := 431) (by decide +kernel)
theorem lk_X9_89 : Cond.methodLink RX9 89 yX4_giveUpHut ∈ lw_tbl := List.mem_of_getElem? (i := 443) (by decide +kernel)
theorem lk_X4_54 : Cond.methodLink RX4 54 yX4_has ∈ lw_tbl := List.mem_of_getElem? (i := 447) (by decide +kernel)
theorem lk_X4_51 : Cond.methodLink RX4 51 yX4_isLodged ∈ lw_tbl := List.mem_of_getElem? (i := 448) (by decide +kernel)
theorem lk_X9_92 : Cond.methodLink RX9 92 yX4_fact ∈ lw_tbl := List.mem_of_getElem? (i := 453) (by decide +kernel)
theorem lk_X9_95 : Cond.methodLink RX9 95 yX3_guest ∈ lw_tbl := List.mem_of_getElem? (i := 461) (by decide +kernel)
theorem lk_X3_91 : Cond.methodLink RX3 91 yX1_has ∈ lw_tbl := List.mem_of_getElem? (i := 465) (by decide +kernel)
theorem lk_X3_95 : Cond.methodLink RX3 95 yX3_whoIsIn ∈ lw_tbl := List.mem_of_getElem? (i := 470) (by decide +kernel)
theorem lk_X3_98 : Cond.methodLink RX3 98 yX4_isThere ∈ lw_tbl := List.mem_of_getElem? (i := 474) (by decide +kernel)
theorem lk_X9_98 : Cond.methodLink RX9 98 yX3_emptyBeds ∈ lw_tbl := List.mem_of_getElem? (i := 482) (by decide +kernel)
theorem lk_X9_101 : Cond.methodLink RX9 101 yX8_setSeats ∈ lw_tbl := List.mem_of_getElem? (i := 490) (by decide +kernel)
theorem lk_X9_104 : Cond.methodLink RX9 104 yX9_isWeek ∈ lw_tbl := List.mem_of_getElem? (i := 499) (by decide +kernel)
theorem lk_X9_108 : Cond.methodLink RX9 108 yX8_arrange ∈ lw_tbl := List.mem_of_getElem? (i := 500) (by decide +kernel)
theorem lk_X8_49 : Cond.methodLink RX8 49 yX8_fillBenches ∈ lw_tbl := List.mem_of_getElem? (i := 504) (by decide +kernel)
theorem lk_X8_62 : Cond.methodLink RX8 62 yJ7_fill_53178 ∈ lw_tbl := List.mem_of_getElem? (i := 508) (by decide +kernel)
theorem lk_X8_71 : Cond.methodLink RX8 71 yX4_isThere ∈ lw_tbl := List.mem_of_getElem? (i := 509) (by decide +kernel)
theorem lk_X8_78 : Cond.methodLink RX8 78 yX8_benchFor ∈ lw_tbl := List.mem_of_getElem? (i := 510) (by decide +kernel)
theorem lk_X8_53 : Cond.methodLink RX8 53 yX8_findNumbers ∈ lw_tbl := List.mem_of_getElem? (i := 514) (by decide +kernel)
theorem lk_X8_56 : Cond.methodLink RX8 56 yX8_findDifference ∈ lw_tbl := List.mem_of_getElem? (i := 518) (by decide +kernel)
theorem lk_X8_90 : Cond.methodLink RX8 90 yX8_isWay ∈ lw_tbl := List.mem_of_getElem? (i := 525) (by decide +kernel)
theorem lk_X8_59 : Cond.methodLink RX8 59 yX8_partBenches ∈ lw_tbl := List.mem_of_getElem? (i := 529) (by decide +kernel)
theorem lk_X8_94 : Cond.methodLink RX8 94 yX8_leadsToBest ∈ lw_tbl := List.mem_of_getElem? (i := 533) (by decide +kernel)
theorem lk_X8_97 : Cond.methodLink RX8 97 yX8_canBecome ∈ lw_tbl := List.mem_of_getElem? (i := 537) (by decide +kernel)
theorem lk_X9_115 : Cond.methodLink RX9 115 yX4_has ∈ lw_tbl := List.mem_of_getElem? (i := 545) (by decide +kernel)
theorem lk_X9_118 : Cond.methodLink RX9 118 yX8_sittingOf ∈ lw_tbl := List.mem_of_getElem? (i := 546) (by decide +kernel)
theorem lk_X9_121 : Cond.methodLink RX9 121 yX2_setPart ∈ lw_tbl := List.mem_of_getElem? (i := 554) (by decide +kernel)
theorem lk_X9_128 : Cond.methodLink RX9 128 yX8_dinners ∈ lw_tbl := List.mem_of_getElem? (i := 563) (by decide +kernel)
theorem lk_X8_100 : Cond.methodLink RX8 100 yX8_sittingOf ∈ lw_tbl := List.mem_of_getElem? (i := 567) (by decide +kernel)
theorem lk_X9_132 : Cond.methodLink RX9 132 yX9_foretell ∈ lw_tbl := List.mem_of_getElem? (i := 572) (by decide +kernel)
theorem lk_X9_135 : Cond.methodLink RX9 135 yX2_serve ∈ lw_tbl := List.mem_of_getElem? (i := 573) (by decide +kernel)
theorem lk_X9_139 : Cond.methodLink RX9 139 yX2_entry ∈ lw_tbl := List.mem_of_getElem? (i := 581) (by decide +kernel)
theorem lk_X9_142 : Cond.methodLink RX9 142 yX7_setRoom ∈ lw_tbl := List.mem_of_getElem? (i := 589) (by decide +kernel)
theorem lk_X9_145 : Cond.methodLink RX9 145 yX7_add ∈ lw_tbl := List.mem_of_getElem? (i := 598) (by decide +kernel)
theorem lk_X9_147 : Cond.methodLink RX9 147 yX7_addWish ∈ lw_tbl := List.mem_of_getElem? (i := 609) (by decide +kernel)
theorem lk_X7_53 : Cond.methodLink RX7 53 yX7_has ∈ lw_tbl := List.mem_of_getElem? (i := 613) (by decide +kernel)
theorem lk_X7_56 : Cond.methodLink RX7 56 yX7_isWished ∈ lw_tbl := List.mem_of_getElem? (i := 617) (by decide +kernel)
theorem lk_X9_150 : Cond.methodLink RX9 150 yX9_isHour ∈ lw_tbl := List.mem_of_getElem? (i := 625) (by decide +kernel)
theorem lk_X9_153 : Cond.methodLink RX9 153 yX6_countsAsWet ∈ lw_tbl := List.mem_of_getElem? (i := 626) (by decide +kernel)
theorem lk_X6_64 : Cond.methodLink RX6 64 yX6_isWet ∈ lw_tbl := List.mem_of_getElem? (i := 630) (by decide +kernel)
theorem lk_X9_156 : Cond.methodLink RX9 156 yX7_has ∈ lw_tbl := List.mem_of_getElem? (i := 638) (by decide +kernel)
theorem lk_X9_161 : Cond.methodLink RX9 161 yX7_place ∈ lw_tbl := List.mem_of_getElem? (i := 639) (by decide +kernel)
theorem lk_X9_165 : Cond.methodLink RX9 165 yX7_send ∈ lw_tbl := List.mem_of_getElem? (i := 647) (by decide +kernel)
theorem lk_X7_67 : Cond.methodLink RX7 67 yX4_isThere ∈ lw_tbl := List.mem_of_getElem? (i := 654) (by decide +kernel)
theorem lk_X7_73 : Cond.methodLink RX7 73 yX7_sendParty ∈ lw_tbl := List.mem_of_getElem? (i := 655) (by decide +kernel)
theorem lk_X7_77 : Cond.methodLink RX7 77 yX7_place ∈ lw_tbl := List.mem_of_getElem? (i := 659) (by decide +kernel)
theorem lk_X9_175 : Cond.methodLink RX9 175 yX7_peopleIn ∈ lw_tbl := List.mem_of_getElem? (i := 668) (by decide +kernel)
theorem lk_X9_179 : Cond.methodLink RX9 179 yX0_define ∈ lw_tbl := List.mem_of_getElem? (i := 676) (by decide +kernel)
theorem lk_X0_44 : Cond.methodLink RX0 44 yX0_isOfAnother ∈ lw_tbl := List.mem_of_getElem? (i := 681) (by decide +kernel)
theorem lk_X0_47 : Cond.methodLink RX0 47 yX0_childrenIn ∈ lw_tbl := List.mem_of_getElem? (i := 685) (by decide +kernel)
theorem lk_X9_185 : Cond.methodLink RX9 185 yX0_addChild ∈ lw_tbl := List.mem_of_getElem? (i := 693) (by decide +kernel)
theorem lk_X0_51 : Cond.methodLink RX0 51 yX0_childrenOf ∈ lw_tbl := List.mem_of_getElem? (i := 697) (by decide +kernel)
theorem lk_X9_188 : Cond.methodLink RX9 188 yX0_handOver ∈ lw_tbl := List.mem_of_getElem? (i := 705) (by decide +kernel)
theorem lk_X0_54 : Cond.methodLink RX0 54 yX0_hasChild ∈ lw_tbl := List.mem_of_getElem? (i := 709) (by decide +kernel)
theorem lk_X0_58 : Cond.methodLink RX0 58 yX0_groupFor ∈ lw_tbl := List.mem_of_getElem? (i := 713) (by decide +kernel)
theorem lk_X9_191 : Cond.methodLink RX9 191 yX0_giveBack ∈ lw_tbl := List.mem_of_getElem? (i := 721) (by decide +kernel)
theorem lk_X9_194 : Cond.methodLink RX9 194 yX0_hasChild ∈ lw_tbl := List.mem_of_getElem? (i := 729) (by decide +kernel)
theorem lk_X9_200 : Cond.methodLink RX9 200 yX5_add ∈ lw_tbl := List.mem_of_getElem? (i := 734) (by decide +kernel)
theorem lk_X9_201 : Cond.methodLink RX9 201 yX5_paidBack ∈ lw_tbl := List.mem_of_getElem? (i := 743) (by decide +kernel)
theorem lk_X5_29 : Cond.methodLink RX5 29 yX5_latestDay ∈ lw_tbl := List.mem_of_getElem? (i := 747) (by decide +kernel)
theorem lk_X9_204 : Cond.methodLink RX9 204 yX6_renew ∈ lw_tbl := List.mem_of_getElem? (i := 758) (by decide +kernel)
theorem lk_X6_35 : Cond.methodLink RX6 35 yX6_has ∈ lw_tbl := List.mem_of_getElem? (i := 762) (by decide +kernel)
theorem lk_X6_39 : Cond.methodLink RX6 39 yX6_find ∈ lw_tbl := List.mem_of_getElem? (i := 767) (by decide +kernel)
theorem lk_X6_43 : Cond.methodLink RX6 43 yJ7_fill_fda19 ∈ lw_tbl := List.mem_of_getElem? (i := 771) (by decide +kernel)
theorem lk_J7_13 : Cond.methodLink RJ7 13 yJ7_rangeCheck_23922 ∈ lw_tbl := List.mem_of_getElem? (i := 774) (by decide +kernel)
theorem lk_X9_207 : Cond.methodLink RX9 207 yX6_drop ∈ lw_tbl := List.mem_of_getElem? (i := 781) (by decide +kernel)
theorem lk_X9_210 : Cond.methodLink RX9 210 yX6_store ∈ lw_tbl := List.mem_of_getElem? (i := 789) (by decide +kernel)
theorem lk_X6_46 : Cond.methodLink RX6 46 yX6_refusal ∈ lw_tbl := List.mem_of_getElem? (i := 793) (by decide +kernel)
theorem lk_X6_50 : Cond.methodLink RX6 50 yX6_cut ∈ lw_tbl := List.mem_of_getElem? (i := 797) (by decide +kernel)
theorem lk_X9_213 : Cond.methodLink RX9 213 yX6_read ∈ lw_tbl := List.mem_of_getElem? (i := 804) (by decide +kernel)
theorem lk_X9_216 : Cond.methodLink RX9 216 yX6_transfer ∈ lw_tbl := List.mem_of_getElem? (i := 813) (by decide +kernel)
theorem lk_X6_55 : Cond.methodLink RX6 55 yX6_hasItems ∈ lw_tbl := List.mem_of_getElem? (i := 817) (by decide +kernel)
theorem lk_X9_223 : Cond.methodLink RX9 223 yX4_lodgedCount ∈ lw_tbl := List.mem_of_getElem? (i := 826) (by decide +kernel)
theorem lk_X9_242 : Cond.methodLink RX9 242 yX9_count ∈ lw_tbl := List.mem_of_getElem? (i := 836) (by decide +kernel)
theorem lk_X9_247 : Cond.methodLink RX9 247 yX9_apart ∈ lw_tbl := List.mem_of_getElem? (i := 837) (by decide +kernel)
theorem lk_X9_250 : Cond.methodLink RX9 250 yX9_where ∈ lw_tbl := List.mem_of_getElem? (i := 838) (by decide +kernel)
theorem lk_X10_132 : Cond.methodLink RX10 132 yX10_within ∈ lw_tbl := List.mem_of_getElem? (i := 993) (by decide +kernel)
theorem lk_X10_145 : Cond.methodLink RX10 145 yX10_isWeek ∈ lw_tbl := List.mem_of_getElem? (i := 1001) (by decide +kernel)
theorem lk_X10_151 : Cond.methodLink RX10 151 yX10_isParty ∈ lw_tbl := List.mem_of_getElem? (i := 1010) (by decide +kernel)
theorem lk_X10_156 : Cond.methodLink RX10 156 yX10_meet ∈ lw_tbl := List.mem_of_getElem? (i := 1015) (by decide +kernel)
theorem lk_X10_170 : Cond.methodLink RX10 170 yX10_dearest ∈ lw_tbl := List.mem_of_getElem? (i := 1023) (by decide +kernel)
theorem lk_X10_167 : Cond.methodLink RX10 167 yX10_mayLodge ∈ lw_tbl := List.mem_of_getElem? (i := 1027) (by decide +kernel)
theorem lk_X10_160 : Cond.methodLink RX10 160 yX10_isFree ∈ lw_tbl := List.mem_of_getElem? (i := 1031) (by decide +kernel)
theorem lk_X10_163 : Cond.methodLink RX10 163 yX10_hasTold ∈ lw_tbl := List.mem_of_getElem? (i := 1035) (by decide +kernel)
theorem lk_X10_177 : Cond.methodLink RX10 177 yX10_isHut ∈ lw_tbl := List.mem_of_getElem? (i := 1055) (by decide +kernel)
theorem lk_X10_180 : Cond.methodLink RX10 180 yX10_who ∈ lw_tbl := List.mem_of_getElem? (i := 1059) (by decide +kernel)
theorem lk_X10_174 : Cond.methodLink RX10 174 yX10_isThere ∈ lw_tbl := List.mem_of_getElem? (i := 1063) (by decide +kernel)
theorem lk_X10_192 : Cond.methodLink RX10 192 yX10_findSittings ∈ lw_tbl := List.mem_of_getElem? (i := 1080) (by decide +kernel)
theorem lk_X10_188 : Cond.methodLink RX10 188 yX10_findUnits ∈ lw_tbl := List.mem_of_getElem? (i := 1084) (by decide +kernel)
theorem lk_X10_198 : Cond.methodLink RX10 198 yX10_dinners ∈ lw_tbl := List.mem_of_getElem? (i := 1101) (by decide +kernel)
theorem lk_X10_213 : Cond.methodLink RX10 213 yX10_isWet ∈ lw_tbl := List.mem_of_getElem? (i := 1132) (by decide +kernel)
theorem lk_X10_216 : Cond.methodLink RX10 216 yX10_placeOf ∈ lw_tbl := List.mem_of_getElem? (i := 1140) (by decide +kernel)
theorem lk_X10_219 : Cond.methodLink RX10 219 yX10_findCrowds ∈ lw_tbl := List.mem_of_getElem? (i := 1148) (by decide +kernel)
theorem lk_X10_232 : Cond.methodLink RX10 232 yX10_manyIn ∈ lw_tbl := List.mem_of_getElem? (i := 1167) (by decide +kernel)
theorem lk_X10_235 : Cond.methodLink RX10 235 yX10_isChild ∈ lw_tbl := List.mem_of_getElem? (i := 1179) (by decide +kernel)
theorem lk_X10_250 : Cond.methodLink RX10 250 yX10_isSheet ∈ lw_tbl := List.mem_of_getElem? (i := 1206) (by decide +kernel)
theorem lk_X10_253 : Cond.methodLink RX10 253 yX10_met ∈ lw_tbl := List.mem_of_getElem? (i := 1209) (by decide +kernel)
theorem lk_X10_256 : Cond.methodLink RX10 256 yX10_lacks ∈ lw_tbl := List.mem_of_getElem? (i := 1221) (by decide +kernel)
theorem lk_X10_263 : Cond.methodLink RX10 263 yX10_count ∈ lw_tbl := List.mem_of_getElem? (i := 1243) (by decide +kernel)
theorem lk_X10_266 : Cond.methodLink RX10 266 yX10_apart ∈ lw_tbl := List.mem_of_getElem? (i := 1244) (by decide +kernel)
theorem cs_X0_define_40 : xCN mX0_define mX9_within 40 3 := ⟨⟨me_X9_within, pd_X9_within, by decide, by decide⟩, List.mem_of_getElem? (i := 9) rfl, st_X9_within⟩
theorem cs_X0_define_44 : xCV mX0_define mX0_isOfAnother 44 0 3 := ⟨⟨me_X0_isOfAnother, pd_X0_isOfAnother, by decide, by decide⟩, lk_X0_44, im_X0_isOfAnother, se_X0_isOfAnother, rfl⟩
theorem cs_X0_define_47 : xCV mX0_define mX0_childrenIn 47 0 1 := ⟨⟨me_X0_childrenIn, pd_X0_childrenIn, by decide, by decide⟩, lk_X0_47, im_X0_childrenIn, se_X0_childrenIn, rfl⟩
theorem cs_X0_hasChild_40 : xCN mX0_hasChild mX9_within 40 3 := ⟨⟨me_X9_within, pd_X9_within, by decide, by decide⟩, List.mem_of_getElem? (i := 9) rfl, st_X9_within⟩
theorem cs_X0_addChild_40 : xCN mX0_addChild mX9_within 40 3 := ⟨⟨me_X9_within, pd_X9_within, by decide, by decide⟩, List.mem_of_getElem? (i := 9) rfl, st_X9_within⟩
theorem cs_X0_addChild_51 : xCV mX0_addChild mX0_childrenOf 51 0 1 := ⟨⟨me_X0_childrenOf, pd_X0_childrenOf, by decide, by decide⟩, lk_X0_51, im_X0_childrenOf, se_X0_childrenOf, rfl⟩
theorem cs_X0_handOver_54 : xCV mX0_handOver mX0_hasChild 54 0 1 := ⟨⟨me_X0_hasChild, pd_X0_hasChild, by decide, by decide⟩, lk_X0_54, im_X0_hasChild, se_X0_hasChild, rfl⟩
theorem cs_X0_handOver_58 : xCV mX0_handOver mX0_groupFor 58 0 1 := ⟨⟨me_X0_groupFor, pd_X0_groupFor, by decide, by decide⟩, lk_X0_58, im_X0_groupFor, se_X0_groupFor, rfl⟩
theorem cs_X0_handOver_47 : xCV mX0_handOver mX0_childrenIn 47 0 1 := ⟨⟨me_X0_childrenIn, pd_X0_childrenIn, by decide, by decide⟩, lk_X0_47, im_X0_childrenIn, se_X0_childrenIn, rfl⟩
theorem cs_X0_groupFor_40 : xCN mX0_groupFor mX9_within 40 3 := ⟨⟨me_X9_within, pd_X9_within, by decide, by decide⟩, List.mem_of_getElem? (i := 9) rfl, st_X9_within⟩
theorem cs_X0_giveBack_54 : xCV mX0_giveBack mX0_hasChild 54 0 1 := ⟨⟨me_X0_hasChild, pd_X0_hasChild, by decide, by decide⟩, lk_X0_54, im_X0_hasChild, se_X0_hasChild, rfl⟩
theorem cs_X1_has_22 : xCN mX1_has mX9_within 22 3 := ⟨⟨me_X9_within, pd_X9_within, by decide, by decide⟩, List.mem_of_getElem? (i := 0) rfl, st_X9_within⟩
theorem cs_X1_add_22 : xCN mX1_add mX9_within 22 3 := ⟨⟨me_X9_within, pd_X9_within, by decide, by decide⟩, List.mem_of_getElem? (i := 0) rfl, st_X9_within⟩
theorem cs_X2_setPart_22 : xCN mX2_setPart mX9_within 22 3 := ⟨⟨me_X9_within, pd_X9_within, by decide, by decide⟩, List.mem_of_getElem? (i := 6) rfl, st_X9_within⟩
theorem cs_X2_entry_22 : xCN mX2_entry mX9_within 22 3 := ⟨⟨me_X9_within, pd_X9_within, by decide, by decide⟩, List.mem_of_getElem? (i := 6) rfl, st_X9_within⟩
theorem cs_X3_relate_29 : xCV mX3_relate mX4_has 29 4 1 := ⟨⟨me_X4_has, pd_X4_has, by decide, by decide⟩, lk_X3_29, im_X4_has, se_X4_has, rfl⟩
theorem cs_X3_relate_33 : xCN mX3_relate mX9_within 33 3 := ⟨⟨me_X9_within, pd_X9_within, by decide, by decide⟩, List.mem_of_getElem? (i := 3) rfl, st_X9_within⟩
theorem cs_X3_relate_37 : xCV mX3_relate mX3_liveInOneRow 37 3 2 := ⟨⟨me_X3_liveInOneRow, pd_X3_liveInOneRow, by decide, by decide⟩, lk_X3_37, im_X3_liveInOneRow, se_X3_liveInOneRow, rfl⟩
theorem cs_X3_relate_41 : xCV mX3_relate mX4_setTold 41 4 3 := ⟨⟨me_X4_setTold, pd_X4_setTold, by decide, by decide⟩, lk_X3_41, im_X4_setTold, se_X4_setTold, rfl⟩
theorem cs_X3_liveInOneRow_45 : xCV mX3_liveInOneRow mX4_isLodged 45 4 1 := ⟨⟨me_X4_isLodged, pd_X4_isLodged, by decide, by decide⟩, lk_X3_45, im_X4_isLodged, se_X4_isLodged, rfl⟩
theorem cs_X3_liveInOneRow_55 : xCV mX3_liveInOneRow mX3_isInRow 55 3 2 := ⟨⟨me_X3_isInRow, pd_X3_isInRow, by decide, by decide⟩, lk_X3_55, im_X3_isInRow, se_X3_isInRow, rfl⟩
theorem cs_X3_liveInOneRow_58 : xCV mX3_liveInOneRow mX4_shareWeek 58 4 2 := ⟨⟨me_X4_shareWeek, pd_X4_shareWeek, by decide, by decide⟩, lk_X3_58, im_X4_shareWeek, se_X4_shareWeek, rfl⟩
theorem cs_X3_isInRow_45 : xCV mX3_isInRow mX4_isLodged 45 4 1 := ⟨⟨me_X4_isLodged, pd_X4_isLodged, by decide, by decide⟩, lk_X3_45, im_X4_isLodged, se_X4_isLodged, rfl⟩
theorem cs_X3_takeIn_29 : xCV mX3_takeIn mX4_has 29 4 1 := ⟨⟨me_X4_has, pd_X4_has, by decide, by decide⟩, lk_X3_29, im_X4_has, se_X4_has, rfl⟩
theorem cs_X3_takeIn_45 : xCV mX3_takeIn mX4_isLodged 45 4 1 := ⟨⟨me_X4_isLodged, pd_X4_isLodged, by decide, by decide⟩, lk_X3_45, im_X4_isLodged, se_X4_isLodged, rfl⟩
theorem cs_X3_takeIn_61 : xCV mX3_takeIn mX3_dearestHut 61 3 1 := ⟨⟨me_X3_dearestHut, pd_X3_dearestHut, by decide, by decide⟩, lk_X3_61, im_X3_dearestHut, se_X3_dearestHut, rfl⟩
theorem cs_X3_takeIn_68 : xCV mX3_takeIn mX3_makesRoom 68 3 2 := ⟨⟨me_X3_makesRoom, pd_X3_makesRoom, by decide, by decide⟩, lk_X3_68, im_X3_makesRoom, se_X3_makesRoom, rfl⟩
theorem cs_X3_dearestHut_72 : xCV mX3_dearestHut mX3_mayHave 72 3 2 := ⟨⟨me_X3_mayHave, pd_X3_mayHave, by decide, by decide⟩, lk_X3_72, im_X3_mayHave, se_X3_mayHave, rfl⟩
theorem cs_X3_dearestHut_75 : xCV mX3_dearestHut mX3_cost 75 3 2 := ⟨⟨me_X3_cost, pd_X3_cost, by decide, by decide⟩, lk_X3_75, im_X3_cost, se_X3_cost, rfl⟩
theorem cs_X3_mayHave_55 : xCV mX3_mayHave mX3_isInRow 55 3 2 := ⟨⟨me_X3_isInRow, pd_X3_isInRow, by decide, by decide⟩, lk_X3_55, im_X3_isInRow, se_X3_isInRow, rfl⟩
theorem cs_X3_mayHave_58 : xCV mX3_mayHave mX4_shareWeek 58 4 2 := ⟨⟨me_X4_shareWeek, pd_X4_shareWeek, by decide, by decide⟩, lk_X3_58, im_X4_shareWeek, se_X4_shareWeek, rfl⟩
theorem cs_X3_mayHave_85 : xCV mX3_mayHave mX4_areTold 85 4 3 := ⟨⟨me_X4_areTold, pd_X4_areTold, by decide, by decide⟩, lk_X3_85, im_X4_areTold, se_X4_areTold, rfl⟩
theorem cs_X3_cost_88 : xCV mX3_cost mX3_isNextTo 88 3 2 := ⟨⟨me_X3_isNextTo, pd_X3_isNextTo, by decide, by decide⟩, lk_X3_88, im_X3_isNextTo, se_X3_isNextTo, rfl⟩
theorem cs_X3_isNextTo_85 : xCV mX3_isNextTo mX4_areTold 85 4 3 := ⟨⟨me_X4_areTold, pd_X4_areTold, by decide, by decide⟩, lk_X3_85, im_X4_areTold, se_X4_areTold, rfl⟩
theorem cs_X3_isNextTo_55 : xCV mX3_isNextTo mX3_isInRow 55 3 2 := ⟨⟨me_X3_isInRow, pd_X3_isInRow, by decide, by decide⟩, lk_X3_55, im_X3_isInRow, se_X3_isInRow, rfl⟩
theorem cs_X3_isNextTo_58 : xCV mX3_isNextTo mX4_shareWeek 58 4 2 := ⟨⟨me_X4_shareWeek, pd_X4_shareWeek, by decide, by decide⟩, lk_X3_58, im_X4_shareWeek, se_X4_shareWeek, rfl⟩
theorem cs_X3_makesRoom_72 : xCV mX3_makesRoom mX3_mayHave 72 3 2 := ⟨⟨me_X3_mayHave, pd_X3_mayHave, by decide, by decide⟩, lk_X3_72, im_X3_mayHave, se_X3_mayHave, rfl⟩
theorem cs_X3_makesRoom_61 : xCV mX3_makesRoom mX3_dearestHut 61 3 1 := ⟨⟨me_X3_dearestHut, pd_X3_dearestHut, by decide, by decide⟩, lk_X3_61, im_X3_dearestHut, se_X3_dearestHut, rfl⟩
theorem cs_X3_guest_91 : xCV mX3_guest mX1_has 91 1 1 := ⟨⟨me_X1_has, pd_X1_has, by decide, by decide⟩, lk_X3_91, im_X1_has, se_X1_has, rfl⟩
theorem cs_X3_guest_92 : xCN mX3_guest mX9_isWeek 92 1 := ⟨⟨me_X9_isWeek, pd_X9_isWeek, by decide, by decide⟩, List.mem_of_getElem? (i := 4) rfl, st_X9_isWeek⟩
theorem cs_X3_guest_95 : xCV mX3_guest mX3_whoIsIn 95 3 2 := ⟨⟨me_X3_whoIsIn, pd_X3_whoIsIn, by decide, by decide⟩, lk_X3_95, im_X3_whoIsIn, se_X3_whoIsIn, rfl⟩
theorem cs_X3_whoIsIn_98 : xCV mX3_whoIsIn mX4_isThere 98 4 2 := ⟨⟨me_X4_isThere, pd_X4_isThere, by decide, by decide⟩, lk_X3_98, im_X4_isThere, se_X4_isThere, rfl⟩
theorem cs_X3_emptyBeds_92 : xCN mX3_emptyBeds mX9_isWeek 92 1 := ⟨⟨me_X9_isWeek, pd_X9_isWeek, by decide, by decide⟩, List.mem_of_getElem? (i := 4) rfl, st_X9_isWeek⟩
theorem cs_X3_emptyBeds_95 : xCV mX3_emptyBeds mX3_whoIsIn 95 3 2 := ⟨⟨me_X3_whoIsIn, pd_X3_whoIsIn, by decide, by decide⟩, lk_X3_95, im_X3_whoIsIn, se_X3_whoIsIn, rfl⟩
theorem cs_X4_has_43 : xCN mX4_has mX9_within 43 3 := ⟨⟨me_X9_within, pd_X9_within, by decide, by decide⟩, List.mem_of_getElem? (i := 1) rfl, st_X9_within⟩
theorem cs_X4_add_43 : xCN mX4_add mX9_within 43 3 := ⟨⟨me_X9_within, pd_X9_within, by decide, by decide⟩, List.mem_of_getElem? (i := 1) rfl, st_X9_within⟩
theorem cs_X4_add_47 : xCN mX4_add mX9_isWeek 47 1 := ⟨⟨me_X9_isWeek, pd_X9_isWeek, by decide, by decide⟩, List.mem_of_getElem? (i := 2) rfl, st_X9_isWeek⟩
theorem cs_X4_isThere_51 : xCV mX4_isThere mX4_isLodged 51 4 1 := ⟨⟨me_X4_isLodged, pd_X4_isLodged, by decide, by decide⟩, lk_X4_51, im_X4_isLodged, se_X4_isLodged, rfl⟩
theorem cs_X4_isThere_43 : xCN mX4_isThere mX9_within 43 3 := ⟨⟨me_X9_within, pd_X9_within, by decide, by decide⟩, List.mem_of_getElem? (i := 1) rfl, st_X9_within⟩
theorem cs_X4_giveUpHut_54 : xCV mX4_giveUpHut mX4_has 54 4 1 := ⟨⟨me_X4_has, pd_X4_has, by decide, by decide⟩, lk_X4_54, im_X4_has, se_X4_has, rfl⟩
theorem cs_X4_giveUpHut_51 : xCV mX4_giveUpHut mX4_isLodged 51 4 1 := ⟨⟨me_X4_isLodged, pd_X4_isLodged, by decide, by decide⟩, lk_X4_51, im_X4_isLodged, se_X4_isLodged, rfl⟩
theorem cs_X4_fact_54 : xCV mX4_fact mX4_has 54 4 1 := ⟨⟨me_X4_has, pd_X4_has, by decide, by decide⟩, lk_X4_54, im_X4_has, se_X4_has, rfl⟩
theorem cs_X4_lodgedCount_51 : xCV mX4_lodgedCount mX4_isLodged 51 4 1 := ⟨⟨me_X4_isLodged, pd_X4_isLodged, by decide, by decide⟩, lk_X4_51, im_X4_isLodged, se_X4_isLodged, rfl⟩
theorem cs_X5_add_25 : xCN mX5_add mX9_within 25 3 := ⟨⟨me_X9_within, pd_X9_within, by decide, by decide⟩, List.mem_of_getElem? (i := 10) rfl, st_X9_within⟩
theorem cs_X5_paidBack_25 : xCN mX5_paidBack mX9_within 25 3 := ⟨⟨me_X9_within, pd_X9_within, by decide, by decide⟩, List.mem_of_getElem? (i := 10) rfl, st_X9_within⟩
theorem cs_X5_paidBack_29 : xCV mX5_paidBack mX5_latestDay 29 5 1 := ⟨⟨me_X5_latestDay, pd_X5_latestDay, by decide, by decide⟩, lk_X5_29, im_X5_latestDay, se_X5_latestDay, rfl⟩
theorem pr_X5_33 : xMX RX5 33 := ⟨List.mem_of_getElem? (i := 751) (by decide +kernel), List.mem_of_getElem? (i := 752) (by decide +kernel), List.mem_of_getElem? (i := 60) (by decide +kernel), List.mem_of_getElem? (i := 753) (by decide +kernel)⟩
theorem cs_X6_has_31 : xCN mX6_has mX9_within 31 3 := ⟨⟨me_X9_within, pd_X9_within, by decide, by decide⟩, List.mem_of_getElem? (i := 11) rfl, st_X9_within⟩
theorem cs_X6_renew_35 : xCV mX6_renew mX6_has 35 6 1 := ⟨⟨me_X6_has, pd_X6_has, by decide, by decide⟩, lk_X6_35, im_X6_has, se_X6_has, rfl⟩
theorem cs_X6_renew_31 : xCN mX6_renew mX9_within 31 3 := ⟨⟨me_X9_within, pd_X9_within, by decide, by decide⟩, List.mem_of_getElem? (i := 11) rfl, st_X9_within⟩
theorem cs_X6_renew_39 : xCV mX6_renew mX6_find 39 6 1 := ⟨⟨me_X6_find, pd_X6_find, by decide, by decide⟩, lk_X6_39, im_X6_find, se_X6_find, rfl⟩
theorem cs_X6_renew_43 : xCS mX6_renew mJ7_fill_fda19 43 4 := ⟨⟨me_J7_fill_fda19, pd_J7_fill_fda19, by decide, by decide⟩, lk_X6_43, st_J7_fill_fda19⟩
theorem cs_X6_drop_35 : xCV mX6_drop mX6_has 35 6 1 := ⟨⟨me_X6_has, pd_X6_has, by decide, by decide⟩, lk_X6_35, im_X6_has, se_X6_has, rfl⟩
theorem cs_X6_drop_39 : xCV mX6_drop mX6_find 39 6 1 := ⟨⟨me_X6_find, pd_X6_find, by decide, by decide⟩, lk_X6_39, im_X6_find, se_X6_find, rfl⟩
theorem cs_X6_store_46 : xCV mX6_store mX6_refusal 46 6 3 := ⟨⟨me_X6_refusal, pd_X6_refusal, by decide, by decide⟩, lk_X6_46, im_X6_refusal, se_X6_refusal, rfl⟩
theorem cs_X6_store_50 : xCS mX6_store mX6_cut 50 2 := ⟨⟨me_X6_cut, pd_X6_cut, by decide, by decide⟩, lk_X6_50, st_X6_cut⟩
theorem cs_X6_read_46 : xCV mX6_read mX6_refusal 46 6 3 := ⟨⟨me_X6_refusal, pd_X6_refusal, by decide, by decide⟩, lk_X6_46, im_X6_refusal, se_X6_refusal, rfl⟩
theorem cs_X6_refusal_35 : xCV mX6_refusal mX6_has 35 6 1 := ⟨⟨me_X6_has, pd_X6_has, by decide, by decide⟩, lk_X6_35, im_X6_has, se_X6_has, rfl⟩
theorem cs_X6_refusal_31 : xCN mX6_refusal mX9_within 31 3 := ⟨⟨me_X9_within, pd_X9_within, by decide, by decide⟩, List.mem_of_getElem? (i := 11) rfl, st_X9_within⟩
theorem cs_X6_refusal_39 : xCV mX6_refusal mX6_find 39 6 1 := ⟨⟨me_X6_find, pd_X6_find, by decide, by decide⟩, lk_X6_39, im_X6_find, se_X6_find, rfl⟩
theorem cs_X6_transfer_35 : xCV mX6_transfer mX6_has 35 6 1 := ⟨⟨me_X6_has, pd_X6_has, by decide, by decide⟩, lk_X6_35, im_X6_has, se_X6_has, rfl⟩
theorem cs_X6_transfer_39 : xCV mX6_transfer mX6_find 39 6 1 := ⟨⟨me_X6_find, pd_X6_find, by decide, by decide⟩, lk_X6_39, im_X6_find, se_X6_find, rfl⟩
theorem cs_X6_transfer_55 : xCV mX6_transfer mX6_hasItems 55 6 3 := ⟨⟨me_X6_hasItems, pd_X6_hasItems, by decide, by decide⟩, lk_X6_55, im_X6_hasItems, se_X6_hasItems, rfl⟩
theorem pr_X6_58 : xMC RX6 58 := ⟨List.mem_of_getElem? (i := 821) (by decide +kernel), List.mem_of_getElem? (i := 653) (by decide +kernel), List.mem_of_getElem? (i := 652) (by decide +kernel), List.mem_of_getElem? (i := 61) (by decide +kernel)⟩
theorem cs_X6_countsAsWet_64 : xCV mX6_countsAsWet mX6_isWet 64 6 1 := ⟨⟨me_X6_isWet, pd_X6_isWet, by decide, by decide⟩, lk_X6_64, im_X6_isWet, se_X6_isWet, rfl⟩
theorem cs_X7_has_45 : xCN mX7_has mX9_within 45 3 := ⟨⟨me_X9_within, pd_X9_within, by decide, by decide⟩, List.mem_of_getElem? (i := 7) rfl, st_X9_within⟩
theorem cs_X7_setRoom_45 : xCN mX7_setRoom mX9_within 45 3 := ⟨⟨me_X9_within, pd_X9_within, by decide, by decide⟩, List.mem_of_getElem? (i := 7) rfl, st_X9_within⟩
theorem cs_X7_add_45 : xCN mX7_add mX9_within 45 3 := ⟨⟨me_X9_within, pd_X9_within, by decide, by decide⟩, List.mem_of_getElem? (i := 7) rfl, st_X9_within⟩
theorem cs_X7_add_49 : xCN mX7_add mX9_isHour 49 1 := ⟨⟨me_X9_isHour, pd_X9_isHour, by decide, by decide⟩, List.mem_of_getElem? (i := 8) rfl, st_X9_isHour⟩
theorem cs_X7_addWish_53 : xCV mX7_addWish mX7_has 53 7 1 := ⟨⟨me_X7_has, pd_X7_has, by decide, by decide⟩, lk_X7_53, im_X7_has, se_X7_has, rfl⟩
theorem cs_X7_addWish_56 : xCV mX7_addWish mX7_isWished 56 7 2 := ⟨⟨me_X7_isWished, pd_X7_isWished, by decide, by decide⟩, lk_X7_56, im_X7_isWished, se_X7_isWished, rfl⟩
theorem pr_X7_60 : xMC RX7 60 := ⟨List.mem_of_getElem? (i := 651) (by decide +kernel), List.mem_of_getElem? (i := 653) (by decide +kernel), List.mem_of_getElem? (i := 652) (by decide +kernel), List.mem_of_getElem? (i := 61) (by decide +kernel)⟩
theorem cs_X7_send_67 : xCV mX7_send mX4_isThere 67 4 2 := ⟨⟨me_X4_isThere, pd_X4_isThere, by decide, by decide⟩, lk_X7_67, im_X4_isThere, se_X4_isThere, rfl⟩
theorem cs_X7_send_73 : xCV mX7_send mX7_sendParty 73 7 4 := ⟨⟨me_X7_sendParty, pd_X7_sendParty, by decide, by decide⟩, lk_X7_73, im_X7_sendParty, se_X7_sendParty, rfl⟩
theorem cs_X7_sendParty_77 : xCV mX7_sendParty mX7_place 77 7 2 := ⟨⟨me_X7_place, pd_X7_place, by decide, by decide⟩, lk_X7_77, im_X7_place, se_X7_place, rfl⟩
theorem cs_X8_setSeats_45 : xCN mX8_setSeats mX9_within 45 3 := ⟨⟨me_X9_within, pd_X9_within, by decide, by decide⟩, List.mem_of_getElem? (i := 5) rfl, st_X9_within⟩
theorem cs_X8_arrange_49 : xCV mX8_arrange mX8_fillBenches 49 8 2 := ⟨⟨me_X8_fillBenches, pd_X8_fillBenches, by decide, by decide⟩, lk_X8_49, im_X8_fillBenches, se_X8_fillBenches, rfl⟩
theorem cs_X8_arrange_53 : xCV mX8_arrange mX8_findNumbers 53 8 0 := ⟨⟨me_X8_findNumbers, pd_X8_findNumbers, by decide, by decide⟩, lk_X8_53, im_X8_findNumbers, se_X8_findNumbers, rfl⟩
theorem cs_X8_arrange_56 : xCV mX8_arrange mX8_findDifference 56 8 0 := ⟨⟨me_X8_findDifference, pd_X8_findDifference, by decide, by decide⟩, lk_X8_56, im_X8_findDifference, se_X8_findDifference, rfl⟩
theorem cs_X8_arrange_59 : xCV mX8_arrange mX8_partBenches 59 8 0 := ⟨⟨me_X8_partBenches, pd_X8_partBenches, by decide, by decide⟩, lk_X8_59, im_X8_partBenches, se_X8_partBenches, rfl⟩
theorem cs_X8_fillBenches_62 : xCS mX8_fillBenches mJ7_fill_53178 62 2 := ⟨⟨me_J7_fill_53178, pd_J7_fill_53178, by decide, by decide⟩, lk_X8_62, st_J7_fill_53178⟩
theorem cs_X8_fillBenches_71 : xCV mX8_fillBenches mX4_isThere 71 4 2 := ⟨⟨me_X4_isThere, pd_X4_isThere, by decide, by decide⟩, lk_X8_71, im_X4_isThere, se_X4_isThere, rfl⟩
theorem cs_X8_fillBenches_78 : xCV mX8_fillBenches mX8_benchFor 78 8 1 := ⟨⟨me_X8_benchFor, pd_X8_benchFor, by decide, by decide⟩, lk_X8_78, im_X8_benchFor, se_X8_benchFor, rfl⟩
theorem cs_X8_findNumbers_62 : xCS mX8_findNumbers mJ7_fill_53178 62 2 := ⟨⟨me_J7_fill_53178, pd_J7_fill_53178, by decide, by decide⟩, lk_X8_62, st_J7_fill_53178⟩
theorem pr_X8_85 : xMA RX8 85 := ⟨List.mem_of_getElem? (i := 522) (by decide +kernel), List.mem_of_getElem? (i := 523) (by decide +kernel), List.mem_of_getElem? (i := 60) (by decide +kernel), List.mem_of_getElem? (i := 524) (by decide +kernel)⟩
theorem cs_X8_findDifference_90 : xCV mX8_findDifference mX8_isWay 90 8 1 := ⟨⟨me_X8_isWay, pd_X8_isWay, by decide, by decide⟩, lk_X8_90, im_X8_isWay, se_X8_isWay, rfl⟩
theorem cs_X8_partBenches_94 : xCV mX8_partBenches mX8_leadsToBest 94 8 2 := ⟨⟨me_X8_leadsToBest, pd_X8_leadsToBest, by decide, by decide⟩, lk_X8_94, im_X8_leadsToBest, se_X8_leadsToBest, rfl⟩
theorem cs_X8_leadsToBest_97 : xCV mX8_leadsToBest mX8_canBecome 97 8 3 := ⟨⟨me_X8_canBecome, pd_X8_canBecome, by decide, by decide⟩, lk_X8_97, im_X8_canBecome, se_X8_canBecome, rfl⟩
theorem cs_X8_canBecome_90 : xCV mX8_canBecome mX8_isWay 90 8 1 := ⟨⟨me_X8_isWay, pd_X8_isWay, by decide, by decide⟩, lk_X8_90, im_X8_isWay, se_X8_isWay, rfl⟩
theorem cs_X8_dinners_100 : xCV mX8_dinners mX8_sittingOf 100 8 1 := ⟨⟨me_X8_sittingOf, pd_X8_sittingOf, by decide, by decide⟩, lk_X8_100, im_X8_sittingOf, se_X8_sittingOf, rfl⟩
theorem cs_X9_hut_62 : xCV mX9_hut mX1_add 62 1 2 := ⟨⟨me_X1_add, pd_X1_add, by decide, by decide⟩, lk_X9_62, im_X1_add, se_X1_add, rfl⟩
theorem cs_X9_party_72 : xCV mX9_party mX4_add 72 4 5 := ⟨⟨me_X4_add, pd_X4_add, by decide, by decide⟩, lk_X9_72, im_X4_add, se_X4_add, rfl⟩
theorem cs_X9_tell_77 : xCV mX9_tell mX3_relate 77 3 3 := ⟨⟨me_X3_relate, pd_X3_relate, by decide, by decide⟩, lk_X9_77, im_X3_relate, se_X3_relate, rfl⟩
theorem cs_X9_lodge_81 : xCV mX9_lodge mX3_takeIn 81 3 1 := ⟨⟨me_X3_takeIn, pd_X3_takeIn, by decide, by decide⟩, lk_X9_81, im_X3_takeIn, se_X3_takeIn, rfl⟩
theorem cs_X9_leave_89 : xCV mX9_leave mX4_giveUpHut 89 4 1 := ⟨⟨me_X4_giveUpHut, pd_X4_giveUpHut, by decide, by decide⟩, lk_X9_89, im_X4_giveUpHut, se_X4_giveUpHut, rfl⟩
theorem cs_X9_about_92 : xCV mX9_about mX4_fact 92 4 2 := ⟨⟨me_X4_fact, pd_X4_fact, by decide, by decide⟩, lk_X9_92, im_X4_fact, se_X4_fact, rfl⟩
theorem cs_X9_in_95 : xCV mX9_in mX3_guest 95 3 2 := ⟨⟨me_X3_guest, pd_X3_guest, by decide, by decide⟩, lk_X9_95, im_X3_guest, se_X3_guest, rfl⟩
theorem cs_X9_empty_98 : xCV mX9_empty mX3_emptyBeds 98 3 1 := ⟨⟨me_X3_emptyBeds, pd_X3_emptyBeds, by decide, by decide⟩, lk_X9_98, im_X3_emptyBeds, se_X3_emptyBeds, rfl⟩
theorem cs_X9_seats_101 : xCV mX9_seats mX8_setSeats 101 8 2 := ⟨⟨me_X8_setSeats, pd_X8_setSeats, by decide, by decide⟩, lk_X9_101, im_X8_setSeats, se_X8_setSeats, rfl⟩
theorem cs_X9_apart_104 : xCS mX9_apart mX9_isWeek 104 1 := ⟨⟨me_X9_isWeek, pd_X9_isWeek, by decide, by decide⟩, lk_X9_104, st_X9_isWeek⟩
theorem cs_X9_apart_108 : xCV mX9_apart mX8_arrange 108 8 2 := ⟨⟨me_X8_arrange, pd_X8_arrange, by decide, by decide⟩, lk_X9_108, im_X8_arrange, se_X8_arrange, rfl⟩
theorem cs_X9_sits_115 : xCV mX9_sits mX4_has 115 4 1 := ⟨⟨me_X4_has, pd_X4_has, by decide, by decide⟩, lk_X9_115, im_X4_has, se_X4_has, rfl⟩
theorem cs_X9_sits_104 : xCS mX9_sits mX9_isWeek 104 1 := ⟨⟨me_X9_isWeek, pd_X9_isWeek, by decide, by decide⟩, lk_X9_104, st_X9_isWeek⟩
theorem cs_X9_sits_108 : xCV mX9_sits mX8_arrange 108 8 2 := ⟨⟨me_X8_arrange, pd_X8_arrange, by decide, by decide⟩, lk_X9_108, im_X8_arrange, se_X8_arrange, rfl⟩
theorem cs_X9_sits_118 : xCV mX9_sits mX8_sittingOf 118 8 1 := ⟨⟨me_X8_sittingOf, pd_X8_sittingOf, by decide, by decide⟩, lk_X9_118, im_X8_sittingOf, se_X8_sittingOf, rfl⟩
theorem cs_X9_more_121 : xCV mX9_more mX2_setPart 121 2 1 := ⟨⟨me_X2_setPart, pd_X2_setPart, by decide, by decide⟩, lk_X9_121, im_X2_setPart, se_X2_setPart, rfl⟩
theorem cs_X9_foretell_104 : xCS mX9_foretell mX9_isWeek 104 1 := ⟨⟨me_X9_isWeek, pd_X9_isWeek, by decide, by decide⟩, lk_X9_104, st_X9_isWeek⟩
theorem cs_X9_foretell_124 : xCS mX9_foretell mX9_within 124 3 := ⟨⟨me_X9_within, pd_X9_within, by decide, by decide⟩, lk_X9_124, st_X9_within⟩
theorem cs_X9_foretell_108 : xCV mX9_foretell mX8_arrange 108 8 2 := ⟨⟨me_X8_arrange, pd_X8_arrange, by decide, by decide⟩, lk_X9_108, im_X8_arrange, se_X8_arrange, rfl⟩
theorem cs_X9_foretell_128 : xCV mX9_foretell mX8_dinners 128 8 2 := ⟨⟨me_X8_dinners, pd_X8_dinners, by decide, by decide⟩, lk_X9_128, im_X8_dinners, se_X8_dinners, rfl⟩
theorem cs_X9_cook_124 : xCS mX9_cook mX9_within 124 3 := ⟨⟨me_X9_within, pd_X9_within, by decide, by decide⟩, lk_X9_124, st_X9_within⟩
theorem cs_X9_cook_132 : xCV mX9_cook mX9_foretell 132 9 2 := ⟨⟨me_X9_foretell, pd_X9_foretell, by decide, by decide⟩, lk_X9_132, im_X9_foretell, se_X9_foretell, rfl⟩
theorem cs_X9_cook_135 : xCV mX9_cook mX2_serve 135 2 4 := ⟨⟨me_X2_serve, pd_X2_serve, by decide, by decide⟩, lk_X9_135, im_X2_serve, se_X2_serve, rfl⟩
theorem cs_X9_line_139 : xCV mX9_line mX2_entry 139 2 2 := ⟨⟨me_X2_entry, pd_X2_entry, by decide, by decide⟩, lk_X9_139, im_X2_entry, se_X2_entry, rfl⟩
theorem cs_X9_hall_142 : xCV mX9_hall mX7_setRoom 142 7 2 := ⟨⟨me_X7_setRoom, pd_X7_setRoom, by decide, by decide⟩, lk_X9_142, im_X7_setRoom, se_X7_setRoom, rfl⟩
theorem cs_X9_show_145 : xCV mX9_show mX7_add 145 7 3 := ⟨⟨me_X7_add, pd_X7_add, by decide, by decide⟩, lk_X9_145, im_X7_add, se_X7_add, rfl⟩
theorem cs_X9_wish_115 : xCV mX9_wish mX4_has 115 4 1 := ⟨⟨me_X4_has, pd_X4_has, by decide, by decide⟩, lk_X9_115, im_X4_has, se_X4_has, rfl⟩
theorem cs_X9_wish_147 : xCV mX9_wish mX7_addWish 147 7 2 := ⟨⟨me_X7_addWish, pd_X7_addWish, by decide, by decide⟩, lk_X9_147, im_X7_addWish, se_X7_addWish, rfl⟩
theorem cs_X9_wet_150 : xCS mX9_wet mX9_isHour 150 1 := ⟨⟨me_X9_isHour, pd_X9_isHour, by decide, by decide⟩, lk_X9_150, st_X9_isHour⟩
theorem cs_X9_wet_153 : xCV mX9_wet mX6_countsAsWet 153 6 1 := ⟨⟨me_X6_countsAsWet, pd_X6_countsAsWet, by decide, by decide⟩, lk_X9_153, im_X6_countsAsWet, se_X6_countsAsWet, rfl⟩
theorem cs_X9_where_156 : xCV mX9_where mX7_has 156 7 1 := ⟨⟨me_X7_has, pd_X7_has, by decide, by decide⟩, lk_X9_156, im_X7_has, se_X7_has, rfl⟩
theorem cs_X9_where_153 : xCV mX9_where mX6_countsAsWet 153 6 1 := ⟨⟨me_X6_countsAsWet, pd_X6_countsAsWet, by decide, by decide⟩, lk_X9_153, im_X6_countsAsWet, se_X6_countsAsWet, rfl⟩
theorem cs_X9_where_161 : xCV mX9_where mX7_place 161 7 2 := ⟨⟨me_X7_place, pd_X7_place, by decide, by decide⟩, lk_X9_161, im_X7_place, se_X7_place, rfl⟩
theorem cs_X9_goes_115 : xCV mX9_goes mX4_has 115 4 1 := ⟨⟨me_X4_has, pd_X4_has, by decide, by decide⟩, lk_X9_115, im_X4_has, se_X4_has, rfl⟩
theorem cs_X9_goes_104 : xCS mX9_goes mX9_isWeek 104 1 := ⟨⟨me_X9_isWeek, pd_X9_isWeek, by decide, by decide⟩, lk_X9_104, st_X9_isWeek⟩
theorem cs_X9_goes_150 : xCS mX9_goes mX9_isHour 150 1 := ⟨⟨me_X9_isHour, pd_X9_isHour, by decide, by decide⟩, lk_X9_150, st_X9_isHour⟩
theorem cs_X9_goes_153 : xCV mX9_goes mX6_countsAsWet 153 6 1 := ⟨⟨me_X6_countsAsWet, pd_X6_countsAsWet, by decide, by decide⟩, lk_X9_153, im_X6_countsAsWet, se_X6_countsAsWet, rfl⟩
theorem cs_X9_goes_165 : xCV mX9_goes mX7_send 165 7 4 := ⟨⟨me_X7_send, pd_X7_send, by decide, by decide⟩, lk_X9_165, im_X7_send, se_X7_send, rfl⟩
theorem cs_X9_turned_115 : xCV mX9_turned mX4_has 115 4 1 := ⟨⟨me_X4_has, pd_X4_has, by decide, by decide⟩, lk_X9_115, im_X4_has, se_X4_has, rfl⟩
theorem cs_X9_turned_104 : xCS mX9_turned mX9_isWeek 104 1 := ⟨⟨me_X9_isWeek, pd_X9_isWeek, by decide, by decide⟩, lk_X9_104, st_X9_isWeek⟩
theorem cs_X9_turned_150 : xCS mX9_turned mX9_isHour 150 1 := ⟨⟨me_X9_isHour, pd_X9_isHour, by decide, by decide⟩, lk_X9_150, st_X9_isHour⟩
theorem cs_X9_turned_153 : xCV mX9_turned mX6_countsAsWet 153 6 1 := ⟨⟨me_X6_countsAsWet, pd_X6_countsAsWet, by decide, by decide⟩, lk_X9_153, im_X6_countsAsWet, se_X6_countsAsWet, rfl⟩
theorem cs_X9_turned_165 : xCV mX9_turned mX7_send 165 7 4 := ⟨⟨me_X7_send, pd_X7_send, by decide, by decide⟩, lk_X9_165, im_X7_send, se_X7_send, rfl⟩
theorem cs_X9_crowd_156 : xCV mX9_crowd mX7_has 156 7 1 := ⟨⟨me_X7_has, pd_X7_has, by decide, by decide⟩, lk_X9_156, im_X7_has, se_X7_has, rfl⟩
theorem cs_X9_crowd_104 : xCS mX9_crowd mX9_isWeek 104 1 := ⟨⟨me_X9_isWeek, pd_X9_isWeek, by decide, by decide⟩, lk_X9_104, st_X9_isWeek⟩
theorem cs_X9_crowd_153 : xCV mX9_crowd mX6_countsAsWet 153 6 1 := ⟨⟨me_X6_countsAsWet, pd_X6_countsAsWet, by decide, by decide⟩, lk_X9_153, im_X6_countsAsWet, se_X6_countsAsWet, rfl⟩
theorem cs_X9_crowd_165 : xCV mX9_crowd mX7_send 165 7 4 := ⟨⟨me_X7_send, pd_X7_send, by decide, by decide⟩, lk_X9_165, im_X7_send, se_X7_send, rfl⟩
theorem cs_X9_crowd_175 : xCV mX9_crowd mX7_peopleIn 175 7 2 := ⟨⟨me_X7_peopleIn, pd_X7_peopleIn, by decide, by decide⟩, lk_X9_175, im_X7_peopleIn, se_X7_peopleIn, rfl⟩
theorem cs_X9_group_179 : xCV mX9_group mX0_define 179 0 4 := ⟨⟨me_X0_define, pd_X0_define, by decide, by decide⟩, lk_X9_179, im_X0_define, se_X0_define, rfl⟩
theorem cs_X9_child_115 : xCV mX9_child mX4_has 115 4 1 := ⟨⟨me_X4_has, pd_X4_has, by decide, by decide⟩, lk_X9_115, im_X4_has, se_X4_has, rfl⟩
theorem cs_X9_child_185 : xCV mX9_child mX0_addChild 185 0 3 := ⟨⟨me_X0_addChild, pd_X0_addChild, by decide, by decide⟩, lk_X9_185, im_X0_addChild, se_X0_addChild, rfl⟩
theorem cs_X9_hand_188 : xCV mX9_hand mX0_handOver 188 0 1 := ⟨⟨me_X0_handOver, pd_X0_handOver, by decide, by decide⟩, lk_X9_188, im_X0_handOver, se_X0_handOver, rfl⟩
theorem cs_X9_fetch_115 : xCV mX9_fetch mX4_has 115 4 1 := ⟨⟨me_X4_has, pd_X4_has, by decide, by decide⟩, lk_X9_115, im_X4_has, se_X4_has, rfl⟩
theorem cs_X9_fetch_191 : xCV mX9_fetch mX0_giveBack 191 0 2 := ⟨⟨me_X0_giveBack, pd_X0_giveBack, by decide, by decide⟩, lk_X9_191, im_X0_giveBack, se_X0_giveBack, rfl⟩
theorem cs_X9_with_194 : xCV mX9_with mX0_hasChild 194 0 1 := ⟨⟨me_X0_hasChild, pd_X0_hasChild, by decide, by decide⟩, lk_X9_194, im_X0_hasChild, se_X0_hasChild, rfl⟩
theorem cs_X9_list_200 : xCV mX9_list mX5_add 200 5 3 := ⟨⟨me_X5_add, pd_X5_add, by decide, by decide⟩, lk_X9_200, im_X5_add, se_X5_add, rfl⟩
theorem cs_X9_pays_201 : xCV mX9_pays mX5_paidBack 201 5 2 := ⟨⟨me_X5_paidBack, pd_X5_paidBack, by decide, by decide⟩, lk_X9_201, im_X5_paidBack, se_X5_paidBack, rfl⟩
theorem cs_X9_sheet_204 : xCV mX9_sheet mX6_renew 204 6 3 := ⟨⟨me_X6_renew, pd_X6_renew, by decide, by decide⟩, lk_X9_204, im_X6_renew, se_X6_renew, rfl⟩
theorem cs_X9_lose_207 : xCV mX9_lose mX6_drop 207 6 1 := ⟨⟨me_X6_drop, pd_X6_drop, by decide, by decide⟩, lk_X9_207, im_X6_drop, se_X6_drop, rfl⟩
theorem cs_X9_put_210 : xCV mX9_put mX6_store 210 6 4 := ⟨⟨me_X6_store, pd_X6_store, by decide, by decide⟩, lk_X9_210, im_X6_store, se_X6_store, rfl⟩
theorem cs_X9_get_213 : xCV mX9_get mX6_read 213 6 3 := ⟨⟨me_X6_read, pd_X6_read, by decide, by decide⟩, lk_X9_213, im_X6_read, se_X6_read, rfl⟩
theorem cs_X9_copy_216 : xCV mX9_copy mX6_transfer 216 6 5 := ⟨⟨me_X6_transfer, pd_X6_transfer, by decide, by decide⟩, lk_X9_216, im_X6_transfer, se_X6_transfer, rfl⟩
theorem cs_X9_count_223 : xCV mX9_count mX4_lodgedCount 223 4 0 := ⟨⟨me_X4_lodgedCount, pd_X4_lodgedCount, by decide, by decide⟩, lk_X9_223, im_X4_lodgedCount, se_X4_lodgedCount, rfl⟩
theorem cs_X9_digest_242 : xCV mX9_digest mX9_count 242 9 1 := ⟨⟨me_X9_count, pd_X9_count, by decide, by decide⟩, lk_X9_242, im_X9_count, se_X9_count, rfl⟩
theorem cs_X9_digest_247 : xCV mX9_digest mX9_apart 247 9 1 := ⟨⟨me_X9_apart, pd_X9_apart, by decide, by decide⟩, lk_X9_247, im_X9_apart, se_X9_apart, rfl⟩
theorem cs_X9_digest_250 : xCV mX9_digest mX9_where 250 9 1 := ⟨⟨me_X9_where, pd_X9_where, by decide, by decide⟩, lk_X9_250, im_X9_where, se_X9_where, rfl⟩
theorem cs_X9_isWeek_124 : xCS mX9_isWeek mX9_within 124 3 := ⟨⟨me_X9_within, pd_X9_within, by decide, by decide⟩, lk_X9_124, st_X9_within⟩
theorem cs_X9_isHour_124 : xCS mX9_isHour mX9_within 124 3 := ⟨⟨me_X9_within, pd_X9_within, by decide, by decide⟩, lk_X9_124, st_X9_within⟩
theorem cs_X10_isHut_132 : xCS mX10_isHut mX10_within 132 3 := ⟨⟨me_X10_within, pd_X10_within, by decide, by decide⟩, lk_X10_132, st_X10_within⟩
theorem cs_X10_isParty_132 : xCS mX10_isParty mX10_within 132 3 := ⟨⟨me_X10_within, pd_X10_within, by decide, by decide⟩, lk_X10_132, st_X10_within⟩
theorem cs_X10_isWeek_132 : xCS mX10_isWeek mX10_within 132 3 := ⟨⟨me_X10_within, pd_X10_within, by decide, by decide⟩, lk_X10_132, st_X10_within⟩
theorem cs_X10_hut_132 : xCS mX10_hut mX10_within 132 3 := ⟨⟨me_X10_within, pd_X10_within, by decide, by decide⟩, lk_X10_132, st_X10_within⟩
theorem cs_X10_party_132 : xCS mX10_party mX10_within 132 3 := ⟨⟨me_X10_within, pd_X10_within, by decide, by decide⟩, lk_X10_132, st_X10_within⟩
theorem cs_X10_party_145 : xCS mX10_party mX10_isWeek 145 1 := ⟨⟨me_X10_isWeek, pd_X10_isWeek, by decide, by decide⟩, lk_X10_145, st_X10_isWeek⟩
theorem cs_X10_tell_151 : xCV mX10_tell mX10_isParty 151 10 1 := ⟨⟨me_X10_isParty, pd_X10_isParty, by decide, by decide⟩, lk_X10_151, im_X10_isParty, se_X10_isParty, rfl⟩
theorem cs_X10_tell_132 : xCS mX10_tell mX10_within 132 3 := ⟨⟨me_X10_within, pd_X10_within, by decide, by decide⟩, lk_X10_132, st_X10_within⟩
theorem cs_X10_tell_156 : xCV mX10_tell mX10_meet 156 10 2 := ⟨⟨me_X10_meet, pd_X10_meet, by decide, by decide⟩, lk_X10_156, im_X10_meet, se_X10_meet, rfl⟩
theorem cs_X10_isFree_156 : xCV mX10_isFree mX10_meet 156 10 2 := ⟨⟨me_X10_meet, pd_X10_meet, by decide, by decide⟩, lk_X10_156, im_X10_meet, se_X10_meet, rfl⟩
theorem cs_X10_hasTold_156 : xCV mX10_hasTold mX10_meet 156 10 2 := ⟨⟨me_X10_meet, pd_X10_meet, by decide, by decide⟩, lk_X10_156, im_X10_meet, se_X10_meet, rfl⟩
theorem cs_X10_mayLodge_160 : xCV mX10_mayLodge mX10_isFree 160 10 2 := ⟨⟨me_X10_isFree, pd_X10_isFree, by decide, by decide⟩, lk_X10_160, im_X10_isFree, se_X10_isFree, rfl⟩
theorem cs_X10_mayLodge_163 : xCV mX10_mayLodge mX10_hasTold 163 10 3 := ⟨⟨me_X10_hasTold, pd_X10_hasTold, by decide, by decide⟩, lk_X10_163, im_X10_hasTold, se_X10_hasTold, rfl⟩
theorem cs_X10_dearest_167 : xCV mX10_dearest mX10_mayLodge 167 10 2 := ⟨⟨me_X10_mayLodge, pd_X10_mayLodge, by decide, by decide⟩, lk_X10_167, im_X10_mayLodge, se_X10_mayLodge, rfl⟩
theorem cs_X10_dearest_163 : xCV mX10_dearest mX10_hasTold 163 10 3 := ⟨⟨me_X10_hasTold, pd_X10_hasTold, by decide, by decide⟩, lk_X10_163, im_X10_hasTold, se_X10_hasTold, rfl⟩
theorem cs_X10_lodge_151 : xCV mX10_lodge mX10_isParty 151 10 1 := ⟨⟨me_X10_isParty, pd_X10_isParty, by decide, by decide⟩, lk_X10_151, im_X10_isParty, se_X10_isParty, rfl⟩
theorem cs_X10_lodge_170 : xCV mX10_lodge mX10_dearest 170 10 2 := ⟨⟨me_X10_dearest, pd_X10_dearest, by decide, by decide⟩, lk_X10_170, im_X10_dearest, se_X10_dearest, rfl⟩
theorem cs_X10_lodge_167 : xCV mX10_lodge mX10_mayLodge 167 10 2 := ⟨⟨me_X10_mayLodge, pd_X10_mayLodge, by decide, by decide⟩, lk_X10_167, im_X10_mayLodge, se_X10_mayLodge, rfl⟩
theorem cs_X10_leave_151 : xCV mX10_leave mX10_isParty 151 10 1 := ⟨⟨me_X10_isParty, pd_X10_isParty, by decide, by decide⟩, lk_X10_151, im_X10_isParty, se_X10_isParty, rfl⟩
theorem cs_X10_about_151 : xCV mX10_about mX10_isParty 151 10 1 := ⟨⟨me_X10_isParty, pd_X10_isParty, by decide, by decide⟩, lk_X10_151, im_X10_isParty, se_X10_isParty, rfl⟩
theorem cs_X10_isThere_132 : xCS mX10_isThere mX10_within 132 3 := ⟨⟨me_X10_within, pd_X10_within, by decide, by decide⟩, lk_X10_132, st_X10_within⟩
theorem cs_X10_who_174 : xCV mX10_who mX10_isThere 174 10 2 := ⟨⟨me_X10_isThere, pd_X10_isThere, by decide, by decide⟩, lk_X10_174, im_X10_isThere, se_X10_isThere, rfl⟩
theorem cs_X10_in_177 : xCV mX10_in mX10_isHut 177 10 1 := ⟨⟨me_X10_isHut, pd_X10_isHut, by decide, by decide⟩, lk_X10_177, im_X10_isHut, se_X10_isHut, rfl⟩
theorem cs_X10_in_145 : xCS mX10_in mX10_isWeek 145 1 := ⟨⟨me_X10_isWeek, pd_X10_isWeek, by decide, by decide⟩, lk_X10_145, st_X10_isWeek⟩
theorem cs_X10_in_180 : xCV mX10_in mX10_who 180 10 2 := ⟨⟨me_X10_who, pd_X10_who, by decide, by decide⟩, lk_X10_180, im_X10_who, se_X10_who, rfl⟩
theorem cs_X10_empty_145 : xCS mX10_empty mX10_isWeek 145 1 := ⟨⟨me_X10_isWeek, pd_X10_isWeek, by decide, by decide⟩, lk_X10_145, st_X10_isWeek⟩
theorem cs_X10_empty_180 : xCV mX10_empty mX10_who 180 10 2 := ⟨⟨me_X10_who, pd_X10_who, by decide, by decide⟩, lk_X10_180, im_X10_who, se_X10_who, rfl⟩
theorem cs_X10_seats_132 : xCS mX10_seats mX10_within 132 3 := ⟨⟨me_X10_within, pd_X10_within, by decide, by decide⟩, lk_X10_132, st_X10_within⟩
theorem cs_X10_findUnits_174 : xCV mX10_findUnits mX10_isThere 174 10 2 := ⟨⟨me_X10_isThere, pd_X10_isThere, by decide, by decide⟩, lk_X10_174, im_X10_isThere, se_X10_isThere, rfl⟩
theorem cs_X10_findSittings_188 : xCV mX10_findSittings mX10_findUnits 188 10 1 := ⟨⟨me_X10_findUnits, pd_X10_findUnits, by decide, by decide⟩, lk_X10_188, im_X10_findUnits, se_X10_findUnits, rfl⟩
theorem cs_X10_apart_145 : xCS mX10_apart mX10_isWeek 145 1 := ⟨⟨me_X10_isWeek, pd_X10_isWeek, by decide, by decide⟩, lk_X10_145, st_X10_isWeek⟩
theorem cs_X10_apart_192 : xCV mX10_apart mX10_findSittings 192 10 1 := ⟨⟨me_X10_findSittings, pd_X10_findSittings, by decide, by decide⟩, lk_X10_192, im_X10_findSittings, se_X10_findSittings, rfl⟩
theorem cs_X10_sits_151 : xCV mX10_sits mX10_isParty 151 10 1 := ⟨⟨me_X10_isParty, pd_X10_isParty, by decide, by decide⟩, lk_X10_151, im_X10_isParty, se_X10_isParty, rfl⟩
theorem cs_X10_sits_145 : xCS mX10_sits mX10_isWeek 145 1 := ⟨⟨me_X10_isWeek, pd_X10_isWeek, by decide, by decide⟩, lk_X10_145, st_X10_isWeek⟩
theorem cs_X10_sits_174 : xCV mX10_sits mX10_isThere 174 10 2 := ⟨⟨me_X10_isThere, pd_X10_isThere, by decide, by decide⟩, lk_X10_174, im_X10_isThere, se_X10_isThere, rfl⟩
theorem cs_X10_sits_192 : xCV mX10_sits mX10_findSittings 192 10 1 := ⟨⟨me_X10_findSittings, pd_X10_findSittings, by decide, by decide⟩, lk_X10_192, im_X10_findSittings, se_X10_findSittings, rfl⟩
theorem cs_X10_more_132 : xCS mX10_more mX10_within 132 3 := ⟨⟨me_X10_within, pd_X10_within, by decide, by decide⟩, lk_X10_132, st_X10_within⟩
theorem cs_X10_dinners_192 : xCV mX10_dinners mX10_findSittings 192 10 1 := ⟨⟨me_X10_findSittings, pd_X10_findSittings, by decide, by decide⟩, lk_X10_192, im_X10_findSittings, se_X10_findSittings, rfl⟩
theorem cs_X10_foretell_145 : xCS mX10_foretell mX10_isWeek 145 1 := ⟨⟨me_X10_isWeek, pd_X10_isWeek, by decide, by decide⟩, lk_X10_145, st_X10_isWeek⟩
theorem cs_X10_foretell_132 : xCS mX10_foretell mX10_within 132 3 := ⟨⟨me_X10_within, pd_X10_within, by decide, by decide⟩, lk_X10_132, st_X10_within⟩
theorem cs_X10_foretell_198 : xCV mX10_foretell mX10_dinners 198 10 2 := ⟨⟨me_X10_dinners, pd_X10_dinners, by decide, by decide⟩, lk_X10_198, im_X10_dinners, se_X10_dinners, rfl⟩
theorem cs_X10_cook_145 : xCS mX10_cook mX10_isWeek 145 1 := ⟨⟨me_X10_isWeek, pd_X10_isWeek, by decide, by decide⟩, lk_X10_145, st_X10_isWeek⟩
theorem cs_X10_cook_132 : xCS mX10_cook mX10_within 132 3 := ⟨⟨me_X10_within, pd_X10_within, by decide, by decide⟩, lk_X10_132, st_X10_within⟩
theorem cs_X10_cook_198 : xCV mX10_cook mX10_dinners 198 10 2 := ⟨⟨me_X10_dinners, pd_X10_dinners, by decide, by decide⟩, lk_X10_198, im_X10_dinners, se_X10_dinners, rfl⟩
theorem cs_X10_line_132 : xCS mX10_line mX10_within 132 3 := ⟨⟨me_X10_within, pd_X10_within, by decide, by decide⟩, lk_X10_132, st_X10_within⟩
theorem cs_X10_hall_132 : xCS mX10_hall mX10_within 132 3 := ⟨⟨me_X10_within, pd_X10_within, by decide, by decide⟩, lk_X10_132, st_X10_within⟩
theorem cs_X10_show_132 : xCS mX10_show mX10_within 132 3 := ⟨⟨me_X10_within, pd_X10_within, by decide, by decide⟩, lk_X10_132, st_X10_within⟩
theorem cs_X10_wish_151 : xCV mX10_wish mX10_isParty 151 10 1 := ⟨⟨me_X10_isParty, pd_X10_isParty, by decide, by decide⟩, lk_X10_151, im_X10_isParty, se_X10_isParty, rfl⟩
theorem cs_X10_wish_132 : xCS mX10_wish mX10_within 132 3 := ⟨⟨me_X10_within, pd_X10_within, by decide, by decide⟩, lk_X10_132, st_X10_within⟩
theorem cs_X10_wet_132 : xCS mX10_wet mX10_within 132 3 := ⟨⟨me_X10_within, pd_X10_within, by decide, by decide⟩, lk_X10_132, st_X10_within⟩
theorem cs_X10_wet_213 : xCV mX10_wet mX10_isWet 213 10 1 := ⟨⟨me_X10_isWet, pd_X10_isWet, by decide, by decide⟩, lk_X10_213, im_X10_isWet, se_X10_isWet, rfl⟩
theorem cs_X10_placeOf_213 : xCV mX10_placeOf mX10_isWet 213 10 1 := ⟨⟨me_X10_isWet, pd_X10_isWet, by decide, by decide⟩, lk_X10_213, im_X10_isWet, se_X10_isWet, rfl⟩
theorem cs_X10_where_132 : xCS mX10_where mX10_within 132 3 := ⟨⟨me_X10_within, pd_X10_within, by decide, by decide⟩, lk_X10_132, st_X10_within⟩
theorem cs_X10_where_216 : xCV mX10_where mX10_placeOf 216 10 1 := ⟨⟨me_X10_placeOf, pd_X10_placeOf, by decide, by decide⟩, lk_X10_216, im_X10_placeOf, se_X10_placeOf, rfl⟩
theorem cs_X10_findCrowds_174 : xCV mX10_findCrowds mX10_isThere 174 10 2 := ⟨⟨me_X10_isThere, pd_X10_isThere, by decide, by decide⟩, lk_X10_174, im_X10_isThere, se_X10_isThere, rfl⟩
theorem cs_X10_findCrowds_216 : xCV mX10_findCrowds mX10_placeOf 216 10 1 := ⟨⟨me_X10_placeOf, pd_X10_placeOf, by decide, by decide⟩, lk_X10_216, im_X10_placeOf, se_X10_placeOf, rfl⟩
theorem cs_X10_goes_151 : xCV mX10_goes mX10_isParty 151 10 1 := ⟨⟨me_X10_isParty, pd_X10_isParty, by decide, by decide⟩, lk_X10_151, im_X10_isParty, se_X10_isParty, rfl⟩
theorem cs_X10_goes_145 : xCS mX10_goes mX10_isWeek 145 1 := ⟨⟨me_X10_isWeek, pd_X10_isWeek, by decide, by decide⟩, lk_X10_145, st_X10_isWeek⟩
theorem cs_X10_goes_132 : xCS mX10_goes mX10_within 132 3 := ⟨⟨me_X10_within, pd_X10_within, by decide, by decide⟩, lk_X10_132, st_X10_within⟩
theorem cs_X10_goes_219 : xCV mX10_goes mX10_findCrowds 219 10 2 := ⟨⟨me_X10_findCrowds, pd_X10_findCrowds, by decide, by decide⟩, lk_X10_219, im_X10_findCrowds, se_X10_findCrowds, rfl⟩
theorem cs_X10_turned_151 : xCV mX10_turned mX10_isParty 151 10 1 := ⟨⟨me_X10_isParty, pd_X10_isParty, by decide, by decide⟩, lk_X10_151, im_X10_isParty, se_X10_isParty, rfl⟩
theorem cs_X10_turned_145 : xCS mX10_turned mX10_isWeek 145 1 := ⟨⟨me_X10_isWeek, pd_X10_isWeek, by decide, by decide⟩, lk_X10_145, st_X10_isWeek⟩
theorem cs_X10_turned_132 : xCS mX10_turned mX10_within 132 3 := ⟨⟨me_X10_within, pd_X10_within, by decide, by decide⟩, lk_X10_132, st_X10_within⟩
theorem cs_X10_turned_219 : xCV mX10_turned mX10_findCrowds 219 10 2 := ⟨⟨me_X10_findCrowds, pd_X10_findCrowds, by decide, by decide⟩, lk_X10_219, im_X10_findCrowds, se_X10_findCrowds, rfl⟩
theorem cs_X10_crowd_132 : xCS mX10_crowd mX10_within 132 3 := ⟨⟨me_X10_within, pd_X10_within, by decide, by decide⟩, lk_X10_132, st_X10_within⟩
theorem cs_X10_crowd_145 : xCS mX10_crowd mX10_isWeek 145 1 := ⟨⟨me_X10_isWeek, pd_X10_isWeek, by decide, by decide⟩, lk_X10_145, st_X10_isWeek⟩
theorem cs_X10_crowd_219 : xCV mX10_crowd mX10_findCrowds 219 10 2 := ⟨⟨me_X10_findCrowds, pd_X10_findCrowds, by decide, by decide⟩, lk_X10_219, im_X10_findCrowds, se_X10_findCrowds, rfl⟩
theorem cs_X10_group_132 : xCS mX10_group mX10_within 132 3 := ⟨⟨me_X10_within, pd_X10_within, by decide, by decide⟩, lk_X10_132, st_X10_within⟩
theorem cs_X10_group_232 : xCV mX10_group mX10_manyIn 232 10 1 := ⟨⟨me_X10_manyIn, pd_X10_manyIn, by decide, by decide⟩, lk_X10_232, im_X10_manyIn, se_X10_manyIn, rfl⟩
theorem cs_X10_isChild_132 : xCS mX10_isChild mX10_within 132 3 := ⟨⟨me_X10_within, pd_X10_within, by decide, by decide⟩, lk_X10_132, st_X10_within⟩
theorem cs_X10_child_151 : xCV mX10_child mX10_isParty 151 10 1 := ⟨⟨me_X10_isParty, pd_X10_isParty, by decide, by decide⟩, lk_X10_151, im_X10_isParty, se_X10_isParty, rfl⟩
theorem cs_X10_child_132 : xCS mX10_child mX10_within 132 3 := ⟨⟨me_X10_within, pd_X10_within, by decide, by decide⟩, lk_X10_132, st_X10_within⟩
theorem cs_X10_hand_235 : xCV mX10_hand mX10_isChild 235 10 1 := ⟨⟨me_X10_isChild, pd_X10_isChild, by decide, by decide⟩, lk_X10_235, im_X10_isChild, se_X10_isChild, rfl⟩
theorem cs_X10_hand_132 : xCS mX10_hand mX10_within 132 3 := ⟨⟨me_X10_within, pd_X10_within, by decide, by decide⟩, lk_X10_132, st_X10_within⟩
theorem cs_X10_hand_232 : xCV mX10_hand mX10_manyIn 232 10 1 := ⟨⟨me_X10_manyIn, pd_X10_manyIn, by decide, by decide⟩, lk_X10_232, im_X10_manyIn, se_X10_manyIn, rfl⟩
theorem cs_X10_fetch_235 : xCV mX10_fetch mX10_isChild 235 10 1 := ⟨⟨me_X10_isChild, pd_X10_isChild, by decide, by decide⟩, lk_X10_235, im_X10_isChild, se_X10_isChild, rfl⟩
theorem cs_X10_fetch_151 : xCV mX10_fetch mX10_isParty 151 10 1 := ⟨⟨me_X10_isParty, pd_X10_isParty, by decide, by decide⟩, lk_X10_151, im_X10_isParty, se_X10_isParty, rfl⟩
theorem cs_X10_with_235 : xCV mX10_with mX10_isChild 235 10 1 := ⟨⟨me_X10_isChild, pd_X10_isChild, by decide, by decide⟩, lk_X10_235, im_X10_isChild, se_X10_isChild, rfl⟩
theorem cs_X10_list_132 : xCS mX10_list mX10_within 132 3 := ⟨⟨me_X10_within, pd_X10_within, by decide, by decide⟩, lk_X10_132, st_X10_within⟩
theorem cs_X10_pays_132 : xCS mX10_pays mX10_within 132 3 := ⟨⟨me_X10_within, pd_X10_within, by decide, by decide⟩, lk_X10_132, st_X10_within⟩
theorem cs_X10_isSheet_132 : xCS mX10_isSheet mX10_within 132 3 := ⟨⟨me_X10_within, pd_X10_within, by decide, by decide⟩, lk_X10_132, st_X10_within⟩
theorem cs_X10_sheet_250 : xCS mX10_sheet mX10_isSheet 250 1 := ⟨⟨me_X10_isSheet, pd_X10_isSheet, by decide, by decide⟩, lk_X10_250, st_X10_isSheet⟩
theorem cs_X10_sheet_132 : xCS mX10_sheet mX10_within 132 3 := ⟨⟨me_X10_within, pd_X10_within, by decide, by decide⟩, lk_X10_132, st_X10_within⟩
theorem cs_X10_sheet_253 : xCV mX10_sheet mX10_met 253 10 1 := ⟨⟨me_X10_met, pd_X10_met, by decide, by decide⟩, lk_X10_253, im_X10_met, se_X10_met, rfl⟩
theorem cs_X10_lose_250 : xCS mX10_lose mX10_isSheet 250 1 := ⟨⟨me_X10_isSheet, pd_X10_isSheet, by decide, by decide⟩, lk_X10_250, st_X10_isSheet⟩
theorem cs_X10_lose_253 : xCV mX10_lose mX10_met 253 10 1 := ⟨⟨me_X10_met, pd_X10_met, by decide, by decide⟩, lk_X10_253, im_X10_met, se_X10_met, rfl⟩
theorem cs_X10_lacks_253 : xCV mX10_lacks mX10_met 253 10 1 := ⟨⟨me_X10_met, pd_X10_met, by decide, by decide⟩, lk_X10_253, im_X10_met, se_X10_met, rfl⟩
theorem cs_X10_lacks_132 : xCS mX10_lacks mX10_within 132 3 := ⟨⟨me_X10_within, pd_X10_within, by decide, by decide⟩, lk_X10_132, st_X10_within⟩
theorem cs_X10_put_250 : xCS mX10_put mX10_isSheet 250 1 := ⟨⟨me_X10_isSheet, pd_X10_isSheet, by decide, by decide⟩, lk_X10_250, st_X10_isSheet⟩
theorem cs_X10_put_132 : xCS mX10_put mX10_within 132 3 := ⟨⟨me_X10_within, pd_X10_within, by decide, by decide⟩, lk_X10_132, st_X10_within⟩
theorem cs_X10_put_256 : xCV mX10_put mX10_lacks 256 10 3 := ⟨⟨me_X10_lacks, pd_X10_lacks, by decide, by decide⟩, lk_X10_256, im_X10_lacks, se_X10_lacks, rfl⟩
theorem cs_X10_get_250 : xCS mX10_get mX10_isSheet 250 1 := ⟨⟨me_X10_isSheet, pd_X10_isSheet, by decide, by decide⟩, lk_X10_250, st_X10_isSheet⟩
theorem cs_X10_get_132 : xCS mX10_get mX10_within 132 3 := ⟨⟨me_X10_within, pd_X10_within, by decide, by decide⟩, lk_X10_132, st_X10_within⟩
theorem cs_X10_get_256 : xCV mX10_get mX10_lacks 256 10 3 := ⟨⟨me_X10_lacks, pd_X10_lacks, by decide, by decide⟩, lk_X10_256, im_X10_lacks, se_X10_lacks, rfl⟩
theorem cs_X10_copy_250 : xCS mX10_copy mX10_isSheet 250 1 := ⟨⟨me_X10_isSheet, pd_X10_isSheet, by decide, by decide⟩, lk_X10_250, st_X10_isSheet⟩
theorem cs_X10_copy_253 : xCV mX10_copy mX10_met 253 10 1 := ⟨⟨me_X10_met, pd_X10_met, by decide, by decide⟩, lk_X10_253, im_X10_met, se_X10_met, rfl⟩
theorem cs_X10_digest_263 : xCV mX10_digest mX10_count 263 10 1 := ⟨⟨me_X10_count, pd_X10_count, by decide, by decide⟩, lk_X10_263, im_X10_count, se_X10_count, rfl⟩
theorem cs_X10_digest_266 : xCV mX10_digest mX10_apart 266 10 1 := ⟨⟨me_X10_apart, pd_X10_apart, by decide, by decide⟩, lk_X10_266, im_X10_apart, se_X10_apart, rfl⟩
theorem cs_X10_digest_216 : xCV mX10_digest mX10_placeOf 216 10 1 := ⟨⟨me_X10_placeOf, pd_X10_placeOf, by decide, by decide⟩, lk_X10_216, im_X10_placeOf, se_X10_placeOf, rfl⟩
theorem cs_J7_fill_fda19_13 : xCS mJ7_fill_fda19 mJ7_rangeCheck_23922 13 3 := ⟨⟨me_J7_rangeCheck_23922, pd_J7_rangeCheck_23922, by decide, by decide⟩, lk_J7_13, st_J7_rangeCheck_23922⟩
end
