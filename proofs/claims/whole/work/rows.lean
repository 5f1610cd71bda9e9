section
-- ===== PART A: goes FIRST, ahead of the names: the tables' words, and 'selects' of the private methods out of them =====
/-- a private method of a class that the tables say can be made, by its rows of tables_1 -/
def lw_okq (q : MethodName × Nat) : Prop := (q.1.cls ≠ "java/lang/invoke/MethodHandle" ∧ q.1.cls ≠ "java/lang/invoke/VarHandle") ∧ Cond.instantiable q.1.cls q.2 ∈ tables_1 ∧ Cond.privateMethod q.1 ∈ tables_1 ∧ Cond.instanceMethod q.1 ∈ tables_1
theorem lw_p0 : lw_okq (⟨"PlanRules$Formulas", "sizeOf", "(III)I"⟩, 7) := ⟨⟨by decide +kernel, by decide +kernel⟩, List.mem_of_getElem? (i := 41) (by decide +kernel), List.mem_of_getElem? (i := 287) (by decide +kernel), List.mem_of_getElem? (i := 288) (by decide +kernel)⟩
theorem lw_p1 : lw_okq (⟨"PlanRules$Formulas", "readsOf", "(III)I"⟩, 7) := ⟨⟨by decide +kernel, by decide +kernel⟩, List.mem_of_getElem? (i := 41) (by decide +kernel), List.mem_of_getElem? (i := 291) (by decide +kernel), List.mem_of_getElem? (i := 292) (by decide +kernel)⟩
theorem lw_p2 : lw_okq (⟨"PlanRules$Formulas", "failsOf", "(III)Z"⟩, 7) := ⟨⟨by decide +kernel, by decide +kernel⟩, List.mem_of_getElem? (i := 41) (by decide +kernel), List.mem_of_getElem? (i := 295) (by decide +kernel), List.mem_of_getElem? (i := 296) (by decide +kernel)⟩
theorem lw_p3 : lw_okq (⟨"PlanRules$Nodes", "isValue", "(III)Z"⟩, 12) := ⟨⟨by decide +kernel, by decide +kernel⟩, List.mem_of_getElem? (i := 79) (by decide +kernel), List.mem_of_getElem? (i := 326) (by decide +kernel), List.mem_of_getElem? (i := 327) (by decide +kernel)⟩
theorem lw_p4 : lw_okq (⟨"PlanRules$Nodes", "failsOf", "(IIII)Z"⟩, 12) := ⟨⟨by decide +kernel, by decide +kernel⟩, List.mem_of_getElem? (i := 79) (by decide +kernel), List.mem_of_getElem? (i := 354) (by decide +kernel), List.mem_of_getElem? (i := 355) (by decide +kernel)⟩
theorem lw_p5 : lw_okq (⟨"PlanRules$Nodes", "leftBelow", "(I)I"⟩, 12) := ⟨⟨by decide +kernel, by decide +kernel⟩, List.mem_of_getElem? (i := 79) (by decide +kernel), List.mem_of_getElem? (i := 384) (by decide +kernel), List.mem_of_getElem? (i := 385) (by decide +kernel)⟩
theorem lw_p6 : lw_okq (⟨"PlanRules$Nodes", "rightBelow", "(I)I"⟩, 12) := ⟨⟨by decide +kernel, by decide +kernel⟩, List.mem_of_getElem? (i := 79) (by decide +kernel), List.mem_of_getElem? (i := 388) (by decide +kernel), List.mem_of_getElem? (i := 389) (by decide +kernel)⟩
theorem lw_p7 : lw_okq (⟨"PlanRules$Runner", "work", "(I)V"⟩, 13) := ⟨⟨by decide +kernel, by decide +kernel⟩, List.mem_of_getElem? (i := 143) (by decide +kernel), List.mem_of_getElem? (i := 392) (by decide +kernel), List.mem_of_getElem? (i := 393) (by decide +kernel)⟩
theorem lw_p8 : lw_okq (⟨"PlanRules$Runner", "giveSource", "(I)V"⟩, 13) := ⟨⟨by decide +kernel, by decide +kernel⟩, List.mem_of_getElem? (i := 143) (by decide +kernel), List.mem_of_getElem? (i := 396) (by decide +kernel), List.mem_of_getElem? (i := 397) (by decide +kernel)⟩
theorem lw_p9 : lw_okq (⟨"PlanRules$Runner", "addEmpty", "()I"⟩, 13) := ⟨⟨by decide +kernel, by decide +kernel⟩, List.mem_of_getElem? (i := 143) (by decide +kernel), List.mem_of_getElem? (i := 400) (by decide +kernel), List.mem_of_getElem? (i := 401) (by decide +kernel)⟩
theorem lw_p10 : lw_okq (⟨"PlanRules$Runner", "giveFiltered", "(II)V"⟩, 13) := ⟨⟨by decide +kernel, by decide +kernel⟩, List.mem_of_getElem? (i := 143) (by decide +kernel), List.mem_of_getElem? (i := 422) (by decide +kernel), List.mem_of_getElem? (i := 423) (by decide +kernel)⟩
theorem lw_p11 : lw_okq (⟨"PlanRules$Runner", "valueOf", "(II)I"⟩, 13) := ⟨⟨by decide +kernel, by decide +kernel⟩, List.mem_of_getElem? (i := 143) (by decide +kernel), List.mem_of_getElem? (i := 426) (by decide +kernel), List.mem_of_getElem? (i := 427) (by decide +kernel)⟩
theorem lw_p12 : lw_okq (⟨"PlanRules$Runner", "valueOfParts", "(IIII)I"⟩, 13) := ⟨⟨by decide +kernel, by decide +kernel⟩, List.mem_of_getElem? (i := 143) (by decide +kernel), List.mem_of_getElem? (i := 430) (by decide +kernel), List.mem_of_getElem? (i := 431) (by decide +kernel)⟩
theorem lw_p13 : lw_okq (⟨"PlanRules$Runner", "itemAt", "(I)I"⟩, 13) := ⟨⟨by decide +kernel, by decide +kernel⟩, List.mem_of_getElem? (i := 143) (by decide +kernel), List.mem_of_getElem? (i := 434) (by decide +kernel), List.mem_of_getElem? (i := 435) (by decide +kernel)⟩
theorem lw_p14 : lw_okq (⟨"PlanRules$Runner", "valueOfPair", "(III)I"⟩, 13) := ⟨⟨by decide +kernel, by decide +kernel⟩, List.mem_of_getElem? (i := 143) (by decide +kernel), List.mem_of_getElem? (i := 439) (by decide +kernel), List.mem_of_getElem? (i := 440) (by decide +kernel)⟩
theorem lw_p15 : lw_okq (⟨"PlanRules$Runner", "addCopy", "(I)I"⟩, 13) := ⟨⟨by decide +kernel, by decide +kernel⟩, List.mem_of_getElem? (i := 143) (by decide +kernel), List.mem_of_getElem? (i := 443) (by decide +kernel), List.mem_of_getElem? (i := 444) (by decide +kernel)⟩
def lw_privs_1 : List (MethodName × Nat) := [(⟨"PlanRules$Formulas", "sizeOf", "(III)I"⟩, 7), (⟨"PlanRules$Formulas", "readsOf", "(III)I"⟩, 7), (⟨"PlanRules$Formulas", "failsOf", "(III)Z"⟩, 7), (⟨"PlanRules$Nodes", "isValue", "(III)Z"⟩, 12), (⟨"PlanRules$Nodes", "failsOf", "(IIII)Z"⟩, 12), (⟨"PlanRules$Nodes", "leftBelow", "(I)I"⟩, 12), (⟨"PlanRules$Nodes", "rightBelow", "(I)I"⟩, 12), (⟨"PlanRules$Runner", "work", "(I)V"⟩, 13), (⟨"PlanRules$Runner", "giveSource", "(I)V"⟩, 13), (⟨"PlanRules$Runner", "addEmpty", "()I"⟩, 13), (⟨"PlanRules$Runner", "giveFiltered", "(II)V"⟩, 13), (⟨"PlanRules$Runner", "valueOf", "(II)I"⟩, 13), (⟨"PlanRules$Runner", "valueOfParts", "(IIII)I"⟩, 13), (⟨"PlanRules$Runner", "itemAt", "(I)I"⟩, 13), (⟨"PlanRules$Runner", "valueOfPair", "(III)I"⟩, 13), (⟨"PlanRules$Runner", "addCopy", "(I)I"⟩, 13)]
theorem lw_r1 : ∀ q ∈ lw_privs_1, lw_okq q := List.forall_mem_cons.mpr ⟨lw_p0, List.forall_mem_cons.mpr ⟨lw_p1, List.forall_mem_cons.mpr ⟨lw_p2, List.forall_mem_cons.mpr ⟨lw_p3, List.forall_mem_cons.mpr ⟨lw_p4, List.forall_mem_cons.mpr ⟨lw_p5, List.forall_mem_cons.mpr ⟨lw_p6, List.forall_mem_cons.mpr ⟨lw_p7, List.forall_mem_cons.mpr ⟨lw_p8, List.forall_mem_cons.mpr ⟨lw_p9, List.forall_mem_cons.mpr ⟨lw_p10, List.forall_mem_cons.mpr ⟨lw_p11, List.forall_mem_cons.mpr ⟨lw_p12, List.forall_mem_cons.mpr ⟨lw_p13, List.forall_mem_cons.mpr ⟨lw_p14, List.forall_mem_cons.mpr ⟨lw_p15, fun _ h => absurd h List.not_mem_nil⟩⟩⟩⟩⟩⟩⟩⟩⟩⟩⟩⟩⟩⟩⟩⟩
theorem lw_p16 : lw_okq (⟨"PlanRules$Runner", "giveSet", "(III)V"⟩, 13) := ⟨⟨by decide +kernel, by decide +kernel⟩, List.mem_of_getElem? (i := 143) (by decide +kernel), List.mem_of_getElem? (i := 447) (by decide +kernel), List.mem_of_getElem? (i := 448) (by decide +kernel)⟩
theorem lw_p17 : lw_okq (⟨"PlanRules$Runner", "giveKept", "(II)V"⟩, 13) := ⟨⟨by decide +kernel, by decide +kernel⟩, List.mem_of_getElem? (i := 143) (by decide +kernel), List.mem_of_getElem? (i := 451) (by decide +kernel), List.mem_of_getElem? (i := 452) (by decide +kernel)⟩
theorem lw_p18 : lw_okq (⟨"PlanRules$Runner", "copyMembers", "(III)V"⟩, 13) := ⟨⟨by decide +kernel, by decide +kernel⟩, List.mem_of_getElem? (i := 143) (by decide +kernel), List.mem_of_getElem? (i := 455) (by decide +kernel), List.mem_of_getElem? (i := 456) (by decide +kernel)⟩
theorem lw_p19 : lw_okq (⟨"PlanRules$Runner", "giveJoined", "(IIII)V"⟩, 13) := ⟨⟨by decide +kernel, by decide +kernel⟩, List.mem_of_getElem? (i := 143) (by decide +kernel), List.mem_of_getElem? (i := 462) (by decide +kernel), List.mem_of_getElem? (i := 463) (by decide +kernel)⟩
theorem lw_p20 : lw_okq (⟨"PlanRules$Runner", "giveFirst", "(II)V"⟩, 13) := ⟨⟨by decide +kernel, by decide +kernel⟩, List.mem_of_getElem? (i := 143) (by decide +kernel), List.mem_of_getElem? (i := 466) (by decide +kernel), List.mem_of_getElem? (i := 467) (by decide +kernel)⟩
theorem lw_p21 : lw_okq (⟨"PlanRules$Runner", "giveFolded", "(III)V"⟩, 13) := ⟨⟨by decide +kernel, by decide +kernel⟩, List.mem_of_getElem? (i := 143) (by decide +kernel), List.mem_of_getElem? (i := 470) (by decide +kernel), List.mem_of_getElem? (i := 471) (by decide +kernel)⟩
theorem lw_p22 : lw_okq (⟨"PlanRules$Runner", "findMember", "(III)I"⟩, 13) := ⟨⟨by decide +kernel, by decide +kernel⟩, List.mem_of_getElem? (i := 143) (by decide +kernel), List.mem_of_getElem? (i := 474) (by decide +kernel), List.mem_of_getElem? (i := 475) (by decide +kernel)⟩
theorem lw_p23 : lw_okq (⟨"PlanRules$Runner", "giveOnce", "(I)V"⟩, 13) := ⟨⟨by decide +kernel, by decide +kernel⟩, List.mem_of_getElem? (i := 143) (by decide +kernel), List.mem_of_getElem? (i := 478) (by decide +kernel), List.mem_of_getElem? (i := 479) (by decide +kernel)⟩
theorem lw_p24 : lw_okq (⟨"PlanRules$Runner", "hasLike", "(II)Z"⟩, 13) := ⟨⟨by decide +kernel, by decide +kernel⟩, List.mem_of_getElem? (i := 143) (by decide +kernel), List.mem_of_getElem? (i := 482) (by decide +kernel), List.mem_of_getElem? (i := 483) (by decide +kernel)⟩
theorem lw_p25 : lw_okq (⟨"PlanRules$Runner", "isLike", "(II)Z"⟩, 13) := ⟨⟨by decide +kernel, by decide +kernel⟩, List.mem_of_getElem? (i := 143) (by decide +kernel), List.mem_of_getElem? (i := 486) (by decide +kernel), List.mem_of_getElem? (i := 487) (by decide +kernel)⟩
theorem lw_p26 : lw_okq (⟨"PlanRules$Rules", "suitsFilter", "(III)Z"⟩, 3) := ⟨⟨by decide +kernel, by decide +kernel⟩, List.mem_of_getElem? (i := 193) (by decide +kernel), List.mem_of_getElem? (i := 519) (by decide +kernel), List.mem_of_getElem? (i := 520) (by decide +kernel)⟩
theorem lw_p27 : lw_okq (⟨"PlanRules$Rules", "suitsOther", "(III)Z"⟩, 3) := ⟨⟨by decide +kernel, by decide +kernel⟩, List.mem_of_getElem? (i := 193) (by decide +kernel), List.mem_of_getElem? (i := 527) (by decide +kernel), List.mem_of_getElem? (i := 528) (by decide +kernel)⟩
theorem lw_p28 : lw_okq (⟨"PlanRules$Rules", "isLikeJob", "(II)Z"⟩, 3) := ⟨⟨by decide +kernel, by decide +kernel⟩, List.mem_of_getElem? (i := 193) (by decide +kernel), List.mem_of_getElem? (i := 531) (by decide +kernel), List.mem_of_getElem? (i := 532) (by decide +kernel)⟩
theorem lw_p29 : lw_okq (⟨"PlanRules$Rules", "addLike", "(II)I"⟩, 3) := ⟨⟨by decide +kernel, by decide +kernel⟩, List.mem_of_getElem? (i := 193) (by decide +kernel), List.mem_of_getElem? (i := 551) (by decide +kernel), List.mem_of_getElem? (i := 552) (by decide +kernel)⟩
theorem lw_p30 : lw_okq (⟨"PlanRules$Rules", "exchange", "(IIII)V"⟩, 3) := ⟨⟨by decide +kernel, by decide +kernel⟩, List.mem_of_getElem? (i := 193) (by decide +kernel), List.mem_of_getElem? (i := 556) (by decide +kernel), List.mem_of_getElem? (i := 557) (by decide +kernel)⟩
theorem lw_p31 : lw_okq (⟨"PlanRules$Rules", "skip", "(III)V"⟩, 3) := ⟨⟨by decide +kernel, by decide +kernel⟩, List.mem_of_getElem? (i := 193) (by decide +kernel), List.mem_of_getElem? (i := 562) (by decide +kernel), List.mem_of_getElem? (i := 563) (by decide +kernel)⟩
def lw_privs_2 : List (MethodName × Nat) := [(⟨"PlanRules$Runner", "giveSet", "(III)V"⟩, 13), (⟨"PlanRules$Runner", "giveKept", "(II)V"⟩, 13), (⟨"PlanRules$Runner", "copyMembers", "(III)V"⟩, 13), (⟨"PlanRules$Runner", "giveJoined", "(IIII)V"⟩, 13), (⟨"PlanRules$Runner", "giveFirst", "(II)V"⟩, 13), (⟨"PlanRules$Runner", "giveFolded", "(III)V"⟩, 13), (⟨"PlanRules$Runner", "findMember", "(III)I"⟩, 13), (⟨"PlanRules$Runner", "giveOnce", "(I)V"⟩, 13), (⟨"PlanRules$Runner", "hasLike", "(II)Z"⟩, 13), (⟨"PlanRules$Runner", "isLike", "(II)Z"⟩, 13), (⟨"PlanRules$Rules", "suitsFilter", "(III)Z"⟩, 3), (⟨"PlanRules$Rules", "suitsOther", "(III)Z"⟩, 3), (⟨"PlanRules$Rules", "isLikeJob", "(II)Z"⟩, 3), (⟨"PlanRules$Rules", "addLike", "(II)I"⟩, 3), (⟨"PlanRules$Rules", "exchange", "(IIII)V"⟩, 3), (⟨"PlanRules$Rules", "skip", "(III)V"⟩, 3)]
theorem lw_r2 : ∀ q ∈ lw_privs_2, lw_okq q := List.forall_mem_cons.mpr ⟨lw_p16, List.forall_mem_cons.mpr ⟨lw_p17, List.forall_mem_cons.mpr ⟨lw_p18, List.forall_mem_cons.mpr ⟨lw_p19, List.forall_mem_cons.mpr ⟨lw_p20, List.forall_mem_cons.mpr ⟨lw_p21, List.forall_mem_cons.mpr ⟨lw_p22, List.forall_mem_cons.mpr ⟨lw_p23, List.forall_mem_cons.mpr ⟨lw_p24, List.forall_mem_cons.mpr ⟨lw_p25, List.forall_mem_cons.mpr ⟨lw_p26, List.forall_mem_cons.mpr ⟨lw_p27, List.forall_mem_cons.mpr ⟨lw_p28, List.forall_mem_cons.mpr ⟨lw_p29, List.forall_mem_cons.mpr ⟨lw_p30, List.forall_mem_cons.mpr ⟨lw_p31, fun _ h => absurd h List.not_mem_nil⟩⟩⟩⟩⟩⟩⟩⟩⟩⟩⟩⟩⟩⟩⟩⟩
theorem lw_p32 : lw_okq (⟨"PlanRules$Rules", "workAbove", "(III)V"⟩, 3) := ⟨⟨by decide +kernel, by decide +kernel⟩, List.mem_of_getElem? (i := 193) (by decide +kernel), List.mem_of_getElem? (i := 567) (by decide +kernel), List.mem_of_getElem? (i := 568) (by decide +kernel)⟩
theorem lw_p33 : lw_okq (⟨"PlanRulesModel", "isFormula", "(I)Z"⟩, 36) := ⟨⟨by decide +kernel, by decide +kernel⟩, List.mem_of_getElem? (i := 598) (by decide +kernel), List.mem_of_getElem? (i := 740) (by decide +kernel), List.mem_of_getElem? (i := 741) (by decide +kernel)⟩
theorem lw_p34 : lw_okq (⟨"PlanRulesModel", "sizeOf", "(III)I"⟩, 36) := ⟨⟨by decide +kernel, by decide +kernel⟩, List.mem_of_getElem? (i := 598) (by decide +kernel), List.mem_of_getElem? (i := 747) (by decide +kernel), List.mem_of_getElem? (i := 748) (by decide +kernel)⟩
theorem lw_p35 : lw_okq (⟨"PlanRulesModel", "tell", "(III)I"⟩, 36) := ⟨⟨by decide +kernel, by decide +kernel⟩, List.mem_of_getElem? (i := 598) (by decide +kernel), List.mem_of_getElem? (i := 751) (by decide +kernel), List.mem_of_getElem? (i := 752) (by decide +kernel)⟩
theorem lw_p36 : lw_okq (⟨"PlanRulesModel", "isNode", "(I)Z"⟩, 36) := ⟨⟨by decide +kernel, by decide +kernel⟩, List.mem_of_getElem? (i := 598) (by decide +kernel), List.mem_of_getElem? (i := 764) (by decide +kernel), List.mem_of_getElem? (i := 765) (by decide +kernel)⟩
theorem lw_p37 : lw_okq (⟨"PlanRulesModel", "isRight", "(III)Z"⟩, 36) := ⟨⟨by decide +kernel, by decide +kernel⟩, List.mem_of_getElem? (i := 598) (by decide +kernel), List.mem_of_getElem? (i := 774) (by decide +kernel), List.mem_of_getElem? (i := 775) (by decide +kernel)⟩
theorem lw_p38 : lw_okq (⟨"PlanRulesModel", "lay", "(IIIII)I"⟩, 36) := ⟨⟨by decide +kernel, by decide +kernel⟩, List.mem_of_getElem? (i := 598) (by decide +kernel), List.mem_of_getElem? (i := 780) (by decide +kernel), List.mem_of_getElem? (i := 781) (by decide +kernel)⟩
theorem lw_p39 : lw_okq (⟨"PlanRulesModel", "put", "(IIIIII)V"⟩, 36) := ⟨⟨by decide +kernel, by decide +kernel⟩, List.mem_of_getElem? (i := 598) (by decide +kernel), List.mem_of_getElem? (i := 784) (by decide +kernel), List.mem_of_getElem? (i := 785) (by decide +kernel)⟩
theorem lw_p40 : lw_okq (⟨"PlanRulesModel", "look", "()V"⟩, 36) := ⟨⟨by decide +kernel, by decide +kernel⟩, List.mem_of_getElem? (i := 598) (by decide +kernel), List.mem_of_getElem? (i := 792) (by decide +kernel), List.mem_of_getElem? (i := 793) (by decide +kernel)⟩
theorem lw_p41 : lw_okq (⟨"PlanRulesModel", "bound", "(I)I"⟩, 36) := ⟨⟨by decide +kernel, by decide +kernel⟩, List.mem_of_getElem? (i := 598) (by decide +kernel), List.mem_of_getElem? (i := 796) (by decide +kernel), List.mem_of_getElem? (i := 797) (by decide +kernel)⟩
theorem lw_p42 : lw_okq (⟨"PlanRulesModel", "does", "(I)V"⟩, 36) := ⟨⟨by decide +kernel, by decide +kernel⟩, List.mem_of_getElem? (i := 598) (by decide +kernel), List.mem_of_getElem? (i := 809) (by decide +kernel), List.mem_of_getElem? (i := 810) (by decide +kernel)⟩
theorem lw_p43 : lw_okq (⟨"PlanRulesModel", "takes", "(III)V"⟩, 36) := ⟨⟨by decide +kernel, by decide +kernel⟩, List.mem_of_getElem? (i := 598) (by decide +kernel), List.mem_of_getElem? (i := 816) (by decide +kernel), List.mem_of_getElem? (i := 817) (by decide +kernel)⟩
theorem lw_p44 : lw_okq (⟨"PlanRulesModel", "work", "(II)V"⟩, 36) := ⟨⟨by decide +kernel, by decide +kernel⟩, List.mem_of_getElem? (i := 598) (by decide +kernel), List.mem_of_getElem? (i := 820) (by decide +kernel), List.mem_of_getElem? (i := 821) (by decide +kernel)⟩
theorem lw_p45 : lw_okq (⟨"PlanRulesModel", "begins", "(I)V"⟩, 36) := ⟨⟨by decide +kernel, by decide +kernel⟩, List.mem_of_getElem? (i := 598) (by decide +kernel), List.mem_of_getElem? (i := 824) (by decide +kernel), List.mem_of_getElem? (i := 825) (by decide +kernel)⟩
theorem lw_p46 : lw_okq (⟨"PlanRulesModel", "goesOn", "(I)V"⟩, 36) := ⟨⟨by decide +kernel, by decide +kernel⟩, List.mem_of_getElem? (i := 598) (by decide +kernel), List.mem_of_getElem? (i := 828) (by decide +kernel), List.mem_of_getElem? (i := 829) (by decide +kernel)⟩
theorem lw_p47 : lw_okq (⟨"PlanRulesModel", "gives", "(I)V"⟩, 36) := ⟨⟨by decide +kernel, by decide +kernel⟩, List.mem_of_getElem? (i := 598) (by decide +kernel), List.mem_of_getElem? (i := 832) (by decide +kernel), List.mem_of_getElem? (i := 833) (by decide +kernel)⟩
def lw_privs_3 : List (MethodName × Nat) := [(⟨"PlanRules$Rules", "workAbove", "(III)V"⟩, 3), (⟨"PlanRulesModel", "isFormula", "(I)Z"⟩, 36), (⟨"PlanRulesModel", "sizeOf", "(III)I"⟩, 36), (⟨"PlanRulesModel", "tell", "(III)I"⟩, 36), (⟨"PlanRulesModel", "isNode", "(I)Z"⟩, 36), (⟨"PlanRulesModel", "isRight", "(III)Z"⟩, 36), (⟨"PlanRulesModel", "lay", "(IIIII)I"⟩, 36), (⟨"PlanRulesModel", "put", "(IIIIII)V"⟩, 36), (⟨"PlanRulesModel", "look", "()V"⟩, 36), (⟨"PlanRulesModel", "bound", "(I)I"⟩, 36), (⟨"PlanRulesModel", "does", "(I)V"⟩, 36), (⟨"PlanRulesModel", "takes", "(III)V"⟩, 36), (⟨"PlanRulesModel", "work", "(II)V"⟩, 36), (⟨"PlanRulesModel", "begins", "(I)V"⟩, 36), (⟨"PlanRulesModel", "goesOn", "(I)V"⟩, 36), (⟨"PlanRulesModel", "gives", "(I)V"⟩, 36)]
theorem lw_r3 : ∀ q ∈ lw_privs_3, lw_okq q := List.forall_mem_cons.mpr ⟨lw_p32, List.forall_mem_cons.mpr ⟨lw_p33, List.forall_mem_cons.mpr ⟨lw_p34, List.forall_mem_cons.mpr ⟨lw_p35, List.forall_mem_cons.mpr ⟨lw_p36, List.forall_mem_cons.mpr ⟨lw_p37, List.forall_mem_cons.mpr ⟨lw_p38, List.forall_mem_cons.mpr ⟨lw_p39, List.forall_mem_cons.mpr ⟨lw_p40, List.forall_mem_cons.mpr ⟨lw_p41, List.forall_mem_cons.mpr ⟨lw_p42, List.forall_mem_cons.mpr ⟨lw_p43, List.forall_mem_cons.mpr ⟨lw_p44, List.forall_mem_cons.mpr ⟨lw_p45, List.forall_mem_cons.mpr ⟨lw_p46, List.forall_mem_cons.mpr ⟨lw_p47, fun _ h => absurd h List.not_mem_nil⟩⟩⟩⟩⟩⟩⟩⟩⟩⟩⟩⟩⟩⟩⟩⟩
theorem lw_p48 : lw_okq (⟨"PlanRulesModel", "asks", "(I)V"⟩, 36) := ⟨⟨by decide +kernel, by decide +kernel⟩, List.mem_of_getElem? (i := 598) (by decide +kernel), List.mem_of_getElem? (i := 836) (by decide +kernel), List.mem_of_getElem? (i := 837) (by decide +kernel)⟩
theorem lw_p49 : lw_okq (⟨"PlanRulesModel", "single", "(I)V"⟩, 36) := ⟨⟨by decide +kernel, by decide +kernel⟩, List.mem_of_getElem? (i := 598) (by decide +kernel), List.mem_of_getElem? (i := 840) (by decide +kernel), List.mem_of_getElem? (i := 841) (by decide +kernel)⟩
theorem lw_p50 : lw_okq (⟨"PlanRulesModel", "both", "(III)V"⟩, 36) := ⟨⟨by decide +kernel, by decide +kernel⟩, List.mem_of_getElem? (i := 598) (by decide +kernel), List.mem_of_getElem? (i := 844) (by decide +kernel), List.mem_of_getElem? (i := 845) (by decide +kernel)⟩
theorem lw_p51 : lw_okq (⟨"PlanRulesModel", "add", "(II)V"⟩, 36) := ⟨⟨by decide +kernel, by decide +kernel⟩, List.mem_of_getElem? (i := 598) (by decide +kernel), List.mem_of_getElem? (i := 848) (by decide +kernel), List.mem_of_getElem? (i := 849) (by decide +kernel)⟩
theorem lw_p52 : lw_okq (⟨"PlanRulesModel", "copy", "(II)I"⟩, 36) := ⟨⟨by decide +kernel, by decide +kernel⟩, List.mem_of_getElem? (i := 598) (by decide +kernel), List.mem_of_getElem? (i := 852) (by decide +kernel), List.mem_of_getElem? (i := 853) (by decide +kernel)⟩
theorem lw_p53 : lw_okq (⟨"PlanRulesModel", "joins", "(II)V"⟩, 36) := ⟨⟨by decide +kernel, by decide +kernel⟩, List.mem_of_getElem? (i := 598) (by decide +kernel), List.mem_of_getElem? (i := 856) (by decide +kernel), List.mem_of_getElem? (i := 857) (by decide +kernel)⟩
theorem lw_p54 : lw_okq (⟨"PlanRulesModel", "folds", "(II)V"⟩, 36) := ⟨⟨by decide +kernel, by decide +kernel⟩, List.mem_of_getElem? (i := 598) (by decide +kernel), List.mem_of_getElem? (i := 860) (by decide +kernel), List.mem_of_getElem? (i := 861) (by decide +kernel)⟩
theorem lw_p55 : lw_okq (⟨"PlanRulesModel", "has", "(II)Z"⟩, 36) := ⟨⟨by decide +kernel, by decide +kernel⟩, List.mem_of_getElem? (i := 598) (by decide +kernel), List.mem_of_getElem? (i := 864) (by decide +kernel), List.mem_of_getElem? (i := 865) (by decide +kernel)⟩
theorem lw_p56 : lw_okq (⟨"PlanRulesModel", "stands", "(II)Z"⟩, 36) := ⟨⟨by decide +kernel, by decide +kernel⟩, List.mem_of_getElem? (i := 598) (by decide +kernel), List.mem_of_getElem? (i := 881) (by decide +kernel), List.mem_of_getElem? (i := 882) (by decide +kernel)⟩
theorem lw_p57 : lw_okq (⟨"PlanRulesModel", "isFold", "(III)Z"⟩, 36) := ⟨⟨by decide +kernel, by decide +kernel⟩, List.mem_of_getElem? (i := 598) (by decide +kernel), List.mem_of_getElem? (i := 888) (by decide +kernel), List.mem_of_getElem? (i := 889) (by decide +kernel)⟩
theorem lw_p58 : lw_okq (⟨"PlanRulesModel", "hasRoom", "(II)Z"⟩, 36) := ⟨⟨by decide +kernel, by decide +kernel⟩, List.mem_of_getElem? (i := 598) (by decide +kernel), List.mem_of_getElem? (i := 896) (by decide +kernel), List.mem_of_getElem? (i := 897) (by decide +kernel)⟩
theorem lw_p59 : lw_okq (⟨"PlanRulesModel", "rewrites", "(II)V"⟩, 36) := ⟨⟨by decide +kernel, by decide +kernel⟩, List.mem_of_getElem? (i := 598) (by decide +kernel), List.mem_of_getElem? (i := 906) (by decide +kernel), List.mem_of_getElem? (i := 907) (by decide +kernel)⟩
theorem lw_p60 : lw_okq (⟨"PlanRulesModel", "below", "(I)J"⟩, 36) := ⟨⟨by decide +kernel, by decide +kernel⟩, List.mem_of_getElem? (i := 598) (by decide +kernel), List.mem_of_getElem? (i := 914) (by decide +kernel), List.mem_of_getElem? (i := 915) (by decide +kernel)⟩
theorem lw_p61 : lw_okq (⟨"PlanRulesModel", "ruleFor", "(I)I"⟩, 36) := ⟨⟨by decide +kernel, by decide +kernel⟩, List.mem_of_getElem? (i := 598) (by decide +kernel), List.mem_of_getElem? (i := 918) (by decide +kernel), List.mem_of_getElem? (i := 919) (by decide +kernel)⟩
def lw_privs_4 : List (MethodName × Nat) := [(⟨"PlanRulesModel", "asks", "(I)V"⟩, 36), (⟨"PlanRulesModel", "single", "(I)V"⟩, 36), (⟨"PlanRulesModel", "both", "(III)V"⟩, 36), (⟨"PlanRulesModel", "add", "(II)V"⟩, 36), (⟨"PlanRulesModel", "copy", "(II)I"⟩, 36), (⟨"PlanRulesModel", "joins", "(II)V"⟩, 36), (⟨"PlanRulesModel", "folds", "(II)V"⟩, 36), (⟨"PlanRulesModel", "has", "(II)Z"⟩, 36), (⟨"PlanRulesModel", "stands", "(II)Z"⟩, 36), (⟨"PlanRulesModel", "isFold", "(III)Z"⟩, 36), (⟨"PlanRulesModel", "hasRoom", "(II)Z"⟩, 36), (⟨"PlanRulesModel", "rewrites", "(II)V"⟩, 36), (⟨"PlanRulesModel", "below", "(I)J"⟩, 36), (⟨"PlanRulesModel", "ruleFor", "(I)I"⟩, 36)]
theorem lw_r4 : ∀ q ∈ lw_privs_4, lw_okq q := List.forall_mem_cons.mpr ⟨lw_p48, List.forall_mem_cons.mpr ⟨lw_p49, List.forall_mem_cons.mpr ⟨lw_p50, List.forall_mem_cons.mpr ⟨lw_p51, List.forall_mem_cons.mpr ⟨lw_p52, List.forall_mem_cons.mpr ⟨lw_p53, List.forall_mem_cons.mpr ⟨lw_p54, List.forall_mem_cons.mpr ⟨lw_p55, List.forall_mem_cons.mpr ⟨lw_p56, List.forall_mem_cons.mpr ⟨lw_p57, List.forall_mem_cons.mpr ⟨lw_p58, List.forall_mem_cons.mpr ⟨lw_p59, List.forall_mem_cons.mpr ⟨lw_p60, List.forall_mem_cons.mpr ⟨lw_p61, fun _ h => absurd h List.not_mem_nil⟩⟩⟩⟩⟩⟩⟩⟩⟩⟩⟩⟩⟩⟩
def lw_privs : List (MethodName × Nat) := lw_privs_1 ++ (lw_privs_2 ++ (lw_privs_3 ++ (lw_privs_4)))
def lw_tbl : List Cond := k2_sels lw_privs ++ tables_1
theorem lw_privs_ok : ∀ q ∈ lw_privs, lw_okq q := by
  show ∀ q ∈ lw_privs_1 ++ (lw_privs_2 ++ (lw_privs_3 ++ (lw_privs_4))), lw_okq q
  exact List.forall_mem_append.mpr ⟨lw_r1, List.forall_mem_append.mpr ⟨lw_r2, List.forall_mem_append.mpr ⟨lw_r3, lw_r4⟩⟩⟩

def RX0 : String := "PlanRules$Formulas"
def TX0 : u_T := fun k => match k with
  | 0 => ("PlanRules$Formulas", "kinds", "[I", true)
  | 1 => ("PlanRules$Formulas", "firsts", "[I", true)
  | 2 => ("PlanRules$Formulas", "seconds", "[I", true)
  | 3 => ("PlanRules$Formulas", "sizes", "[I", true)
  | 4 => ("PlanRules$Formulas", "reads", "[I", true)
  | 5 => ("PlanRules$Formulas", "fails", "[Z", true)
  | _ => ("PlanRules$Formulas", "made", "I", false)
def tyX0 : Nat → FieldType := fun k => match k with
  | 0 => .array .int
  | 1 => .array .int
  | 2 => .array .int
  | 3 => .array .int
  | 4 => .array .int
  | 5 => .array .boolean
  | _ => .int
abbrev wsX00 : List Cond := u_ws RX0 TX0 7
theorem nmX0 : ∀ a, a < 7 → ∀ b, b < 7 → a ≠ b → (TX0 a).2.1 ≠ (TX0 b).2.1 := by decide +kernel
theorem tyX0_ok : ∀ k, k < 7 → parseFieldDescriptor (TX0 k).2.2.1 = some (tyX0 k) := by decide +kernel
abbrev cX0_init : ByteArray := prog_2_method_1_code
def yX0_init : MethodName := ⟨RX0, "<init>", "()V"⟩
abbrev cX0_has : ByteArray := prog_2_method_2_code
def yX0_has : MethodName := ⟨RX0, "has", "(I)Z"⟩
abbrev cX0_isAsTold : ByteArray := prog_2_method_3_code
def yX0_isAsTold : MethodName := ⟨RX0, "isAsTold", "(III)Z"⟩
abbrev cX0_hasRoom : ByteArray := prog_2_method_4_code
def yX0_hasRoom : MethodName := ⟨RX0, "hasRoom", "(III)Z"⟩
abbrev cX0_add : ByteArray := prog_2_method_5_code
def yX0_add : MethodName := ⟨RX0, "add", "(III)I"⟩
abbrev cX0_takesFirst : ByteArray := prog_2_method_6_code
def yX0_takesFirst : MethodName := ⟨RX0, "takesFirst", "(I)Z"⟩
abbrev cX0_takesSecond : ByteArray := prog_2_method_7_code
def yX0_takesSecond : MethodName := ⟨RX0, "takesSecond", "(I)Z"⟩
abbrev cX0_sizeOf : ByteArray := prog_2_method_8_code
def yX0_sizeOf : MethodName := ⟨RX0, "sizeOf", "(III)I"⟩
abbrev cX0_readsOf : ByteArray := prog_2_method_9_code
def yX0_readsOf : MethodName := ⟨RX0, "readsOf", "(III)I"⟩
abbrev cX0_failsOf : ByteArray := prog_2_method_10_code
def yX0_failsOf : MethodName := ⟨RX0, "failsOf", "(III)Z"⟩
def RX1 : String := "PlanRules$Nodes"
def TX1 : u_T := fun k => match k with
  | 0 => ("PlanRules$Nodes", "formulas", "LPlanRules$Formulas;", true)
  | 1 => ("PlanRules$Nodes", "kinds", "[I", true)
  | 2 => ("PlanRules$Nodes", "lefts", "[I", true)
  | 3 => ("PlanRules$Nodes", "rights", "[I", true)
  | 4 => ("PlanRules$Nodes", "members", "[I", true)
  | 5 => ("PlanRules$Nodes", "values", "[I", true)
  | 6 => ("PlanRules$Nodes", "bounds", "[I", true)
  | 7 => ("PlanRules$Nodes", "fails", "[Z", true)
  | 8 => ("PlanRules$Nodes", "made", "I", false)
  | 9 => ("PlanRules$Nodes", "order", "[I", true)
  | 10 => ("PlanRules$Nodes", "open", "[I", true)
  | _ => ("PlanRules$Nodes", "looks", "[I", true)
def tyX1 : Nat → FieldType := fun k => match k with
  | 0 => .object "PlanRules$Formulas"
  | 1 => .array .int
  | 2 => .array .int
  | 3 => .array .int
  | 4 => .array .int
  | 5 => .array .int
  | 6 => .array .int
  | 7 => .array .boolean
  | 8 => .int
  | 9 => .array .int
  | 10 => .array .int
  | _ => .array .int
abbrev wsX10 : List Cond := u_ws RX1 TX1 12
theorem nmX1 : ∀ a, a < 12 → ∀ b, b < 12 → a ≠ b → (TX1 a).2.1 ≠ (TX1 b).2.1 := by decide +kernel
theorem tyX1_ok : ∀ k, k < 12 → parseFieldDescriptor (TX1 k).2.2.1 = some (tyX1 k) := by decide +kernel
abbrev cX1_init : ByteArray := prog_3_method_1_code
def yX1_init : MethodName := ⟨RX1, "<init>", "(LPlanRules$Formulas;)V"⟩
abbrev cX1_has : ByteArray := prog_3_method_2_code
def yX1_has : MethodName := ⟨RX1, "has", "(I)Z"⟩
abbrev cX1_hasRoom : ByteArray := prog_3_method_3_code
def yX1_hasRoom : MethodName := ⟨RX1, "hasRoom", "(I)Z"⟩
abbrev cX1_isAsTold : ByteArray := prog_3_method_4_code
def yX1_isAsTold : MethodName := ⟨RX1, "isAsTold", "(IIIII)Z"⟩
abbrev cX1_isValue : ByteArray := prog_3_method_5_code
def yX1_isValue : MethodName := ⟨RX1, "isValue", "(III)Z"⟩
abbrev cX1_takesRight : ByteArray := prog_3_method_6_code
def yX1_takesRight : MethodName := ⟨RX1, "takesRight", "(I)Z"⟩
abbrev cX1_takesMember : ByteArray := prog_3_method_7_code
def yX1_takesMember : MethodName := ⟨RX1, "takesMember", "(I)Z"⟩
abbrev cX1_takesValue : ByteArray := prog_3_method_8_code
def yX1_takesValue : MethodName := ⟨RX1, "takesValue", "(I)Z"⟩
abbrev cX1_takesFormula : ByteArray := prog_3_method_9_code
def yX1_takesFormula : MethodName := ⟨RX1, "takesFormula", "(I)Z"⟩
abbrev cX1_boundOf : ByteArray := prog_3_method_10_code
def yX1_boundOf : MethodName := ⟨RX1, "boundOf", "(IIII)I"⟩
abbrev cX1_failsOf : ByteArray := prog_3_method_11_code
def yX1_failsOf : MethodName := ⟨RX1, "failsOf", "(IIII)Z"⟩
abbrev cX1_add : ByteArray := prog_3_method_12_code
def yX1_add : MethodName := ⟨RX1, "add", "(IIIII)I"⟩
abbrev cX1_write : ByteArray := prog_3_method_13_code
def yX1_write : MethodName := ⟨RX1, "write", "(IIIIII)V"⟩
abbrev cX1_listFrom : ByteArray := prog_3_method_14_code
def yX1_listFrom : MethodName := ⟨RX1, "listFrom", "(I)I"⟩
abbrev cX1_isListed : ByteArray := prog_3_method_15_code
def yX1_isListed : MethodName := ⟨RX1, "isListed", "(I)Z"⟩
abbrev cX1_leftBelow : ByteArray := prog_3_method_16_code
def yX1_leftBelow : MethodName := ⟨RX1, "leftBelow", "(I)I"⟩
abbrev cX1_rightBelow : ByteArray := prog_3_method_17_code
def yX1_rightBelow : MethodName := ⟨RX1, "rightBelow", "(I)I"⟩
def RX2 : String := "PlanRules$Rules"
def TX2 : u_T := fun k => match k with
  | 0 => ("PlanRules$Rules", "formulas", "LPlanRules$Formulas;", true)
  | 1 => ("PlanRules$Rules", "nodes", "LPlanRules$Nodes;", true)
  | _ => ("PlanRules$Rules", "times", "I", false)
def tyX2 : Nat → FieldType := fun k => match k with
  | 0 => .object "PlanRules$Formulas"
  | 1 => .object "PlanRules$Nodes"
  | _ => .int
abbrev wsX20 : List Cond := u_ws RX2 TX2 3
theorem nmX2 : ∀ a, a < 3 → ∀ b, b < 3 → a ≠ b → (TX2 a).2.1 ≠ (TX2 b).2.1 := by decide +kernel
theorem tyX2_ok : ∀ k, k < 3 → parseFieldDescriptor (TX2 k).2.2.1 = some (tyX2 k) := by decide +kernel
abbrev cX2_init : ByteArray := prog_4_method_1_code
def yX2_init : MethodName := ⟨RX2, "<init>", "(LPlanRules$Formulas;LPlanRules$Nodes;)V"⟩
abbrev cX2_has : ByteArray := prog_4_method_2_code
def yX2_has : MethodName := ⟨RX2, "has", "(I)Z"⟩
abbrev cX2_suits : ByteArray := prog_4_method_3_code
def yX2_suits : MethodName := ⟨RX2, "suits", "(II)Z"⟩
abbrev cX2_suitsFilter : ByteArray := prog_4_method_4_code
def yX2_suitsFilter : MethodName := ⟨RX2, "suitsFilter", "(III)Z"⟩
abbrev cX2_suitsOther : ByteArray := prog_4_method_5_code
def yX2_suitsOther : MethodName := ⟨RX2, "suitsOther", "(III)Z"⟩
abbrev cX2_isLikeJob : ByteArray := prog_4_method_6_code
def yX2_isLikeJob : MethodName := ⟨RX2, "isLikeJob", "(II)Z"⟩
abbrev cX2_hasRoom : ByteArray := prog_4_method_7_code
def yX2_hasRoom : MethodName := ⟨RX2, "hasRoom", "(II)Z"⟩
abbrev cX2_apply : ByteArray := prog_4_method_8_code
def yX2_apply : MethodName := ⟨RX2, "apply", "(II)V"⟩
abbrev cX2_exchange : ByteArray := prog_4_method_9_code
def yX2_exchange : MethodName := ⟨RX2, "exchange", "(IIII)V"⟩
abbrev cX2_skip : ByteArray := prog_4_method_10_code
def yX2_skip : MethodName := ⟨RX2, "skip", "(III)V"⟩
abbrev cX2_workAbove : ByteArray := prog_4_method_11_code
def yX2_workAbove : MethodName := ⟨RX2, "workAbove", "(III)V"⟩
abbrev cX2_addLike : ByteArray := prog_4_method_12_code
def yX2_addLike : MethodName := ⟨RX2, "addLike", "(II)I"⟩
abbrev cX2_leastNode : ByteArray := prog_4_method_13_code
def yX2_leastNode : MethodName := ⟨RX2, "leastNode", "(I)I"⟩
abbrev cX2_leastRule : ByteArray := prog_4_method_14_code
def yX2_leastRule : MethodName := ⟨RX2, "leastRule", "(I)I"⟩
def RX3 : String := "PlanRules$Runner"
def TX3 : u_T := fun k => match k with
  | 0 => ("PlanRules$Runner", "sources", "LPlanRules$Sources;", true)
  | 1 => ("PlanRules$Runner", "formulas", "LPlanRules$Formulas;", true)
  | 2 => ("PlanRules$Runner", "nodes", "LPlanRules$Nodes;", true)
  | 3 => ("PlanRules$Runner", "cells", "[I", false)
  | 4 => ("PlanRules$Runner", "used", "I", false)
  | 5 => ("PlanRules$Runner", "starts", "[I", true)
  | 6 => ("PlanRules$Runner", "ends", "[I", true)
  | 7 => ("PlanRules$Runner", "givenStart", "I", false)
  | 8 => ("PlanRules$Runner", "givenRows", "I", false)
  | 9 => ("PlanRules$Runner", "failure", "I", false)
  | 10 => ("PlanRules$Runner", "formulasWorked", "I", false)
  | 11 => ("PlanRules$Runner", "nodesWorked", "I", false)
  | _ => ("PlanRules$Runner", "failedNode", "I", false)
def tyX3 : Nat → FieldType := fun k => match k with
  | 0 => .object "PlanRules$Sources"
  | 1 => .object "PlanRules$Formulas"
  | 2 => .object "PlanRules$Nodes"
  | 3 => .array .int
  | 4 => .int
  | 5 => .array .int
  | 6 => .array .int
  | 7 => .int
  | 8 => .int
  | 9 => .int
  | 10 => .int
  | 11 => .int
  | _ => .int
abbrev wsX30 : List Cond := u_ws RX3 TX3 13
theorem nmX3 : ∀ a, a < 13 → ∀ b, b < 13 → a ≠ b → (TX3 a).2.1 ≠ (TX3 b).2.1 := by decide +kernel
theorem tyX3_ok : ∀ k, k < 13 → parseFieldDescriptor (TX3 k).2.2.1 = some (tyX3 k) := by decide +kernel
abbrev cX3_init : ByteArray := prog_5_method_1_code
def yX3_init : MethodName := ⟨RX3, "<init>", "(LPlanRules$Sources;LPlanRules$Formulas;LPlanRules$Nodes;)V"⟩
abbrev cX3_give : ByteArray := prog_5_method_2_code
def yX3_give : MethodName := ⟨RX3, "give", "(I)I"⟩
abbrev cX3_given : ByteArray := prog_5_method_3_code
def yX3_given : MethodName := ⟨RX3, "given", "(II)I"⟩
abbrev cX3_work : ByteArray := prog_5_method_4_code
def yX3_work : MethodName := ⟨RX3, "work", "(I)V"⟩
abbrev cX3_giveSource : ByteArray := prog_5_method_5_code
def yX3_giveSource : MethodName := ⟨RX3, "giveSource", "(I)V"⟩
abbrev cX3_giveFiltered : ByteArray := prog_5_method_6_code
def yX3_giveFiltered : MethodName := ⟨RX3, "giveFiltered", "(II)V"⟩
abbrev cX3_giveSet : ByteArray := prog_5_method_7_code
def yX3_giveSet : MethodName := ⟨RX3, "giveSet", "(III)V"⟩
abbrev cX3_giveKept : ByteArray := prog_5_method_8_code
def yX3_giveKept : MethodName := ⟨RX3, "giveKept", "(II)V"⟩
abbrev cX3_giveJoined : ByteArray := prog_5_method_9_code
def yX3_giveJoined : MethodName := ⟨RX3, "giveJoined", "(IIII)V"⟩
abbrev cX3_giveFolded : ByteArray := prog_5_method_10_code
def yX3_giveFolded : MethodName := ⟨RX3, "giveFolded", "(III)V"⟩
abbrev cX3_giveOnce : ByteArray := prog_5_method_11_code
def yX3_giveOnce : MethodName := ⟨RX3, "giveOnce", "(I)V"⟩
abbrev cX3_giveFirst : ByteArray := prog_5_method_12_code
def yX3_giveFirst : MethodName := ⟨RX3, "giveFirst", "(II)V"⟩
abbrev cX3_findMember : ByteArray := prog_5_method_13_code
def yX3_findMember : MethodName := ⟨RX3, "findMember", "(III)I"⟩
abbrev cX3_hasLike : ByteArray := prog_5_method_14_code
def yX3_hasLike : MethodName := ⟨RX3, "hasLike", "(II)Z"⟩
abbrev cX3_isLike : ByteArray := prog_5_method_15_code
def yX3_isLike : MethodName := ⟨RX3, "isLike", "(II)Z"⟩
abbrev cX3_copyMembers : ByteArray := prog_5_method_16_code
def yX3_copyMembers : MethodName := ⟨RX3, "copyMembers", "(III)V"⟩
abbrev cX3_addCopy : ByteArray := prog_5_method_17_code
def yX3_addCopy : MethodName := ⟨RX3, "addCopy", "(I)I"⟩
abbrev cX3_addEmpty : ByteArray := prog_5_method_18_code
def yX3_addEmpty : MethodName := ⟨RX3, "addEmpty", "()I"⟩
abbrev cX3_valueOf : ByteArray := prog_5_method_19_code
def yX3_valueOf : MethodName := ⟨RX3, "valueOf", "(II)I"⟩
abbrev cX3_valueOfParts : ByteArray := prog_5_method_20_code
def yX3_valueOfParts : MethodName := ⟨RX3, "valueOfParts", "(IIII)I"⟩
abbrev cX3_valueOfPair : ByteArray := prog_5_method_21_code
def yX3_valueOfPair : MethodName := ⟨RX3, "valueOfPair", "(III)I"⟩
abbrev cX3_itemAt : ByteArray := prog_5_method_22_code
def yX3_itemAt : MethodName := ⟨RX3, "itemAt", "(I)I"⟩
def RX4 : String := "PlanRules$Sources"
def TX4 : u_T := fun k => match k with
  | 0 => ("PlanRules$Sources", "cells", "[I", true)
  | 1 => ("PlanRules$Sources", "sizes", "[I", true)
  | _ => ("PlanRules$Sources", "items", "[I", true)
def tyX4 : Nat → FieldType := fun k => match k with
  | 0 => .array .int
  | 1 => .array .int
  | _ => .array .int
abbrev wsX40 : List Cond := u_ws RX4 TX4 3
theorem nmX4 : ∀ a, a < 3 → ∀ b, b < 3 → a ≠ b → (TX4 a).2.1 ≠ (TX4 b).2.1 := by decide +kernel
theorem tyX4_ok : ∀ k, k < 3 → parseFieldDescriptor (TX4 k).2.2.1 = some (tyX4 k) := by decide +kernel
abbrev cX4_init : ByteArray := prog_6_method_1_code
def yX4_init : MethodName := ⟨RX4, "<init>", "()V"⟩
abbrev cX4_has : ByteArray := prog_6_method_2_code
def yX4_has : MethodName := ⟨RX4, "has", "(I)Z"⟩
abbrev cX4_hasItem : ByteArray := prog_6_method_3_code
def yX4_hasItem : MethodName := ⟨RX4, "hasItem", "(I)Z"⟩
abbrev cX4_add : ByteArray := prog_6_method_4_code
def yX4_add : MethodName := ⟨RX4, "add", "(IIII)I"⟩
abbrev cX4_empty : ByteArray := prog_6_method_5_code
def yX4_empty : MethodName := ⟨RX4, "empty", "(I)I"⟩
abbrev cX4_total : ByteArray := prog_6_method_6_code
def yX4_total : MethodName := ⟨RX4, "total", "()I"⟩
abbrev cX4_cellOf : ByteArray := prog_6_method_7_code
def yX4_cellOf : MethodName := ⟨RX4, "cellOf", "(II)I"⟩
def RX5 : String := "PlanRules"
def TX5 : u_T := fun k => match k with
  | 0 => ("PlanRules", "sources", "LPlanRules$Sources;", true)
  | 1 => ("PlanRules", "formulas", "LPlanRules$Formulas;", true)
  | 2 => ("PlanRules", "nodes", "LPlanRules$Nodes;", true)
  | 3 => ("PlanRules", "runner", "LPlanRules$Runner;", true)
  | _ => ("PlanRules", "rules", "LPlanRules$Rules;", true)
def tyX5 : Nat → FieldType := fun k => match k with
  | 0 => .object "PlanRules$Sources"
  | 1 => .object "PlanRules$Formulas"
  | 2 => .object "PlanRules$Nodes"
  | 3 => .object "PlanRules$Runner"
  | _ => .object "PlanRules$Rules"
abbrev wsX50 : List Cond := u_ws RX5 TX5 5
theorem nmX5 : ∀ a, a < 5 → ∀ b, b < 5 → a ≠ b → (TX5 a).2.1 ≠ (TX5 b).2.1 := by decide +kernel
theorem tyX5_ok : ∀ k, k < 5 → parseFieldDescriptor (TX5 k).2.2.1 = some (tyX5 k) := by decide +kernel
abbrev cX5_init : ByteArray := prog_1_method_1_code
def yX5_init : MethodName := ⟨RX5, "<init>", "()V"⟩
abbrev cX5_row : ByteArray := prog_1_method_2_code
def yX5_row : MethodName := ⟨RX5, "row", "(IIII)I"⟩
abbrev cX5_clear : ByteArray := prog_1_method_3_code
def yX5_clear : MethodName := ⟨RX5, "clear", "(I)I"⟩
abbrev cX5_table : ByteArray := prog_1_method_4_code
def yX5_table : MethodName := ⟨RX5, "table", "(II)I"⟩
abbrev cX5_formula : ByteArray := prog_1_method_5_code
def yX5_formula : MethodName := ⟨RX5, "formula", "(III)I"⟩
abbrev cX5_formulaOf : ByteArray := prog_1_method_6_code
def yX5_formulaOf : MethodName := ⟨RX5, "formulaOf", "(II)I"⟩
abbrev cX5_node : ByteArray := prog_1_method_7_code
def yX5_node : MethodName := ⟨RX5, "node", "(IIIII)I"⟩
abbrev cX5_told : ByteArray := prog_1_method_8_code
def yX5_told : MethodName := ⟨RX5, "told", "(II)I"⟩
abbrev cX5_run : ByteArray := prog_1_method_9_code
def yX5_run : MethodName := ⟨RX5, "run", "(I)I"⟩
abbrev cX5_member : ByteArray := prog_1_method_10_code
def yX5_member : MethodName := ⟨RX5, "member", "(II)I"⟩
abbrev cX5_worked : ByteArray := prog_1_method_11_code
def yX5_worked : MethodName := ⟨RX5, "worked", "(I)I"⟩
abbrev cX5_fits : ByteArray := prog_1_method_12_code
def yX5_fits : MethodName := ⟨RX5, "fits", "(II)I"⟩
abbrev cX5_rewrite : ByteArray := prog_1_method_13_code
def yX5_rewrite : MethodName := ⟨RX5, "rewrite", "(II)I"⟩
abbrev cX5_sweep : ByteArray := prog_1_method_14_code
def yX5_sweep : MethodName := ⟨RX5, "sweep", "(II)I"⟩
abbrev cX5_count : ByteArray := prog_1_method_15_code
def yX5_count : MethodName := ⟨RX5, "count", "(I)I"⟩
abbrev cX5_isMember : ByteArray := prog_1_method_16_code
def yX5_isMember : MethodName := ⟨RX5, "isMember", "(I)Z"⟩
abbrev cX5_isSet : ByteArray := prog_1_method_17_code
def yX5_isSet : MethodName := ⟨RX5, "isSet", "(I)Z"⟩
abbrev cX5_isIn : ByteArray := prog_1_method_18_code
def yX5_isIn : MethodName := ⟨RX5, "isIn", "(II)Z"⟩
abbrev cX5_isWithin : ByteArray := prog_1_method_19_code
def yX5_isWithin : MethodName := ⟨RX5, "isWithin", "(II)Z"⟩
abbrev cX5_asNumber : ByteArray := prog_1_method_20_code
def yX5_asNumber : MethodName := ⟨RX5, "asNumber", "(Z)I"⟩
def RX6 : String := "PlanRulesModel"
def TX6 : u_T := fun k => match k with
  | 0 => ("PlanRulesModel", "many", "[I", true)
  | 1 => ("PlanRulesModel", "given", "[I", true)
  | 2 => ("PlanRulesModel", "table", "[I", true)
  | 3 => ("PlanRulesModel", "formulas", "I", false)
  | 4 => ("PlanRulesModel", "fKind", "[I", true)
  | 5 => ("PlanRulesModel", "fa", "[I", true)
  | 6 => ("PlanRulesModel", "fb", "[I", true)
  | 7 => ("PlanRulesModel", "reads", "[I", true)
  | 8 => ("PlanRulesModel", "mayFail", "[Z", true)
  | 9 => ("PlanRulesModel", "size", "[I", true)
  | 10 => ("PlanRulesModel", "nodes", "I", false)
  | 11 => ("PlanRulesModel", "kind", "[I", true)
  | 12 => ("PlanRulesModel", "na", "[I", true)
  | 13 => ("PlanRulesModel", "nb", "[I", true)
  | 14 => ("PlanRulesModel", "nm", "[I", true)
  | 15 => ("PlanRulesModel", "nv", "[I", true)
  | 16 => ("PlanRulesModel", "rewritten", "I", false)
  | 17 => ("PlanRulesModel", "bounds", "[I", true)
  | 18 => ("PlanRulesModel", "fails", "[Z", true)
  | 19 => ("PlanRulesModel", "under", "[I", true)
  | 20 => ("PlanRulesModel", "phase", "[I", true)
  | 21 => ("PlanRulesModel", "high", "I", false)
  | 22 => ("PlanRulesModel", "value", "I", false)
  | 23 => ("PlanRulesModel", "failure", "I", false)
  | 24 => ("PlanRulesModel", "workedFormulas", "I", false)
  | 25 => ("PlanRulesModel", "left", "[I", true)
  | 26 => ("PlanRulesModel", "cells", "[I", true)
  | 27 => ("PlanRulesModel", "rows", "[I", true)
  | 28 => ("PlanRulesModel", "isDone", "[Z", true)
  | 29 => ("PlanRulesModel", "waiting", "[I", true)
  | 30 => ("PlanRulesModel", "last", "[I", true)
  | 31 => ("PlanRulesModel", "lastRows", "I", false)
  | 32 => ("PlanRulesModel", "lastFailure", "I", false)
  | 33 => ("PlanRulesModel", "lastFormulas", "I", false)
  | 34 => ("PlanRulesModel", "lastNodes", "I", false)
  | _ => ("PlanRulesModel", "lastWrong", "I", false)
def tyX6 : Nat → FieldType := fun k => match k with
  | 0 => .array .int
  | 1 => .array .int
  | 2 => .array .int
  | 3 => .int
  | 4 => .array .int
  | 5 => .array .int
  | 6 => .array .int
  | 7 => .array .int
  | 8 => .array .boolean
  | 9 => .array .int
  | 10 => .int
  | 11 => .array .int
  | 12 => .array .int
  | 13 => .array .int
  | 14 => .array .int
  | 15 => .array .int
  | 16 => .int
  | 17 => .array .int
  | 18 => .array .boolean
  | 19 => .array .int
  | 20 => .array .int
  | 21 => .int
  | 22 => .int
  | 23 => .int
  | 24 => .int
  | 25 => .array .int
  | 26 => .array .int
  | 27 => .array .int
  | 28 => .array .boolean
  | 29 => .array .int
  | 30 => .array .int
  | 31 => .int
  | 32 => .int
  | 33 => .int
  | 34 => .int
  | _ => .int
abbrev wsX60 : List Cond := u_ws RX6 TX6 36
theorem nmX6 : ∀ a, a < 36 → ∀ b, b < 36 → a ≠ b → (TX6 a).2.1 ≠ (TX6 b).2.1 := by decide +kernel
theorem tyX6_ok : ∀ k, k < 36 → parseFieldDescriptor (TX6 k).2.2.1 = some (tyX6 k) := by decide +kernel
abbrev cX6_init : ByteArray := prog_8_method_1_code
def yX6_init : MethodName := ⟨RX6, "<init>", "()V"⟩
abbrev cX6_in : ByteArray := prog_8_method_2_code
def yX6_in : MethodName := ⟨RX6, "in", "(JJJ)Z"⟩
abbrev cX6_row : ByteArray := prog_8_method_3_code
def yX6_row : MethodName := ⟨RX6, "row", "(IIII)I"⟩
abbrev cX6_clear : ByteArray := prog_8_method_4_code
def yX6_clear : MethodName := ⟨RX6, "clear", "(I)I"⟩
abbrev cX6_table : ByteArray := prog_8_method_5_code
def yX6_table : MethodName := ⟨RX6, "table", "(II)I"⟩
abbrev cX6_isFormula : ByteArray := prog_8_method_6_code
def yX6_isFormula : MethodName := ⟨RX6, "isFormula", "(I)Z"⟩
abbrev cX6_hasTwo : ByteArray := prog_8_method_7_code
def yX6_hasTwo : MethodName := ⟨RX6, "hasTwo", "(I)Z"⟩
abbrev cX6_hasOne : ByteArray := prog_8_method_8_code
def yX6_hasOne : MethodName := ⟨RX6, "hasOne", "(I)Z"⟩
abbrev cX6_sizeOf : ByteArray := prog_8_method_9_code
def yX6_sizeOf : MethodName := ⟨RX6, "sizeOf", "(III)I"⟩
abbrev cX6_tell : ByteArray := prog_8_method_10_code
def yX6_tell : MethodName := ⟨RX6, "tell", "(III)I"⟩
abbrev cX6_formula : ByteArray := prog_8_method_11_code
def yX6_formula : MethodName := ⟨RX6, "formula", "(III)I"⟩
abbrev cX6_formulaOf : ByteArray := prog_8_method_12_code
def yX6_formulaOf : MethodName := ⟨RX6, "formulaOf", "(II)I"⟩
abbrev cX6_isNode : ByteArray := prog_8_method_13_code
def yX6_isNode : MethodName := ⟨RX6, "isNode", "(I)Z"⟩
abbrev cX6_isTwo : ByteArray := prog_8_method_14_code
def yX6_isTwo : MethodName := ⟨RX6, "isTwo", "(I)Z"⟩
abbrev cX6_hasMember : ByteArray := prog_8_method_15_code
def yX6_hasMember : MethodName := ⟨RX6, "hasMember", "(I)Z"⟩
abbrev cX6_hasNumber : ByteArray := prog_8_method_16_code
def yX6_hasNumber : MethodName := ⟨RX6, "hasNumber", "(I)Z"⟩
abbrev cX6_isRight : ByteArray := prog_8_method_17_code
def yX6_isRight : MethodName := ⟨RX6, "isRight", "(III)Z"⟩
abbrev cX6_bound : ByteArray := prog_8_method_18_code
def yX6_bound : MethodName := ⟨RX6, "bound", "(I)I"⟩
abbrev cX6_look : ByteArray := prog_8_method_19_code
def yX6_look : MethodName := ⟨RX6, "look", "()V"⟩
abbrev cX6_lay : ByteArray := prog_8_method_20_code
def yX6_lay : MethodName := ⟨RX6, "lay", "(IIIII)I"⟩
abbrev cX6_put : ByteArray := prog_8_method_21_code
def yX6_put : MethodName := ⟨RX6, "put", "(IIIIII)V"⟩
abbrev cX6_node : ByteArray := prog_8_method_22_code
def yX6_node : MethodName := ⟨RX6, "node", "(IIIII)I"⟩
abbrev cX6_told : ByteArray := prog_8_method_23_code
def yX6_told : MethodName := ⟨RX6, "told", "(II)I"⟩
abbrev cX6_begins : ByteArray := prog_8_method_24_code
def yX6_begins : MethodName := ⟨RX6, "begins", "(I)V"⟩
abbrev cX6_asks : ByteArray := prog_8_method_25_code
def yX6_asks : MethodName := ⟨RX6, "asks", "(I)V"⟩
abbrev cX6_gives : ByteArray := prog_8_method_26_code
def yX6_gives : MethodName := ⟨RX6, "gives", "(I)V"⟩
abbrev cX6_goesOn : ByteArray := prog_8_method_27_code
def yX6_goesOn : MethodName := ⟨RX6, "goesOn", "(I)V"⟩
abbrev cX6_single : ByteArray := prog_8_method_28_code
def yX6_single : MethodName := ⟨RX6, "single", "(I)V"⟩
abbrev cX6_both : ByteArray := prog_8_method_29_code
def yX6_both : MethodName := ⟨RX6, "both", "(III)V"⟩
abbrev cX6_work : ByteArray := prog_8_method_30_code
def yX6_work : MethodName := ⟨RX6, "work", "(II)V"⟩
abbrev cX6_place : ByteArray := prog_8_method_31_code
def yX6_place : MethodName := ⟨RX6, "place", "(II)I"⟩
abbrev cX6_copy : ByteArray := prog_8_method_32_code
def yX6_copy : MethodName := ⟨RX6, "copy", "(II)I"⟩
abbrev cX6_add : ByteArray := prog_8_method_33_code
def yX6_add : MethodName := ⟨RX6, "add", "(II)V"⟩
abbrev cX6_does : ByteArray := prog_8_method_34_code
def yX6_does : MethodName := ⟨RX6, "does", "(I)V"⟩
abbrev cX6_takes : ByteArray := prog_8_method_35_code
def yX6_takes : MethodName := ⟨RX6, "takes", "(III)V"⟩
abbrev cX6_joins : ByteArray := prog_8_method_36_code
def yX6_joins : MethodName := ⟨RX6, "joins", "(II)V"⟩
abbrev cX6_folds : ByteArray := prog_8_method_37_code
def yX6_folds : MethodName := ⟨RX6, "folds", "(II)V"⟩
abbrev cX6_has : ByteArray := prog_8_method_38_code
def yX6_has : MethodName := ⟨RX6, "has", "(II)Z"⟩
abbrev cX6_run : ByteArray := prog_8_method_39_code
def yX6_run : MethodName := ⟨RX6, "run", "(I)I"⟩
abbrev cX6_member : ByteArray := prog_8_method_40_code
def yX6_member : MethodName := ⟨RX6, "member", "(II)I"⟩
abbrev cX6_worked : ByteArray := prog_8_method_41_code
def yX6_worked : MethodName := ⟨RX6, "worked", "(I)I"⟩
abbrev cX6_isOf : ByteArray := prog_8_method_42_code
def yX6_isOf : MethodName := ⟨RX6, "isOf", "(II)Z"⟩
abbrev cX6_isFold : ByteArray := prog_8_method_43_code
def yX6_isFold : MethodName := ⟨RX6, "isFold", "(III)Z"⟩
abbrev cX6_stands : ByteArray := prog_8_method_44_code
def yX6_stands : MethodName := ⟨RX6, "stands", "(II)Z"⟩
abbrev cX6_fits : ByteArray := prog_8_method_45_code
def yX6_fits : MethodName := ⟨RX6, "fits", "(II)I"⟩
abbrev cX6_news : ByteArray := prog_8_method_46_code
def yX6_news : MethodName := ⟨RX6, "news", "(I)I"⟩
abbrev cX6_hasRoom : ByteArray := prog_8_method_47_code
def yX6_hasRoom : MethodName := ⟨RX6, "hasRoom", "(II)Z"⟩
abbrev cX6_rewrites : ByteArray := prog_8_method_48_code
def yX6_rewrites : MethodName := ⟨RX6, "rewrites", "(II)V"⟩
abbrev cX6_rewrite : ByteArray := prog_8_method_49_code
def yX6_rewrite : MethodName := ⟨RX6, "rewrite", "(II)I"⟩
abbrev cX6_below : ByteArray := prog_8_method_50_code
def yX6_below : MethodName := ⟨RX6, "below", "(I)J"⟩
abbrev cX6_ruleFor : ByteArray := prog_8_method_51_code
def yX6_ruleFor : MethodName := ⟨RX6, "ruleFor", "(I)I"⟩
abbrev cX6_sweep : ByteArray := prog_8_method_52_code
def yX6_sweep : MethodName := ⟨RX6, "sweep", "(II)I"⟩
abbrev cX6_count : ByteArray := prog_8_method_53_code
def yX6_count : MethodName := ⟨RX6, "count", "(I)I"⟩
def RJx8e188 : String := "java/lang/Cloneable"
def RJ9 : String := "java/lang/Math"
def yJ9_min_7cf53 : MethodName := ⟨RJ9, "min", "(II)I"⟩
def RJ10 : String := "java/lang/System"
def RJ7 : String := "java/util/Arrays"
abbrev cJ7_fill_53178 : ByteArray := prog_12_method_103_code
def yJ7_fill_53178 : MethodName := ⟨RJ7, "fill", "([II)V"⟩
abbrev cJ7_copyOf_59c91 : ByteArray := prog_12_method_123_code
def yJ7_copyOf_59c91 : MethodName := ⟨RJ7, "copyOf", "([II)[I"⟩
def RL : String := "PlanRulesLaw"
abbrev cL_law : ByteArray := code
def yL_law : MethodName := ⟨RL, "law", "([I)Z"⟩
abbrev vwCl : List vw_C := [(RX0, TX0, 7), (RX1, TX1, 12), (RX2, TX2, 3), (RX3, TX3, 13), (RX4, TX4, 3), (RX5, TX5, 5), (RX6, TX6, 36)]
/-- the tables' words that a warmed state keeps: the words of every contract here -/
def TB : List Cond := lw_tbl.filter goodWord
theorem TB_good : GoodIn TB TB := fun w h => ⟨h, good_of_word (List.mem_filter.mp h).2⟩
theorem TB_mem {w : Cond} (k : Nat) (h : lw_tbl[k]? = some w) (hg : goodWord w = true) : w ∈ TB := List.mem_filter.mpr ⟨List.mem_of_getElem? h, hg⟩
end
section
theorem dJ7_fill_53178_0 : decode cJ7_fill_53178 0 = .ok (.iconst 0, 1) := by decide +kernel
theorem dJ7_fill_53178_1 : decode cJ7_fill_53178 1 = .ok (.istore_n 2, 1) := by decide +kernel
theorem dJ7_fill_53178_2 : decode cJ7_fill_53178 2 = .ok (.aload_n 0, 1) := by decide +kernel
theorem dJ7_fill_53178_3 : decode cJ7_fill_53178 3 = .ok (.arraylength, 1) := by decide +kernel
theorem dJ7_fill_53178_4 : decode cJ7_fill_53178 4 = .ok (.istore_n 3, 1) := by decide +kernel
theorem dJ7_fill_53178_5 : decode cJ7_fill_53178 5 = .ok (.iload_n 2, 1) := by decide +kernel
theorem dJ7_fill_53178_6 : decode cJ7_fill_53178 6 = .ok (.iload_n 3, 1) := by decide +kernel
theorem dJ7_fill_53178_7 : decode cJ7_fill_53178 7 = .ok (.if_icmp .ge 13, 3) := by decide +kernel
theorem dJ7_fill_53178_10 : decode cJ7_fill_53178 10 = .ok (.aload_n 0, 1) := by decide +kernel
theorem dJ7_fill_53178_11 : decode cJ7_fill_53178 11 = .ok (.iload_n 2, 1) := by decide +kernel
theorem dJ7_fill_53178_12 : decode cJ7_fill_53178 12 = .ok (.iload_n 1, 1) := by decide +kernel
theorem dJ7_fill_53178_13 : decode cJ7_fill_53178 13 = .ok (.iastore, 1) := by decide +kernel
theorem dJ7_fill_53178_14 : decode cJ7_fill_53178 14 = .ok (.iinc 2 1, 3) := by decide +kernel
theorem dJ7_fill_53178_17 : decode cJ7_fill_53178 17 = .ok (.goto (-12), 3) := by decide +kernel
theorem dJ7_fill_53178_20 : decode cJ7_fill_53178 20 = .ok (.return_, 1) := by decide +kernel
theorem dJ7_copyOf_59c91_0 : decode cJ7_copyOf_59c91 0 = .ok (.iload_n 1, 1) := by decide +kernel
theorem dJ7_copyOf_59c91_1 : decode cJ7_copyOf_59c91 1 = .ok (.aload_n 0, 1) := by decide +kernel
theorem dJ7_copyOf_59c91_2 : decode cJ7_copyOf_59c91 2 = .ok (.arraylength, 1) := by decide +kernel
theorem dJ7_copyOf_59c91_3 : decode cJ7_copyOf_59c91 3 = .ok (.if_icmp .ne 11, 3) := by decide +kernel
theorem dJ7_copyOf_59c91_6 : decode cJ7_copyOf_59c91 6 = .ok (.aload_n 0, 1) := by decide +kernel
theorem dJ7_copyOf_59c91_7 : decode cJ7_copyOf_59c91 7 = .ok (.invokevirtual 316, 3) := by decide +kernel
theorem dJ7_copyOf_59c91_10 : decode cJ7_copyOf_59c91 10 = .ok (.checkcast 317, 3) := by decide +kernel
theorem dJ7_copyOf_59c91_13 : decode cJ7_copyOf_59c91 13 = .ok (.areturn, 1) := by decide +kernel
theorem dJ7_copyOf_59c91_14 : decode cJ7_copyOf_59c91 14 = .ok (.iload_n 1, 1) := by decide +kernel
theorem dJ7_copyOf_59c91_15 : decode cJ7_copyOf_59c91 15 = .ok (.newarray .int, 2) := by decide +kernel
theorem dJ7_copyOf_59c91_17 : decode cJ7_copyOf_59c91 17 = .ok (.astore_n 2, 1) := by decide +kernel
theorem dJ7_copyOf_59c91_18 : decode cJ7_copyOf_59c91 18 = .ok (.aload_n 0, 1) := by decide +kernel
theorem dJ7_copyOf_59c91_19 : decode cJ7_copyOf_59c91 19 = .ok (.iconst 0, 1) := by decide +kernel
theorem dJ7_copyOf_59c91_20 : decode cJ7_copyOf_59c91 20 = .ok (.aload_n 2, 1) := by decide +kernel
theorem dJ7_copyOf_59c91_21 : decode cJ7_copyOf_59c91 21 = .ok (.iconst 0, 1) := by decide +kernel
theorem dJ7_copyOf_59c91_22 : decode cJ7_copyOf_59c91 22 = .ok (.aload_n 0, 1) := by decide +kernel
theorem dJ7_copyOf_59c91_23 : decode cJ7_copyOf_59c91 23 = .ok (.arraylength, 1) := by decide +kernel
theorem dJ7_copyOf_59c91_24 : decode cJ7_copyOf_59c91 24 = .ok (.iload_n 1, 1) := by decide +kernel
theorem dJ7_copyOf_59c91_25 : decode cJ7_copyOf_59c91 25 = .ok (.invokestatic 304, 3) := by decide +kernel
theorem dJ7_copyOf_59c91_28 : decode cJ7_copyOf_59c91 28 = .ok (.invokestatic 150, 3) := by decide +kernel
theorem dJ7_copyOf_59c91_31 : decode cJ7_copyOf_59c91 31 = .ok (.aload_n 2, 1) := by decide +kernel
theorem dJ7_copyOf_59c91_32 : decode cJ7_copyOf_59c91 32 = .ok (.areturn, 1) := by decide +kernel
end
section
theorem dL_law_0 : decode cL_law 0 = .ok (.new 7, 3) := by decide +kernel
theorem dL_law_3 : decode cL_law 3 = .ok (.dup, 1) := by decide +kernel
theorem dL_law_4 : decode cL_law 4 = .ok (.invokespecial 9, 3) := by decide +kernel
theorem dL_law_7 : decode cL_law 7 = .ok (.astore_n 1, 1) := by decide +kernel
theorem dL_law_8 : decode cL_law 8 = .ok (.new 10, 3) := by decide +kernel
theorem dL_law_11 : decode cL_law 11 = .ok (.dup, 1) := by decide +kernel
theorem dL_law_12 : decode cL_law 12 = .ok (.invokespecial 12, 3) := by decide +kernel
theorem dL_law_15 : decode cL_law 15 = .ok (.astore_n 2, 1) := by decide +kernel
theorem dL_law_16 : decode cL_law 16 = .ok (.iconst 0, 1) := by decide +kernel
theorem dL_law_17 : decode cL_law 17 = .ok (.istore_n 3, 1) := by decide +kernel
theorem dL_law_18 : decode cL_law 18 = .ok (.iload_n 3, 1) := by decide +kernel
theorem dL_law_19 : decode cL_law 19 = .ok (.aload_n 0, 1) := by decide +kernel
theorem dL_law_20 : decode cL_law 20 = .ok (.arraylength, 1) := by decide +kernel
theorem dL_law_21 : decode cL_law 21 = .ok (.bipush 6, 2) := by decide +kernel
theorem dL_law_23 : decode cL_law 23 = .ok (.isub, 1) := by decide +kernel
theorem dL_law_24 : decode cL_law 24 = .ok (.if_icmp .gt 568, 3) := by decide +kernel
theorem dL_law_27 : decode cL_law 27 = .ok (.aload_n 0, 1) := by decide +kernel
theorem dL_law_28 : decode cL_law 28 = .ok (.iload_n 3, 1) := by decide +kernel
theorem dL_law_29 : decode cL_law 29 = .ok (.iaload, 1) := by decide +kernel
theorem dL_law_30 : decode cL_law 30 = .ok (.bipush 15, 2) := by decide +kernel
theorem dL_law_32 : decode cL_law 32 = .ok (.iand, 1) := by decide +kernel
theorem dL_law_33 : decode cL_law 33 = .ok (.tableswitch 553 0 13 #[71, 124, 147, 180, 223, 256, 319, 352, 375, 408, 431, 464, 497, 530], 71) := by decide +kernel
theorem dL_law_104 : decode cL_law 104 = .ok (.aload_n 1, 1) := by decide +kernel
theorem dL_law_105 : decode cL_law 105 = .ok (.aload_n 0, 1) := by decide +kernel
theorem dL_law_106 : decode cL_law 106 = .ok (.iload_n 3, 1) := by decide +kernel
theorem dL_law_107 : decode cL_law 107 = .ok (.iconst 1, 1) := by decide +kernel
theorem dL_law_108 : decode cL_law 108 = .ok (.iadd, 1) := by decide +kernel
theorem dL_law_109 : decode cL_law 109 = .ok (.iaload, 1) := by decide +kernel
theorem dL_law_110 : decode cL_law 110 = .ok (.aload_n 0, 1) := by decide +kernel
theorem dL_law_111 : decode cL_law 111 = .ok (.iload_n 3, 1) := by decide +kernel
theorem dL_law_112 : decode cL_law 112 = .ok (.iconst 2, 1) := by decide +kernel
theorem dL_law_113 : decode cL_law 113 = .ok (.iadd, 1) := by decide +kernel
theorem dL_law_114 : decode cL_law 114 = .ok (.iaload, 1) := by decide +kernel
theorem dL_law_115 : decode cL_law 115 = .ok (.aload_n 0, 1) := by decide +kernel
theorem dL_law_116 : decode cL_law 116 = .ok (.iload_n 3, 1) := by decide +kernel
theorem dL_law_117 : decode cL_law 117 = .ok (.iconst 3, 1) := by decide +kernel
theorem dL_law_118 : decode cL_law 118 = .ok (.iadd, 1) := by decide +kernel
theorem dL_law_119 : decode cL_law 119 = .ok (.iaload, 1) := by decide +kernel
theorem dL_law_120 : decode cL_law 120 = .ok (.aload_n 0, 1) := by decide +kernel
theorem dL_law_121 : decode cL_law 121 = .ok (.iload_n 3, 1) := by decide +kernel
theorem dL_law_122 : decode cL_law 122 = .ok (.iconst 4, 1) := by decide +kernel
theorem dL_law_123 : decode cL_law 123 = .ok (.iadd, 1) := by decide +kernel
theorem dL_law_124 : decode cL_law 124 = .ok (.iaload, 1) := by decide +kernel
theorem dL_law_125 : decode cL_law 125 = .ok (.invokevirtual 13, 3) := by decide +kernel
theorem dL_law_128 : decode cL_law 128 = .ok (.aload_n 2, 1) := by decide +kernel
theorem dL_law_129 : decode cL_law 129 = .ok (.aload_n 0, 1) := by decide +kernel
theorem dL_law_130 : decode cL_law 130 = .ok (.iload_n 3, 1) := by decide +kernel
theorem dL_law_131 : decode cL_law 131 = .ok (.iconst 1, 1) := by decide +kernel
theorem dL_law_132 : decode cL_law 132 = .ok (.iadd, 1) := by decide +kernel
theorem dL_law_133 : decode cL_law 133 = .ok (.iaload, 1) := by decide +kernel
theorem dL_law_134 : decode cL_law 134 = .ok (.aload_n 0, 1) := by decide +kernel
theorem dL_law_135 : decode cL_law 135 = .ok (.iload_n 3, 1) := by decide +kernel
theorem dL_law_136 : decode cL_law 136 = .ok (.iconst 2, 1) := by decide +kernel
theorem dL_law_137 : decode cL_law 137 = .ok (.iadd, 1) := by decide +kernel
theorem dL_law_138 : decode cL_law 138 = .ok (.iaload, 1) := by decide +kernel
theorem dL_law_139 : decode cL_law 139 = .ok (.aload_n 0, 1) := by decide +kernel
theorem dL_law_140 : decode cL_law 140 = .ok (.iload_n 3, 1) := by decide +kernel
theorem dL_law_141 : decode cL_law 141 = .ok (.iconst 3, 1) := by decide +kernel
theorem dL_law_142 : decode cL_law 142 = .ok (.iadd, 1) := by decide +kernel
theorem dL_law_143 : decode cL_law 143 = .ok (.iaload, 1) := by decide +kernel
theorem dL_law_144 : decode cL_law 144 = .ok (.aload_n 0, 1) := by decide +kernel
theorem dL_law_145 : decode cL_law 145 = .ok (.iload_n 3, 1) := by decide +kernel
theorem dL_law_146 : decode cL_law 146 = .ok (.iconst 4, 1) := by decide +kernel
theorem dL_law_147 : decode cL_law 147 = .ok (.iadd, 1) := by decide +kernel
theorem dL_law_148 : decode cL_law 148 = .ok (.iaload, 1) := by decide +kernel
theorem dL_law_149 : decode cL_law 149 = .ok (.invokevirtual 17, 3) := by decide +kernel
theorem dL_law_152 : decode cL_law 152 = .ok (.if_icmp .eq 434, 3) := by decide +kernel
theorem dL_law_155 : decode cL_law 155 = .ok (.iconst 0, 1) := by decide +kernel
theorem dL_law_156 : decode cL_law 156 = .ok (.ireturn, 1) := by decide +kernel
theorem dL_law_157 : decode cL_law 157 = .ok (.aload_n 1, 1) := by decide +kernel
theorem dL_law_158 : decode cL_law 158 = .ok (.aload_n 0, 1) := by decide +kernel
theorem dL_law_159 : decode cL_law 159 = .ok (.iload_n 3, 1) := by decide +kernel
theorem dL_law_160 : decode cL_law 160 = .ok (.iconst 1, 1) := by decide +kernel
theorem dL_law_161 : decode cL_law 161 = .ok (.iadd, 1) := by decide +kernel
theorem dL_law_162 : decode cL_law 162 = .ok (.iaload, 1) := by decide +kernel
theorem dL_law_163 : decode cL_law 163 = .ok (.invokevirtual 18, 3) := by decide +kernel
theorem dL_law_166 : decode cL_law 166 = .ok (.aload_n 2, 1) := by decide +kernel
theorem dL_law_167 : decode cL_law 167 = .ok (.aload_n 0, 1) := by decide +kernel
theorem dL_law_168 : decode cL_law 168 = .ok (.iload_n 3, 1) := by decide +kernel
theorem dL_law_169 : decode cL_law 169 = .ok (.iconst 1, 1) := by decide +kernel
theorem dL_law_170 : decode cL_law 170 = .ok (.iadd, 1) := by decide +kernel
theorem dL_law_171 : decode cL_law 171 = .ok (.iaload, 1) := by decide +kernel
theorem dL_law_172 : decode cL_law 172 = .ok (.invokevirtual 22, 3) := by decide +kernel
theorem dL_law_175 : decode cL_law 175 = .ok (.if_icmp .eq 411, 3) := by decide +kernel
theorem dL_law_178 : decode cL_law 178 = .ok (.iconst 0, 1) := by decide +kernel
theorem dL_law_179 : decode cL_law 179 = .ok (.ireturn, 1) := by decide +kernel
theorem dL_law_180 : decode cL_law 180 = .ok (.aload_n 1, 1) := by decide +kernel
theorem dL_law_181 : decode cL_law 181 = .ok (.aload_n 0, 1) := by decide +kernel
theorem dL_law_182 : decode cL_law 182 = .ok (.iload_n 3, 1) := by decide +kernel
theorem dL_law_183 : decode cL_law 183 = .ok (.iconst 1, 1) := by decide +kernel
theorem dL_law_184 : decode cL_law 184 = .ok (.iadd, 1) := by decide +kernel
theorem dL_law_185 : decode cL_law 185 = .ok (.iaload, 1) := by decide +kernel
theorem dL_law_186 : decode cL_law 186 = .ok (.aload_n 0, 1) := by decide +kernel
theorem dL_law_187 : decode cL_law 187 = .ok (.iload_n 3, 1) := by decide +kernel
theorem dL_law_188 : decode cL_law 188 = .ok (.iconst 2, 1) := by decide +kernel
theorem dL_law_189 : decode cL_law 189 = .ok (.iadd, 1) := by decide +kernel
theorem dL_law_190 : decode cL_law 190 = .ok (.iaload, 1) := by decide +kernel
theorem dL_law_191 : decode cL_law 191 = .ok (.invokevirtual 23, 3) := by decide +kernel
theorem dL_law_194 : decode cL_law 194 = .ok (.aload_n 2, 1) := by decide +kernel
theorem dL_law_195 : decode cL_law 195 = .ok (.aload_n 0, 1) := by decide +kernel
theorem dL_law_196 : decode cL_law 196 = .ok (.iload_n 3, 1) := by decide +kernel
theorem dL_law_197 : decode cL_law 197 = .ok (.iconst 1, 1) := by decide +kernel
theorem dL_law_198 : decode cL_law 198 = .ok (.iadd, 1) := by decide +kernel
theorem dL_law_199 : decode cL_law 199 = .ok (.iaload, 1) := by decide +kernel
theorem dL_law_200 : decode cL_law 200 = .ok (.aload_n 0, 1) := by decide +kernel
theorem dL_law_201 : decode cL_law 201 = .ok (.iload_n 3, 1) := by decide +kernel
theorem dL_law_202 : decode cL_law 202 = .ok (.iconst 2, 1) := by decide +kernel
theorem dL_law_203 : decode cL_law 203 = .ok (.iadd, 1) := by decide +kernel
theorem dL_law_204 : decode cL_law 204 = .ok (.iaload, 1) := by decide +kernel
theorem dL_law_205 : decode cL_law 205 = .ok (.invokevirtual 27, 3) := by decide +kernel
theorem dL_law_208 : decode cL_law 208 = .ok (.if_icmp .eq 378, 3) := by decide +kernel
theorem dL_law_211 : decode cL_law 211 = .ok (.iconst 0, 1) := by decide +kernel
theorem dL_law_212 : decode cL_law 212 = .ok (.ireturn, 1) := by decide +kernel
theorem dL_law_213 : decode cL_law 213 = .ok (.aload_n 1, 1) := by decide +kernel
theorem dL_law_214 : decode cL_law 214 = .ok (.aload_n 0, 1) := by decide +kernel
theorem dL_law_215 : decode cL_law 215 = .ok (.iload_n 3, 1) := by decide +kernel
theorem dL_law_216 : decode cL_law 216 = .ok (.iconst 1, 1) := by decide +kernel
theorem dL_law_217 : decode cL_law 217 = .ok (.iadd, 1) := by decide +kernel
theorem dL_law_218 : decode cL_law 218 = .ok (.iaload, 1) := by decide +kernel
theorem dL_law_219 : decode cL_law 219 = .ok (.aload_n 0, 1) := by decide +kernel
theorem dL_law_220 : decode cL_law 220 = .ok (.iload_n 3, 1) := by decide +kernel
theorem dL_law_221 : decode cL_law 221 = .ok (.iconst 2, 1) := by decide +kernel
theorem dL_law_222 : decode cL_law 222 = .ok (.iadd, 1) := by decide +kernel
theorem dL_law_223 : decode cL_law 223 = .ok (.iaload, 1) := by decide +kernel
theorem dL_law_224 : decode cL_law 224 = .ok (.aload_n 0, 1) := by decide +kernel
theorem dL_law_225 : decode cL_law 225 = .ok (.iload_n 3, 1) := by decide +kernel
theorem dL_law_226 : decode cL_law 226 = .ok (.iconst 3, 1) := by decide +kernel
theorem dL_law_227 : decode cL_law 227 = .ok (.iadd, 1) := by decide +kernel
theorem dL_law_228 : decode cL_law 228 = .ok (.iaload, 1) := by decide +kernel
theorem dL_law_229 : decode cL_law 229 = .ok (.invokevirtual 28, 3) := by decide +kernel
theorem dL_law_232 : decode cL_law 232 = .ok (.aload_n 2, 1) := by decide +kernel
theorem dL_law_233 : decode cL_law 233 = .ok (.aload_n 0, 1) := by decide +kernel
theorem dL_law_234 : decode cL_law 234 = .ok (.iload_n 3, 1) := by decide +kernel
theorem dL_law_235 : decode cL_law 235 = .ok (.iconst 1, 1) := by decide +kernel
theorem dL_law_236 : decode cL_law 236 = .ok (.iadd, 1) := by decide +kernel
theorem dL_law_237 : decode cL_law 237 = .ok (.iaload, 1) := by decide +kernel
theorem dL_law_238 : decode cL_law 238 = .ok (.aload_n 0, 1) := by decide +kernel
theorem dL_law_239 : decode cL_law 239 = .ok (.iload_n 3, 1) := by decide +kernel
theorem dL_law_240 : decode cL_law 240 = .ok (.iconst 2, 1) := by decide +kernel
theorem dL_law_241 : decode cL_law 241 = .ok (.iadd, 1) := by decide +kernel
theorem dL_law_242 : decode cL_law 242 = .ok (.iaload, 1) := by decide +kernel
theorem dL_law_243 : decode cL_law 243 = .ok (.aload_n 0, 1) := by decide +kernel
theorem dL_law_244 : decode cL_law 244 = .ok (.iload_n 3, 1) := by decide +kernel
theorem dL_law_245 : decode cL_law 245 = .ok (.iconst 3, 1) := by decide +kernel
theorem dL_law_246 : decode cL_law 246 = .ok (.iadd, 1) := by decide +kernel
theorem dL_law_247 : decode cL_law 247 = .ok (.iaload, 1) := by decide +kernel
theorem dL_law_248 : decode cL_law 248 = .ok (.invokevirtual 32, 3) := by decide +kernel
theorem dL_law_251 : decode cL_law 251 = .ok (.if_icmp .eq 335, 3) := by decide +kernel
theorem dL_law_254 : decode cL_law 254 = .ok (.iconst 0, 1) := by decide +kernel
theorem dL_law_255 : decode cL_law 255 = .ok (.ireturn, 1) := by decide +kernel
theorem dL_law_256 : decode cL_law 256 = .ok (.aload_n 1, 1) := by decide +kernel
theorem dL_law_257 : decode cL_law 257 = .ok (.aload_n 0, 1) := by decide +kernel
theorem dL_law_258 : decode cL_law 258 = .ok (.iload_n 3, 1) := by decide +kernel
theorem dL_law_259 : decode cL_law 259 = .ok (.iconst 1, 1) := by decide +kernel
theorem dL_law_260 : decode cL_law 260 = .ok (.iadd, 1) := by decide +kernel
theorem dL_law_261 : decode cL_law 261 = .ok (.iaload, 1) := by decide +kernel
theorem dL_law_262 : decode cL_law 262 = .ok (.aload_n 0, 1) := by decide +kernel
theorem dL_law_263 : decode cL_law 263 = .ok (.iload_n 3, 1) := by decide +kernel
theorem dL_law_264 : decode cL_law 264 = .ok (.iconst 2, 1) := by decide +kernel
theorem dL_law_265 : decode cL_law 265 = .ok (.iadd, 1) := by decide +kernel
theorem dL_law_266 : decode cL_law 266 = .ok (.iaload, 1) := by decide +kernel
theorem dL_law_267 : decode cL_law 267 = .ok (.invokevirtual 33, 3) := by decide +kernel
theorem dL_law_270 : decode cL_law 270 = .ok (.aload_n 2, 1) := by decide +kernel
theorem dL_law_271 : decode cL_law 271 = .ok (.aload_n 0, 1) := by decide +kernel
theorem dL_law_272 : decode cL_law 272 = .ok (.iload_n 3, 1) := by decide +kernel
theorem dL_law_273 : decode cL_law 273 = .ok (.iconst 1, 1) := by decide +kernel
theorem dL_law_274 : decode cL_law 274 = .ok (.iadd, 1) := by decide +kernel
theorem dL_law_275 : decode cL_law 275 = .ok (.iaload, 1) := by decide +kernel
theorem dL_law_276 : decode cL_law 276 = .ok (.aload_n 0, 1) := by decide +kernel
theorem dL_law_277 : decode cL_law 277 = .ok (.iload_n 3, 1) := by decide +kernel
theorem dL_law_278 : decode cL_law 278 = .ok (.iconst 2, 1) := by decide +kernel
theorem dL_law_279 : decode cL_law 279 = .ok (.iadd, 1) := by decide +kernel
theorem dL_law_280 : decode cL_law 280 = .ok (.iaload, 1) := by decide +kernel
theorem dL_law_281 : decode cL_law 281 = .ok (.invokevirtual 36, 3) := by decide +kernel
theorem dL_law_284 : decode cL_law 284 = .ok (.if_icmp .eq 302, 3) := by decide +kernel
theorem dL_law_287 : decode cL_law 287 = .ok (.iconst 0, 1) := by decide +kernel
theorem dL_law_288 : decode cL_law 288 = .ok (.ireturn, 1) := by decide +kernel
theorem dL_law_289 : decode cL_law 289 = .ok (.aload_n 1, 1) := by decide +kernel
theorem dL_law_290 : decode cL_law 290 = .ok (.aload_n 0, 1) := by decide +kernel
theorem dL_law_291 : decode cL_law 291 = .ok (.iload_n 3, 1) := by decide +kernel
theorem dL_law_292 : decode cL_law 292 = .ok (.iconst 1, 1) := by decide +kernel
theorem dL_law_293 : decode cL_law 293 = .ok (.iadd, 1) := by decide +kernel
theorem dL_law_294 : decode cL_law 294 = .ok (.iaload, 1) := by decide +kernel
theorem dL_law_295 : decode cL_law 295 = .ok (.aload_n 0, 1) := by decide +kernel
theorem dL_law_296 : decode cL_law 296 = .ok (.iload_n 3, 1) := by decide +kernel
theorem dL_law_297 : decode cL_law 297 = .ok (.iconst 2, 1) := by decide +kernel
theorem dL_law_298 : decode cL_law 298 = .ok (.iadd, 1) := by decide +kernel
theorem dL_law_299 : decode cL_law 299 = .ok (.iaload, 1) := by decide +kernel
theorem dL_law_300 : decode cL_law 300 = .ok (.aload_n 0, 1) := by decide +kernel
theorem dL_law_301 : decode cL_law 301 = .ok (.iload_n 3, 1) := by decide +kernel
theorem dL_law_302 : decode cL_law 302 = .ok (.iconst 3, 1) := by decide +kernel
theorem dL_law_303 : decode cL_law 303 = .ok (.iadd, 1) := by decide +kernel
theorem dL_law_304 : decode cL_law 304 = .ok (.iaload, 1) := by decide +kernel
theorem dL_law_305 : decode cL_law 305 = .ok (.aload_n 0, 1) := by decide +kernel
theorem dL_law_306 : decode cL_law 306 = .ok (.iload_n 3, 1) := by decide +kernel
theorem dL_law_307 : decode cL_law 307 = .ok (.iconst 4, 1) := by decide +kernel
theorem dL_law_308 : decode cL_law 308 = .ok (.iadd, 1) := by decide +kernel
theorem dL_law_309 : decode cL_law 309 = .ok (.iaload, 1) := by decide +kernel
theorem dL_law_310 : decode cL_law 310 = .ok (.aload_n 0, 1) := by decide +kernel
theorem dL_law_311 : decode cL_law 311 = .ok (.iload_n 3, 1) := by decide +kernel
theorem dL_law_312 : decode cL_law 312 = .ok (.iconst 5, 1) := by decide +kernel
theorem dL_law_313 : decode cL_law 313 = .ok (.iadd, 1) := by decide +kernel
theorem dL_law_314 : decode cL_law 314 = .ok (.iaload, 1) := by decide +kernel
theorem dL_law_315 : decode cL_law 315 = .ok (.invokevirtual 37, 3) := by decide +kernel
theorem dL_law_318 : decode cL_law 318 = .ok (.aload_n 2, 1) := by decide +kernel
theorem dL_law_319 : decode cL_law 319 = .ok (.aload_n 0, 1) := by decide +kernel
theorem dL_law_320 : decode cL_law 320 = .ok (.iload_n 3, 1) := by decide +kernel
theorem dL_law_321 : decode cL_law 321 = .ok (.iconst 1, 1) := by decide +kernel
theorem dL_law_322 : decode cL_law 322 = .ok (.iadd, 1) := by decide +kernel
theorem dL_law_323 : decode cL_law 323 = .ok (.iaload, 1) := by decide +kernel
theorem dL_law_324 : decode cL_law 324 = .ok (.aload_n 0, 1) := by decide +kernel
theorem dL_law_325 : decode cL_law 325 = .ok (.iload_n 3, 1) := by decide +kernel
theorem dL_law_326 : decode cL_law 326 = .ok (.iconst 2, 1) := by decide +kernel
theorem dL_law_327 : decode cL_law 327 = .ok (.iadd, 1) := by decide +kernel
theorem dL_law_328 : decode cL_law 328 = .ok (.iaload, 1) := by decide +kernel
theorem dL_law_329 : decode cL_law 329 = .ok (.aload_n 0, 1) := by decide +kernel
theorem dL_law_330 : decode cL_law 330 = .ok (.iload_n 3, 1) := by decide +kernel
theorem dL_law_331 : decode cL_law 331 = .ok (.iconst 3, 1) := by decide +kernel
theorem dL_law_332 : decode cL_law 332 = .ok (.iadd, 1) := by decide +kernel
theorem dL_law_333 : decode cL_law 333 = .ok (.iaload, 1) := by decide +kernel
theorem dL_law_334 : decode cL_law 334 = .ok (.aload_n 0, 1) := by decide +kernel
theorem dL_law_335 : decode cL_law 335 = .ok (.iload_n 3, 1) := by decide +kernel
theorem dL_law_336 : decode cL_law 336 = .ok (.iconst 4, 1) := by decide +kernel
theorem dL_law_337 : decode cL_law 337 = .ok (.iadd, 1) := by decide +kernel
theorem dL_law_338 : decode cL_law 338 = .ok (.iaload, 1) := by decide +kernel
theorem dL_law_339 : decode cL_law 339 = .ok (.aload_n 0, 1) := by decide +kernel
theorem dL_law_340 : decode cL_law 340 = .ok (.iload_n 3, 1) := by decide +kernel
theorem dL_law_341 : decode cL_law 341 = .ok (.iconst 5, 1) := by decide +kernel
theorem dL_law_342 : decode cL_law 342 = .ok (.iadd, 1) := by decide +kernel
theorem dL_law_343 : decode cL_law 343 = .ok (.iaload, 1) := by decide +kernel
theorem dL_law_344 : decode cL_law 344 = .ok (.invokevirtual 41, 3) := by decide +kernel
theorem dL_law_347 : decode cL_law 347 = .ok (.if_icmp .eq 239, 3) := by decide +kernel
theorem dL_law_350 : decode cL_law 350 = .ok (.iconst 0, 1) := by decide +kernel
theorem dL_law_351 : decode cL_law 351 = .ok (.ireturn, 1) := by decide +kernel
theorem dL_law_352 : decode cL_law 352 = .ok (.aload_n 1, 1) := by decide +kernel
theorem dL_law_353 : decode cL_law 353 = .ok (.aload_n 0, 1) := by decide +kernel
theorem dL_law_354 : decode cL_law 354 = .ok (.iload_n 3, 1) := by decide +kernel
theorem dL_law_355 : decode cL_law 355 = .ok (.iconst 1, 1) := by decide +kernel
theorem dL_law_356 : decode cL_law 356 = .ok (.iadd, 1) := by decide +kernel
theorem dL_law_357 : decode cL_law 357 = .ok (.iaload, 1) := by decide +kernel
theorem dL_law_358 : decode cL_law 358 = .ok (.aload_n 0, 1) := by decide +kernel
theorem dL_law_359 : decode cL_law 359 = .ok (.iload_n 3, 1) := by decide +kernel
theorem dL_law_360 : decode cL_law 360 = .ok (.iconst 2, 1) := by decide +kernel
theorem dL_law_361 : decode cL_law 361 = .ok (.iadd, 1) := by decide +kernel
theorem dL_law_362 : decode cL_law 362 = .ok (.iaload, 1) := by decide +kernel
theorem dL_law_363 : decode cL_law 363 = .ok (.invokevirtual 42, 3) := by decide +kernel
theorem dL_law_366 : decode cL_law 366 = .ok (.aload_n 2, 1) := by decide +kernel
theorem dL_law_367 : decode cL_law 367 = .ok (.aload_n 0, 1) := by decide +kernel
theorem dL_law_368 : decode cL_law 368 = .ok (.iload_n 3, 1) := by decide +kernel
theorem dL_law_369 : decode cL_law 369 = .ok (.iconst 1, 1) := by decide +kernel
theorem dL_law_370 : decode cL_law 370 = .ok (.iadd, 1) := by decide +kernel
theorem dL_law_371 : decode cL_law 371 = .ok (.iaload, 1) := by decide +kernel
theorem dL_law_372 : decode cL_law 372 = .ok (.aload_n 0, 1) := by decide +kernel
theorem dL_law_373 : decode cL_law 373 = .ok (.iload_n 3, 1) := by decide +kernel
theorem dL_law_374 : decode cL_law 374 = .ok (.iconst 2, 1) := by decide +kernel
theorem dL_law_375 : decode cL_law 375 = .ok (.iadd, 1) := by decide +kernel
theorem dL_law_376 : decode cL_law 376 = .ok (.iaload, 1) := by decide +kernel
theorem dL_law_377 : decode cL_law 377 = .ok (.invokevirtual 45, 3) := by decide +kernel
theorem dL_law_380 : decode cL_law 380 = .ok (.if_icmp .eq 206, 3) := by decide +kernel
theorem dL_law_383 : decode cL_law 383 = .ok (.iconst 0, 1) := by decide +kernel
theorem dL_law_384 : decode cL_law 384 = .ok (.ireturn, 1) := by decide +kernel
theorem dL_law_385 : decode cL_law 385 = .ok (.aload_n 1, 1) := by decide +kernel
theorem dL_law_386 : decode cL_law 386 = .ok (.aload_n 0, 1) := by decide +kernel
theorem dL_law_387 : decode cL_law 387 = .ok (.iload_n 3, 1) := by decide +kernel
theorem dL_law_388 : decode cL_law 388 = .ok (.iconst 1, 1) := by decide +kernel
theorem dL_law_389 : decode cL_law 389 = .ok (.iadd, 1) := by decide +kernel
theorem dL_law_390 : decode cL_law 390 = .ok (.iaload, 1) := by decide +kernel
theorem dL_law_391 : decode cL_law 391 = .ok (.invokevirtual 46, 3) := by decide +kernel
theorem dL_law_394 : decode cL_law 394 = .ok (.aload_n 2, 1) := by decide +kernel
theorem dL_law_395 : decode cL_law 395 = .ok (.aload_n 0, 1) := by decide +kernel
theorem dL_law_396 : decode cL_law 396 = .ok (.iload_n 3, 1) := by decide +kernel
theorem dL_law_397 : decode cL_law 397 = .ok (.iconst 1, 1) := by decide +kernel
theorem dL_law_398 : decode cL_law 398 = .ok (.iadd, 1) := by decide +kernel
theorem dL_law_399 : decode cL_law 399 = .ok (.iaload, 1) := by decide +kernel
theorem dL_law_400 : decode cL_law 400 = .ok (.invokevirtual 49, 3) := by decide +kernel
theorem dL_law_403 : decode cL_law 403 = .ok (.if_icmp .eq 183, 3) := by decide +kernel
theorem dL_law_406 : decode cL_law 406 = .ok (.iconst 0, 1) := by decide +kernel
theorem dL_law_407 : decode cL_law 407 = .ok (.ireturn, 1) := by decide +kernel
theorem dL_law_408 : decode cL_law 408 = .ok (.aload_n 1, 1) := by decide +kernel
theorem dL_law_409 : decode cL_law 409 = .ok (.aload_n 0, 1) := by decide +kernel
theorem dL_law_410 : decode cL_law 410 = .ok (.iload_n 3, 1) := by decide +kernel
theorem dL_law_411 : decode cL_law 411 = .ok (.iconst 1, 1) := by decide +kernel
theorem dL_law_412 : decode cL_law 412 = .ok (.iadd, 1) := by decide +kernel
theorem dL_law_413 : decode cL_law 413 = .ok (.iaload, 1) := by decide +kernel
theorem dL_law_414 : decode cL_law 414 = .ok (.aload_n 0, 1) := by decide +kernel
theorem dL_law_415 : decode cL_law 415 = .ok (.iload_n 3, 1) := by decide +kernel
theorem dL_law_416 : decode cL_law 416 = .ok (.iconst 2, 1) := by decide +kernel
theorem dL_law_417 : decode cL_law 417 = .ok (.iadd, 1) := by decide +kernel
theorem dL_law_418 : decode cL_law 418 = .ok (.iaload, 1) := by decide +kernel
theorem dL_law_419 : decode cL_law 419 = .ok (.invokevirtual 50, 3) := by decide +kernel
theorem dL_law_422 : decode cL_law 422 = .ok (.aload_n 2, 1) := by decide +kernel
theorem dL_law_423 : decode cL_law 423 = .ok (.aload_n 0, 1) := by decide +kernel
theorem dL_law_424 : decode cL_law 424 = .ok (.iload_n 3, 1) := by decide +kernel
theorem dL_law_425 : decode cL_law 425 = .ok (.iconst 1, 1) := by decide +kernel
theorem dL_law_426 : decode cL_law 426 = .ok (.iadd, 1) := by decide +kernel
theorem dL_law_427 : decode cL_law 427 = .ok (.iaload, 1) := by decide +kernel
theorem dL_law_428 : decode cL_law 428 = .ok (.aload_n 0, 1) := by decide +kernel
theorem dL_law_429 : decode cL_law 429 = .ok (.iload_n 3, 1) := by decide +kernel
theorem dL_law_430 : decode cL_law 430 = .ok (.iconst 2, 1) := by decide +kernel
theorem dL_law_431 : decode cL_law 431 = .ok (.iadd, 1) := by decide +kernel
theorem dL_law_432 : decode cL_law 432 = .ok (.iaload, 1) := by decide +kernel
theorem dL_law_433 : decode cL_law 433 = .ok (.invokevirtual 53, 3) := by decide +kernel
theorem dL_law_436 : decode cL_law 436 = .ok (.if_icmp .eq 150, 3) := by decide +kernel
theorem dL_law_439 : decode cL_law 439 = .ok (.iconst 0, 1) := by decide +kernel
theorem dL_law_440 : decode cL_law 440 = .ok (.ireturn, 1) := by decide +kernel
theorem dL_law_441 : decode cL_law 441 = .ok (.aload_n 1, 1) := by decide +kernel
theorem dL_law_442 : decode cL_law 442 = .ok (.aload_n 0, 1) := by decide +kernel
theorem dL_law_443 : decode cL_law 443 = .ok (.iload_n 3, 1) := by decide +kernel
theorem dL_law_444 : decode cL_law 444 = .ok (.iconst 1, 1) := by decide +kernel
theorem dL_law_445 : decode cL_law 445 = .ok (.iadd, 1) := by decide +kernel
theorem dL_law_446 : decode cL_law 446 = .ok (.iaload, 1) := by decide +kernel
theorem dL_law_447 : decode cL_law 447 = .ok (.invokevirtual 54, 3) := by decide +kernel
theorem dL_law_450 : decode cL_law 450 = .ok (.aload_n 2, 1) := by decide +kernel
theorem dL_law_451 : decode cL_law 451 = .ok (.aload_n 0, 1) := by decide +kernel
theorem dL_law_452 : decode cL_law 452 = .ok (.iload_n 3, 1) := by decide +kernel
theorem dL_law_453 : decode cL_law 453 = .ok (.iconst 1, 1) := by decide +kernel
theorem dL_law_454 : decode cL_law 454 = .ok (.iadd, 1) := by decide +kernel
theorem dL_law_455 : decode cL_law 455 = .ok (.iaload, 1) := by decide +kernel
theorem dL_law_456 : decode cL_law 456 = .ok (.invokevirtual 57, 3) := by decide +kernel
theorem dL_law_459 : decode cL_law 459 = .ok (.if_icmp .eq 127, 3) := by decide +kernel
theorem dL_law_462 : decode cL_law 462 = .ok (.iconst 0, 1) := by decide +kernel
theorem dL_law_463 : decode cL_law 463 = .ok (.ireturn, 1) := by decide +kernel
theorem dL_law_464 : decode cL_law 464 = .ok (.aload_n 1, 1) := by decide +kernel
theorem dL_law_465 : decode cL_law 465 = .ok (.aload_n 0, 1) := by decide +kernel
theorem dL_law_466 : decode cL_law 466 = .ok (.iload_n 3, 1) := by decide +kernel
theorem dL_law_467 : decode cL_law 467 = .ok (.iconst 1, 1) := by decide +kernel
theorem dL_law_468 : decode cL_law 468 = .ok (.iadd, 1) := by decide +kernel
theorem dL_law_469 : decode cL_law 469 = .ok (.iaload, 1) := by decide +kernel
theorem dL_law_470 : decode cL_law 470 = .ok (.aload_n 0, 1) := by decide +kernel
theorem dL_law_471 : decode cL_law 471 = .ok (.iload_n 3, 1) := by decide +kernel
theorem dL_law_472 : decode cL_law 472 = .ok (.iconst 2, 1) := by decide +kernel
theorem dL_law_473 : decode cL_law 473 = .ok (.iadd, 1) := by decide +kernel
theorem dL_law_474 : decode cL_law 474 = .ok (.iaload, 1) := by decide +kernel
theorem dL_law_475 : decode cL_law 475 = .ok (.invokevirtual 58, 3) := by decide +kernel
theorem dL_law_478 : decode cL_law 478 = .ok (.aload_n 2, 1) := by decide +kernel
theorem dL_law_479 : decode cL_law 479 = .ok (.aload_n 0, 1) := by decide +kernel
theorem dL_law_480 : decode cL_law 480 = .ok (.iload_n 3, 1) := by decide +kernel
theorem dL_law_481 : decode cL_law 481 = .ok (.iconst 1, 1) := by decide +kernel
theorem dL_law_482 : decode cL_law 482 = .ok (.iadd, 1) := by decide +kernel
theorem dL_law_483 : decode cL_law 483 = .ok (.iaload, 1) := by decide +kernel
theorem dL_law_484 : decode cL_law 484 = .ok (.aload_n 0, 1) := by decide +kernel
theorem dL_law_485 : decode cL_law 485 = .ok (.iload_n 3, 1) := by decide +kernel
theorem dL_law_486 : decode cL_law 486 = .ok (.iconst 2, 1) := by decide +kernel
theorem dL_law_487 : decode cL_law 487 = .ok (.iadd, 1) := by decide +kernel
theorem dL_law_488 : decode cL_law 488 = .ok (.iaload, 1) := by decide +kernel
theorem dL_law_489 : decode cL_law 489 = .ok (.invokevirtual 61, 3) := by decide +kernel
theorem dL_law_492 : decode cL_law 492 = .ok (.if_icmp .eq 94, 3) := by decide +kernel
theorem dL_law_495 : decode cL_law 495 = .ok (.iconst 0, 1) := by decide +kernel
theorem dL_law_496 : decode cL_law 496 = .ok (.ireturn, 1) := by decide +kernel
theorem dL_law_497 : decode cL_law 497 = .ok (.aload_n 1, 1) := by decide +kernel
theorem dL_law_498 : decode cL_law 498 = .ok (.aload_n 0, 1) := by decide +kernel
theorem dL_law_499 : decode cL_law 499 = .ok (.iload_n 3, 1) := by decide +kernel
theorem dL_law_500 : decode cL_law 500 = .ok (.iconst 1, 1) := by decide +kernel
theorem dL_law_501 : decode cL_law 501 = .ok (.iadd, 1) := by decide +kernel
theorem dL_law_502 : decode cL_law 502 = .ok (.iaload, 1) := by decide +kernel
theorem dL_law_503 : decode cL_law 503 = .ok (.aload_n 0, 1) := by decide +kernel
theorem dL_law_504 : decode cL_law 504 = .ok (.iload_n 3, 1) := by decide +kernel
theorem dL_law_505 : decode cL_law 505 = .ok (.iconst 2, 1) := by decide +kernel
theorem dL_law_506 : decode cL_law 506 = .ok (.iadd, 1) := by decide +kernel
theorem dL_law_507 : decode cL_law 507 = .ok (.iaload, 1) := by decide +kernel
theorem dL_law_508 : decode cL_law 508 = .ok (.invokevirtual 62, 3) := by decide +kernel
theorem dL_law_511 : decode cL_law 511 = .ok (.aload_n 2, 1) := by decide +kernel
theorem dL_law_512 : decode cL_law 512 = .ok (.aload_n 0, 1) := by decide +kernel
theorem dL_law_513 : decode cL_law 513 = .ok (.iload_n 3, 1) := by decide +kernel
theorem dL_law_514 : decode cL_law 514 = .ok (.iconst 1, 1) := by decide +kernel
theorem dL_law_515 : decode cL_law 515 = .ok (.iadd, 1) := by decide +kernel
theorem dL_law_516 : decode cL_law 516 = .ok (.iaload, 1) := by decide +kernel
theorem dL_law_517 : decode cL_law 517 = .ok (.aload_n 0, 1) := by decide +kernel
theorem dL_law_518 : decode cL_law 518 = .ok (.iload_n 3, 1) := by decide +kernel
theorem dL_law_519 : decode cL_law 519 = .ok (.iconst 2, 1) := by decide +kernel
theorem dL_law_520 : decode cL_law 520 = .ok (.iadd, 1) := by decide +kernel
theorem dL_law_521 : decode cL_law 521 = .ok (.iaload, 1) := by decide +kernel
theorem dL_law_522 : decode cL_law 522 = .ok (.invokevirtual 65, 3) := by decide +kernel
theorem dL_law_525 : decode cL_law 525 = .ok (.if_icmp .eq 61, 3) := by decide +kernel
theorem dL_law_528 : decode cL_law 528 = .ok (.iconst 0, 1) := by decide +kernel
theorem dL_law_529 : decode cL_law 529 = .ok (.ireturn, 1) := by decide +kernel
theorem dL_law_530 : decode cL_law 530 = .ok (.aload_n 1, 1) := by decide +kernel
theorem dL_law_531 : decode cL_law 531 = .ok (.aload_n 0, 1) := by decide +kernel
theorem dL_law_532 : decode cL_law 532 = .ok (.iload_n 3, 1) := by decide +kernel
theorem dL_law_533 : decode cL_law 533 = .ok (.iconst 1, 1) := by decide +kernel
theorem dL_law_534 : decode cL_law 534 = .ok (.iadd, 1) := by decide +kernel
theorem dL_law_535 : decode cL_law 535 = .ok (.iaload, 1) := by decide +kernel
theorem dL_law_536 : decode cL_law 536 = .ok (.aload_n 0, 1) := by decide +kernel
theorem dL_law_537 : decode cL_law 537 = .ok (.iload_n 3, 1) := by decide +kernel
theorem dL_law_538 : decode cL_law 538 = .ok (.iconst 2, 1) := by decide +kernel
theorem dL_law_539 : decode cL_law 539 = .ok (.iadd, 1) := by decide +kernel
theorem dL_law_540 : decode cL_law 540 = .ok (.iaload, 1) := by decide +kernel
theorem dL_law_541 : decode cL_law 541 = .ok (.invokevirtual 66, 3) := by decide +kernel
theorem dL_law_544 : decode cL_law 544 = .ok (.aload_n 2, 1) := by decide +kernel
theorem dL_law_545 : decode cL_law 545 = .ok (.aload_n 0, 1) := by decide +kernel
theorem dL_law_546 : decode cL_law 546 = .ok (.iload_n 3, 1) := by decide +kernel
theorem dL_law_547 : decode cL_law 547 = .ok (.iconst 1, 1) := by decide +kernel
theorem dL_law_548 : decode cL_law 548 = .ok (.iadd, 1) := by decide +kernel
theorem dL_law_549 : decode cL_law 549 = .ok (.iaload, 1) := by decide +kernel
theorem dL_law_550 : decode cL_law 550 = .ok (.aload_n 0, 1) := by decide +kernel
theorem dL_law_551 : decode cL_law 551 = .ok (.iload_n 3, 1) := by decide +kernel
theorem dL_law_552 : decode cL_law 552 = .ok (.iconst 2, 1) := by decide +kernel
theorem dL_law_553 : decode cL_law 553 = .ok (.iadd, 1) := by decide +kernel
theorem dL_law_554 : decode cL_law 554 = .ok (.iaload, 1) := by decide +kernel
theorem dL_law_555 : decode cL_law 555 = .ok (.invokevirtual 69, 3) := by decide +kernel
theorem dL_law_558 : decode cL_law 558 = .ok (.if_icmp .eq 28, 3) := by decide +kernel
theorem dL_law_561 : decode cL_law 561 = .ok (.iconst 0, 1) := by decide +kernel
theorem dL_law_562 : decode cL_law 562 = .ok (.ireturn, 1) := by decide +kernel
theorem dL_law_563 : decode cL_law 563 = .ok (.aload_n 1, 1) := by decide +kernel
theorem dL_law_564 : decode cL_law 564 = .ok (.aload_n 0, 1) := by decide +kernel
theorem dL_law_565 : decode cL_law 565 = .ok (.iload_n 3, 1) := by decide +kernel
theorem dL_law_566 : decode cL_law 566 = .ok (.iconst 1, 1) := by decide +kernel
theorem dL_law_567 : decode cL_law 567 = .ok (.iadd, 1) := by decide +kernel
theorem dL_law_568 : decode cL_law 568 = .ok (.iaload, 1) := by decide +kernel
theorem dL_law_569 : decode cL_law 569 = .ok (.invokevirtual 70, 3) := by decide +kernel
theorem dL_law_572 : decode cL_law 572 = .ok (.aload_n 2, 1) := by decide +kernel
theorem dL_law_573 : decode cL_law 573 = .ok (.aload_n 0, 1) := by decide +kernel
theorem dL_law_574 : decode cL_law 574 = .ok (.iload_n 3, 1) := by decide +kernel
theorem dL_law_575 : decode cL_law 575 = .ok (.iconst 1, 1) := by decide +kernel
theorem dL_law_576 : decode cL_law 576 = .ok (.iadd, 1) := by decide +kernel
theorem dL_law_577 : decode cL_law 577 = .ok (.iaload, 1) := by decide +kernel
theorem dL_law_578 : decode cL_law 578 = .ok (.invokevirtual 73, 3) := by decide +kernel
theorem dL_law_581 : decode cL_law 581 = .ok (.if_icmp .eq 5, 3) := by decide +kernel
theorem dL_law_584 : decode cL_law 584 = .ok (.iconst 0, 1) := by decide +kernel
theorem dL_law_585 : decode cL_law 585 = .ok (.ireturn, 1) := by decide +kernel
theorem dL_law_586 : decode cL_law 586 = .ok (.iinc 3 6, 3) := by decide +kernel
theorem dL_law_589 : decode cL_law 589 = .ok (.goto (-571), 3) := by decide +kernel
theorem dL_law_592 : decode cL_law 592 = .ok (.iconst 1, 1) := by decide +kernel
theorem dL_law_593 : decode cL_law 593 = .ok (.ireturn, 1) := by decide +kernel
end
section
theorem dX0_init_0 : decode cX0_init 0 = .ok (.aload_n 0, 1) := by decide +kernel
theorem dX0_init_1 : decode cX0_init 1 = .ok (.invokespecial 3, 3) := by decide +kernel
theorem dX0_init_4 : decode cX0_init 4 = .ok (.aload_n 0, 1) := by decide +kernel
theorem dX0_init_5 : decode cX0_init 5 = .ok (.bipush 40, 2) := by decide +kernel
theorem dX0_init_7 : decode cX0_init 7 = .ok (.newarray .int, 2) := by decide +kernel
theorem dX0_init_9 : decode cX0_init 9 = .ok (.putfield 11, 3) := by decide +kernel
theorem dX0_init_12 : decode cX0_init 12 = .ok (.aload_n 0, 1) := by decide +kernel
theorem dX0_init_13 : decode cX0_init 13 = .ok (.bipush 40, 2) := by decide +kernel
theorem dX0_init_15 : decode cX0_init 15 = .ok (.newarray .int, 2) := by decide +kernel
theorem dX0_init_17 : decode cX0_init 17 = .ok (.putfield 15, 3) := by decide +kernel
theorem dX0_init_20 : decode cX0_init 20 = .ok (.aload_n 0, 1) := by decide +kernel
theorem dX0_init_21 : decode cX0_init 21 = .ok (.bipush 40, 2) := by decide +kernel
theorem dX0_init_23 : decode cX0_init 23 = .ok (.newarray .int, 2) := by decide +kernel
theorem dX0_init_25 : decode cX0_init 25 = .ok (.putfield 18, 3) := by decide +kernel
theorem dX0_init_28 : decode cX0_init 28 = .ok (.aload_n 0, 1) := by decide +kernel
theorem dX0_init_29 : decode cX0_init 29 = .ok (.bipush 40, 2) := by decide +kernel
theorem dX0_init_31 : decode cX0_init 31 = .ok (.newarray .int, 2) := by decide +kernel
theorem dX0_init_33 : decode cX0_init 33 = .ok (.putfield 21, 3) := by decide +kernel
theorem dX0_init_36 : decode cX0_init 36 = .ok (.aload_n 0, 1) := by decide +kernel
theorem dX0_init_37 : decode cX0_init 37 = .ok (.bipush 40, 2) := by decide +kernel
theorem dX0_init_39 : decode cX0_init 39 = .ok (.newarray .int, 2) := by decide +kernel
theorem dX0_init_41 : decode cX0_init 41 = .ok (.putfield 24, 3) := by decide +kernel
theorem dX0_init_44 : decode cX0_init 44 = .ok (.aload_n 0, 1) := by decide +kernel
theorem dX0_init_45 : decode cX0_init 45 = .ok (.bipush 40, 2) := by decide +kernel
theorem dX0_init_47 : decode cX0_init 47 = .ok (.newarray .boolean, 2) := by decide +kernel
theorem dX0_init_49 : decode cX0_init 49 = .ok (.putfield 27, 3) := by decide +kernel
theorem dX0_init_52 : decode cX0_init 52 = .ok (.return_, 1) := by decide +kernel
theorem dX0_has_0 : decode cX0_has 0 = .ok (.iload_n 1, 1) := by decide +kernel
theorem dX0_has_1 : decode cX0_has 1 = .ok (.ifCond .lt 15, 3) := by decide +kernel
theorem dX0_has_4 : decode cX0_has 4 = .ok (.iload_n 1, 1) := by decide +kernel
theorem dX0_has_5 : decode cX0_has 5 = .ok (.aload_n 0, 1) := by decide +kernel
theorem dX0_has_6 : decode cX0_has 6 = .ok (.getfield 31, 3) := by decide +kernel
theorem dX0_has_9 : decode cX0_has 9 = .ok (.if_icmp .ge 7, 3) := by decide +kernel
theorem dX0_has_12 : decode cX0_has 12 = .ok (.iconst 1, 1) := by decide +kernel
theorem dX0_has_13 : decode cX0_has 13 = .ok (.goto 4, 3) := by decide +kernel
theorem dX0_has_16 : decode cX0_has 16 = .ok (.iconst 0, 1) := by decide +kernel
theorem dX0_has_17 : decode cX0_has 17 = .ok (.ireturn, 1) := by decide +kernel
theorem dX0_isAsTold_0 : decode cX0_isAsTold 0 = .ok (.iload_n 1, 1) := by decide +kernel
theorem dX0_isAsTold_1 : decode cX0_isAsTold 1 = .ok (.ifCond .lt 20, 3) := by decide +kernel
theorem dX0_isAsTold_4 : decode cX0_isAsTold 4 = .ok (.iload_n 1, 1) := by decide +kernel
theorem dX0_isAsTold_5 : decode cX0_isAsTold 5 = .ok (.bipush 12, 2) := by decide +kernel
theorem dX0_isAsTold_7 : decode cX0_isAsTold 7 = .ok (.if_icmp .ge 14, 3) := by decide +kernel
theorem dX0_isAsTold_10 : decode cX0_isAsTold 10 = .ok (.iload_n 1, 1) := by decide +kernel
theorem dX0_isAsTold_11 : decode cX0_isAsTold 11 = .ok (.ifCond .ne 12, 3) := by decide +kernel
theorem dX0_isAsTold_14 : decode cX0_isAsTold 14 = .ok (.iload_n 2, 1) := by decide +kernel
theorem dX0_isAsTold_15 : decode cX0_isAsTold 15 = .ok (.invokestatic 35, 3) := by decide +kernel
theorem dX0_isAsTold_18 : decode cX0_isAsTold 18 = .ok (.ifCond .ne 5, 3) := by decide +kernel
theorem dX0_isAsTold_21 : decode cX0_isAsTold 21 = .ok (.iconst 0, 1) := by decide +kernel
theorem dX0_isAsTold_22 : decode cX0_isAsTold 22 = .ok (.ireturn, 1) := by decide +kernel
theorem dX0_isAsTold_23 : decode cX0_isAsTold 23 = .ok (.iload_n 1, 1) := by decide +kernel
theorem dX0_isAsTold_24 : decode cX0_isAsTold 24 = .ok (.invokestatic 39, 3) := by decide +kernel
theorem dX0_isAsTold_27 : decode cX0_isAsTold 27 = .ok (.ifCond .eq 11, 3) := by decide +kernel
theorem dX0_isAsTold_30 : decode cX0_isAsTold 30 = .ok (.aload_n 0, 1) := by decide +kernel
theorem dX0_isAsTold_31 : decode cX0_isAsTold 31 = .ok (.iload_n 2, 1) := by decide +kernel
theorem dX0_isAsTold_32 : decode cX0_isAsTold 32 = .ok (.invokevirtual 42, 3) := by decide +kernel
theorem dX0_isAsTold_35 : decode cX0_isAsTold 35 = .ok (.ifCond .eq 22, 3) := by decide +kernel
theorem dX0_isAsTold_38 : decode cX0_isAsTold 38 = .ok (.iload_n 1, 1) := by decide +kernel
theorem dX0_isAsTold_39 : decode cX0_isAsTold 39 = .ok (.invokestatic 45, 3) := by decide +kernel
theorem dX0_isAsTold_42 : decode cX0_isAsTold 42 = .ok (.ifCond .eq 11, 3) := by decide +kernel
theorem dX0_isAsTold_45 : decode cX0_isAsTold 45 = .ok (.aload_n 0, 1) := by decide +kernel
theorem dX0_isAsTold_46 : decode cX0_isAsTold 46 = .ok (.iload_n 3, 1) := by decide +kernel
theorem dX0_isAsTold_47 : decode cX0_isAsTold 47 = .ok (.invokevirtual 42, 3) := by decide +kernel
theorem dX0_isAsTold_50 : decode cX0_isAsTold 50 = .ok (.ifCond .eq 7, 3) := by decide +kernel
theorem dX0_isAsTold_53 : decode cX0_isAsTold 53 = .ok (.iconst 1, 1) := by decide +kernel
theorem dX0_isAsTold_54 : decode cX0_isAsTold 54 = .ok (.goto 4, 3) := by decide +kernel
theorem dX0_isAsTold_57 : decode cX0_isAsTold 57 = .ok (.iconst 0, 1) := by decide +kernel
theorem dX0_isAsTold_58 : decode cX0_isAsTold 58 = .ok (.ireturn, 1) := by decide +kernel
theorem dX0_hasRoom_0 : decode cX0_hasRoom 0 = .ok (.aload_n 0, 1) := by decide +kernel
theorem dX0_hasRoom_1 : decode cX0_hasRoom 1 = .ok (.getfield 31, 3) := by decide +kernel
theorem dX0_hasRoom_4 : decode cX0_hasRoom 4 = .ok (.bipush 40, 2) := by decide +kernel
theorem dX0_hasRoom_6 : decode cX0_hasRoom 6 = .ok (.if_icmp .ge 19, 3) := by decide +kernel
theorem dX0_hasRoom_9 : decode cX0_hasRoom 9 = .ok (.aload_n 0, 1) := by decide +kernel
theorem dX0_hasRoom_10 : decode cX0_hasRoom 10 = .ok (.iload_n 1, 1) := by decide +kernel
theorem dX0_hasRoom_11 : decode cX0_hasRoom 11 = .ok (.iload_n 2, 1) := by decide +kernel
theorem dX0_hasRoom_12 : decode cX0_hasRoom 12 = .ok (.iload_n 3, 1) := by decide +kernel
theorem dX0_hasRoom_13 : decode cX0_hasRoom 13 = .ok (.invokevirtual 48, 3) := by decide +kernel
theorem dX0_hasRoom_16 : decode cX0_hasRoom 16 = .ok (.bipush 30, 2) := by decide +kernel
theorem dX0_hasRoom_18 : decode cX0_hasRoom 18 = .ok (.if_icmp .gt 7, 3) := by decide +kernel
theorem dX0_hasRoom_21 : decode cX0_hasRoom 21 = .ok (.iconst 1, 1) := by decide +kernel
theorem dX0_hasRoom_22 : decode cX0_hasRoom 22 = .ok (.goto 4, 3) := by decide +kernel
theorem dX0_hasRoom_25 : decode cX0_hasRoom 25 = .ok (.iconst 0, 1) := by decide +kernel
theorem dX0_hasRoom_26 : decode cX0_hasRoom 26 = .ok (.ireturn, 1) := by decide +kernel
theorem dX0_add_0 : decode cX0_add 0 = .ok (.aload_n 0, 1) := by decide +kernel
theorem dX0_add_1 : decode cX0_add 1 = .ok (.iload_n 1, 1) := by decide +kernel
theorem dX0_add_2 : decode cX0_add 2 = .ok (.iload_n 2, 1) := by decide +kernel
theorem dX0_add_3 : decode cX0_add 3 = .ok (.iload_n 3, 1) := by decide +kernel
theorem dX0_add_4 : decode cX0_add 4 = .ok (.invokevirtual 52, 3) := by decide +kernel
theorem dX0_add_7 : decode cX0_add 7 = .ok (.ifCond .ne 6, 3) := by decide +kernel
theorem dX0_add_10 : decode cX0_add 10 = .ok (.bipush (-2), 2) := by decide +kernel
theorem dX0_add_12 : decode cX0_add 12 = .ok (.ireturn, 1) := by decide +kernel
theorem dX0_add_13 : decode cX0_add 13 = .ok (.aload_n 0, 1) := by decide +kernel
theorem dX0_add_14 : decode cX0_add 14 = .ok (.getfield 31, 3) := by decide +kernel
theorem dX0_add_17 : decode cX0_add 17 = .ok (.istore 4, 2) := by decide +kernel
theorem dX0_add_19 : decode cX0_add 19 = .ok (.aload_n 0, 1) := by decide +kernel
theorem dX0_add_20 : decode cX0_add 20 = .ok (.getfield 11, 3) := by decide +kernel
theorem dX0_add_23 : decode cX0_add 23 = .ok (.iload 4, 2) := by decide +kernel
theorem dX0_add_25 : decode cX0_add 25 = .ok (.iload_n 1, 1) := by decide +kernel
theorem dX0_add_26 : decode cX0_add 26 = .ok (.iastore, 1) := by decide +kernel
theorem dX0_add_27 : decode cX0_add 27 = .ok (.aload_n 0, 1) := by decide +kernel
theorem dX0_add_28 : decode cX0_add 28 = .ok (.getfield 15, 3) := by decide +kernel
theorem dX0_add_31 : decode cX0_add 31 = .ok (.iload 4, 2) := by decide +kernel
theorem dX0_add_33 : decode cX0_add 33 = .ok (.iload_n 2, 1) := by decide +kernel
theorem dX0_add_34 : decode cX0_add 34 = .ok (.iastore, 1) := by decide +kernel
theorem dX0_add_35 : decode cX0_add 35 = .ok (.aload_n 0, 1) := by decide +kernel
theorem dX0_add_36 : decode cX0_add 36 = .ok (.getfield 18, 3) := by decide +kernel
theorem dX0_add_39 : decode cX0_add 39 = .ok (.iload 4, 2) := by decide +kernel
theorem dX0_add_41 : decode cX0_add 41 = .ok (.iload_n 1, 1) := by decide +kernel
theorem dX0_add_42 : decode cX0_add 42 = .ok (.invokestatic 45, 3) := by decide +kernel
theorem dX0_add_45 : decode cX0_add 45 = .ok (.ifCond .eq 7, 3) := by decide +kernel
theorem dX0_add_48 : decode cX0_add 48 = .ok (.iload_n 3, 1) := by decide +kernel
theorem dX0_add_49 : decode cX0_add 49 = .ok (.goto 4, 3) := by decide +kernel
theorem dX0_add_52 : decode cX0_add 52 = .ok (.iconst 0, 1) := by decide +kernel
theorem dX0_add_53 : decode cX0_add 53 = .ok (.iastore, 1) := by decide +kernel
theorem dX0_add_54 : decode cX0_add 54 = .ok (.aload_n 0, 1) := by decide +kernel
theorem dX0_add_55 : decode cX0_add 55 = .ok (.getfield 21, 3) := by decide +kernel
theorem dX0_add_58 : decode cX0_add 58 = .ok (.iload 4, 2) := by decide +kernel
theorem dX0_add_60 : decode cX0_add 60 = .ok (.aload_n 0, 1) := by decide +kernel
theorem dX0_add_61 : decode cX0_add 61 = .ok (.iload_n 1, 1) := by decide +kernel
theorem dX0_add_62 : decode cX0_add 62 = .ok (.iload_n 2, 1) := by decide +kernel
theorem dX0_add_63 : decode cX0_add 63 = .ok (.iload_n 3, 1) := by decide +kernel
theorem dX0_add_64 : decode cX0_add 64 = .ok (.invokevirtual 48, 3) := by decide +kernel
theorem dX0_add_67 : decode cX0_add 67 = .ok (.iastore, 1) := by decide +kernel
theorem dX0_add_68 : decode cX0_add 68 = .ok (.aload_n 0, 1) := by decide +kernel
theorem dX0_add_69 : decode cX0_add 69 = .ok (.getfield 24, 3) := by decide +kernel
theorem dX0_add_72 : decode cX0_add 72 = .ok (.iload 4, 2) := by decide +kernel
theorem dX0_add_74 : decode cX0_add 74 = .ok (.aload_n 0, 1) := by decide +kernel
theorem dX0_add_75 : decode cX0_add 75 = .ok (.iload_n 1, 1) := by decide +kernel
theorem dX0_add_76 : decode cX0_add 76 = .ok (.iload_n 2, 1) := by decide +kernel
theorem dX0_add_77 : decode cX0_add 77 = .ok (.iload_n 3, 1) := by decide +kernel
theorem dX0_add_78 : decode cX0_add 78 = .ok (.invokevirtual 56, 3) := by decide +kernel
theorem dX0_add_81 : decode cX0_add 81 = .ok (.iastore, 1) := by decide +kernel
theorem dX0_add_82 : decode cX0_add 82 = .ok (.aload_n 0, 1) := by decide +kernel
theorem dX0_add_83 : decode cX0_add 83 = .ok (.getfield 27, 3) := by decide +kernel
theorem dX0_add_86 : decode cX0_add 86 = .ok (.iload 4, 2) := by decide +kernel
theorem dX0_add_88 : decode cX0_add 88 = .ok (.aload_n 0, 1) := by decide +kernel
theorem dX0_add_89 : decode cX0_add 89 = .ok (.iload_n 1, 1) := by decide +kernel
theorem dX0_add_90 : decode cX0_add 90 = .ok (.iload_n 2, 1) := by decide +kernel
theorem dX0_add_91 : decode cX0_add 91 = .ok (.iload_n 3, 1) := by decide +kernel
theorem dX0_add_92 : decode cX0_add 92 = .ok (.invokevirtual 59, 3) := by decide +kernel
theorem dX0_add_95 : decode cX0_add 95 = .ok (.bastore, 1) := by decide +kernel
theorem dX0_add_96 : decode cX0_add 96 = .ok (.aload_n 0, 1) := by decide +kernel
theorem dX0_add_97 : decode cX0_add 97 = .ok (.dup, 1) := by decide +kernel
theorem dX0_add_98 : decode cX0_add 98 = .ok (.getfield 31, 3) := by decide +kernel
theorem dX0_add_101 : decode cX0_add 101 = .ok (.iconst 1, 1) := by decide +kernel
theorem dX0_add_102 : decode cX0_add 102 = .ok (.iadd, 1) := by decide +kernel
theorem dX0_add_103 : decode cX0_add 103 = .ok (.putfield 31, 3) := by decide +kernel
theorem dX0_add_106 : decode cX0_add 106 = .ok (.iload 4, 2) := by decide +kernel
theorem dX0_add_108 : decode cX0_add 108 = .ok (.ireturn, 1) := by decide +kernel
theorem dX0_takesFirst_0 : decode cX0_takesFirst 0 = .ok (.iload_n 0, 1) := by decide +kernel
theorem dX0_takesFirst_1 : decode cX0_takesFirst 1 = .ok (.iconst 2, 1) := by decide +kernel
theorem dX0_takesFirst_2 : decode cX0_takesFirst 2 = .ok (.if_icmp .lt 7, 3) := by decide +kernel
theorem dX0_takesFirst_5 : decode cX0_takesFirst 5 = .ok (.iconst 1, 1) := by decide +kernel
theorem dX0_takesFirst_6 : decode cX0_takesFirst 6 = .ok (.goto 4, 3) := by decide +kernel
theorem dX0_takesFirst_9 : decode cX0_takesFirst 9 = .ok (.iconst 0, 1) := by decide +kernel
theorem dX0_takesFirst_10 : decode cX0_takesFirst 10 = .ok (.ireturn, 1) := by decide +kernel
theorem dX0_takesSecond_0 : decode cX0_takesSecond 0 = .ok (.iload_n 0, 1) := by decide +kernel
theorem dX0_takesSecond_1 : decode cX0_takesSecond 1 = .ok (.iconst 2, 1) := by decide +kernel
theorem dX0_takesSecond_2 : decode cX0_takesSecond 2 = .ok (.if_icmp .lt 19, 3) := by decide +kernel
theorem dX0_takesSecond_5 : decode cX0_takesSecond 5 = .ok (.iload_n 0, 1) := by decide +kernel
theorem dX0_takesSecond_6 : decode cX0_takesSecond 6 = .ok (.bipush 6, 2) := by decide +kernel
theorem dX0_takesSecond_8 : decode cX0_takesSecond 8 = .ok (.if_icmp .eq 13, 3) := by decide +kernel
theorem dX0_takesSecond_11 : decode cX0_takesSecond 11 = .ok (.iload_n 0, 1) := by decide +kernel
theorem dX0_takesSecond_12 : decode cX0_takesSecond 12 = .ok (.bipush 11, 2) := by decide +kernel
theorem dX0_takesSecond_14 : decode cX0_takesSecond 14 = .ok (.if_icmp .eq 7, 3) := by decide +kernel
theorem dX0_takesSecond_17 : decode cX0_takesSecond 17 = .ok (.iconst 1, 1) := by decide +kernel
theorem dX0_takesSecond_18 : decode cX0_takesSecond 18 = .ok (.goto 4, 3) := by decide +kernel
theorem dX0_takesSecond_21 : decode cX0_takesSecond 21 = .ok (.iconst 0, 1) := by decide +kernel
theorem dX0_takesSecond_22 : decode cX0_takesSecond 22 = .ok (.ireturn, 1) := by decide +kernel
theorem dX0_sizeOf_0 : decode cX0_sizeOf 0 = .ok (.iconst 1, 1) := by decide +kernel
theorem dX0_sizeOf_1 : decode cX0_sizeOf 1 = .ok (.iload_n 1, 1) := by decide +kernel
theorem dX0_sizeOf_2 : decode cX0_sizeOf 2 = .ok (.invokestatic 39, 3) := by decide +kernel
theorem dX0_sizeOf_5 : decode cX0_sizeOf 5 = .ok (.ifCond .eq 12, 3) := by decide +kernel
theorem dX0_sizeOf_8 : decode cX0_sizeOf 8 = .ok (.aload_n 0, 1) := by decide +kernel
theorem dX0_sizeOf_9 : decode cX0_sizeOf 9 = .ok (.getfield 21, 3) := by decide +kernel
theorem dX0_sizeOf_12 : decode cX0_sizeOf 12 = .ok (.iload_n 2, 1) := by decide +kernel
theorem dX0_sizeOf_13 : decode cX0_sizeOf 13 = .ok (.iaload, 1) := by decide +kernel
theorem dX0_sizeOf_14 : decode cX0_sizeOf 14 = .ok (.goto 4, 3) := by decide +kernel
theorem dX0_sizeOf_17 : decode cX0_sizeOf 17 = .ok (.iconst 0, 1) := by decide +kernel
theorem dX0_sizeOf_18 : decode cX0_sizeOf 18 = .ok (.iadd, 1) := by decide +kernel
theorem dX0_sizeOf_19 : decode cX0_sizeOf 19 = .ok (.iload_n 1, 1) := by decide +kernel
theorem dX0_sizeOf_20 : decode cX0_sizeOf 20 = .ok (.invokestatic 45, 3) := by decide +kernel
theorem dX0_sizeOf_23 : decode cX0_sizeOf 23 = .ok (.ifCond .eq 12, 3) := by decide +kernel
theorem dX0_sizeOf_26 : decode cX0_sizeOf 26 = .ok (.aload_n 0, 1) := by decide +kernel
theorem dX0_sizeOf_27 : decode cX0_sizeOf 27 = .ok (.getfield 21, 3) := by decide +kernel
theorem dX0_sizeOf_30 : decode cX0_sizeOf 30 = .ok (.iload_n 3, 1) := by decide +kernel
theorem dX0_sizeOf_31 : decode cX0_sizeOf 31 = .ok (.iaload, 1) := by decide +kernel
theorem dX0_sizeOf_32 : decode cX0_sizeOf 32 = .ok (.goto 4, 3) := by decide +kernel
theorem dX0_sizeOf_35 : decode cX0_sizeOf 35 = .ok (.iconst 0, 1) := by decide +kernel
theorem dX0_sizeOf_36 : decode cX0_sizeOf 36 = .ok (.iadd, 1) := by decide +kernel
theorem dX0_sizeOf_37 : decode cX0_sizeOf 37 = .ok (.ireturn, 1) := by decide +kernel
theorem dX0_readsOf_0 : decode cX0_readsOf 0 = .ok (.iload_n 1, 1) := by decide +kernel
theorem dX0_readsOf_1 : decode cX0_readsOf 1 = .ok (.ifCond .ne 7, 3) := by decide +kernel
theorem dX0_readsOf_4 : decode cX0_readsOf 4 = .ok (.iconst 1, 1) := by decide +kernel
theorem dX0_readsOf_5 : decode cX0_readsOf 5 = .ok (.iload_n 2, 1) := by decide +kernel
theorem dX0_readsOf_6 : decode cX0_readsOf 6 = .ok (.ishl, 1) := by decide +kernel
theorem dX0_readsOf_7 : decode cX0_readsOf 7 = .ok (.ireturn, 1) := by decide +kernel
theorem dX0_readsOf_8 : decode cX0_readsOf 8 = .ok (.iload_n 1, 1) := by decide +kernel
theorem dX0_readsOf_9 : decode cX0_readsOf 9 = .ok (.invokestatic 39, 3) := by decide +kernel
theorem dX0_readsOf_12 : decode cX0_readsOf 12 = .ok (.ifCond .eq 12, 3) := by decide +kernel
theorem dX0_readsOf_15 : decode cX0_readsOf 15 = .ok (.aload_n 0, 1) := by decide +kernel
theorem dX0_readsOf_16 : decode cX0_readsOf 16 = .ok (.getfield 24, 3) := by decide +kernel
theorem dX0_readsOf_19 : decode cX0_readsOf 19 = .ok (.iload_n 2, 1) := by decide +kernel
theorem dX0_readsOf_20 : decode cX0_readsOf 20 = .ok (.iaload, 1) := by decide +kernel
theorem dX0_readsOf_21 : decode cX0_readsOf 21 = .ok (.goto 4, 3) := by decide +kernel
theorem dX0_readsOf_24 : decode cX0_readsOf 24 = .ok (.iconst 0, 1) := by decide +kernel
theorem dX0_readsOf_25 : decode cX0_readsOf 25 = .ok (.iload_n 1, 1) := by decide +kernel
theorem dX0_readsOf_26 : decode cX0_readsOf 26 = .ok (.invokestatic 45, 3) := by decide +kernel
theorem dX0_readsOf_29 : decode cX0_readsOf 29 = .ok (.ifCond .eq 12, 3) := by decide +kernel
theorem dX0_readsOf_32 : decode cX0_readsOf 32 = .ok (.aload_n 0, 1) := by decide +kernel
theorem dX0_readsOf_33 : decode cX0_readsOf 33 = .ok (.getfield 24, 3) := by decide +kernel
theorem dX0_readsOf_36 : decode cX0_readsOf 36 = .ok (.iload_n 3, 1) := by decide +kernel
theorem dX0_readsOf_37 : decode cX0_readsOf 37 = .ok (.iaload, 1) := by decide +kernel
theorem dX0_readsOf_38 : decode cX0_readsOf 38 = .ok (.goto 4, 3) := by decide +kernel
theorem dX0_readsOf_41 : decode cX0_readsOf 41 = .ok (.iconst 0, 1) := by decide +kernel
theorem dX0_readsOf_42 : decode cX0_readsOf 42 = .ok (.ior, 1) := by decide +kernel
theorem dX0_readsOf_43 : decode cX0_readsOf 43 = .ok (.ireturn, 1) := by decide +kernel
theorem dX0_failsOf_0 : decode cX0_failsOf 0 = .ok (.iload_n 1, 1) := by decide +kernel
theorem dX0_failsOf_1 : decode cX0_failsOf 1 = .ok (.iconst 5, 1) := by decide +kernel
theorem dX0_failsOf_2 : decode cX0_failsOf 2 = .ok (.if_icmp .eq 9, 3) := by decide +kernel
theorem dX0_failsOf_5 : decode cX0_failsOf 5 = .ok (.iload_n 1, 1) := by decide +kernel
theorem dX0_failsOf_6 : decode cX0_failsOf 6 = .ok (.bipush 6, 2) := by decide +kernel
theorem dX0_failsOf_8 : decode cX0_failsOf 8 = .ok (.if_icmp .ne 5, 3) := by decide +kernel
theorem dX0_failsOf_11 : decode cX0_failsOf 11 = .ok (.iconst 1, 1) := by decide +kernel
theorem dX0_failsOf_12 : decode cX0_failsOf 12 = .ok (.ireturn, 1) := by decide +kernel
theorem dX0_failsOf_13 : decode cX0_failsOf 13 = .ok (.iload_n 1, 1) := by decide +kernel
theorem dX0_failsOf_14 : decode cX0_failsOf 14 = .ok (.invokestatic 39, 3) := by decide +kernel
theorem dX0_failsOf_17 : decode cX0_failsOf 17 = .ok (.ifCond .eq 12, 3) := by decide +kernel
theorem dX0_failsOf_20 : decode cX0_failsOf 20 = .ok (.aload_n 0, 1) := by decide +kernel
theorem dX0_failsOf_21 : decode cX0_failsOf 21 = .ok (.getfield 27, 3) := by decide +kernel
theorem dX0_failsOf_24 : decode cX0_failsOf 24 = .ok (.iload_n 2, 1) := by decide +kernel
theorem dX0_failsOf_25 : decode cX0_failsOf 25 = .ok (.baload, 1) := by decide +kernel
theorem dX0_failsOf_26 : decode cX0_failsOf 26 = .ok (.ifCond .ne 19, 3) := by decide +kernel
theorem dX0_failsOf_29 : decode cX0_failsOf 29 = .ok (.iload_n 1, 1) := by decide +kernel
theorem dX0_failsOf_30 : decode cX0_failsOf 30 = .ok (.invokestatic 45, 3) := by decide +kernel
theorem dX0_failsOf_33 : decode cX0_failsOf 33 = .ok (.ifCond .eq 16, 3) := by decide +kernel
theorem dX0_failsOf_36 : decode cX0_failsOf 36 = .ok (.aload_n 0, 1) := by decide +kernel
theorem dX0_failsOf_37 : decode cX0_failsOf 37 = .ok (.getfield 27, 3) := by decide +kernel
theorem dX0_failsOf_40 : decode cX0_failsOf 40 = .ok (.iload_n 3, 1) := by decide +kernel
theorem dX0_failsOf_41 : decode cX0_failsOf 41 = .ok (.baload, 1) := by decide +kernel
theorem dX0_failsOf_42 : decode cX0_failsOf 42 = .ok (.ifCond .eq 7, 3) := by decide +kernel
theorem dX0_failsOf_45 : decode cX0_failsOf 45 = .ok (.iconst 1, 1) := by decide +kernel
theorem dX0_failsOf_46 : decode cX0_failsOf 46 = .ok (.goto 4, 3) := by decide +kernel
theorem dX0_failsOf_49 : decode cX0_failsOf 49 = .ok (.iconst 0, 1) := by decide +kernel
theorem dX0_failsOf_50 : decode cX0_failsOf 50 = .ok (.ireturn, 1) := by decide +kernel
end
section
theorem dX1_init_0 : decode cX1_init 0 = .ok (.aload_n 0, 1) := by decide +kernel
theorem dX1_init_1 : decode cX1_init 1 = .ok (.invokespecial 1, 3) := by decide +kernel
theorem dX1_init_4 : decode cX1_init 4 = .ok (.aload_n 0, 1) := by decide +kernel
theorem dX1_init_5 : decode cX1_init 5 = .ok (.bipush 60, 2) := by decide +kernel
theorem dX1_init_7 : decode cX1_init 7 = .ok (.newarray .int, 2) := by decide +kernel
theorem dX1_init_9 : decode cX1_init 9 = .ok (.putfield 9, 3) := by decide +kernel
theorem dX1_init_12 : decode cX1_init 12 = .ok (.aload_n 0, 1) := by decide +kernel
theorem dX1_init_13 : decode cX1_init 13 = .ok (.bipush 60, 2) := by decide +kernel
theorem dX1_init_15 : decode cX1_init 15 = .ok (.newarray .int, 2) := by decide +kernel
theorem dX1_init_17 : decode cX1_init 17 = .ok (.putfield 13, 3) := by decide +kernel
theorem dX1_init_20 : decode cX1_init 20 = .ok (.aload_n 0, 1) := by decide +kernel
theorem dX1_init_21 : decode cX1_init 21 = .ok (.bipush 60, 2) := by decide +kernel
theorem dX1_init_23 : decode cX1_init 23 = .ok (.newarray .int, 2) := by decide +kernel
theorem dX1_init_25 : decode cX1_init 25 = .ok (.putfield 16, 3) := by decide +kernel
theorem dX1_init_28 : decode cX1_init 28 = .ok (.aload_n 0, 1) := by decide +kernel
theorem dX1_init_29 : decode cX1_init 29 = .ok (.bipush 60, 2) := by decide +kernel
theorem dX1_init_31 : decode cX1_init 31 = .ok (.newarray .int, 2) := by decide +kernel
theorem dX1_init_33 : decode cX1_init 33 = .ok (.putfield 19, 3) := by decide +kernel
theorem dX1_init_36 : decode cX1_init 36 = .ok (.aload_n 0, 1) := by decide +kernel
theorem dX1_init_37 : decode cX1_init 37 = .ok (.bipush 60, 2) := by decide +kernel
theorem dX1_init_39 : decode cX1_init 39 = .ok (.newarray .int, 2) := by decide +kernel
theorem dX1_init_41 : decode cX1_init 41 = .ok (.putfield 22, 3) := by decide +kernel
theorem dX1_init_44 : decode cX1_init 44 = .ok (.aload_n 0, 1) := by decide +kernel
theorem dX1_init_45 : decode cX1_init 45 = .ok (.bipush 60, 2) := by decide +kernel
theorem dX1_init_47 : decode cX1_init 47 = .ok (.newarray .int, 2) := by decide +kernel
theorem dX1_init_49 : decode cX1_init 49 = .ok (.putfield 25, 3) := by decide +kernel
theorem dX1_init_52 : decode cX1_init 52 = .ok (.aload_n 0, 1) := by decide +kernel
theorem dX1_init_53 : decode cX1_init 53 = .ok (.bipush 60, 2) := by decide +kernel
theorem dX1_init_55 : decode cX1_init 55 = .ok (.newarray .boolean, 2) := by decide +kernel
theorem dX1_init_57 : decode cX1_init 57 = .ok (.putfield 28, 3) := by decide +kernel
theorem dX1_init_60 : decode cX1_init 60 = .ok (.aload_n 0, 1) := by decide +kernel
theorem dX1_init_61 : decode cX1_init 61 = .ok (.bipush 60, 2) := by decide +kernel
theorem dX1_init_63 : decode cX1_init 63 = .ok (.newarray .int, 2) := by decide +kernel
theorem dX1_init_65 : decode cX1_init 65 = .ok (.putfield 32, 3) := by decide +kernel
theorem dX1_init_68 : decode cX1_init 68 = .ok (.aload_n 0, 1) := by decide +kernel
theorem dX1_init_69 : decode cX1_init 69 = .ok (.bipush 60, 2) := by decide +kernel
theorem dX1_init_71 : decode cX1_init 71 = .ok (.newarray .int, 2) := by decide +kernel
theorem dX1_init_73 : decode cX1_init 73 = .ok (.putfield 35, 3) := by decide +kernel
theorem dX1_init_76 : decode cX1_init 76 = .ok (.aload_n 0, 1) := by decide +kernel
theorem dX1_init_77 : decode cX1_init 77 = .ok (.bipush 60, 2) := by decide +kernel
theorem dX1_init_79 : decode cX1_init 79 = .ok (.newarray .int, 2) := by decide +kernel
theorem dX1_init_81 : decode cX1_init 81 = .ok (.putfield 38, 3) := by decide +kernel
theorem dX1_init_84 : decode cX1_init 84 = .ok (.aload_n 0, 1) := by decide +kernel
theorem dX1_init_85 : decode cX1_init 85 = .ok (.aload_n 1, 1) := by decide +kernel
theorem dX1_init_86 : decode cX1_init 86 = .ok (.putfield 41, 3) := by decide +kernel
theorem dX1_init_89 : decode cX1_init 89 = .ok (.return_, 1) := by decide +kernel
theorem dX1_has_0 : decode cX1_has 0 = .ok (.iload_n 1, 1) := by decide +kernel
theorem dX1_has_1 : decode cX1_has 1 = .ok (.ifCond .lt 15, 3) := by decide +kernel
theorem dX1_has_4 : decode cX1_has 4 = .ok (.iload_n 1, 1) := by decide +kernel
theorem dX1_has_5 : decode cX1_has 5 = .ok (.aload_n 0, 1) := by decide +kernel
theorem dX1_has_6 : decode cX1_has 6 = .ok (.getfield 45, 3) := by decide +kernel
theorem dX1_has_9 : decode cX1_has 9 = .ok (.if_icmp .ge 7, 3) := by decide +kernel
theorem dX1_has_12 : decode cX1_has 12 = .ok (.iconst 1, 1) := by decide +kernel
theorem dX1_has_13 : decode cX1_has 13 = .ok (.goto 4, 3) := by decide +kernel
theorem dX1_has_16 : decode cX1_has 16 = .ok (.iconst 0, 1) := by decide +kernel
theorem dX1_has_17 : decode cX1_has 17 = .ok (.ireturn, 1) := by decide +kernel
theorem dX1_hasRoom_0 : decode cX1_hasRoom 0 = .ok (.aload_n 0, 1) := by decide +kernel
theorem dX1_hasRoom_1 : decode cX1_hasRoom 1 = .ok (.getfield 45, 3) := by decide +kernel
theorem dX1_hasRoom_4 : decode cX1_hasRoom 4 = .ok (.iload_n 1, 1) := by decide +kernel
theorem dX1_hasRoom_5 : decode cX1_hasRoom 5 = .ok (.iadd, 1) := by decide +kernel
theorem dX1_hasRoom_6 : decode cX1_hasRoom 6 = .ok (.bipush 60, 2) := by decide +kernel
theorem dX1_hasRoom_8 : decode cX1_hasRoom 8 = .ok (.if_icmp .gt 7, 3) := by decide +kernel
theorem dX1_hasRoom_11 : decode cX1_hasRoom 11 = .ok (.iconst 1, 1) := by decide +kernel
theorem dX1_hasRoom_12 : decode cX1_hasRoom 12 = .ok (.goto 4, 3) := by decide +kernel
theorem dX1_hasRoom_15 : decode cX1_hasRoom 15 = .ok (.iconst 0, 1) := by decide +kernel
theorem dX1_hasRoom_16 : decode cX1_hasRoom 16 = .ok (.ireturn, 1) := by decide +kernel
theorem dX1_isAsTold_0 : decode cX1_isAsTold 0 = .ok (.iload_n 1, 1) := by decide +kernel
theorem dX1_isAsTold_1 : decode cX1_isAsTold 1 = .ok (.ifCond .lt 9, 3) := by decide +kernel
theorem dX1_isAsTold_4 : decode cX1_isAsTold 4 = .ok (.iload_n 1, 1) := by decide +kernel
theorem dX1_isAsTold_5 : decode cX1_isAsTold 5 = .ok (.bipush 9, 2) := by decide +kernel
theorem dX1_isAsTold_7 : decode cX1_isAsTold 7 = .ok (.if_icmp .lt 5, 3) := by decide +kernel
theorem dX1_isAsTold_10 : decode cX1_isAsTold 10 = .ok (.iconst 0, 1) := by decide +kernel
theorem dX1_isAsTold_11 : decode cX1_isAsTold 11 = .ok (.ireturn, 1) := by decide +kernel
theorem dX1_isAsTold_12 : decode cX1_isAsTold 12 = .ok (.iload_n 1, 1) := by decide +kernel
theorem dX1_isAsTold_13 : decode cX1_isAsTold 13 = .ok (.ifCond .ne 18, 3) := by decide +kernel
theorem dX1_isAsTold_16 : decode cX1_isAsTold 16 = .ok (.iload_n 2, 1) := by decide +kernel
theorem dX1_isAsTold_17 : decode cX1_isAsTold 17 = .ok (.ifCond .lt 12, 3) := by decide +kernel
theorem dX1_isAsTold_20 : decode cX1_isAsTold 20 = .ok (.iload_n 2, 1) := by decide +kernel
theorem dX1_isAsTold_21 : decode cX1_isAsTold 21 = .ok (.iconst 4, 1) := by decide +kernel
theorem dX1_isAsTold_22 : decode cX1_isAsTold 22 = .ok (.if_icmp .ge 7, 3) := by decide +kernel
theorem dX1_isAsTold_25 : decode cX1_isAsTold 25 = .ok (.iconst 1, 1) := by decide +kernel
theorem dX1_isAsTold_26 : decode cX1_isAsTold 26 = .ok (.goto 4, 3) := by decide +kernel
theorem dX1_isAsTold_29 : decode cX1_isAsTold 29 = .ok (.iconst 0, 1) := by decide +kernel
theorem dX1_isAsTold_30 : decode cX1_isAsTold 30 = .ok (.ireturn, 1) := by decide +kernel
theorem dX1_isAsTold_31 : decode cX1_isAsTold 31 = .ok (.aload_n 0, 1) := by decide +kernel
theorem dX1_isAsTold_32 : decode cX1_isAsTold 32 = .ok (.iload_n 2, 1) := by decide +kernel
theorem dX1_isAsTold_33 : decode cX1_isAsTold 33 = .ok (.invokevirtual 51, 3) := by decide +kernel
theorem dX1_isAsTold_36 : decode cX1_isAsTold 36 = .ok (.ifCond .eq 49, 3) := by decide +kernel
theorem dX1_isAsTold_39 : decode cX1_isAsTold 39 = .ok (.iload_n 1, 1) := by decide +kernel
theorem dX1_isAsTold_40 : decode cX1_isAsTold 40 = .ok (.invokestatic 55, 3) := by decide +kernel
theorem dX1_isAsTold_43 : decode cX1_isAsTold 43 = .ok (.ifCond .eq 11, 3) := by decide +kernel
theorem dX1_isAsTold_46 : decode cX1_isAsTold 46 = .ok (.aload_n 0, 1) := by decide +kernel
theorem dX1_isAsTold_47 : decode cX1_isAsTold 47 = .ok (.iload_n 3, 1) := by decide +kernel
theorem dX1_isAsTold_48 : decode cX1_isAsTold 48 = .ok (.invokevirtual 51, 3) := by decide +kernel
theorem dX1_isAsTold_51 : decode cX1_isAsTold 51 = .ok (.ifCond .eq 34, 3) := by decide +kernel
theorem dX1_isAsTold_54 : decode cX1_isAsTold 54 = .ok (.iload_n 1, 1) := by decide +kernel
theorem dX1_isAsTold_55 : decode cX1_isAsTold 55 = .ok (.invokestatic 58, 3) := by decide +kernel
theorem dX1_isAsTold_58 : decode cX1_isAsTold 58 = .ok (.ifCond .eq 11, 3) := by decide +kernel
theorem dX1_isAsTold_61 : decode cX1_isAsTold 61 = .ok (.iload 4, 2) := by decide +kernel
theorem dX1_isAsTold_63 : decode cX1_isAsTold 63 = .ok (.invokestatic 61, 3) := by decide +kernel
theorem dX1_isAsTold_66 : decode cX1_isAsTold 66 = .ok (.ifCond .eq 19, 3) := by decide +kernel
theorem dX1_isAsTold_69 : decode cX1_isAsTold 69 = .ok (.aload_n 0, 1) := by decide +kernel
theorem dX1_isAsTold_70 : decode cX1_isAsTold 70 = .ok (.iload_n 1, 1) := by decide +kernel
theorem dX1_isAsTold_71 : decode cX1_isAsTold 71 = .ok (.iload 4, 2) := by decide +kernel
theorem dX1_isAsTold_73 : decode cX1_isAsTold 73 = .ok (.iload 5, 2) := by decide +kernel
theorem dX1_isAsTold_75 : decode cX1_isAsTold 75 = .ok (.invokevirtual 66, 3) := by decide +kernel
theorem dX1_isAsTold_78 : decode cX1_isAsTold 78 = .ok (.ifCond .eq 7, 3) := by decide +kernel
theorem dX1_isAsTold_81 : decode cX1_isAsTold 81 = .ok (.iconst 1, 1) := by decide +kernel
theorem dX1_isAsTold_82 : decode cX1_isAsTold 82 = .ok (.goto 4, 3) := by decide +kernel
theorem dX1_isAsTold_85 : decode cX1_isAsTold 85 = .ok (.iconst 0, 1) := by decide +kernel
theorem dX1_isAsTold_86 : decode cX1_isAsTold 86 = .ok (.ireturn, 1) := by decide +kernel
theorem dX1_isValue_0 : decode cX1_isValue 0 = .ok (.iload_n 1, 1) := by decide +kernel
theorem dX1_isValue_1 : decode cX1_isValue 1 = .ok (.tableswitch 95 1 8 #[47, 47, 56, 56, 95, 61, 95, 79], 47) := by decide +kernel
theorem dX1_isValue_48 : decode cX1_isValue 48 = .ok (.aload_n 0, 1) := by decide +kernel
theorem dX1_isValue_49 : decode cX1_isValue 49 = .ok (.getfield 41, 3) := by decide +kernel
theorem dX1_isValue_52 : decode cX1_isValue 52 = .ok (.iload_n 3, 1) := by decide +kernel
theorem dX1_isValue_53 : decode cX1_isValue 53 = .ok (.invokevirtual 70, 3) := by decide +kernel
theorem dX1_isValue_56 : decode cX1_isValue 56 = .ok (.ireturn, 1) := by decide +kernel
theorem dX1_isValue_57 : decode cX1_isValue 57 = .ok (.iload_n 3, 1) := by decide +kernel
theorem dX1_isValue_58 : decode cX1_isValue 58 = .ok (.invokestatic 73, 3) := by decide +kernel
theorem dX1_isValue_61 : decode cX1_isValue 61 = .ok (.ireturn, 1) := by decide +kernel
theorem dX1_isValue_62 : decode cX1_isValue 62 = .ok (.iload_n 3, 1) := by decide +kernel
theorem dX1_isValue_63 : decode cX1_isValue 63 = .ok (.invokestatic 61, 3) := by decide +kernel
theorem dX1_isValue_66 : decode cX1_isValue 66 = .ok (.ifCond .eq 12, 3) := by decide +kernel
theorem dX1_isValue_69 : decode cX1_isValue 69 = .ok (.iload_n 3, 1) := by decide +kernel
theorem dX1_isValue_70 : decode cX1_isValue 70 = .ok (.iload_n 2, 1) := by decide +kernel
theorem dX1_isValue_71 : decode cX1_isValue 71 = .ok (.if_icmp .eq 7, 3) := by decide +kernel
theorem dX1_isValue_74 : decode cX1_isValue 74 = .ok (.iconst 1, 1) := by decide +kernel
theorem dX1_isValue_75 : decode cX1_isValue 75 = .ok (.goto 4, 3) := by decide +kernel
theorem dX1_isValue_78 : decode cX1_isValue 78 = .ok (.iconst 0, 1) := by decide +kernel
theorem dX1_isValue_79 : decode cX1_isValue 79 = .ok (.ireturn, 1) := by decide +kernel
theorem dX1_isValue_80 : decode cX1_isValue 80 = .ok (.iload_n 3, 1) := by decide +kernel
theorem dX1_isValue_81 : decode cX1_isValue 81 = .ok (.ifCond .lt 13, 3) := by decide +kernel
theorem dX1_isValue_84 : decode cX1_isValue 84 = .ok (.iload_n 3, 1) := by decide +kernel
theorem dX1_isValue_85 : decode cX1_isValue 85 = .ok (.bipush 100, 2) := by decide +kernel
theorem dX1_isValue_87 : decode cX1_isValue 87 = .ok (.if_icmp .gt 7, 3) := by decide +kernel
theorem dX1_isValue_90 : decode cX1_isValue 90 = .ok (.iconst 1, 1) := by decide +kernel
theorem dX1_isValue_91 : decode cX1_isValue 91 = .ok (.goto 4, 3) := by decide +kernel
theorem dX1_isValue_94 : decode cX1_isValue 94 = .ok (.iconst 0, 1) := by decide +kernel
theorem dX1_isValue_95 : decode cX1_isValue 95 = .ok (.ireturn, 1) := by decide +kernel
theorem dX1_isValue_96 : decode cX1_isValue 96 = .ok (.iconst 1, 1) := by decide +kernel
theorem dX1_isValue_97 : decode cX1_isValue 97 = .ok (.ireturn, 1) := by decide +kernel
theorem dX1_takesRight_0 : decode cX1_takesRight 0 = .ok (.iload_n 0, 1) := by decide +kernel
theorem dX1_takesRight_1 : decode cX1_takesRight 1 = .ok (.iconst 4, 1) := by decide +kernel
theorem dX1_takesRight_2 : decode cX1_takesRight 2 = .ok (.if_icmp .eq 8, 3) := by decide +kernel
theorem dX1_takesRight_5 : decode cX1_takesRight 5 = .ok (.iload_n 0, 1) := by decide +kernel
theorem dX1_takesRight_6 : decode cX1_takesRight 6 = .ok (.iconst 5, 1) := by decide +kernel
theorem dX1_takesRight_7 : decode cX1_takesRight 7 = .ok (.if_icmp .ne 7, 3) := by decide +kernel
theorem dX1_takesRight_10 : decode cX1_takesRight 10 = .ok (.iconst 1, 1) := by decide +kernel
theorem dX1_takesRight_11 : decode cX1_takesRight 11 = .ok (.goto 4, 3) := by decide +kernel
theorem dX1_takesRight_14 : decode cX1_takesRight 14 = .ok (.iconst 0, 1) := by decide +kernel
theorem dX1_takesRight_15 : decode cX1_takesRight 15 = .ok (.ireturn, 1) := by decide +kernel
theorem dX1_takesMember_0 : decode cX1_takesMember 0 = .ok (.iload_n 0, 1) := by decide +kernel
theorem dX1_takesMember_1 : decode cX1_takesMember 1 = .ok (.iconst 2, 1) := by decide +kernel
theorem dX1_takesMember_2 : decode cX1_takesMember 2 = .ok (.if_icmp .eq 14, 3) := by decide +kernel
theorem dX1_takesMember_5 : decode cX1_takesMember 5 = .ok (.iload_n 0, 1) := by decide +kernel
theorem dX1_takesMember_6 : decode cX1_takesMember 6 = .ok (.iconst 4, 1) := by decide +kernel
theorem dX1_takesMember_7 : decode cX1_takesMember 7 = .ok (.if_icmp .eq 9, 3) := by decide +kernel
theorem dX1_takesMember_10 : decode cX1_takesMember 10 = .ok (.iload_n 0, 1) := by decide +kernel
theorem dX1_takesMember_11 : decode cX1_takesMember 11 = .ok (.bipush 6, 2) := by decide +kernel
theorem dX1_takesMember_13 : decode cX1_takesMember 13 = .ok (.if_icmp .ne 7, 3) := by decide +kernel
theorem dX1_takesMember_16 : decode cX1_takesMember 16 = .ok (.iconst 1, 1) := by decide +kernel
theorem dX1_takesMember_17 : decode cX1_takesMember 17 = .ok (.goto 4, 3) := by decide +kernel
theorem dX1_takesMember_20 : decode cX1_takesMember 20 = .ok (.iconst 0, 1) := by decide +kernel
theorem dX1_takesMember_21 : decode cX1_takesMember 21 = .ok (.ireturn, 1) := by decide +kernel
theorem dX1_takesValue_0 : decode cX1_takesValue 0 = .ok (.iload_n 0, 1) := by decide +kernel
theorem dX1_takesValue_1 : decode cX1_takesValue 1 = .ok (.ifCond .eq 18, 3) := by decide +kernel
theorem dX1_takesValue_4 : decode cX1_takesValue 4 = .ok (.iload_n 0, 1) := by decide +kernel
theorem dX1_takesValue_5 : decode cX1_takesValue 5 = .ok (.iconst 5, 1) := by decide +kernel
theorem dX1_takesValue_6 : decode cX1_takesValue 6 = .ok (.if_icmp .eq 13, 3) := by decide +kernel
theorem dX1_takesValue_9 : decode cX1_takesValue 9 = .ok (.iload_n 0, 1) := by decide +kernel
theorem dX1_takesValue_10 : decode cX1_takesValue 10 = .ok (.bipush 7, 2) := by decide +kernel
theorem dX1_takesValue_12 : decode cX1_takesValue 12 = .ok (.if_icmp .eq 7, 3) := by decide +kernel
theorem dX1_takesValue_15 : decode cX1_takesValue 15 = .ok (.iconst 1, 1) := by decide +kernel
theorem dX1_takesValue_16 : decode cX1_takesValue 16 = .ok (.goto 4, 3) := by decide +kernel
theorem dX1_takesValue_19 : decode cX1_takesValue 19 = .ok (.iconst 0, 1) := by decide +kernel
theorem dX1_takesValue_20 : decode cX1_takesValue 20 = .ok (.ireturn, 1) := by decide +kernel
theorem dX1_takesFormula_0 : decode cX1_takesFormula 0 = .ok (.iload_n 0, 1) := by decide +kernel
theorem dX1_takesFormula_1 : decode cX1_takesFormula 1 = .ok (.iconst 1, 1) := by decide +kernel
theorem dX1_takesFormula_2 : decode cX1_takesFormula 2 = .ok (.if_icmp .eq 8, 3) := by decide +kernel
theorem dX1_takesFormula_5 : decode cX1_takesFormula 5 = .ok (.iload_n 0, 1) := by decide +kernel
theorem dX1_takesFormula_6 : decode cX1_takesFormula 6 = .ok (.iconst 2, 1) := by decide +kernel
theorem dX1_takesFormula_7 : decode cX1_takesFormula 7 = .ok (.if_icmp .ne 7, 3) := by decide +kernel
theorem dX1_takesFormula_10 : decode cX1_takesFormula 10 = .ok (.iconst 1, 1) := by decide +kernel
theorem dX1_takesFormula_11 : decode cX1_takesFormula 11 = .ok (.goto 4, 3) := by decide +kernel
theorem dX1_takesFormula_14 : decode cX1_takesFormula 14 = .ok (.iconst 0, 1) := by decide +kernel
theorem dX1_takesFormula_15 : decode cX1_takesFormula 15 = .ok (.ireturn, 1) := by decide +kernel
theorem dX1_boundOf_0 : decode cX1_boundOf 0 = .ok (.iload_n 1, 1) := by decide +kernel
theorem dX1_boundOf_1 : decode cX1_boundOf 1 = .ok (.tableswitch 94 0 8 #[51, 94, 94, 94, 54, 68, 94, 94, 82], 51) := by decide +kernel
theorem dX1_boundOf_52 : decode cX1_boundOf 52 = .ok (.bipush 6, 2) := by decide +kernel
theorem dX1_boundOf_54 : decode cX1_boundOf 54 = .ok (.ireturn, 1) := by decide +kernel
theorem dX1_boundOf_55 : decode cX1_boundOf 55 = .ok (.aload_n 0, 1) := by decide +kernel
theorem dX1_boundOf_56 : decode cX1_boundOf 56 = .ok (.getfield 25, 3) := by decide +kernel
theorem dX1_boundOf_59 : decode cX1_boundOf 59 = .ok (.iload_n 2, 1) := by decide +kernel
theorem dX1_boundOf_60 : decode cX1_boundOf 60 = .ok (.iaload, 1) := by decide +kernel
theorem dX1_boundOf_61 : decode cX1_boundOf 61 = .ok (.aload_n 0, 1) := by decide +kernel
theorem dX1_boundOf_62 : decode cX1_boundOf 62 = .ok (.getfield 25, 3) := by decide +kernel
theorem dX1_boundOf_65 : decode cX1_boundOf 65 = .ok (.iload_n 3, 1) := by decide +kernel
theorem dX1_boundOf_66 : decode cX1_boundOf 66 = .ok (.iaload, 1) := by decide +kernel
theorem dX1_boundOf_67 : decode cX1_boundOf 67 = .ok (.imul, 1) := by decide +kernel
theorem dX1_boundOf_68 : decode cX1_boundOf 68 = .ok (.ireturn, 1) := by decide +kernel
theorem dX1_boundOf_69 : decode cX1_boundOf 69 = .ok (.aload_n 0, 1) := by decide +kernel
theorem dX1_boundOf_70 : decode cX1_boundOf 70 = .ok (.getfield 25, 3) := by decide +kernel
theorem dX1_boundOf_73 : decode cX1_boundOf 73 = .ok (.iload_n 2, 1) := by decide +kernel
theorem dX1_boundOf_74 : decode cX1_boundOf 74 = .ok (.iaload, 1) := by decide +kernel
theorem dX1_boundOf_75 : decode cX1_boundOf 75 = .ok (.aload_n 0, 1) := by decide +kernel
theorem dX1_boundOf_76 : decode cX1_boundOf 76 = .ok (.getfield 25, 3) := by decide +kernel
theorem dX1_boundOf_79 : decode cX1_boundOf 79 = .ok (.iload_n 3, 1) := by decide +kernel
theorem dX1_boundOf_80 : decode cX1_boundOf 80 = .ok (.iaload, 1) := by decide +kernel
theorem dX1_boundOf_81 : decode cX1_boundOf 81 = .ok (.iadd, 1) := by decide +kernel
theorem dX1_boundOf_82 : decode cX1_boundOf 82 = .ok (.ireturn, 1) := by decide +kernel
theorem dX1_boundOf_83 : decode cX1_boundOf 83 = .ok (.iload 4, 2) := by decide +kernel
theorem dX1_boundOf_85 : decode cX1_boundOf 85 = .ok (.aload_n 0, 1) := by decide +kernel
theorem dX1_boundOf_86 : decode cX1_boundOf 86 = .ok (.getfield 25, 3) := by decide +kernel
theorem dX1_boundOf_89 : decode cX1_boundOf 89 = .ok (.iload_n 2, 1) := by decide +kernel
theorem dX1_boundOf_90 : decode cX1_boundOf 90 = .ok (.iaload, 1) := by decide +kernel
theorem dX1_boundOf_91 : decode cX1_boundOf 91 = .ok (.invokestatic 76, 3) := by decide +kernel
theorem dX1_boundOf_94 : decode cX1_boundOf 94 = .ok (.ireturn, 1) := by decide +kernel
theorem dX1_boundOf_95 : decode cX1_boundOf 95 = .ok (.aload_n 0, 1) := by decide +kernel
theorem dX1_boundOf_96 : decode cX1_boundOf 96 = .ok (.getfield 25, 3) := by decide +kernel
theorem dX1_boundOf_99 : decode cX1_boundOf 99 = .ok (.iload_n 2, 1) := by decide +kernel
theorem dX1_boundOf_100 : decode cX1_boundOf 100 = .ok (.iaload, 1) := by decide +kernel
theorem dX1_boundOf_101 : decode cX1_boundOf 101 = .ok (.ireturn, 1) := by decide +kernel
theorem dX1_failsOf_0 : decode cX1_failsOf 0 = .ok (.iload_n 1, 1) := by decide +kernel
theorem dX1_failsOf_1 : decode cX1_failsOf 1 = .ok (.ifCond .ne 5, 3) := by decide +kernel
theorem dX1_failsOf_4 : decode cX1_failsOf 4 = .ok (.iconst 0, 1) := by decide +kernel
theorem dX1_failsOf_5 : decode cX1_failsOf 5 = .ok (.ireturn, 1) := by decide +kernel
theorem dX1_failsOf_6 : decode cX1_failsOf 6 = .ok (.aload_n 0, 1) := by decide +kernel
theorem dX1_failsOf_7 : decode cX1_failsOf 7 = .ok (.getfield 28, 3) := by decide +kernel
theorem dX1_failsOf_10 : decode cX1_failsOf 10 = .ok (.iload_n 2, 1) := by decide +kernel
theorem dX1_failsOf_11 : decode cX1_failsOf 11 = .ok (.baload, 1) := by decide +kernel
theorem dX1_failsOf_12 : decode cX1_failsOf 12 = .ok (.ifCond .ne 39, 3) := by decide +kernel
theorem dX1_failsOf_15 : decode cX1_failsOf 15 = .ok (.iload_n 1, 1) := by decide +kernel
theorem dX1_failsOf_16 : decode cX1_failsOf 16 = .ok (.invokestatic 55, 3) := by decide +kernel
theorem dX1_failsOf_19 : decode cX1_failsOf 19 = .ok (.ifCond .eq 12, 3) := by decide +kernel
theorem dX1_failsOf_22 : decode cX1_failsOf 22 = .ok (.aload_n 0, 1) := by decide +kernel
theorem dX1_failsOf_23 : decode cX1_failsOf 23 = .ok (.getfield 28, 3) := by decide +kernel
theorem dX1_failsOf_26 : decode cX1_failsOf 26 = .ok (.iload_n 3, 1) := by decide +kernel
theorem dX1_failsOf_27 : decode cX1_failsOf 27 = .ok (.baload, 1) := by decide +kernel
theorem dX1_failsOf_28 : decode cX1_failsOf 28 = .ok (.ifCond .ne 23, 3) := by decide +kernel
theorem dX1_failsOf_31 : decode cX1_failsOf 31 = .ok (.iload_n 1, 1) := by decide +kernel
theorem dX1_failsOf_32 : decode cX1_failsOf 32 = .ok (.invokestatic 82, 3) := by decide +kernel
theorem dX1_failsOf_35 : decode cX1_failsOf 35 = .ok (.ifCond .eq 20, 3) := by decide +kernel
theorem dX1_failsOf_38 : decode cX1_failsOf 38 = .ok (.aload_n 0, 1) := by decide +kernel
theorem dX1_failsOf_39 : decode cX1_failsOf 39 = .ok (.getfield 41, 3) := by decide +kernel
theorem dX1_failsOf_42 : decode cX1_failsOf 42 = .ok (.getfield 85, 3) := by decide +kernel
theorem dX1_failsOf_45 : decode cX1_failsOf 45 = .ok (.iload 4, 2) := by decide +kernel
theorem dX1_failsOf_47 : decode cX1_failsOf 47 = .ok (.baload, 1) := by decide +kernel
theorem dX1_failsOf_48 : decode cX1_failsOf 48 = .ok (.ifCond .eq 7, 3) := by decide +kernel
theorem dX1_failsOf_51 : decode cX1_failsOf 51 = .ok (.iconst 1, 1) := by decide +kernel
theorem dX1_failsOf_52 : decode cX1_failsOf 52 = .ok (.goto 4, 3) := by decide +kernel
theorem dX1_failsOf_55 : decode cX1_failsOf 55 = .ok (.iconst 0, 1) := by decide +kernel
theorem dX1_failsOf_56 : decode cX1_failsOf 56 = .ok (.ireturn, 1) := by decide +kernel
theorem dX1_add_0 : decode cX1_add 0 = .ok (.aload_n 0, 1) := by decide +kernel
theorem dX1_add_1 : decode cX1_add 1 = .ok (.getfield 45, 3) := by decide +kernel
theorem dX1_add_4 : decode cX1_add 4 = .ok (.istore 6, 2) := by decide +kernel
theorem dX1_add_6 : decode cX1_add 6 = .ok (.aload_n 0, 1) := by decide +kernel
theorem dX1_add_7 : decode cX1_add 7 = .ok (.dup, 1) := by decide +kernel
theorem dX1_add_8 : decode cX1_add 8 = .ok (.getfield 45, 3) := by decide +kernel
theorem dX1_add_11 : decode cX1_add 11 = .ok (.iconst 1, 1) := by decide +kernel
theorem dX1_add_12 : decode cX1_add 12 = .ok (.iadd, 1) := by decide +kernel
theorem dX1_add_13 : decode cX1_add 13 = .ok (.putfield 45, 3) := by decide +kernel
theorem dX1_add_16 : decode cX1_add 16 = .ok (.aload_n 0, 1) := by decide +kernel
theorem dX1_add_17 : decode cX1_add 17 = .ok (.iload 6, 2) := by decide +kernel
theorem dX1_add_19 : decode cX1_add 19 = .ok (.iload_n 1, 1) := by decide +kernel
theorem dX1_add_20 : decode cX1_add 20 = .ok (.iload_n 2, 1) := by decide +kernel
theorem dX1_add_21 : decode cX1_add 21 = .ok (.iload_n 3, 1) := by decide +kernel
theorem dX1_add_22 : decode cX1_add 22 = .ok (.iload 4, 2) := by decide +kernel
theorem dX1_add_24 : decode cX1_add 24 = .ok (.iload 5, 2) := by decide +kernel
theorem dX1_add_26 : decode cX1_add 26 = .ok (.invokevirtual 86, 3) := by decide +kernel
theorem dX1_add_29 : decode cX1_add 29 = .ok (.iload 6, 2) := by decide +kernel
theorem dX1_add_31 : decode cX1_add 31 = .ok (.ireturn, 1) := by decide +kernel
theorem dX1_write_0 : decode cX1_write 0 = .ok (.aload_n 0, 1) := by decide +kernel
theorem dX1_write_1 : decode cX1_write 1 = .ok (.getfield 25, 3) := by decide +kernel
theorem dX1_write_4 : decode cX1_write 4 = .ok (.iload_n 1, 1) := by decide +kernel
theorem dX1_write_5 : decode cX1_write 5 = .ok (.aload_n 0, 1) := by decide +kernel
theorem dX1_write_6 : decode cX1_write 6 = .ok (.iload_n 2, 1) := by decide +kernel
theorem dX1_write_7 : decode cX1_write 7 = .ok (.iload_n 3, 1) := by decide +kernel
theorem dX1_write_8 : decode cX1_write 8 = .ok (.iload 4, 2) := by decide +kernel
theorem dX1_write_10 : decode cX1_write 10 = .ok (.iload 6, 2) := by decide +kernel
theorem dX1_write_12 : decode cX1_write 12 = .ok (.invokevirtual 90, 3) := by decide +kernel
theorem dX1_write_15 : decode cX1_write 15 = .ok (.iastore, 1) := by decide +kernel
theorem dX1_write_16 : decode cX1_write 16 = .ok (.aload_n 0, 1) := by decide +kernel
theorem dX1_write_17 : decode cX1_write 17 = .ok (.getfield 28, 3) := by decide +kernel
theorem dX1_write_20 : decode cX1_write 20 = .ok (.iload_n 1, 1) := by decide +kernel
theorem dX1_write_21 : decode cX1_write 21 = .ok (.aload_n 0, 1) := by decide +kernel
theorem dX1_write_22 : decode cX1_write 22 = .ok (.iload_n 2, 1) := by decide +kernel
theorem dX1_write_23 : decode cX1_write 23 = .ok (.iload_n 3, 1) := by decide +kernel
theorem dX1_write_24 : decode cX1_write 24 = .ok (.iload 4, 2) := by decide +kernel
theorem dX1_write_26 : decode cX1_write 26 = .ok (.iload 6, 2) := by decide +kernel
theorem dX1_write_28 : decode cX1_write 28 = .ok (.invokevirtual 94, 3) := by decide +kernel
theorem dX1_write_31 : decode cX1_write 31 = .ok (.bastore, 1) := by decide +kernel
theorem dX1_write_32 : decode cX1_write 32 = .ok (.aload_n 0, 1) := by decide +kernel
theorem dX1_write_33 : decode cX1_write 33 = .ok (.getfield 9, 3) := by decide +kernel
theorem dX1_write_36 : decode cX1_write 36 = .ok (.iload_n 1, 1) := by decide +kernel
theorem dX1_write_37 : decode cX1_write 37 = .ok (.iload_n 2, 1) := by decide +kernel
theorem dX1_write_38 : decode cX1_write 38 = .ok (.iastore, 1) := by decide +kernel
theorem dX1_write_39 : decode cX1_write 39 = .ok (.aload_n 0, 1) := by decide +kernel
theorem dX1_write_40 : decode cX1_write 40 = .ok (.getfield 13, 3) := by decide +kernel
theorem dX1_write_43 : decode cX1_write 43 = .ok (.iload_n 1, 1) := by decide +kernel
theorem dX1_write_44 : decode cX1_write 44 = .ok (.iload_n 3, 1) := by decide +kernel
theorem dX1_write_45 : decode cX1_write 45 = .ok (.iastore, 1) := by decide +kernel
theorem dX1_write_46 : decode cX1_write 46 = .ok (.aload_n 0, 1) := by decide +kernel
theorem dX1_write_47 : decode cX1_write 47 = .ok (.getfield 16, 3) := by decide +kernel
theorem dX1_write_50 : decode cX1_write 50 = .ok (.iload_n 1, 1) := by decide +kernel
theorem dX1_write_51 : decode cX1_write 51 = .ok (.iload_n 2, 1) := by decide +kernel
theorem dX1_write_52 : decode cX1_write 52 = .ok (.invokestatic 55, 3) := by decide +kernel
theorem dX1_write_55 : decode cX1_write 55 = .ok (.ifCond .eq 8, 3) := by decide +kernel
theorem dX1_write_58 : decode cX1_write 58 = .ok (.iload 4, 2) := by decide +kernel
theorem dX1_write_60 : decode cX1_write 60 = .ok (.goto 4, 3) := by decide +kernel
theorem dX1_write_63 : decode cX1_write 63 = .ok (.iconst 0, 1) := by decide +kernel
theorem dX1_write_64 : decode cX1_write 64 = .ok (.iastore, 1) := by decide +kernel
theorem dX1_write_65 : decode cX1_write 65 = .ok (.aload_n 0, 1) := by decide +kernel
theorem dX1_write_66 : decode cX1_write 66 = .ok (.getfield 19, 3) := by decide +kernel
theorem dX1_write_69 : decode cX1_write 69 = .ok (.iload_n 1, 1) := by decide +kernel
theorem dX1_write_70 : decode cX1_write 70 = .ok (.iload_n 2, 1) := by decide +kernel
theorem dX1_write_71 : decode cX1_write 71 = .ok (.invokestatic 58, 3) := by decide +kernel
theorem dX1_write_74 : decode cX1_write 74 = .ok (.ifCond .eq 8, 3) := by decide +kernel
theorem dX1_write_77 : decode cX1_write 77 = .ok (.iload 5, 2) := by decide +kernel
theorem dX1_write_79 : decode cX1_write 79 = .ok (.goto 4, 3) := by decide +kernel
theorem dX1_write_82 : decode cX1_write 82 = .ok (.iconst 0, 1) := by decide +kernel
theorem dX1_write_83 : decode cX1_write 83 = .ok (.iastore, 1) := by decide +kernel
theorem dX1_write_84 : decode cX1_write 84 = .ok (.aload_n 0, 1) := by decide +kernel
theorem dX1_write_85 : decode cX1_write 85 = .ok (.getfield 22, 3) := by decide +kernel
theorem dX1_write_88 : decode cX1_write 88 = .ok (.iload_n 1, 1) := by decide +kernel
theorem dX1_write_89 : decode cX1_write 89 = .ok (.iload_n 2, 1) := by decide +kernel
theorem dX1_write_90 : decode cX1_write 90 = .ok (.invokestatic 98, 3) := by decide +kernel
theorem dX1_write_93 : decode cX1_write 93 = .ok (.ifCond .eq 8, 3) := by decide +kernel
theorem dX1_write_96 : decode cX1_write 96 = .ok (.iload 6, 2) := by decide +kernel
theorem dX1_write_98 : decode cX1_write 98 = .ok (.goto 4, 3) := by decide +kernel
theorem dX1_write_101 : decode cX1_write 101 = .ok (.iconst 0, 1) := by decide +kernel
theorem dX1_write_102 : decode cX1_write 102 = .ok (.iastore, 1) := by decide +kernel
theorem dX1_write_103 : decode cX1_write 103 = .ok (.return_, 1) := by decide +kernel
theorem dX1_listFrom_0 : decode cX1_listFrom 0 = .ok (.aload_n 0, 1) := by decide +kernel
theorem dX1_listFrom_1 : decode cX1_listFrom 1 = .ok (.getfield 38, 3) := by decide +kernel
theorem dX1_listFrom_4 : decode cX1_listFrom 4 = .ok (.iconst 0, 1) := by decide +kernel
theorem dX1_listFrom_5 : decode cX1_listFrom 5 = .ok (.invokestatic 101, 3) := by decide +kernel
theorem dX1_listFrom_8 : decode cX1_listFrom 8 = .ok (.aload_n 0, 1) := by decide +kernel
theorem dX1_listFrom_9 : decode cX1_listFrom 9 = .ok (.getfield 35, 3) := by decide +kernel
theorem dX1_listFrom_12 : decode cX1_listFrom 12 = .ok (.iconst 0, 1) := by decide +kernel
theorem dX1_listFrom_13 : decode cX1_listFrom 13 = .ok (.iload_n 1, 1) := by decide +kernel
theorem dX1_listFrom_14 : decode cX1_listFrom 14 = .ok (.iastore, 1) := by decide +kernel
theorem dX1_listFrom_15 : decode cX1_listFrom 15 = .ok (.iconst 1, 1) := by decide +kernel
theorem dX1_listFrom_16 : decode cX1_listFrom 16 = .ok (.istore_n 2, 1) := by decide +kernel
theorem dX1_listFrom_17 : decode cX1_listFrom 17 = .ok (.iconst 0, 1) := by decide +kernel
theorem dX1_listFrom_18 : decode cX1_listFrom 18 = .ok (.istore_n 3, 1) := by decide +kernel
theorem dX1_listFrom_19 : decode cX1_listFrom 19 = .ok (.iconst 0, 1) := by decide +kernel
theorem dX1_listFrom_20 : decode cX1_listFrom 20 = .ok (.istore 4, 2) := by decide +kernel
theorem dX1_listFrom_22 : decode cX1_listFrom 22 = .ok (.iload 4, 2) := by decide +kernel
theorem dX1_listFrom_24 : decode cX1_listFrom 24 = .ok (.sipush 180, 3) := by decide +kernel
theorem dX1_listFrom_27 : decode cX1_listFrom 27 = .ok (.if_icmp .ge 116, 3) := by decide +kernel
theorem dX1_listFrom_30 : decode cX1_listFrom 30 = .ok (.iload_n 2, 1) := by decide +kernel
theorem dX1_listFrom_31 : decode cX1_listFrom 31 = .ok (.ifCond .le 112, 3) := by decide +kernel
theorem dX1_listFrom_34 : decode cX1_listFrom 34 = .ok (.aload_n 0, 1) := by decide +kernel
theorem dX1_listFrom_35 : decode cX1_listFrom 35 = .ok (.getfield 35, 3) := by decide +kernel
theorem dX1_listFrom_38 : decode cX1_listFrom 38 = .ok (.iload_n 2, 1) := by decide +kernel
theorem dX1_listFrom_39 : decode cX1_listFrom 39 = .ok (.iconst 1, 1) := by decide +kernel
theorem dX1_listFrom_40 : decode cX1_listFrom 40 = .ok (.isub, 1) := by decide +kernel
theorem dX1_listFrom_41 : decode cX1_listFrom 41 = .ok (.iaload, 1) := by decide +kernel
theorem dX1_listFrom_42 : decode cX1_listFrom 42 = .ok (.istore 5, 2) := by decide +kernel
theorem dX1_listFrom_44 : decode cX1_listFrom 44 = .ok (.aload_n 0, 1) := by decide +kernel
theorem dX1_listFrom_45 : decode cX1_listFrom 45 = .ok (.getfield 38, 3) := by decide +kernel
theorem dX1_listFrom_48 : decode cX1_listFrom 48 = .ok (.iload 5, 2) := by decide +kernel
theorem dX1_listFrom_50 : decode cX1_listFrom 50 = .ok (.dup2, 1) := by decide +kernel
theorem dX1_listFrom_51 : decode cX1_listFrom 51 = .ok (.iaload, 1) := by decide +kernel
theorem dX1_listFrom_52 : decode cX1_listFrom 52 = .ok (.iconst 1, 1) := by decide +kernel
theorem dX1_listFrom_53 : decode cX1_listFrom 53 = .ok (.iadd, 1) := by decide +kernel
theorem dX1_listFrom_54 : decode cX1_listFrom 54 = .ok (.iastore, 1) := by decide +kernel
theorem dX1_listFrom_55 : decode cX1_listFrom 55 = .ok (.aload_n 0, 1) := by decide +kernel
theorem dX1_listFrom_56 : decode cX1_listFrom 56 = .ok (.getfield 38, 3) := by decide +kernel
theorem dX1_listFrom_59 : decode cX1_listFrom 59 = .ok (.iload 5, 2) := by decide +kernel
theorem dX1_listFrom_61 : decode cX1_listFrom 61 = .ok (.iaload, 1) := by decide +kernel
theorem dX1_listFrom_62 : decode cX1_listFrom 62 = .ok (.iconst 3, 1) := by decide +kernel
theorem dX1_listFrom_63 : decode cX1_listFrom 63 = .ok (.if_icmp .ne 20, 3) := by decide +kernel
theorem dX1_listFrom_66 : decode cX1_listFrom 66 = .ok (.aload_n 0, 1) := by decide +kernel
theorem dX1_listFrom_67 : decode cX1_listFrom 67 = .ok (.getfield 32, 3) := by decide +kernel
theorem dX1_listFrom_70 : decode cX1_listFrom 70 = .ok (.iload_n 3, 1) := by decide +kernel
theorem dX1_listFrom_71 : decode cX1_listFrom 71 = .ok (.iload 5, 2) := by decide +kernel
theorem dX1_listFrom_73 : decode cX1_listFrom 73 = .ok (.iastore, 1) := by decide +kernel
theorem dX1_listFrom_74 : decode cX1_listFrom 74 = .ok (.iinc 3 1, 3) := by decide +kernel
theorem dX1_listFrom_77 : decode cX1_listFrom 77 = .ok (.iinc 2 (-1), 3) := by decide +kernel
theorem dX1_listFrom_80 : decode cX1_listFrom 80 = .ok (.goto 57, 3) := by decide +kernel
theorem dX1_listFrom_83 : decode cX1_listFrom 83 = .ok (.aload_n 0, 1) := by decide +kernel
theorem dX1_listFrom_84 : decode cX1_listFrom 84 = .ok (.getfield 38, 3) := by decide +kernel
theorem dX1_listFrom_87 : decode cX1_listFrom 87 = .ok (.iload 5, 2) := by decide +kernel
theorem dX1_listFrom_89 : decode cX1_listFrom 89 = .ok (.iaload, 1) := by decide +kernel
theorem dX1_listFrom_90 : decode cX1_listFrom 90 = .ok (.iconst 1, 1) := by decide +kernel
theorem dX1_listFrom_91 : decode cX1_listFrom 91 = .ok (.if_icmp .ne 12, 3) := by decide +kernel
theorem dX1_listFrom_94 : decode cX1_listFrom 94 = .ok (.aload_n 0, 1) := by decide +kernel
theorem dX1_listFrom_95 : decode cX1_listFrom 95 = .ok (.iload 5, 2) := by decide +kernel
theorem dX1_listFrom_97 : decode cX1_listFrom 97 = .ok (.invokevirtual 107, 3) := by decide +kernel
theorem dX1_listFrom_100 : decode cX1_listFrom 100 = .ok (.goto 9, 3) := by decide +kernel
theorem dX1_listFrom_103 : decode cX1_listFrom 103 = .ok (.aload_n 0, 1) := by decide +kernel
theorem dX1_listFrom_104 : decode cX1_listFrom 104 = .ok (.iload 5, 2) := by decide +kernel
theorem dX1_listFrom_106 : decode cX1_listFrom 106 = .ok (.invokevirtual 111, 3) := by decide +kernel
theorem dX1_listFrom_109 : decode cX1_listFrom 109 = .ok (.istore 6, 2) := by decide +kernel
theorem dX1_listFrom_111 : decode cX1_listFrom 111 = .ok (.iload 6, 2) := by decide +kernel
theorem dX1_listFrom_113 : decode cX1_listFrom 113 = .ok (.ifCond .lt 24, 3) := by decide +kernel
theorem dX1_listFrom_116 : decode cX1_listFrom 116 = .ok (.aload_n 0, 1) := by decide +kernel
theorem dX1_listFrom_117 : decode cX1_listFrom 117 = .ok (.getfield 38, 3) := by decide +kernel
theorem dX1_listFrom_120 : decode cX1_listFrom 120 = .ok (.iload 6, 2) := by decide +kernel
theorem dX1_listFrom_122 : decode cX1_listFrom 122 = .ok (.iaload, 1) := by decide +kernel
theorem dX1_listFrom_123 : decode cX1_listFrom 123 = .ok (.ifCond .ne 14, 3) := by decide +kernel
theorem dX1_listFrom_126 : decode cX1_listFrom 126 = .ok (.aload_n 0, 1) := by decide +kernel
theorem dX1_listFrom_127 : decode cX1_listFrom 127 = .ok (.getfield 35, 3) := by decide +kernel
theorem dX1_listFrom_130 : decode cX1_listFrom 130 = .ok (.iload_n 2, 1) := by decide +kernel
theorem dX1_listFrom_131 : decode cX1_listFrom 131 = .ok (.iload 6, 2) := by decide +kernel
theorem dX1_listFrom_133 : decode cX1_listFrom 133 = .ok (.iastore, 1) := by decide +kernel
theorem dX1_listFrom_134 : decode cX1_listFrom 134 = .ok (.iinc 2 1, 3) := by decide +kernel
theorem dX1_listFrom_137 : decode cX1_listFrom 137 = .ok (.iinc 4 1, 3) := by decide +kernel
theorem dX1_listFrom_140 : decode cX1_listFrom 140 = .ok (.goto (-118), 3) := by decide +kernel
theorem dX1_listFrom_143 : decode cX1_listFrom 143 = .ok (.iload_n 3, 1) := by decide +kernel
theorem dX1_listFrom_144 : decode cX1_listFrom 144 = .ok (.ireturn, 1) := by decide +kernel
theorem dX1_isListed_0 : decode cX1_isListed 0 = .ok (.aload_n 0, 1) := by decide +kernel
theorem dX1_isListed_1 : decode cX1_isListed 1 = .ok (.getfield 38, 3) := by decide +kernel
theorem dX1_isListed_4 : decode cX1_isListed 4 = .ok (.iload_n 1, 1) := by decide +kernel
theorem dX1_isListed_5 : decode cX1_isListed 5 = .ok (.iaload, 1) := by decide +kernel
theorem dX1_isListed_6 : decode cX1_isListed 6 = .ok (.ifCond .le 7, 3) := by decide +kernel
theorem dX1_isListed_9 : decode cX1_isListed 9 = .ok (.iconst 1, 1) := by decide +kernel
theorem dX1_isListed_10 : decode cX1_isListed 10 = .ok (.goto 4, 3) := by decide +kernel
theorem dX1_isListed_13 : decode cX1_isListed 13 = .ok (.iconst 0, 1) := by decide +kernel
theorem dX1_isListed_14 : decode cX1_isListed 14 = .ok (.ireturn, 1) := by decide +kernel
theorem dX1_leftBelow_0 : decode cX1_leftBelow 0 = .ok (.aload_n 0, 1) := by decide +kernel
theorem dX1_leftBelow_1 : decode cX1_leftBelow 1 = .ok (.getfield 9, 3) := by decide +kernel
theorem dX1_leftBelow_4 : decode cX1_leftBelow 4 = .ok (.iload_n 1, 1) := by decide +kernel
theorem dX1_leftBelow_5 : decode cX1_leftBelow 5 = .ok (.iaload, 1) := by decide +kernel
theorem dX1_leftBelow_6 : decode cX1_leftBelow 6 = .ok (.ifCond .ne 7, 3) := by decide +kernel
theorem dX1_leftBelow_9 : decode cX1_leftBelow 9 = .ok (.iconst (-1), 1) := by decide +kernel
theorem dX1_leftBelow_10 : decode cX1_leftBelow 10 = .ok (.goto 9, 3) := by decide +kernel
theorem dX1_leftBelow_13 : decode cX1_leftBelow 13 = .ok (.aload_n 0, 1) := by decide +kernel
theorem dX1_leftBelow_14 : decode cX1_leftBelow 14 = .ok (.getfield 13, 3) := by decide +kernel
theorem dX1_leftBelow_17 : decode cX1_leftBelow 17 = .ok (.iload_n 1, 1) := by decide +kernel
theorem dX1_leftBelow_18 : decode cX1_leftBelow 18 = .ok (.iaload, 1) := by decide +kernel
theorem dX1_leftBelow_19 : decode cX1_leftBelow 19 = .ok (.ireturn, 1) := by decide +kernel
theorem dX1_rightBelow_0 : decode cX1_rightBelow 0 = .ok (.aload_n 0, 1) := by decide +kernel
theorem dX1_rightBelow_1 : decode cX1_rightBelow 1 = .ok (.getfield 9, 3) := by decide +kernel
theorem dX1_rightBelow_4 : decode cX1_rightBelow 4 = .ok (.iload_n 1, 1) := by decide +kernel
theorem dX1_rightBelow_5 : decode cX1_rightBelow 5 = .ok (.iaload, 1) := by decide +kernel
theorem dX1_rightBelow_6 : decode cX1_rightBelow 6 = .ok (.invokestatic 55, 3) := by decide +kernel
theorem dX1_rightBelow_9 : decode cX1_rightBelow 9 = .ok (.ifCond .eq 12, 3) := by decide +kernel
theorem dX1_rightBelow_12 : decode cX1_rightBelow 12 = .ok (.aload_n 0, 1) := by decide +kernel
theorem dX1_rightBelow_13 : decode cX1_rightBelow 13 = .ok (.getfield 16, 3) := by decide +kernel
theorem dX1_rightBelow_16 : decode cX1_rightBelow 16 = .ok (.iload_n 1, 1) := by decide +kernel
theorem dX1_rightBelow_17 : decode cX1_rightBelow 17 = .ok (.iaload, 1) := by decide +kernel
theorem dX1_rightBelow_18 : decode cX1_rightBelow 18 = .ok (.goto 4, 3) := by decide +kernel
theorem dX1_rightBelow_21 : decode cX1_rightBelow 21 = .ok (.iconst (-1), 1) := by decide +kernel
theorem dX1_rightBelow_22 : decode cX1_rightBelow 22 = .ok (.ireturn, 1) := by decide +kernel
end
section
theorem dX2_init_0 : decode cX2_init 0 = .ok (.aload_n 0, 1) := by decide +kernel
theorem dX2_init_1 : decode cX2_init 1 = .ok (.invokespecial 1, 3) := by decide +kernel
theorem dX2_init_4 : decode cX2_init 4 = .ok (.aload_n 0, 1) := by decide +kernel
theorem dX2_init_5 : decode cX2_init 5 = .ok (.aload_n 1, 1) := by decide +kernel
theorem dX2_init_6 : decode cX2_init 6 = .ok (.putfield 7, 3) := by decide +kernel
theorem dX2_init_9 : decode cX2_init 9 = .ok (.aload_n 0, 1) := by decide +kernel
theorem dX2_init_10 : decode cX2_init 10 = .ok (.aload_n 2, 1) := by decide +kernel
theorem dX2_init_11 : decode cX2_init 11 = .ok (.putfield 13, 3) := by decide +kernel
theorem dX2_init_14 : decode cX2_init 14 = .ok (.return_, 1) := by decide +kernel
theorem dX2_has_0 : decode cX2_has 0 = .ok (.iload_n 1, 1) := by decide +kernel
theorem dX2_has_1 : decode cX2_has 1 = .ok (.ifCond .lt 13, 3) := by decide +kernel
theorem dX2_has_4 : decode cX2_has 4 = .ok (.iload_n 1, 1) := by decide +kernel
theorem dX2_has_5 : decode cX2_has 5 = .ok (.bipush 18, 2) := by decide +kernel
theorem dX2_has_7 : decode cX2_has 7 = .ok (.if_icmp .ge 7, 3) := by decide +kernel
theorem dX2_has_10 : decode cX2_has 10 = .ok (.iconst 1, 1) := by decide +kernel
theorem dX2_has_11 : decode cX2_has 11 = .ok (.goto 4, 3) := by decide +kernel
theorem dX2_has_14 : decode cX2_has 14 = .ok (.iconst 0, 1) := by decide +kernel
theorem dX2_has_15 : decode cX2_has 15 = .ok (.ireturn, 1) := by decide +kernel
theorem dX2_suits_0 : decode cX2_suits 0 = .ok (.aload_n 0, 1) := by decide +kernel
theorem dX2_suits_1 : decode cX2_suits 1 = .ok (.getfield 13, 3) := by decide +kernel
theorem dX2_suits_4 : decode cX2_suits 4 = .ok (.getfield 17, 3) := by decide +kernel
theorem dX2_suits_7 : decode cX2_suits 7 = .ok (.iload_n 1, 1) := by decide +kernel
theorem dX2_suits_8 : decode cX2_suits 8 = .ok (.iaload, 1) := by decide +kernel
theorem dX2_suits_9 : decode cX2_suits 9 = .ok (.getstatic 23, 3) := by decide +kernel
theorem dX2_suits_12 : decode cX2_suits 12 = .ok (.iload_n 2, 1) := by decide +kernel
theorem dX2_suits_13 : decode cX2_suits 13 = .ok (.iaload, 1) := by decide +kernel
theorem dX2_suits_14 : decode cX2_suits 14 = .ok (.if_icmp .eq 5, 3) := by decide +kernel
theorem dX2_suits_17 : decode cX2_suits 17 = .ok (.iconst 0, 1) := by decide +kernel
theorem dX2_suits_18 : decode cX2_suits 18 = .ok (.ireturn, 1) := by decide +kernel
theorem dX2_suits_19 : decode cX2_suits 19 = .ok (.aload_n 0, 1) := by decide +kernel
theorem dX2_suits_20 : decode cX2_suits 20 = .ok (.getfield 13, 3) := by decide +kernel
theorem dX2_suits_23 : decode cX2_suits 23 = .ok (.getfield 26, 3) := by decide +kernel
theorem dX2_suits_26 : decode cX2_suits 26 = .ok (.iload_n 1, 1) := by decide +kernel
theorem dX2_suits_27 : decode cX2_suits 27 = .ok (.iaload, 1) := by decide +kernel
theorem dX2_suits_28 : decode cX2_suits 28 = .ok (.istore_n 3, 1) := by decide +kernel
theorem dX2_suits_29 : decode cX2_suits 29 = .ok (.aload_n 0, 1) := by decide +kernel
theorem dX2_suits_30 : decode cX2_suits 30 = .ok (.getfield 13, 3) := by decide +kernel
theorem dX2_suits_33 : decode cX2_suits 33 = .ok (.getfield 17, 3) := by decide +kernel
theorem dX2_suits_36 : decode cX2_suits 36 = .ok (.iload_n 3, 1) := by decide +kernel
theorem dX2_suits_37 : decode cX2_suits 37 = .ok (.iaload, 1) := by decide +kernel
theorem dX2_suits_38 : decode cX2_suits 38 = .ok (.getstatic 29, 3) := by decide +kernel
theorem dX2_suits_41 : decode cX2_suits 41 = .ok (.iload_n 2, 1) := by decide +kernel
theorem dX2_suits_42 : decode cX2_suits 42 = .ok (.iaload, 1) := by decide +kernel
theorem dX2_suits_43 : decode cX2_suits 43 = .ok (.if_icmp .eq 5, 3) := by decide +kernel
theorem dX2_suits_46 : decode cX2_suits 46 = .ok (.iconst 0, 1) := by decide +kernel
theorem dX2_suits_47 : decode cX2_suits 47 = .ok (.ireturn, 1) := by decide +kernel
theorem dX2_suits_48 : decode cX2_suits 48 = .ok (.getstatic 23, 3) := by decide +kernel
theorem dX2_suits_51 : decode cX2_suits 51 = .ok (.iload_n 2, 1) := by decide +kernel
theorem dX2_suits_52 : decode cX2_suits 52 = .ok (.iaload, 1) := by decide +kernel
theorem dX2_suits_53 : decode cX2_suits 53 = .ok (.iconst 1, 1) := by decide +kernel
theorem dX2_suits_54 : decode cX2_suits 54 = .ok (.if_icmp .ne 19, 3) := by decide +kernel
theorem dX2_suits_57 : decode cX2_suits 57 = .ok (.aload_n 0, 1) := by decide +kernel
theorem dX2_suits_58 : decode cX2_suits 58 = .ok (.iload_n 2, 1) := by decide +kernel
theorem dX2_suits_59 : decode cX2_suits 59 = .ok (.aload_n 0, 1) := by decide +kernel
theorem dX2_suits_60 : decode cX2_suits 60 = .ok (.getfield 13, 3) := by decide +kernel
theorem dX2_suits_63 : decode cX2_suits 63 = .ok (.getfield 32, 3) := by decide +kernel
theorem dX2_suits_66 : decode cX2_suits 66 = .ok (.iload_n 1, 1) := by decide +kernel
theorem dX2_suits_67 : decode cX2_suits 67 = .ok (.iaload, 1) := by decide +kernel
theorem dX2_suits_68 : decode cX2_suits 68 = .ok (.iload_n 3, 1) := by decide +kernel
theorem dX2_suits_69 : decode cX2_suits 69 = .ok (.invokevirtual 35, 3) := by decide +kernel
theorem dX2_suits_72 : decode cX2_suits 72 = .ok (.ireturn, 1) := by decide +kernel
theorem dX2_suits_73 : decode cX2_suits 73 = .ok (.aload_n 0, 1) := by decide +kernel
theorem dX2_suits_74 : decode cX2_suits 74 = .ok (.iload_n 2, 1) := by decide +kernel
theorem dX2_suits_75 : decode cX2_suits 75 = .ok (.iload_n 1, 1) := by decide +kernel
theorem dX2_suits_76 : decode cX2_suits 76 = .ok (.iload_n 3, 1) := by decide +kernel
theorem dX2_suits_77 : decode cX2_suits 77 = .ok (.invokevirtual 39, 3) := by decide +kernel
theorem dX2_suits_80 : decode cX2_suits 80 = .ok (.ireturn, 1) := by decide +kernel
theorem dX2_suitsFilter_0 : decode cX2_suitsFilter 0 = .ok (.aload_n 0, 1) := by decide +kernel
theorem dX2_suitsFilter_1 : decode cX2_suitsFilter 1 = .ok (.getfield 7, 3) := by decide +kernel
theorem dX2_suitsFilter_4 : decode cX2_suitsFilter 4 = .ok (.getfield 42, 3) := by decide +kernel
theorem dX2_suitsFilter_7 : decode cX2_suitsFilter 7 = .ok (.iload_n 2, 1) := by decide +kernel
theorem dX2_suitsFilter_8 : decode cX2_suitsFilter 8 = .ok (.iaload, 1) := by decide +kernel
theorem dX2_suitsFilter_9 : decode cX2_suitsFilter 9 = .ok (.istore 4, 2) := by decide +kernel
theorem dX2_suitsFilter_11 : decode cX2_suitsFilter 11 = .ok (.aload_n 0, 1) := by decide +kernel
theorem dX2_suitsFilter_12 : decode cX2_suitsFilter 12 = .ok (.getfield 7, 3) := by decide +kernel
theorem dX2_suitsFilter_15 : decode cX2_suitsFilter 15 = .ok (.getfield 47, 3) := by decide +kernel
theorem dX2_suitsFilter_18 : decode cX2_suitsFilter 18 = .ok (.iload_n 2, 1) := by decide +kernel
theorem dX2_suitsFilter_19 : decode cX2_suitsFilter 19 = .ok (.baload, 1) := by decide +kernel
theorem dX2_suitsFilter_20 : decode cX2_suitsFilter 20 = .ok (.ifCond .ne 7, 3) := by decide +kernel
theorem dX2_suitsFilter_23 : decode cX2_suitsFilter 23 = .ok (.iconst 1, 1) := by decide +kernel
theorem dX2_suitsFilter_24 : decode cX2_suitsFilter 24 = .ok (.goto 4, 3) := by decide +kernel
theorem dX2_suitsFilter_27 : decode cX2_suitsFilter 27 = .ok (.iconst 0, 1) := by decide +kernel
theorem dX2_suitsFilter_28 : decode cX2_suitsFilter 28 = .ok (.istore 5, 2) := by decide +kernel
theorem dX2_suitsFilter_30 : decode cX2_suitsFilter 30 = .ok (.aload_n 0, 1) := by decide +kernel
theorem dX2_suitsFilter_31 : decode cX2_suitsFilter 31 = .ok (.getfield 13, 3) := by decide +kernel
theorem dX2_suitsFilter_34 : decode cX2_suitsFilter 34 = .ok (.getfield 51, 3) := by decide +kernel
theorem dX2_suitsFilter_37 : decode cX2_suitsFilter 37 = .ok (.iload_n 3, 1) := by decide +kernel
theorem dX2_suitsFilter_38 : decode cX2_suitsFilter 38 = .ok (.iaload, 1) := by decide +kernel
theorem dX2_suitsFilter_39 : decode cX2_suitsFilter 39 = .ok (.istore 6, 2) := by decide +kernel
theorem dX2_suitsFilter_41 : decode cX2_suitsFilter 41 = .ok (.aload_n 0, 1) := by decide +kernel
theorem dX2_suitsFilter_42 : decode cX2_suitsFilter 42 = .ok (.getfield 13, 3) := by decide +kernel
theorem dX2_suitsFilter_45 : decode cX2_suitsFilter 45 = .ok (.getfield 32, 3) := by decide +kernel
theorem dX2_suitsFilter_48 : decode cX2_suitsFilter 48 = .ok (.iload_n 3, 1) := by decide +kernel
theorem dX2_suitsFilter_49 : decode cX2_suitsFilter 49 = .ok (.iaload, 1) := by decide +kernel
theorem dX2_suitsFilter_50 : decode cX2_suitsFilter 50 = .ok (.istore 7, 2) := by decide +kernel
theorem dX2_suitsFilter_52 : decode cX2_suitsFilter 52 = .ok (.iload_n 1, 1) := by decide +kernel
theorem dX2_suitsFilter_53 : decode cX2_suitsFilter 53 = .ok (.tableswitch 202 0 7 #[47, 76, 84, 103, 124, 155, 202, 178], 47) := by decide +kernel
theorem dX2_suitsFilter_100 : decode cX2_suitsFilter 100 = .ok (.iload 6, 2) := by decide +kernel
theorem dX2_suitsFilter_102 : decode cX2_suitsFilter 102 = .ok (.iload 4, 2) := by decide +kernel
theorem dX2_suitsFilter_104 : decode cX2_suitsFilter 104 = .ok (.invokestatic 54, 3) := by decide +kernel
theorem dX2_suitsFilter_107 : decode cX2_suitsFilter 107 = .ok (.ifCond .ne 20, 3) := by decide +kernel
theorem dX2_suitsFilter_110 : decode cX2_suitsFilter 110 = .ok (.aload_n 0, 1) := by decide +kernel
theorem dX2_suitsFilter_111 : decode cX2_suitsFilter 111 = .ok (.getfield 7, 3) := by decide +kernel
theorem dX2_suitsFilter_114 : decode cX2_suitsFilter 114 = .ok (.getfield 47, 3) := by decide +kernel
theorem dX2_suitsFilter_117 : decode cX2_suitsFilter 117 = .ok (.iload 7, 2) := by decide +kernel
theorem dX2_suitsFilter_119 : decode cX2_suitsFilter 119 = .ok (.baload, 1) := by decide +kernel
theorem dX2_suitsFilter_120 : decode cX2_suitsFilter 120 = .ok (.ifCond .ne 7, 3) := by decide +kernel
theorem dX2_suitsFilter_123 : decode cX2_suitsFilter 123 = .ok (.iconst 1, 1) := by decide +kernel
theorem dX2_suitsFilter_124 : decode cX2_suitsFilter 124 = .ok (.goto 4, 3) := by decide +kernel
theorem dX2_suitsFilter_127 : decode cX2_suitsFilter 127 = .ok (.iconst 0, 1) := by decide +kernel
theorem dX2_suitsFilter_128 : decode cX2_suitsFilter 128 = .ok (.ireturn, 1) := by decide +kernel
theorem dX2_suitsFilter_129 : decode cX2_suitsFilter 129 = .ok (.iload 4, 2) := by decide +kernel
theorem dX2_suitsFilter_131 : decode cX2_suitsFilter 131 = .ok (.iload 7, 2) := by decide +kernel
theorem dX2_suitsFilter_133 : decode cX2_suitsFilter 133 = .ok (.invokestatic 60, 3) := by decide +kernel
theorem dX2_suitsFilter_136 : decode cX2_suitsFilter 136 = .ok (.ireturn, 1) := by decide +kernel
theorem dX2_suitsFilter_137 : decode cX2_suitsFilter 137 = .ok (.iload 4, 2) := by decide +kernel
theorem dX2_suitsFilter_139 : decode cX2_suitsFilter 139 = .ok (.iload 7, 2) := by decide +kernel
theorem dX2_suitsFilter_141 : decode cX2_suitsFilter 141 = .ok (.iand, 1) := by decide +kernel
theorem dX2_suitsFilter_142 : decode cX2_suitsFilter 142 = .ok (.ifCond .ne 12, 3) := by decide +kernel
theorem dX2_suitsFilter_145 : decode cX2_suitsFilter 145 = .ok (.iload 5, 2) := by decide +kernel
theorem dX2_suitsFilter_147 : decode cX2_suitsFilter 147 = .ok (.ifCond .eq 7, 3) := by decide +kernel
theorem dX2_suitsFilter_150 : decode cX2_suitsFilter 150 = .ok (.iconst 1, 1) := by decide +kernel
theorem dX2_suitsFilter_151 : decode cX2_suitsFilter 151 = .ok (.goto 4, 3) := by decide +kernel
theorem dX2_suitsFilter_154 : decode cX2_suitsFilter 154 = .ok (.iconst 0, 1) := by decide +kernel
theorem dX2_suitsFilter_155 : decode cX2_suitsFilter 155 = .ok (.ireturn, 1) := by decide +kernel
theorem dX2_suitsFilter_156 : decode cX2_suitsFilter 156 = .ok (.iload 4, 2) := by decide +kernel
theorem dX2_suitsFilter_158 : decode cX2_suitsFilter 158 = .ok (.iload 7, 2) := by decide +kernel
theorem dX2_suitsFilter_160 : decode cX2_suitsFilter 160 = .ok (.invokestatic 60, 3) := by decide +kernel
theorem dX2_suitsFilter_163 : decode cX2_suitsFilter 163 = .ok (.ifCond .eq 12, 3) := by decide +kernel
theorem dX2_suitsFilter_166 : decode cX2_suitsFilter 166 = .ok (.iload 5, 2) := by decide +kernel
theorem dX2_suitsFilter_168 : decode cX2_suitsFilter 168 = .ok (.ifCond .eq 7, 3) := by decide +kernel
theorem dX2_suitsFilter_171 : decode cX2_suitsFilter 171 = .ok (.iconst 1, 1) := by decide +kernel
theorem dX2_suitsFilter_172 : decode cX2_suitsFilter 172 = .ok (.goto 4, 3) := by decide +kernel
theorem dX2_suitsFilter_175 : decode cX2_suitsFilter 175 = .ok (.iconst 0, 1) := by decide +kernel
theorem dX2_suitsFilter_176 : decode cX2_suitsFilter 176 = .ok (.ireturn, 1) := by decide +kernel
theorem dX2_suitsFilter_177 : decode cX2_suitsFilter 177 = .ok (.iload 5, 2) := by decide +kernel
theorem dX2_suitsFilter_179 : decode cX2_suitsFilter 179 = .ok (.ifCond .ne 23, 3) := by decide +kernel
theorem dX2_suitsFilter_182 : decode cX2_suitsFilter 182 = .ok (.aload_n 0, 1) := by decide +kernel
theorem dX2_suitsFilter_183 : decode cX2_suitsFilter 183 = .ok (.getfield 13, 3) := by decide +kernel
theorem dX2_suitsFilter_186 : decode cX2_suitsFilter 186 = .ok (.getfield 63, 3) := by decide +kernel
theorem dX2_suitsFilter_189 : decode cX2_suitsFilter 189 = .ok (.aload_n 0, 1) := by decide +kernel
theorem dX2_suitsFilter_190 : decode cX2_suitsFilter 190 = .ok (.getfield 13, 3) := by decide +kernel
theorem dX2_suitsFilter_193 : decode cX2_suitsFilter 193 = .ok (.getfield 64, 3) := by decide +kernel
theorem dX2_suitsFilter_196 : decode cX2_suitsFilter 196 = .ok (.iload_n 3, 1) := by decide +kernel
theorem dX2_suitsFilter_197 : decode cX2_suitsFilter 197 = .ok (.iaload, 1) := by decide +kernel
theorem dX2_suitsFilter_198 : decode cX2_suitsFilter 198 = .ok (.baload, 1) := by decide +kernel
theorem dX2_suitsFilter_199 : decode cX2_suitsFilter 199 = .ok (.ifCond .ne 7, 3) := by decide +kernel
theorem dX2_suitsFilter_202 : decode cX2_suitsFilter 202 = .ok (.iconst 1, 1) := by decide +kernel
theorem dX2_suitsFilter_203 : decode cX2_suitsFilter 203 = .ok (.goto 4, 3) := by decide +kernel
theorem dX2_suitsFilter_206 : decode cX2_suitsFilter 206 = .ok (.iconst 0, 1) := by decide +kernel
theorem dX2_suitsFilter_207 : decode cX2_suitsFilter 207 = .ok (.ireturn, 1) := by decide +kernel
theorem dX2_suitsFilter_208 : decode cX2_suitsFilter 208 = .ok (.iload 4, 2) := by decide +kernel
theorem dX2_suitsFilter_210 : decode cX2_suitsFilter 210 = .ok (.iconst 1, 1) := by decide +kernel
theorem dX2_suitsFilter_211 : decode cX2_suitsFilter 211 = .ok (.iload 6, 2) := by decide +kernel
theorem dX2_suitsFilter_213 : decode cX2_suitsFilter 213 = .ok (.ishl, 1) := by decide +kernel
theorem dX2_suitsFilter_214 : decode cX2_suitsFilter 214 = .ok (.invokestatic 60, 3) := by decide +kernel
theorem dX2_suitsFilter_217 : decode cX2_suitsFilter 217 = .ok (.ifCond .eq 12, 3) := by decide +kernel
theorem dX2_suitsFilter_220 : decode cX2_suitsFilter 220 = .ok (.iload 5, 2) := by decide +kernel
theorem dX2_suitsFilter_222 : decode cX2_suitsFilter 222 = .ok (.ifCond .eq 7, 3) := by decide +kernel
theorem dX2_suitsFilter_225 : decode cX2_suitsFilter 225 = .ok (.iconst 1, 1) := by decide +kernel
theorem dX2_suitsFilter_226 : decode cX2_suitsFilter 226 = .ok (.goto 4, 3) := by decide +kernel
theorem dX2_suitsFilter_229 : decode cX2_suitsFilter 229 = .ok (.iconst 0, 1) := by decide +kernel
theorem dX2_suitsFilter_230 : decode cX2_suitsFilter 230 = .ok (.ireturn, 1) := by decide +kernel
theorem dX2_suitsFilter_231 : decode cX2_suitsFilter 231 = .ok (.iload 5, 2) := by decide +kernel
theorem dX2_suitsFilter_233 : decode cX2_suitsFilter 233 = .ok (.ifCond .ne 16, 3) := by decide +kernel
theorem dX2_suitsFilter_236 : decode cX2_suitsFilter 236 = .ok (.aload_n 0, 1) := by decide +kernel
theorem dX2_suitsFilter_237 : decode cX2_suitsFilter 237 = .ok (.getfield 7, 3) := by decide +kernel
theorem dX2_suitsFilter_240 : decode cX2_suitsFilter 240 = .ok (.getfield 47, 3) := by decide +kernel
theorem dX2_suitsFilter_243 : decode cX2_suitsFilter 243 = .ok (.iload 7, 2) := by decide +kernel
theorem dX2_suitsFilter_245 : decode cX2_suitsFilter 245 = .ok (.baload, 1) := by decide +kernel
theorem dX2_suitsFilter_246 : decode cX2_suitsFilter 246 = .ok (.ifCond .ne 7, 3) := by decide +kernel
theorem dX2_suitsFilter_249 : decode cX2_suitsFilter 249 = .ok (.iconst 1, 1) := by decide +kernel
theorem dX2_suitsFilter_250 : decode cX2_suitsFilter 250 = .ok (.goto 4, 3) := by decide +kernel
theorem dX2_suitsFilter_253 : decode cX2_suitsFilter 253 = .ok (.iconst 0, 1) := by decide +kernel
theorem dX2_suitsFilter_254 : decode cX2_suitsFilter 254 = .ok (.ireturn, 1) := by decide +kernel
theorem dX2_suitsFilter_255 : decode cX2_suitsFilter 255 = .ok (.iconst 1, 1) := by decide +kernel
theorem dX2_suitsFilter_256 : decode cX2_suitsFilter 256 = .ok (.ireturn, 1) := by decide +kernel
theorem dX2_suitsOther_0 : decode cX2_suitsOther 0 = .ok (.aload_n 0, 1) := by decide +kernel
theorem dX2_suitsOther_1 : decode cX2_suitsOther 1 = .ok (.getfield 13, 3) := by decide +kernel
theorem dX2_suitsOther_4 : decode cX2_suitsOther 4 = .ok (.getfield 51, 3) := by decide +kernel
theorem dX2_suitsOther_7 : decode cX2_suitsOther 7 = .ok (.iload_n 2, 1) := by decide +kernel
theorem dX2_suitsOther_8 : decode cX2_suitsOther 8 = .ok (.iaload, 1) := by decide +kernel
theorem dX2_suitsOther_9 : decode cX2_suitsOther 9 = .ok (.istore 4, 2) := by decide +kernel
theorem dX2_suitsOther_11 : decode cX2_suitsOther 11 = .ok (.aload_n 0, 1) := by decide +kernel
theorem dX2_suitsOther_12 : decode cX2_suitsOther 12 = .ok (.getfield 13, 3) := by decide +kernel
theorem dX2_suitsOther_15 : decode cX2_suitsOther 15 = .ok (.getfield 32, 3) := by decide +kernel
theorem dX2_suitsOther_18 : decode cX2_suitsOther 18 = .ok (.iload_n 2, 1) := by decide +kernel
theorem dX2_suitsOther_19 : decode cX2_suitsOther 19 = .ok (.iaload, 1) := by decide +kernel
theorem dX2_suitsOther_20 : decode cX2_suitsOther 20 = .ok (.istore 5, 2) := by decide +kernel
theorem dX2_suitsOther_22 : decode cX2_suitsOther 22 = .ok (.aload_n 0, 1) := by decide +kernel
theorem dX2_suitsOther_23 : decode cX2_suitsOther 23 = .ok (.getfield 13, 3) := by decide +kernel
theorem dX2_suitsOther_26 : decode cX2_suitsOther 26 = .ok (.getfield 51, 3) := by decide +kernel
theorem dX2_suitsOther_29 : decode cX2_suitsOther 29 = .ok (.iload_n 3, 1) := by decide +kernel
theorem dX2_suitsOther_30 : decode cX2_suitsOther 30 = .ok (.iaload, 1) := by decide +kernel
theorem dX2_suitsOther_31 : decode cX2_suitsOther 31 = .ok (.istore 6, 2) := by decide +kernel
theorem dX2_suitsOther_33 : decode cX2_suitsOther 33 = .ok (.aload_n 0, 1) := by decide +kernel
theorem dX2_suitsOther_34 : decode cX2_suitsOther 34 = .ok (.getfield 13, 3) := by decide +kernel
theorem dX2_suitsOther_37 : decode cX2_suitsOther 37 = .ok (.getfield 32, 3) := by decide +kernel
theorem dX2_suitsOther_40 : decode cX2_suitsOther 40 = .ok (.iload_n 3, 1) := by decide +kernel
theorem dX2_suitsOther_41 : decode cX2_suitsOther 41 = .ok (.iaload, 1) := by decide +kernel
theorem dX2_suitsOther_42 : decode cX2_suitsOther 42 = .ok (.istore 7, 2) := by decide +kernel
theorem dX2_suitsOther_44 : decode cX2_suitsOther 44 = .ok (.iload_n 1, 1) := by decide +kernel
theorem dX2_suitsOther_45 : decode cX2_suitsOther 45 = .ok (.tableswitch 213 8 17 #[55, 213, 99, 213, 128, 168, 213, 213, 128, 194], 55) := by decide +kernel
theorem dX2_suitsOther_100 : decode cX2_suitsOther 100 = .ok (.iload 6, 2) := by decide +kernel
theorem dX2_suitsOther_102 : decode cX2_suitsOther 102 = .ok (.iload 4, 2) := by decide +kernel
theorem dX2_suitsOther_104 : decode cX2_suitsOther 104 = .ok (.if_icmp .ne 38, 3) := by decide +kernel
theorem dX2_suitsOther_107 : decode cX2_suitsOther 107 = .ok (.iload 4, 2) := by decide +kernel
theorem dX2_suitsOther_109 : decode cX2_suitsOther 109 = .ok (.aload_n 0, 1) := by decide +kernel
theorem dX2_suitsOther_110 : decode cX2_suitsOther 110 = .ok (.getfield 7, 3) := by decide +kernel
theorem dX2_suitsOther_113 : decode cX2_suitsOther 113 = .ok (.getfield 42, 3) := by decide +kernel
theorem dX2_suitsOther_116 : decode cX2_suitsOther 116 = .ok (.iload 5, 2) := by decide +kernel
theorem dX2_suitsOther_118 : decode cX2_suitsOther 118 = .ok (.iaload, 1) := by decide +kernel
theorem dX2_suitsOther_119 : decode cX2_suitsOther 119 = .ok (.invokestatic 54, 3) := by decide +kernel
theorem dX2_suitsOther_122 : decode cX2_suitsOther 122 = .ok (.ifCond .ne 20, 3) := by decide +kernel
theorem dX2_suitsOther_125 : decode cX2_suitsOther 125 = .ok (.aload_n 0, 1) := by decide +kernel
theorem dX2_suitsOther_126 : decode cX2_suitsOther 126 = .ok (.getfield 7, 3) := by decide +kernel
theorem dX2_suitsOther_129 : decode cX2_suitsOther 129 = .ok (.getfield 47, 3) := by decide +kernel
theorem dX2_suitsOther_132 : decode cX2_suitsOther 132 = .ok (.iload 7, 2) := by decide +kernel
theorem dX2_suitsOther_134 : decode cX2_suitsOther 134 = .ok (.baload, 1) := by decide +kernel
theorem dX2_suitsOther_135 : decode cX2_suitsOther 135 = .ok (.ifCond .ne 7, 3) := by decide +kernel
theorem dX2_suitsOther_138 : decode cX2_suitsOther 138 = .ok (.iconst 1, 1) := by decide +kernel
theorem dX2_suitsOther_139 : decode cX2_suitsOther 139 = .ok (.goto 4, 3) := by decide +kernel
theorem dX2_suitsOther_142 : decode cX2_suitsOther 142 = .ok (.iconst 0, 1) := by decide +kernel
theorem dX2_suitsOther_143 : decode cX2_suitsOther 143 = .ok (.ireturn, 1) := by decide +kernel
theorem dX2_suitsOther_144 : decode cX2_suitsOther 144 = .ok (.iload 6, 2) := by decide +kernel
theorem dX2_suitsOther_146 : decode cX2_suitsOther 146 = .ok (.iload 5, 2) := by decide +kernel
theorem dX2_suitsOther_148 : decode cX2_suitsOther 148 = .ok (.invokestatic 54, 3) := by decide +kernel
theorem dX2_suitsOther_151 : decode cX2_suitsOther 151 = .ok (.ifCond .ne 20, 3) := by decide +kernel
theorem dX2_suitsOther_154 : decode cX2_suitsOther 154 = .ok (.aload_n 0, 1) := by decide +kernel
theorem dX2_suitsOther_155 : decode cX2_suitsOther 155 = .ok (.getfield 7, 3) := by decide +kernel
theorem dX2_suitsOther_158 : decode cX2_suitsOther 158 = .ok (.getfield 47, 3) := by decide +kernel
theorem dX2_suitsOther_161 : decode cX2_suitsOther 161 = .ok (.iload 7, 2) := by decide +kernel
theorem dX2_suitsOther_163 : decode cX2_suitsOther 163 = .ok (.baload, 1) := by decide +kernel
theorem dX2_suitsOther_164 : decode cX2_suitsOther 164 = .ok (.ifCond .ne 7, 3) := by decide +kernel
theorem dX2_suitsOther_167 : decode cX2_suitsOther 167 = .ok (.iconst 1, 1) := by decide +kernel
theorem dX2_suitsOther_168 : decode cX2_suitsOther 168 = .ok (.goto 4, 3) := by decide +kernel
theorem dX2_suitsOther_171 : decode cX2_suitsOther 171 = .ok (.iconst 0, 1) := by decide +kernel
theorem dX2_suitsOther_172 : decode cX2_suitsOther 172 = .ok (.ireturn, 1) := by decide +kernel
theorem dX2_suitsOther_173 : decode cX2_suitsOther 173 = .ok (.aload_n 0, 1) := by decide +kernel
theorem dX2_suitsOther_174 : decode cX2_suitsOther 174 = .ok (.iload_n 2, 1) := by decide +kernel
theorem dX2_suitsOther_175 : decode cX2_suitsOther 175 = .ok (.aload_n 0, 1) := by decide +kernel
theorem dX2_suitsOther_176 : decode cX2_suitsOther 176 = .ok (.getfield 13, 3) := by decide +kernel
theorem dX2_suitsOther_179 : decode cX2_suitsOther 179 = .ok (.getfield 26, 3) := by decide +kernel
theorem dX2_suitsOther_182 : decode cX2_suitsOther 182 = .ok (.iload_n 3, 1) := by decide +kernel
theorem dX2_suitsOther_183 : decode cX2_suitsOther 183 = .ok (.iaload, 1) := by decide +kernel
theorem dX2_suitsOther_184 : decode cX2_suitsOther 184 = .ok (.invokevirtual 67, 3) := by decide +kernel
theorem dX2_suitsOther_187 : decode cX2_suitsOther 187 = .ok (.ifCond .eq 20, 3) := by decide +kernel
theorem dX2_suitsOther_190 : decode cX2_suitsOther 190 = .ok (.aload_n 0, 1) := by decide +kernel
theorem dX2_suitsOther_191 : decode cX2_suitsOther 191 = .ok (.iload_n 2, 1) := by decide +kernel
theorem dX2_suitsOther_192 : decode cX2_suitsOther 192 = .ok (.aload_n 0, 1) := by decide +kernel
theorem dX2_suitsOther_193 : decode cX2_suitsOther 193 = .ok (.getfield 13, 3) := by decide +kernel
theorem dX2_suitsOther_196 : decode cX2_suitsOther 196 = .ok (.getfield 64, 3) := by decide +kernel
theorem dX2_suitsOther_199 : decode cX2_suitsOther 199 = .ok (.iload_n 3, 1) := by decide +kernel
theorem dX2_suitsOther_200 : decode cX2_suitsOther 200 = .ok (.iaload, 1) := by decide +kernel
theorem dX2_suitsOther_201 : decode cX2_suitsOther 201 = .ok (.invokevirtual 67, 3) := by decide +kernel
theorem dX2_suitsOther_204 : decode cX2_suitsOther 204 = .ok (.ifCond .ne 7, 3) := by decide +kernel
theorem dX2_suitsOther_207 : decode cX2_suitsOther 207 = .ok (.iconst 1, 1) := by decide +kernel
theorem dX2_suitsOther_208 : decode cX2_suitsOther 208 = .ok (.goto 4, 3) := by decide +kernel
theorem dX2_suitsOther_211 : decode cX2_suitsOther 211 = .ok (.iconst 0, 1) := by decide +kernel
theorem dX2_suitsOther_212 : decode cX2_suitsOther 212 = .ok (.ireturn, 1) := by decide +kernel
theorem dX2_suitsOther_213 : decode cX2_suitsOther 213 = .ok (.iload 4, 2) := by decide +kernel
theorem dX2_suitsOther_215 : decode cX2_suitsOther 215 = .ok (.iload 7, 2) := by decide +kernel
theorem dX2_suitsOther_217 : decode cX2_suitsOther 217 = .ok (.invokestatic 54, 3) := by decide +kernel
theorem dX2_suitsOther_220 : decode cX2_suitsOther 220 = .ok (.ifCond .eq 17, 3) := by decide +kernel
theorem dX2_suitsOther_223 : decode cX2_suitsOther 223 = .ok (.iload 5, 2) := by decide +kernel
theorem dX2_suitsOther_225 : decode cX2_suitsOther 225 = .ok (.iload 7, 2) := by decide +kernel
theorem dX2_suitsOther_227 : decode cX2_suitsOther 227 = .ok (.invokestatic 54, 3) := by decide +kernel
theorem dX2_suitsOther_230 : decode cX2_suitsOther 230 = .ok (.ifCond .eq 7, 3) := by decide +kernel
theorem dX2_suitsOther_233 : decode cX2_suitsOther 233 = .ok (.iconst 1, 1) := by decide +kernel
theorem dX2_suitsOther_234 : decode cX2_suitsOther 234 = .ok (.goto 4, 3) := by decide +kernel
theorem dX2_suitsOther_237 : decode cX2_suitsOther 237 = .ok (.iconst 0, 1) := by decide +kernel
theorem dX2_suitsOther_238 : decode cX2_suitsOther 238 = .ok (.ireturn, 1) := by decide +kernel
theorem dX2_suitsOther_239 : decode cX2_suitsOther 239 = .ok (.aload_n 0, 1) := by decide +kernel
theorem dX2_suitsOther_240 : decode cX2_suitsOther 240 = .ok (.getfield 7, 3) := by decide +kernel
theorem dX2_suitsOther_243 : decode cX2_suitsOther 243 = .ok (.getfield 47, 3) := by decide +kernel
theorem dX2_suitsOther_246 : decode cX2_suitsOther 246 = .ok (.iload 7, 2) := by decide +kernel
theorem dX2_suitsOther_248 : decode cX2_suitsOther 248 = .ok (.baload, 1) := by decide +kernel
theorem dX2_suitsOther_249 : decode cX2_suitsOther 249 = .ok (.ifCond .ne 7, 3) := by decide +kernel
theorem dX2_suitsOther_252 : decode cX2_suitsOther 252 = .ok (.iconst 1, 1) := by decide +kernel
theorem dX2_suitsOther_253 : decode cX2_suitsOther 253 = .ok (.goto 4, 3) := by decide +kernel
theorem dX2_suitsOther_256 : decode cX2_suitsOther 256 = .ok (.iconst 0, 1) := by decide +kernel
theorem dX2_suitsOther_257 : decode cX2_suitsOther 257 = .ok (.ireturn, 1) := by decide +kernel
theorem dX2_suitsOther_258 : decode cX2_suitsOther 258 = .ok (.iconst 1, 1) := by decide +kernel
theorem dX2_suitsOther_259 : decode cX2_suitsOther 259 = .ok (.ireturn, 1) := by decide +kernel
theorem dX2_isLikeJob_0 : decode cX2_isLikeJob 0 = .ok (.aload_n 0, 1) := by decide +kernel
theorem dX2_isLikeJob_1 : decode cX2_isLikeJob 1 = .ok (.getfield 13, 3) := by decide +kernel
theorem dX2_isLikeJob_4 : decode cX2_isLikeJob 4 = .ok (.getfield 17, 3) := by decide +kernel
theorem dX2_isLikeJob_7 : decode cX2_isLikeJob 7 = .ok (.iload_n 1, 1) := by decide +kernel
theorem dX2_isLikeJob_8 : decode cX2_isLikeJob 8 = .ok (.iaload, 1) := by decide +kernel
theorem dX2_isLikeJob_9 : decode cX2_isLikeJob 9 = .ok (.aload_n 0, 1) := by decide +kernel
theorem dX2_isLikeJob_10 : decode cX2_isLikeJob 10 = .ok (.getfield 13, 3) := by decide +kernel
theorem dX2_isLikeJob_13 : decode cX2_isLikeJob 13 = .ok (.getfield 17, 3) := by decide +kernel
theorem dX2_isLikeJob_16 : decode cX2_isLikeJob 16 = .ok (.iload_n 2, 1) := by decide +kernel
theorem dX2_isLikeJob_17 : decode cX2_isLikeJob 17 = .ok (.iaload, 1) := by decide +kernel
theorem dX2_isLikeJob_18 : decode cX2_isLikeJob 18 = .ok (.if_icmp .ne 49, 3) := by decide +kernel
theorem dX2_isLikeJob_21 : decode cX2_isLikeJob 21 = .ok (.aload_n 0, 1) := by decide +kernel
theorem dX2_isLikeJob_22 : decode cX2_isLikeJob 22 = .ok (.getfield 13, 3) := by decide +kernel
theorem dX2_isLikeJob_25 : decode cX2_isLikeJob 25 = .ok (.getfield 51, 3) := by decide +kernel
theorem dX2_isLikeJob_28 : decode cX2_isLikeJob 28 = .ok (.iload_n 1, 1) := by decide +kernel
theorem dX2_isLikeJob_29 : decode cX2_isLikeJob 29 = .ok (.iaload, 1) := by decide +kernel
theorem dX2_isLikeJob_30 : decode cX2_isLikeJob 30 = .ok (.aload_n 0, 1) := by decide +kernel
theorem dX2_isLikeJob_31 : decode cX2_isLikeJob 31 = .ok (.getfield 13, 3) := by decide +kernel
theorem dX2_isLikeJob_34 : decode cX2_isLikeJob 34 = .ok (.getfield 51, 3) := by decide +kernel
theorem dX2_isLikeJob_37 : decode cX2_isLikeJob 37 = .ok (.iload_n 2, 1) := by decide +kernel
theorem dX2_isLikeJob_38 : decode cX2_isLikeJob 38 = .ok (.iaload, 1) := by decide +kernel
theorem dX2_isLikeJob_39 : decode cX2_isLikeJob 39 = .ok (.if_icmp .ne 28, 3) := by decide +kernel
theorem dX2_isLikeJob_42 : decode cX2_isLikeJob 42 = .ok (.aload_n 0, 1) := by decide +kernel
theorem dX2_isLikeJob_43 : decode cX2_isLikeJob 43 = .ok (.getfield 13, 3) := by decide +kernel
theorem dX2_isLikeJob_46 : decode cX2_isLikeJob 46 = .ok (.getfield 32, 3) := by decide +kernel
theorem dX2_isLikeJob_49 : decode cX2_isLikeJob 49 = .ok (.iload_n 1, 1) := by decide +kernel
theorem dX2_isLikeJob_50 : decode cX2_isLikeJob 50 = .ok (.iaload, 1) := by decide +kernel
theorem dX2_isLikeJob_51 : decode cX2_isLikeJob 51 = .ok (.aload_n 0, 1) := by decide +kernel
theorem dX2_isLikeJob_52 : decode cX2_isLikeJob 52 = .ok (.getfield 13, 3) := by decide +kernel
theorem dX2_isLikeJob_55 : decode cX2_isLikeJob 55 = .ok (.getfield 32, 3) := by decide +kernel
theorem dX2_isLikeJob_58 : decode cX2_isLikeJob 58 = .ok (.iload_n 2, 1) := by decide +kernel
theorem dX2_isLikeJob_59 : decode cX2_isLikeJob 59 = .ok (.iaload, 1) := by decide +kernel
theorem dX2_isLikeJob_60 : decode cX2_isLikeJob 60 = .ok (.if_icmp .ne 7, 3) := by decide +kernel
theorem dX2_isLikeJob_63 : decode cX2_isLikeJob 63 = .ok (.iconst 1, 1) := by decide +kernel
theorem dX2_isLikeJob_64 : decode cX2_isLikeJob 64 = .ok (.goto 4, 3) := by decide +kernel
theorem dX2_isLikeJob_67 : decode cX2_isLikeJob 67 = .ok (.iconst 0, 1) := by decide +kernel
theorem dX2_isLikeJob_68 : decode cX2_isLikeJob 68 = .ok (.ireturn, 1) := by decide +kernel
theorem dX2_hasRoom_0 : decode cX2_hasRoom 0 = .ok (.iload_n 2, 1) := by decide +kernel
theorem dX2_hasRoom_1 : decode cX2_hasRoom 1 = .ok (.bipush 7, 2) := by decide +kernel
theorem dX2_hasRoom_3 : decode cX2_hasRoom 3 = .ok (.if_icmp .ne 39, 3) := by decide +kernel
theorem dX2_hasRoom_6 : decode cX2_hasRoom 6 = .ok (.aload_n 0, 1) := by decide +kernel
theorem dX2_hasRoom_7 : decode cX2_hasRoom 7 = .ok (.getfield 7, 3) := by decide +kernel
theorem dX2_hasRoom_10 : decode cX2_hasRoom 10 = .ok (.bipush 9, 2) := by decide +kernel
theorem dX2_hasRoom_12 : decode cX2_hasRoom 12 = .ok (.aload_n 0, 1) := by decide +kernel
theorem dX2_hasRoom_13 : decode cX2_hasRoom 13 = .ok (.getfield 13, 3) := by decide +kernel
theorem dX2_hasRoom_16 : decode cX2_hasRoom 16 = .ok (.getfield 32, 3) := by decide +kernel
theorem dX2_hasRoom_19 : decode cX2_hasRoom 19 = .ok (.aload_n 0, 1) := by decide +kernel
theorem dX2_hasRoom_20 : decode cX2_hasRoom 20 = .ok (.getfield 13, 3) := by decide +kernel
theorem dX2_hasRoom_23 : decode cX2_hasRoom 23 = .ok (.getfield 26, 3) := by decide +kernel
theorem dX2_hasRoom_26 : decode cX2_hasRoom 26 = .ok (.iload_n 1, 1) := by decide +kernel
theorem dX2_hasRoom_27 : decode cX2_hasRoom 27 = .ok (.iaload, 1) := by decide +kernel
theorem dX2_hasRoom_28 : decode cX2_hasRoom 28 = .ok (.iaload, 1) := by decide +kernel
theorem dX2_hasRoom_29 : decode cX2_hasRoom 29 = .ok (.aload_n 0, 1) := by decide +kernel
theorem dX2_hasRoom_30 : decode cX2_hasRoom 30 = .ok (.getfield 13, 3) := by decide +kernel
theorem dX2_hasRoom_33 : decode cX2_hasRoom 33 = .ok (.getfield 32, 3) := by decide +kernel
theorem dX2_hasRoom_36 : decode cX2_hasRoom 36 = .ok (.iload_n 1, 1) := by decide +kernel
theorem dX2_hasRoom_37 : decode cX2_hasRoom 37 = .ok (.iaload, 1) := by decide +kernel
theorem dX2_hasRoom_38 : decode cX2_hasRoom 38 = .ok (.invokevirtual 70, 3) := by decide +kernel
theorem dX2_hasRoom_41 : decode cX2_hasRoom 41 = .ok (.ireturn, 1) := by decide +kernel
theorem dX2_hasRoom_42 : decode cX2_hasRoom 42 = .ok (.aload_n 0, 1) := by decide +kernel
theorem dX2_hasRoom_43 : decode cX2_hasRoom 43 = .ok (.getfield 13, 3) := by decide +kernel
theorem dX2_hasRoom_46 : decode cX2_hasRoom 46 = .ok (.getstatic 73, 3) := by decide +kernel
theorem dX2_hasRoom_49 : decode cX2_hasRoom 49 = .ok (.iload_n 2, 1) := by decide +kernel
theorem dX2_hasRoom_50 : decode cX2_hasRoom 50 = .ok (.iaload, 1) := by decide +kernel
theorem dX2_hasRoom_51 : decode cX2_hasRoom 51 = .ok (.invokevirtual 76, 3) := by decide +kernel
theorem dX2_hasRoom_54 : decode cX2_hasRoom 54 = .ok (.ireturn, 1) := by decide +kernel
theorem dX2_apply_0 : decode cX2_apply 0 = .ok (.aload_n 0, 1) := by decide +kernel
theorem dX2_apply_1 : decode cX2_apply 1 = .ok (.getfield 13, 3) := by decide +kernel
theorem dX2_apply_4 : decode cX2_apply 4 = .ok (.getfield 26, 3) := by decide +kernel
theorem dX2_apply_7 : decode cX2_apply 7 = .ok (.iload_n 1, 1) := by decide +kernel
theorem dX2_apply_8 : decode cX2_apply 8 = .ok (.iaload, 1) := by decide +kernel
theorem dX2_apply_9 : decode cX2_apply 9 = .ok (.istore_n 3, 1) := by decide +kernel
theorem dX2_apply_10 : decode cX2_apply 10 = .ok (.aload_n 0, 1) := by decide +kernel
theorem dX2_apply_11 : decode cX2_apply 11 = .ok (.dup, 1) := by decide +kernel
theorem dX2_apply_12 : decode cX2_apply 12 = .ok (.getfield 79, 3) := by decide +kernel
theorem dX2_apply_15 : decode cX2_apply 15 = .ok (.iconst 1, 1) := by decide +kernel
theorem dX2_apply_16 : decode cX2_apply 16 = .ok (.iadd, 1) := by decide +kernel
theorem dX2_apply_17 : decode cX2_apply 17 = .ok (.putfield 79, 3) := by decide +kernel
theorem dX2_apply_20 : decode cX2_apply 20 = .ok (.iload_n 2, 1) := by decide +kernel
theorem dX2_apply_21 : decode cX2_apply 21 = .ok (.tableswitch 288 3 16 #[71, 103, 288, 288, 140, 234, 176, 234, 103, 252, 234, 234, 204, 252], 71) := by decide +kernel
theorem dX2_apply_92 : decode cX2_apply 92 = .ok (.aload_n 0, 1) := by decide +kernel
theorem dX2_apply_93 : decode cX2_apply 93 = .ok (.iload_n 1, 1) := by decide +kernel
theorem dX2_apply_94 : decode cX2_apply 94 = .ok (.iload_n 3, 1) := by decide +kernel
theorem dX2_apply_95 : decode cX2_apply 95 = .ok (.aload_n 0, 1) := by decide +kernel
theorem dX2_apply_96 : decode cX2_apply 96 = .ok (.getfield 13, 3) := by decide +kernel
theorem dX2_apply_99 : decode cX2_apply 99 = .ok (.getfield 26, 3) := by decide +kernel
theorem dX2_apply_102 : decode cX2_apply 102 = .ok (.iload_n 3, 1) := by decide +kernel
theorem dX2_apply_103 : decode cX2_apply 103 = .ok (.iaload, 1) := by decide +kernel
theorem dX2_apply_104 : decode cX2_apply 104 = .ok (.aload_n 0, 1) := by decide +kernel
theorem dX2_apply_105 : decode cX2_apply 105 = .ok (.iload_n 1, 1) := by decide +kernel
theorem dX2_apply_106 : decode cX2_apply 106 = .ok (.aload_n 0, 1) := by decide +kernel
theorem dX2_apply_107 : decode cX2_apply 107 = .ok (.getfield 13, 3) := by decide +kernel
theorem dX2_apply_110 : decode cX2_apply 110 = .ok (.getfield 64, 3) := by decide +kernel
theorem dX2_apply_113 : decode cX2_apply 113 = .ok (.iload_n 3, 1) := by decide +kernel
theorem dX2_apply_114 : decode cX2_apply 114 = .ok (.iaload, 1) := by decide +kernel
theorem dX2_apply_115 : decode cX2_apply 115 = .ok (.invokevirtual 83, 3) := by decide +kernel
theorem dX2_apply_118 : decode cX2_apply 118 = .ok (.invokevirtual 87, 3) := by decide +kernel
theorem dX2_apply_121 : decode cX2_apply 121 = .ok (.goto 217, 3) := by decide +kernel
theorem dX2_apply_124 : decode cX2_apply 124 = .ok (.aload_n 0, 1) := by decide +kernel
theorem dX2_apply_125 : decode cX2_apply 125 = .ok (.iload_n 1, 1) := by decide +kernel
theorem dX2_apply_126 : decode cX2_apply 126 = .ok (.iload_n 3, 1) := by decide +kernel
theorem dX2_apply_127 : decode cX2_apply 127 = .ok (.aload_n 0, 1) := by decide +kernel
theorem dX2_apply_128 : decode cX2_apply 128 = .ok (.iload_n 1, 1) := by decide +kernel
theorem dX2_apply_129 : decode cX2_apply 129 = .ok (.aload_n 0, 1) := by decide +kernel
theorem dX2_apply_130 : decode cX2_apply 130 = .ok (.getfield 13, 3) := by decide +kernel
theorem dX2_apply_133 : decode cX2_apply 133 = .ok (.getfield 26, 3) := by decide +kernel
theorem dX2_apply_136 : decode cX2_apply 136 = .ok (.iload_n 3, 1) := by decide +kernel
theorem dX2_apply_137 : decode cX2_apply 137 = .ok (.iaload, 1) := by decide +kernel
theorem dX2_apply_138 : decode cX2_apply 138 = .ok (.invokevirtual 83, 3) := by decide +kernel
theorem dX2_apply_141 : decode cX2_apply 141 = .ok (.aload_n 0, 1) := by decide +kernel
theorem dX2_apply_142 : decode cX2_apply 142 = .ok (.iload_n 1, 1) := by decide +kernel
theorem dX2_apply_143 : decode cX2_apply 143 = .ok (.aload_n 0, 1) := by decide +kernel
theorem dX2_apply_144 : decode cX2_apply 144 = .ok (.getfield 13, 3) := by decide +kernel
theorem dX2_apply_147 : decode cX2_apply 147 = .ok (.getfield 64, 3) := by decide +kernel
theorem dX2_apply_150 : decode cX2_apply 150 = .ok (.iload_n 3, 1) := by decide +kernel
theorem dX2_apply_151 : decode cX2_apply 151 = .ok (.iaload, 1) := by decide +kernel
theorem dX2_apply_152 : decode cX2_apply 152 = .ok (.invokevirtual 83, 3) := by decide +kernel
theorem dX2_apply_155 : decode cX2_apply 155 = .ok (.invokevirtual 87, 3) := by decide +kernel
theorem dX2_apply_158 : decode cX2_apply 158 = .ok (.goto 180, 3) := by decide +kernel
theorem dX2_apply_161 : decode cX2_apply 161 = .ok (.aload_n 0, 1) := by decide +kernel
theorem dX2_apply_162 : decode cX2_apply 162 = .ok (.iload_n 1, 1) := by decide +kernel
theorem dX2_apply_163 : decode cX2_apply 163 = .ok (.iload_n 3, 1) := by decide +kernel
theorem dX2_apply_164 : decode cX2_apply 164 = .ok (.aload_n 0, 1) := by decide +kernel
theorem dX2_apply_165 : decode cX2_apply 165 = .ok (.getfield 7, 3) := by decide +kernel
theorem dX2_apply_168 : decode cX2_apply 168 = .ok (.bipush 9, 2) := by decide +kernel
theorem dX2_apply_170 : decode cX2_apply 170 = .ok (.aload_n 0, 1) := by decide +kernel
theorem dX2_apply_171 : decode cX2_apply 171 = .ok (.getfield 13, 3) := by decide +kernel
theorem dX2_apply_174 : decode cX2_apply 174 = .ok (.getfield 32, 3) := by decide +kernel
theorem dX2_apply_177 : decode cX2_apply 177 = .ok (.iload_n 3, 1) := by decide +kernel
theorem dX2_apply_178 : decode cX2_apply 178 = .ok (.iaload, 1) := by decide +kernel
theorem dX2_apply_179 : decode cX2_apply 179 = .ok (.aload_n 0, 1) := by decide +kernel
theorem dX2_apply_180 : decode cX2_apply 180 = .ok (.getfield 13, 3) := by decide +kernel
theorem dX2_apply_183 : decode cX2_apply 183 = .ok (.getfield 32, 3) := by decide +kernel
theorem dX2_apply_186 : decode cX2_apply 186 = .ok (.iload_n 1, 1) := by decide +kernel
theorem dX2_apply_187 : decode cX2_apply 187 = .ok (.iaload, 1) := by decide +kernel
theorem dX2_apply_188 : decode cX2_apply 188 = .ok (.invokevirtual 91, 3) := by decide +kernel
theorem dX2_apply_191 : decode cX2_apply 191 = .ok (.invokevirtual 95, 3) := by decide +kernel
theorem dX2_apply_194 : decode cX2_apply 194 = .ok (.goto 144, 3) := by decide +kernel
theorem dX2_apply_197 : decode cX2_apply 197 = .ok (.aload_n 0, 1) := by decide +kernel
theorem dX2_apply_198 : decode cX2_apply 198 = .ok (.iload_n 1, 1) := by decide +kernel
theorem dX2_apply_199 : decode cX2_apply 199 = .ok (.iload_n 3, 1) := by decide +kernel
theorem dX2_apply_200 : decode cX2_apply 200 = .ok (.aload_n 0, 1) := by decide +kernel
theorem dX2_apply_201 : decode cX2_apply 201 = .ok (.getfield 13, 3) := by decide +kernel
theorem dX2_apply_204 : decode cX2_apply 204 = .ok (.getfield 32, 3) := by decide +kernel
theorem dX2_apply_207 : decode cX2_apply 207 = .ok (.iload_n 3, 1) := by decide +kernel
theorem dX2_apply_208 : decode cX2_apply 208 = .ok (.iaload, 1) := by decide +kernel
theorem dX2_apply_209 : decode cX2_apply 209 = .ok (.aload_n 0, 1) := by decide +kernel
theorem dX2_apply_210 : decode cX2_apply 210 = .ok (.getfield 13, 3) := by decide +kernel
theorem dX2_apply_213 : decode cX2_apply 213 = .ok (.getfield 32, 3) := by decide +kernel
theorem dX2_apply_216 : decode cX2_apply 216 = .ok (.iload_n 1, 1) := by decide +kernel
theorem dX2_apply_217 : decode cX2_apply 217 = .ok (.iaload, 1) := by decide +kernel
theorem dX2_apply_218 : decode cX2_apply 218 = .ok (.iand, 1) := by decide +kernel
theorem dX2_apply_219 : decode cX2_apply 219 = .ok (.invokevirtual 95, 3) := by decide +kernel
theorem dX2_apply_222 : decode cX2_apply 222 = .ok (.goto 116, 3) := by decide +kernel
theorem dX2_apply_225 : decode cX2_apply 225 = .ok (.aload_n 0, 1) := by decide +kernel
theorem dX2_apply_226 : decode cX2_apply 226 = .ok (.iload_n 1, 1) := by decide +kernel
theorem dX2_apply_227 : decode cX2_apply 227 = .ok (.iload_n 3, 1) := by decide +kernel
theorem dX2_apply_228 : decode cX2_apply 228 = .ok (.aload_n 0, 1) := by decide +kernel
theorem dX2_apply_229 : decode cX2_apply 229 = .ok (.getfield 13, 3) := by decide +kernel
theorem dX2_apply_232 : decode cX2_apply 232 = .ok (.getfield 32, 3) := by decide +kernel
theorem dX2_apply_235 : decode cX2_apply 235 = .ok (.iload_n 3, 1) := by decide +kernel
theorem dX2_apply_236 : decode cX2_apply 236 = .ok (.iaload, 1) := by decide +kernel
theorem dX2_apply_237 : decode cX2_apply 237 = .ok (.aload_n 0, 1) := by decide +kernel
theorem dX2_apply_238 : decode cX2_apply 238 = .ok (.getfield 13, 3) := by decide +kernel
theorem dX2_apply_241 : decode cX2_apply 241 = .ok (.getfield 32, 3) := by decide +kernel
theorem dX2_apply_244 : decode cX2_apply 244 = .ok (.iload_n 1, 1) := by decide +kernel
theorem dX2_apply_245 : decode cX2_apply 245 = .ok (.iaload, 1) := by decide +kernel
theorem dX2_apply_246 : decode cX2_apply 246 = .ok (.invokestatic 99, 3) := by decide +kernel
theorem dX2_apply_249 : decode cX2_apply 249 = .ok (.invokevirtual 95, 3) := by decide +kernel
theorem dX2_apply_252 : decode cX2_apply 252 = .ok (.goto 86, 3) := by decide +kernel
theorem dX2_apply_255 : decode cX2_apply 255 = .ok (.aload_n 0, 1) := by decide +kernel
theorem dX2_apply_256 : decode cX2_apply 256 = .ok (.iload_n 1, 1) := by decide +kernel
theorem dX2_apply_257 : decode cX2_apply 257 = .ok (.iload_n 3, 1) := by decide +kernel
theorem dX2_apply_258 : decode cX2_apply 258 = .ok (.aload_n 0, 1) := by decide +kernel
theorem dX2_apply_259 : decode cX2_apply 259 = .ok (.getfield 13, 3) := by decide +kernel
theorem dX2_apply_262 : decode cX2_apply 262 = .ok (.getfield 32, 3) := by decide +kernel
theorem dX2_apply_265 : decode cX2_apply 265 = .ok (.iload_n 1, 1) := by decide +kernel
theorem dX2_apply_266 : decode cX2_apply 266 = .ok (.iaload, 1) := by decide +kernel
theorem dX2_apply_267 : decode cX2_apply 267 = .ok (.invokevirtual 95, 3) := by decide +kernel
theorem dX2_apply_270 : decode cX2_apply 270 = .ok (.goto 68, 3) := by decide +kernel
theorem dX2_apply_273 : decode cX2_apply 273 = .ok (.aload_n 0, 1) := by decide +kernel
theorem dX2_apply_274 : decode cX2_apply 274 = .ok (.iload_n 1, 1) := by decide +kernel
theorem dX2_apply_275 : decode cX2_apply 275 = .ok (.aload_n 0, 1) := by decide +kernel
theorem dX2_apply_276 : decode cX2_apply 276 = .ok (.iload_n 1, 1) := by decide +kernel
theorem dX2_apply_277 : decode cX2_apply 277 = .ok (.aload_n 0, 1) := by decide +kernel
theorem dX2_apply_278 : decode cX2_apply 278 = .ok (.getfield 13, 3) := by decide +kernel
theorem dX2_apply_281 : decode cX2_apply 281 = .ok (.getfield 26, 3) := by decide +kernel
theorem dX2_apply_284 : decode cX2_apply 284 = .ok (.iload_n 3, 1) := by decide +kernel
theorem dX2_apply_285 : decode cX2_apply 285 = .ok (.iaload, 1) := by decide +kernel
theorem dX2_apply_286 : decode cX2_apply 286 = .ok (.invokevirtual 83, 3) := by decide +kernel
theorem dX2_apply_289 : decode cX2_apply 289 = .ok (.aload_n 0, 1) := by decide +kernel
theorem dX2_apply_290 : decode cX2_apply 290 = .ok (.iload_n 1, 1) := by decide +kernel
theorem dX2_apply_291 : decode cX2_apply 291 = .ok (.aload_n 0, 1) := by decide +kernel
theorem dX2_apply_292 : decode cX2_apply 292 = .ok (.getfield 13, 3) := by decide +kernel
theorem dX2_apply_295 : decode cX2_apply 295 = .ok (.getfield 64, 3) := by decide +kernel
theorem dX2_apply_298 : decode cX2_apply 298 = .ok (.iload_n 3, 1) := by decide +kernel
theorem dX2_apply_299 : decode cX2_apply 299 = .ok (.iaload, 1) := by decide +kernel
theorem dX2_apply_300 : decode cX2_apply 300 = .ok (.invokevirtual 83, 3) := by decide +kernel
theorem dX2_apply_303 : decode cX2_apply 303 = .ok (.invokevirtual 104, 3) := by decide +kernel
theorem dX2_apply_306 : decode cX2_apply 306 = .ok (.goto 32, 3) := by decide +kernel
theorem dX2_apply_309 : decode cX2_apply 309 = .ok (.aload_n 0, 1) := by decide +kernel
theorem dX2_apply_310 : decode cX2_apply 310 = .ok (.iload_n 1, 1) := by decide +kernel
theorem dX2_apply_311 : decode cX2_apply 311 = .ok (.iload_n 3, 1) := by decide +kernel
theorem dX2_apply_312 : decode cX2_apply 312 = .ok (.aload_n 0, 1) := by decide +kernel
theorem dX2_apply_313 : decode cX2_apply 313 = .ok (.iload_n 1, 1) := by decide +kernel
theorem dX2_apply_314 : decode cX2_apply 314 = .ok (.aload_n 0, 1) := by decide +kernel
theorem dX2_apply_315 : decode cX2_apply 315 = .ok (.getfield 13, 3) := by decide +kernel
theorem dX2_apply_318 : decode cX2_apply 318 = .ok (.getfield 26, 3) := by decide +kernel
theorem dX2_apply_321 : decode cX2_apply 321 = .ok (.iload_n 3, 1) := by decide +kernel
theorem dX2_apply_322 : decode cX2_apply 322 = .ok (.iaload, 1) := by decide +kernel
theorem dX2_apply_323 : decode cX2_apply 323 = .ok (.invokevirtual 83, 3) := by decide +kernel
theorem dX2_apply_326 : decode cX2_apply 326 = .ok (.aload_n 0, 1) := by decide +kernel
theorem dX2_apply_327 : decode cX2_apply 327 = .ok (.getfield 13, 3) := by decide +kernel
theorem dX2_apply_330 : decode cX2_apply 330 = .ok (.getfield 64, 3) := by decide +kernel
theorem dX2_apply_333 : decode cX2_apply 333 = .ok (.iload_n 3, 1) := by decide +kernel
theorem dX2_apply_334 : decode cX2_apply 334 = .ok (.iaload, 1) := by decide +kernel
theorem dX2_apply_335 : decode cX2_apply 335 = .ok (.invokevirtual 87, 3) := by decide +kernel
theorem dX2_apply_338 : decode cX2_apply 338 = .ok (.return_, 1) := by decide +kernel
theorem dX2_exchange_0 : decode cX2_exchange 0 = .ok (.aload_n 0, 1) := by decide +kernel
theorem dX2_exchange_1 : decode cX2_exchange 1 = .ok (.getfield 13, 3) := by decide +kernel
theorem dX2_exchange_4 : decode cX2_exchange 4 = .ok (.iload_n 1, 1) := by decide +kernel
theorem dX2_exchange_5 : decode cX2_exchange 5 = .ok (.aload_n 0, 1) := by decide +kernel
theorem dX2_exchange_6 : decode cX2_exchange 6 = .ok (.getfield 13, 3) := by decide +kernel
theorem dX2_exchange_9 : decode cX2_exchange 9 = .ok (.getfield 17, 3) := by decide +kernel
theorem dX2_exchange_12 : decode cX2_exchange 12 = .ok (.iload_n 2, 1) := by decide +kernel
theorem dX2_exchange_13 : decode cX2_exchange 13 = .ok (.iaload, 1) := by decide +kernel
theorem dX2_exchange_14 : decode cX2_exchange 14 = .ok (.iload_n 3, 1) := by decide +kernel
theorem dX2_exchange_15 : decode cX2_exchange 15 = .ok (.iload 4, 2) := by decide +kernel
theorem dX2_exchange_17 : decode cX2_exchange 17 = .ok (.aload_n 0, 1) := by decide +kernel
theorem dX2_exchange_18 : decode cX2_exchange 18 = .ok (.getfield 13, 3) := by decide +kernel
theorem dX2_exchange_21 : decode cX2_exchange 21 = .ok (.getfield 51, 3) := by decide +kernel
theorem dX2_exchange_24 : decode cX2_exchange 24 = .ok (.iload_n 2, 1) := by decide +kernel
theorem dX2_exchange_25 : decode cX2_exchange 25 = .ok (.iaload, 1) := by decide +kernel
theorem dX2_exchange_26 : decode cX2_exchange 26 = .ok (.aload_n 0, 1) := by decide +kernel
theorem dX2_exchange_27 : decode cX2_exchange 27 = .ok (.getfield 13, 3) := by decide +kernel
theorem dX2_exchange_30 : decode cX2_exchange 30 = .ok (.getfield 32, 3) := by decide +kernel
theorem dX2_exchange_33 : decode cX2_exchange 33 = .ok (.iload_n 2, 1) := by decide +kernel
theorem dX2_exchange_34 : decode cX2_exchange 34 = .ok (.iaload, 1) := by decide +kernel
theorem dX2_exchange_35 : decode cX2_exchange 35 = .ok (.invokevirtual 107, 3) := by decide +kernel
theorem dX2_exchange_38 : decode cX2_exchange 38 = .ok (.return_, 1) := by decide +kernel
theorem dX2_skip_0 : decode cX2_skip 0 = .ok (.aload_n 0, 1) := by decide +kernel
theorem dX2_skip_1 : decode cX2_skip 1 = .ok (.getfield 13, 3) := by decide +kernel
theorem dX2_skip_4 : decode cX2_skip 4 = .ok (.iload_n 1, 1) := by decide +kernel
theorem dX2_skip_5 : decode cX2_skip 5 = .ok (.aload_n 0, 1) := by decide +kernel
theorem dX2_skip_6 : decode cX2_skip 6 = .ok (.getfield 13, 3) := by decide +kernel
theorem dX2_skip_9 : decode cX2_skip 9 = .ok (.getfield 17, 3) := by decide +kernel
theorem dX2_skip_12 : decode cX2_skip 12 = .ok (.iload_n 1, 1) := by decide +kernel
theorem dX2_skip_13 : decode cX2_skip 13 = .ok (.iaload, 1) := by decide +kernel
theorem dX2_skip_14 : decode cX2_skip 14 = .ok (.aload_n 0, 1) := by decide +kernel
theorem dX2_skip_15 : decode cX2_skip 15 = .ok (.getfield 13, 3) := by decide +kernel
theorem dX2_skip_18 : decode cX2_skip 18 = .ok (.getfield 26, 3) := by decide +kernel
theorem dX2_skip_21 : decode cX2_skip 21 = .ok (.iload_n 2, 1) := by decide +kernel
theorem dX2_skip_22 : decode cX2_skip 22 = .ok (.iaload, 1) := by decide +kernel
theorem dX2_skip_23 : decode cX2_skip 23 = .ok (.iconst 0, 1) := by decide +kernel
theorem dX2_skip_24 : decode cX2_skip 24 = .ok (.aload_n 0, 1) := by decide +kernel
theorem dX2_skip_25 : decode cX2_skip 25 = .ok (.getfield 13, 3) := by decide +kernel
theorem dX2_skip_28 : decode cX2_skip 28 = .ok (.getfield 51, 3) := by decide +kernel
theorem dX2_skip_31 : decode cX2_skip 31 = .ok (.iload_n 1, 1) := by decide +kernel
theorem dX2_skip_32 : decode cX2_skip 32 = .ok (.iaload, 1) := by decide +kernel
theorem dX2_skip_33 : decode cX2_skip 33 = .ok (.iload_n 3, 1) := by decide +kernel
theorem dX2_skip_34 : decode cX2_skip 34 = .ok (.invokevirtual 107, 3) := by decide +kernel
theorem dX2_skip_37 : decode cX2_skip 37 = .ok (.return_, 1) := by decide +kernel
theorem dX2_workAbove_0 : decode cX2_workAbove 0 = .ok (.aload_n 0, 1) := by decide +kernel
theorem dX2_workAbove_1 : decode cX2_workAbove 1 = .ok (.getfield 13, 3) := by decide +kernel
theorem dX2_workAbove_4 : decode cX2_workAbove 4 = .ok (.iconst 5, 1) := by decide +kernel
theorem dX2_workAbove_5 : decode cX2_workAbove 5 = .ok (.iload_n 2, 1) := by decide +kernel
theorem dX2_workAbove_6 : decode cX2_workAbove 6 = .ok (.iload_n 3, 1) := by decide +kernel
theorem dX2_workAbove_7 : decode cX2_workAbove 7 = .ok (.iconst 0, 1) := by decide +kernel
theorem dX2_workAbove_8 : decode cX2_workAbove 8 = .ok (.iconst 0, 1) := by decide +kernel
theorem dX2_workAbove_9 : decode cX2_workAbove 9 = .ok (.invokevirtual 111, 3) := by decide +kernel
theorem dX2_workAbove_12 : decode cX2_workAbove 12 = .ok (.istore 4, 2) := by decide +kernel
theorem dX2_workAbove_14 : decode cX2_workAbove 14 = .ok (.aload_n 0, 1) := by decide +kernel
theorem dX2_workAbove_15 : decode cX2_workAbove 15 = .ok (.getfield 13, 3) := by decide +kernel
theorem dX2_workAbove_18 : decode cX2_workAbove 18 = .ok (.iload_n 1, 1) := by decide +kernel
theorem dX2_workAbove_19 : decode cX2_workAbove 19 = .ok (.aload_n 0, 1) := by decide +kernel
theorem dX2_workAbove_20 : decode cX2_workAbove 20 = .ok (.getfield 13, 3) := by decide +kernel
theorem dX2_workAbove_23 : decode cX2_workAbove 23 = .ok (.getfield 17, 3) := by decide +kernel
theorem dX2_workAbove_26 : decode cX2_workAbove 26 = .ok (.iload_n 1, 1) := by decide +kernel
theorem dX2_workAbove_27 : decode cX2_workAbove 27 = .ok (.iaload, 1) := by decide +kernel
theorem dX2_workAbove_28 : decode cX2_workAbove 28 = .ok (.iload 4, 2) := by decide +kernel
theorem dX2_workAbove_30 : decode cX2_workAbove 30 = .ok (.iconst 0, 1) := by decide +kernel
theorem dX2_workAbove_31 : decode cX2_workAbove 31 = .ok (.aload_n 0, 1) := by decide +kernel
theorem dX2_workAbove_32 : decode cX2_workAbove 32 = .ok (.getfield 13, 3) := by decide +kernel
theorem dX2_workAbove_35 : decode cX2_workAbove 35 = .ok (.getfield 51, 3) := by decide +kernel
theorem dX2_workAbove_38 : decode cX2_workAbove 38 = .ok (.iload_n 1, 1) := by decide +kernel
theorem dX2_workAbove_39 : decode cX2_workAbove 39 = .ok (.iaload, 1) := by decide +kernel
theorem dX2_workAbove_40 : decode cX2_workAbove 40 = .ok (.aload_n 0, 1) := by decide +kernel
theorem dX2_workAbove_41 : decode cX2_workAbove 41 = .ok (.getfield 13, 3) := by decide +kernel
theorem dX2_workAbove_44 : decode cX2_workAbove 44 = .ok (.getfield 32, 3) := by decide +kernel
theorem dX2_workAbove_47 : decode cX2_workAbove 47 = .ok (.iload_n 1, 1) := by decide +kernel
theorem dX2_workAbove_48 : decode cX2_workAbove 48 = .ok (.iaload, 1) := by decide +kernel
theorem dX2_workAbove_49 : decode cX2_workAbove 49 = .ok (.invokevirtual 107, 3) := by decide +kernel
theorem dX2_workAbove_52 : decode cX2_workAbove 52 = .ok (.return_, 1) := by decide +kernel
theorem dX2_addLike_0 : decode cX2_addLike 0 = .ok (.aload_n 0, 1) := by decide +kernel
theorem dX2_addLike_1 : decode cX2_addLike 1 = .ok (.getfield 13, 3) := by decide +kernel
theorem dX2_addLike_4 : decode cX2_addLike 4 = .ok (.aload_n 0, 1) := by decide +kernel
theorem dX2_addLike_5 : decode cX2_addLike 5 = .ok (.getfield 13, 3) := by decide +kernel
theorem dX2_addLike_8 : decode cX2_addLike 8 = .ok (.getfield 17, 3) := by decide +kernel
theorem dX2_addLike_11 : decode cX2_addLike 11 = .ok (.iload_n 1, 1) := by decide +kernel
theorem dX2_addLike_12 : decode cX2_addLike 12 = .ok (.iaload, 1) := by decide +kernel
theorem dX2_addLike_13 : decode cX2_addLike 13 = .ok (.iload_n 2, 1) := by decide +kernel
theorem dX2_addLike_14 : decode cX2_addLike 14 = .ok (.iconst 0, 1) := by decide +kernel
theorem dX2_addLike_15 : decode cX2_addLike 15 = .ok (.aload_n 0, 1) := by decide +kernel
theorem dX2_addLike_16 : decode cX2_addLike 16 = .ok (.getfield 13, 3) := by decide +kernel
theorem dX2_addLike_19 : decode cX2_addLike 19 = .ok (.getfield 51, 3) := by decide +kernel
theorem dX2_addLike_22 : decode cX2_addLike 22 = .ok (.iload_n 1, 1) := by decide +kernel
theorem dX2_addLike_23 : decode cX2_addLike 23 = .ok (.iaload, 1) := by decide +kernel
theorem dX2_addLike_24 : decode cX2_addLike 24 = .ok (.aload_n 0, 1) := by decide +kernel
theorem dX2_addLike_25 : decode cX2_addLike 25 = .ok (.getfield 13, 3) := by decide +kernel
theorem dX2_addLike_28 : decode cX2_addLike 28 = .ok (.getfield 32, 3) := by decide +kernel
theorem dX2_addLike_31 : decode cX2_addLike 31 = .ok (.iload_n 1, 1) := by decide +kernel
theorem dX2_addLike_32 : decode cX2_addLike 32 = .ok (.iaload, 1) := by decide +kernel
theorem dX2_addLike_33 : decode cX2_addLike 33 = .ok (.invokevirtual 111, 3) := by decide +kernel
theorem dX2_addLike_36 : decode cX2_addLike 36 = .ok (.ireturn, 1) := by decide +kernel
theorem dX2_leastNode_0 : decode cX2_leastNode 0 = .ok (.aload_n 0, 1) := by decide +kernel
theorem dX2_leastNode_1 : decode cX2_leastNode 1 = .ok (.getfield 13, 3) := by decide +kernel
theorem dX2_leastNode_4 : decode cX2_leastNode 4 = .ok (.iload_n 1, 1) := by decide +kernel
theorem dX2_leastNode_5 : decode cX2_leastNode 5 = .ok (.invokevirtual 114, 3) := by decide +kernel
theorem dX2_leastNode_8 : decode cX2_leastNode 8 = .ok (.pop, 1) := by decide +kernel
theorem dX2_leastNode_9 : decode cX2_leastNode 9 = .ok (.iconst 0, 1) := by decide +kernel
theorem dX2_leastNode_10 : decode cX2_leastNode 10 = .ok (.istore_n 2, 1) := by decide +kernel
theorem dX2_leastNode_11 : decode cX2_leastNode 11 = .ok (.iload_n 2, 1) := by decide +kernel
theorem dX2_leastNode_12 : decode cX2_leastNode 12 = .ok (.aload_n 0, 1) := by decide +kernel
theorem dX2_leastNode_13 : decode cX2_leastNode 13 = .ok (.getfield 13, 3) := by decide +kernel
theorem dX2_leastNode_16 : decode cX2_leastNode 16 = .ok (.getfield 118, 3) := by decide +kernel
theorem dX2_leastNode_19 : decode cX2_leastNode 19 = .ok (.if_icmp .ge 30, 3) := by decide +kernel
theorem dX2_leastNode_22 : decode cX2_leastNode 22 = .ok (.aload_n 0, 1) := by decide +kernel
theorem dX2_leastNode_23 : decode cX2_leastNode 23 = .ok (.getfield 13, 3) := by decide +kernel
theorem dX2_leastNode_26 : decode cX2_leastNode 26 = .ok (.iload_n 2, 1) := by decide +kernel
theorem dX2_leastNode_27 : decode cX2_leastNode 27 = .ok (.invokevirtual 121, 3) := by decide +kernel
theorem dX2_leastNode_30 : decode cX2_leastNode 30 = .ok (.ifCond .eq 13, 3) := by decide +kernel
theorem dX2_leastNode_33 : decode cX2_leastNode 33 = .ok (.aload_n 0, 1) := by decide +kernel
theorem dX2_leastNode_34 : decode cX2_leastNode 34 = .ok (.iload_n 2, 1) := by decide +kernel
theorem dX2_leastNode_35 : decode cX2_leastNode 35 = .ok (.invokevirtual 124, 3) := by decide +kernel
theorem dX2_leastNode_38 : decode cX2_leastNode 38 = .ok (.ifCond .lt 5, 3) := by decide +kernel
theorem dX2_leastNode_41 : decode cX2_leastNode 41 = .ok (.iload_n 2, 1) := by decide +kernel
theorem dX2_leastNode_42 : decode cX2_leastNode 42 = .ok (.ireturn, 1) := by decide +kernel
theorem dX2_leastNode_43 : decode cX2_leastNode 43 = .ok (.iinc 2 1, 3) := by decide +kernel
theorem dX2_leastNode_46 : decode cX2_leastNode 46 = .ok (.goto (-35), 3) := by decide +kernel
theorem dX2_leastNode_49 : decode cX2_leastNode 49 = .ok (.iconst (-1), 1) := by decide +kernel
theorem dX2_leastNode_50 : decode cX2_leastNode 50 = .ok (.ireturn, 1) := by decide +kernel
theorem dX2_leastRule_0 : decode cX2_leastRule 0 = .ok (.iconst 0, 1) := by decide +kernel
theorem dX2_leastRule_1 : decode cX2_leastRule 1 = .ok (.istore_n 2, 1) := by decide +kernel
theorem dX2_leastRule_2 : decode cX2_leastRule 2 = .ok (.iload_n 2, 1) := by decide +kernel
theorem dX2_leastRule_3 : decode cX2_leastRule 3 = .ok (.bipush 18, 2) := by decide +kernel
theorem dX2_leastRule_5 : decode cX2_leastRule 5 = .ok (.if_icmp .ge 20, 3) := by decide +kernel
theorem dX2_leastRule_8 : decode cX2_leastRule 8 = .ok (.aload_n 0, 1) := by decide +kernel
theorem dX2_leastRule_9 : decode cX2_leastRule 9 = .ok (.iload_n 1, 1) := by decide +kernel
theorem dX2_leastRule_10 : decode cX2_leastRule 10 = .ok (.iload_n 2, 1) := by decide +kernel
theorem dX2_leastRule_11 : decode cX2_leastRule 11 = .ok (.invokevirtual 127, 3) := by decide +kernel
theorem dX2_leastRule_14 : decode cX2_leastRule 14 = .ok (.ifCond .eq 5, 3) := by decide +kernel
theorem dX2_leastRule_17 : decode cX2_leastRule 17 = .ok (.iload_n 2, 1) := by decide +kernel
theorem dX2_leastRule_18 : decode cX2_leastRule 18 = .ok (.ireturn, 1) := by decide +kernel
theorem dX2_leastRule_19 : decode cX2_leastRule 19 = .ok (.iinc 2 1, 3) := by decide +kernel
theorem dX2_leastRule_22 : decode cX2_leastRule 22 = .ok (.goto (-20), 3) := by decide +kernel
theorem dX2_leastRule_25 : decode cX2_leastRule 25 = .ok (.iconst (-1), 1) := by decide +kernel
theorem dX2_leastRule_26 : decode cX2_leastRule 26 = .ok (.ireturn, 1) := by decide +kernel
end
section
theorem dX3_init_0 : decode cX3_init 0 = .ok (.aload_n 0, 1) := by decide +kernel
theorem dX3_init_1 : decode cX3_init 1 = .ok (.invokespecial 5, 3) := by decide +kernel
theorem dX3_init_4 : decode cX3_init 4 = .ok (.aload_n 0, 1) := by decide +kernel
theorem dX3_init_5 : decode cX3_init 5 = .ok (.bipush 120, 2) := by decide +kernel
theorem dX3_init_7 : decode cX3_init 7 = .ok (.newarray .int, 2) := by decide +kernel
theorem dX3_init_9 : decode cX3_init 9 = .ok (.putfield 13, 3) := by decide +kernel
theorem dX3_init_12 : decode cX3_init 12 = .ok (.aload_n 0, 1) := by decide +kernel
theorem dX3_init_13 : decode cX3_init 13 = .ok (.bipush 60, 2) := by decide +kernel
theorem dX3_init_15 : decode cX3_init 15 = .ok (.newarray .int, 2) := by decide +kernel
theorem dX3_init_17 : decode cX3_init 17 = .ok (.putfield 17, 3) := by decide +kernel
theorem dX3_init_20 : decode cX3_init 20 = .ok (.aload_n 0, 1) := by decide +kernel
theorem dX3_init_21 : decode cX3_init 21 = .ok (.bipush 60, 2) := by decide +kernel
theorem dX3_init_23 : decode cX3_init 23 = .ok (.newarray .int, 2) := by decide +kernel
theorem dX3_init_25 : decode cX3_init 25 = .ok (.putfield 20, 3) := by decide +kernel
theorem dX3_init_28 : decode cX3_init 28 = .ok (.aload_n 0, 1) := by decide +kernel
theorem dX3_init_29 : decode cX3_init 29 = .ok (.iconst (-1), 1) := by decide +kernel
theorem dX3_init_30 : decode cX3_init 30 = .ok (.putfield 23, 3) := by decide +kernel
theorem dX3_init_33 : decode cX3_init 33 = .ok (.aload_n 0, 1) := by decide +kernel
theorem dX3_init_34 : decode cX3_init 34 = .ok (.aload_n 1, 1) := by decide +kernel
theorem dX3_init_35 : decode cX3_init 35 = .ok (.putfield 27, 3) := by decide +kernel
theorem dX3_init_38 : decode cX3_init 38 = .ok (.aload_n 0, 1) := by decide +kernel
theorem dX3_init_39 : decode cX3_init 39 = .ok (.aload_n 2, 1) := by decide +kernel
theorem dX3_init_40 : decode cX3_init 40 = .ok (.putfield 31, 3) := by decide +kernel
theorem dX3_init_43 : decode cX3_init 43 = .ok (.aload_n 0, 1) := by decide +kernel
theorem dX3_init_44 : decode cX3_init 44 = .ok (.aload_n 3, 1) := by decide +kernel
theorem dX3_init_45 : decode cX3_init 45 = .ok (.putfield 35, 3) := by decide +kernel
theorem dX3_init_48 : decode cX3_init 48 = .ok (.return_, 1) := by decide +kernel
theorem dX3_give_0 : decode cX3_give 0 = .ok (.aload_n 0, 1) := by decide +kernel
theorem dX3_give_1 : decode cX3_give 1 = .ok (.iconst 0, 1) := by decide +kernel
theorem dX3_give_2 : decode cX3_give 2 = .ok (.putfield 39, 3) := by decide +kernel
theorem dX3_give_5 : decode cX3_give 5 = .ok (.aload_n 0, 1) := by decide +kernel
theorem dX3_give_6 : decode cX3_give 6 = .ok (.iconst 0, 1) := by decide +kernel
theorem dX3_give_7 : decode cX3_give 7 = .ok (.putfield 42, 3) := by decide +kernel
theorem dX3_give_10 : decode cX3_give 10 = .ok (.aload_n 0, 1) := by decide +kernel
theorem dX3_give_11 : decode cX3_give 11 = .ok (.iconst 0, 1) := by decide +kernel
theorem dX3_give_12 : decode cX3_give 12 = .ok (.putfield 45, 3) := by decide +kernel
theorem dX3_give_15 : decode cX3_give 15 = .ok (.aload_n 0, 1) := by decide +kernel
theorem dX3_give_16 : decode cX3_give 16 = .ok (.iconst 0, 1) := by decide +kernel
theorem dX3_give_17 : decode cX3_give 17 = .ok (.putfield 48, 3) := by decide +kernel
theorem dX3_give_20 : decode cX3_give 20 = .ok (.aload_n 0, 1) := by decide +kernel
theorem dX3_give_21 : decode cX3_give 21 = .ok (.iconst (-1), 1) := by decide +kernel
theorem dX3_give_22 : decode cX3_give 22 = .ok (.putfield 23, 3) := by decide +kernel
theorem dX3_give_25 : decode cX3_give 25 = .ok (.aload_n 0, 1) := by decide +kernel
theorem dX3_give_26 : decode cX3_give 26 = .ok (.getfield 35, 3) := by decide +kernel
theorem dX3_give_29 : decode cX3_give 29 = .ok (.iload_n 1, 1) := by decide +kernel
theorem dX3_give_30 : decode cX3_give 30 = .ok (.invokevirtual 51, 3) := by decide +kernel
theorem dX3_give_33 : decode cX3_give 33 = .ok (.istore_n 2, 1) := by decide +kernel
theorem dX3_give_34 : decode cX3_give 34 = .ok (.iconst 0, 1) := by decide +kernel
theorem dX3_give_35 : decode cX3_give 35 = .ok (.istore_n 3, 1) := by decide +kernel
theorem dX3_give_36 : decode cX3_give 36 = .ok (.iload_n 3, 1) := by decide +kernel
theorem dX3_give_37 : decode cX3_give 37 = .ok (.iload_n 2, 1) := by decide +kernel
theorem dX3_give_38 : decode cX3_give 38 = .ok (.if_icmp .ge 82, 3) := by decide +kernel
theorem dX3_give_41 : decode cX3_give 41 = .ok (.aload_n 0, 1) := by decide +kernel
theorem dX3_give_42 : decode cX3_give 42 = .ok (.getfield 42, 3) := by decide +kernel
theorem dX3_give_45 : decode cX3_give 45 = .ok (.ifCond .ne 75, 3) := by decide +kernel
theorem dX3_give_48 : decode cX3_give 48 = .ok (.aload_n 0, 1) := by decide +kernel
theorem dX3_give_49 : decode cX3_give 49 = .ok (.getfield 35, 3) := by decide +kernel
theorem dX3_give_52 : decode cX3_give 52 = .ok (.getfield 55, 3) := by decide +kernel
theorem dX3_give_55 : decode cX3_give 55 = .ok (.iload_n 3, 1) := by decide +kernel
theorem dX3_give_56 : decode cX3_give 56 = .ok (.iaload, 1) := by decide +kernel
theorem dX3_give_57 : decode cX3_give 57 = .ok (.istore 4, 2) := by decide +kernel
theorem dX3_give_59 : decode cX3_give 59 = .ok (.aload_n 0, 1) := by decide +kernel
theorem dX3_give_60 : decode cX3_give 60 = .ok (.dup, 1) := by decide +kernel
theorem dX3_give_61 : decode cX3_give 61 = .ok (.getfield 48, 3) := by decide +kernel
theorem dX3_give_64 : decode cX3_give 64 = .ok (.iconst 1, 1) := by decide +kernel
theorem dX3_give_65 : decode cX3_give 65 = .ok (.iadd, 1) := by decide +kernel
theorem dX3_give_66 : decode cX3_give 66 = .ok (.putfield 48, 3) := by decide +kernel
theorem dX3_give_69 : decode cX3_give 69 = .ok (.aload_n 0, 1) := by decide +kernel
theorem dX3_give_70 : decode cX3_give 70 = .ok (.getfield 17, 3) := by decide +kernel
theorem dX3_give_73 : decode cX3_give 73 = .ok (.iload 4, 2) := by decide +kernel
theorem dX3_give_75 : decode cX3_give 75 = .ok (.aload_n 0, 1) := by decide +kernel
theorem dX3_give_76 : decode cX3_give 76 = .ok (.getfield 39, 3) := by decide +kernel
theorem dX3_give_79 : decode cX3_give 79 = .ok (.iastore, 1) := by decide +kernel
theorem dX3_give_80 : decode cX3_give 80 = .ok (.aload_n 0, 1) := by decide +kernel
theorem dX3_give_81 : decode cX3_give 81 = .ok (.iload 4, 2) := by decide +kernel
theorem dX3_give_83 : decode cX3_give 83 = .ok (.invokevirtual 58, 3) := by decide +kernel
theorem dX3_give_86 : decode cX3_give 86 = .ok (.aload_n 0, 1) := by decide +kernel
theorem dX3_give_87 : decode cX3_give 87 = .ok (.getfield 20, 3) := by decide +kernel
theorem dX3_give_90 : decode cX3_give 90 = .ok (.iload 4, 2) := by decide +kernel
theorem dX3_give_92 : decode cX3_give 92 = .ok (.aload_n 0, 1) := by decide +kernel
theorem dX3_give_93 : decode cX3_give 93 = .ok (.getfield 39, 3) := by decide +kernel
theorem dX3_give_96 : decode cX3_give 96 = .ok (.iastore, 1) := by decide +kernel
theorem dX3_give_97 : decode cX3_give 97 = .ok (.aload_n 0, 1) := by decide +kernel
theorem dX3_give_98 : decode cX3_give 98 = .ok (.aload_n 0, 1) := by decide +kernel
theorem dX3_give_99 : decode cX3_give 99 = .ok (.getfield 42, 3) := by decide +kernel
theorem dX3_give_102 : decode cX3_give 102 = .ok (.ifCond .ne 7, 3) := by decide +kernel
theorem dX3_give_105 : decode cX3_give 105 = .ok (.iconst (-1), 1) := by decide +kernel
theorem dX3_give_106 : decode cX3_give 106 = .ok (.goto 5, 3) := by decide +kernel
theorem dX3_give_109 : decode cX3_give 109 = .ok (.iload 4, 2) := by decide +kernel
theorem dX3_give_111 : decode cX3_give 111 = .ok (.putfield 23, 3) := by decide +kernel
theorem dX3_give_114 : decode cX3_give 114 = .ok (.iinc 3 1, 3) := by decide +kernel
theorem dX3_give_117 : decode cX3_give 117 = .ok (.goto (-81), 3) := by decide +kernel
theorem dX3_give_120 : decode cX3_give 120 = .ok (.aload_n 0, 1) := by decide +kernel
theorem dX3_give_121 : decode cX3_give 121 = .ok (.aload_n 0, 1) := by decide +kernel
theorem dX3_give_122 : decode cX3_give 122 = .ok (.getfield 17, 3) := by decide +kernel
theorem dX3_give_125 : decode cX3_give 125 = .ok (.iload_n 1, 1) := by decide +kernel
theorem dX3_give_126 : decode cX3_give 126 = .ok (.iaload, 1) := by decide +kernel
theorem dX3_give_127 : decode cX3_give 127 = .ok (.putfield 62, 3) := by decide +kernel
theorem dX3_give_130 : decode cX3_give 130 = .ok (.aload_n 0, 1) := by decide +kernel
theorem dX3_give_131 : decode cX3_give 131 = .ok (.aload_n 0, 1) := by decide +kernel
theorem dX3_give_132 : decode cX3_give 132 = .ok (.getfield 42, 3) := by decide +kernel
theorem dX3_give_135 : decode cX3_give 135 = .ok (.ifCond .ne 22, 3) := by decide +kernel
theorem dX3_give_138 : decode cX3_give 138 = .ok (.aload_n 0, 1) := by decide +kernel
theorem dX3_give_139 : decode cX3_give 139 = .ok (.getfield 20, 3) := by decide +kernel
theorem dX3_give_142 : decode cX3_give 142 = .ok (.iload_n 1, 1) := by decide +kernel
theorem dX3_give_143 : decode cX3_give 143 = .ok (.iaload, 1) := by decide +kernel
theorem dX3_give_144 : decode cX3_give 144 = .ok (.aload_n 0, 1) := by decide +kernel
theorem dX3_give_145 : decode cX3_give 145 = .ok (.getfield 17, 3) := by decide +kernel
theorem dX3_give_148 : decode cX3_give 148 = .ok (.iload_n 1, 1) := by decide +kernel
theorem dX3_give_149 : decode cX3_give 149 = .ok (.iaload, 1) := by decide +kernel
theorem dX3_give_150 : decode cX3_give 150 = .ok (.isub, 1) := by decide +kernel
theorem dX3_give_151 : decode cX3_give 151 = .ok (.bipush 6, 2) := by decide +kernel
theorem dX3_give_153 : decode cX3_give 153 = .ok (.idiv, 1) := by decide +kernel
theorem dX3_give_154 : decode cX3_give 154 = .ok (.goto 4, 3) := by decide +kernel
theorem dX3_give_157 : decode cX3_give 157 = .ok (.iconst 0, 1) := by decide +kernel
theorem dX3_give_158 : decode cX3_give 158 = .ok (.putfield 65, 3) := by decide +kernel
theorem dX3_give_161 : decode cX3_give 161 = .ok (.aload_n 0, 1) := by decide +kernel
theorem dX3_give_162 : decode cX3_give 162 = .ok (.getfield 42, 3) := by decide +kernel
theorem dX3_give_165 : decode cX3_give 165 = .ok (.ifCond .ne 10, 3) := by decide +kernel
theorem dX3_give_168 : decode cX3_give 168 = .ok (.aload_n 0, 1) := by decide +kernel
theorem dX3_give_169 : decode cX3_give 169 = .ok (.getfield 65, 3) := by decide +kernel
theorem dX3_give_172 : decode cX3_give 172 = .ok (.goto 10, 3) := by decide +kernel
theorem dX3_give_175 : decode cX3_give 175 = .ok (.bipush (-10), 2) := by decide +kernel
theorem dX3_give_177 : decode cX3_give 177 = .ok (.aload_n 0, 1) := by decide +kernel
theorem dX3_give_178 : decode cX3_give 178 = .ok (.getfield 42, 3) := by decide +kernel
theorem dX3_give_181 : decode cX3_give 181 = .ok (.isub, 1) := by decide +kernel
theorem dX3_give_182 : decode cX3_give 182 = .ok (.ireturn, 1) := by decide +kernel
theorem dX3_given_0 : decode cX3_given 0 = .ok (.iload_n 1, 1) := by decide +kernel
theorem dX3_given_1 : decode cX3_given 1 = .ok (.ifCond .lt 11, 3) := by decide +kernel
theorem dX3_given_4 : decode cX3_given 4 = .ok (.iload_n 1, 1) := by decide +kernel
theorem dX3_given_5 : decode cX3_given 5 = .ok (.aload_n 0, 1) := by decide +kernel
theorem dX3_given_6 : decode cX3_given 6 = .ok (.getfield 65, 3) := by decide +kernel
theorem dX3_given_9 : decode cX3_given 9 = .ok (.if_icmp .lt 5, 3) := by decide +kernel
theorem dX3_given_12 : decode cX3_given 12 = .ok (.iconst 0, 1) := by decide +kernel
theorem dX3_given_13 : decode cX3_given 13 = .ok (.ireturn, 1) := by decide +kernel
theorem dX3_given_14 : decode cX3_given 14 = .ok (.aload_n 0, 1) := by decide +kernel
theorem dX3_given_15 : decode cX3_given 15 = .ok (.getfield 13, 3) := by decide +kernel
theorem dX3_given_18 : decode cX3_given 18 = .ok (.aload_n 0, 1) := by decide +kernel
theorem dX3_given_19 : decode cX3_given 19 = .ok (.getfield 62, 3) := by decide +kernel
theorem dX3_given_22 : decode cX3_given 22 = .ok (.iload_n 1, 1) := by decide +kernel
theorem dX3_given_23 : decode cX3_given 23 = .ok (.bipush 6, 2) := by decide +kernel
theorem dX3_given_25 : decode cX3_given 25 = .ok (.imul, 1) := by decide +kernel
theorem dX3_given_26 : decode cX3_given 26 = .ok (.iadd, 1) := by decide +kernel
theorem dX3_given_27 : decode cX3_given 27 = .ok (.iload_n 2, 1) := by decide +kernel
theorem dX3_given_28 : decode cX3_given 28 = .ok (.iadd, 1) := by decide +kernel
theorem dX3_given_29 : decode cX3_given 29 = .ok (.iaload, 1) := by decide +kernel
theorem dX3_given_30 : decode cX3_given 30 = .ok (.ireturn, 1) := by decide +kernel
theorem dX3_work_0 : decode cX3_work 0 = .ok (.aload_n 0, 1) := by decide +kernel
theorem dX3_work_1 : decode cX3_work 1 = .ok (.getfield 35, 3) := by decide +kernel
theorem dX3_work_4 : decode cX3_work 4 = .ok (.getfield 68, 3) := by decide +kernel
theorem dX3_work_7 : decode cX3_work 7 = .ok (.iload_n 1, 1) := by decide +kernel
theorem dX3_work_8 : decode cX3_work 8 = .ok (.iaload, 1) := by decide +kernel
theorem dX3_work_9 : decode cX3_work 9 = .ok (.istore_n 2, 1) := by decide +kernel
theorem dX3_work_10 : decode cX3_work 10 = .ok (.aload_n 0, 1) := by decide +kernel
theorem dX3_work_11 : decode cX3_work 11 = .ok (.getfield 35, 3) := by decide +kernel
theorem dX3_work_14 : decode cX3_work 14 = .ok (.getfield 71, 3) := by decide +kernel
theorem dX3_work_17 : decode cX3_work 17 = .ok (.iload_n 1, 1) := by decide +kernel
theorem dX3_work_18 : decode cX3_work 18 = .ok (.iaload, 1) := by decide +kernel
theorem dX3_work_19 : decode cX3_work 19 = .ok (.tableswitch 207 0 7 #[45, 53, 70, 96, 113, 148, 173, 199], 45) := by decide +kernel
theorem dX3_work_64 : decode cX3_work 64 = .ok (.aload_n 0, 1) := by decide +kernel
theorem dX3_work_65 : decode cX3_work 65 = .ok (.iload_n 2, 1) := by decide +kernel
theorem dX3_work_66 : decode cX3_work 66 = .ok (.invokevirtual 74, 3) := by decide +kernel
theorem dX3_work_69 : decode cX3_work 69 = .ok (.goto 171, 3) := by decide +kernel
theorem dX3_work_72 : decode cX3_work 72 = .ok (.aload_n 0, 1) := by decide +kernel
theorem dX3_work_73 : decode cX3_work 73 = .ok (.iload_n 2, 1) := by decide +kernel
theorem dX3_work_74 : decode cX3_work 74 = .ok (.aload_n 0, 1) := by decide +kernel
theorem dX3_work_75 : decode cX3_work 75 = .ok (.getfield 35, 3) := by decide +kernel
theorem dX3_work_78 : decode cX3_work 78 = .ok (.getfield 77, 3) := by decide +kernel
theorem dX3_work_81 : decode cX3_work 81 = .ok (.iload_n 1, 1) := by decide +kernel
theorem dX3_work_82 : decode cX3_work 82 = .ok (.iaload, 1) := by decide +kernel
theorem dX3_work_83 : decode cX3_work 83 = .ok (.invokevirtual 80, 3) := by decide +kernel
theorem dX3_work_86 : decode cX3_work 86 = .ok (.goto 154, 3) := by decide +kernel
theorem dX3_work_89 : decode cX3_work 89 = .ok (.aload_n 0, 1) := by decide +kernel
theorem dX3_work_90 : decode cX3_work 90 = .ok (.iload_n 2, 1) := by decide +kernel
theorem dX3_work_91 : decode cX3_work 91 = .ok (.aload_n 0, 1) := by decide +kernel
theorem dX3_work_92 : decode cX3_work 92 = .ok (.getfield 35, 3) := by decide +kernel
theorem dX3_work_95 : decode cX3_work 95 = .ok (.getfield 84, 3) := by decide +kernel
theorem dX3_work_98 : decode cX3_work 98 = .ok (.iload_n 1, 1) := by decide +kernel
theorem dX3_work_99 : decode cX3_work 99 = .ok (.iaload, 1) := by decide +kernel
theorem dX3_work_100 : decode cX3_work 100 = .ok (.aload_n 0, 1) := by decide +kernel
theorem dX3_work_101 : decode cX3_work 101 = .ok (.getfield 35, 3) := by decide +kernel
theorem dX3_work_104 : decode cX3_work 104 = .ok (.getfield 77, 3) := by decide +kernel
theorem dX3_work_107 : decode cX3_work 107 = .ok (.iload_n 1, 1) := by decide +kernel
theorem dX3_work_108 : decode cX3_work 108 = .ok (.iaload, 1) := by decide +kernel
theorem dX3_work_109 : decode cX3_work 109 = .ok (.invokevirtual 87, 3) := by decide +kernel
theorem dX3_work_112 : decode cX3_work 112 = .ok (.goto 128, 3) := by decide +kernel
theorem dX3_work_115 : decode cX3_work 115 = .ok (.aload_n 0, 1) := by decide +kernel
theorem dX3_work_116 : decode cX3_work 116 = .ok (.iload_n 2, 1) := by decide +kernel
theorem dX3_work_117 : decode cX3_work 117 = .ok (.aload_n 0, 1) := by decide +kernel
theorem dX3_work_118 : decode cX3_work 118 = .ok (.getfield 35, 3) := by decide +kernel
theorem dX3_work_121 : decode cX3_work 121 = .ok (.getfield 77, 3) := by decide +kernel
theorem dX3_work_124 : decode cX3_work 124 = .ok (.iload_n 1, 1) := by decide +kernel
theorem dX3_work_125 : decode cX3_work 125 = .ok (.iaload, 1) := by decide +kernel
theorem dX3_work_126 : decode cX3_work 126 = .ok (.invokevirtual 91, 3) := by decide +kernel
theorem dX3_work_129 : decode cX3_work 129 = .ok (.goto 111, 3) := by decide +kernel
theorem dX3_work_132 : decode cX3_work 132 = .ok (.aload_n 0, 1) := by decide +kernel
theorem dX3_work_133 : decode cX3_work 133 = .ok (.iload_n 2, 1) := by decide +kernel
theorem dX3_work_134 : decode cX3_work 134 = .ok (.aload_n 0, 1) := by decide +kernel
theorem dX3_work_135 : decode cX3_work 135 = .ok (.getfield 35, 3) := by decide +kernel
theorem dX3_work_138 : decode cX3_work 138 = .ok (.getfield 94, 3) := by decide +kernel
theorem dX3_work_141 : decode cX3_work 141 = .ok (.iload_n 1, 1) := by decide +kernel
theorem dX3_work_142 : decode cX3_work 142 = .ok (.iaload, 1) := by decide +kernel
theorem dX3_work_143 : decode cX3_work 143 = .ok (.aload_n 0, 1) := by decide +kernel
theorem dX3_work_144 : decode cX3_work 144 = .ok (.getfield 35, 3) := by decide +kernel
theorem dX3_work_147 : decode cX3_work 147 = .ok (.getfield 84, 3) := by decide +kernel
theorem dX3_work_150 : decode cX3_work 150 = .ok (.iload_n 1, 1) := by decide +kernel
theorem dX3_work_151 : decode cX3_work 151 = .ok (.iaload, 1) := by decide +kernel
theorem dX3_work_152 : decode cX3_work 152 = .ok (.aload_n 0, 1) := by decide +kernel
theorem dX3_work_153 : decode cX3_work 153 = .ok (.getfield 35, 3) := by decide +kernel
theorem dX3_work_156 : decode cX3_work 156 = .ok (.getfield 77, 3) := by decide +kernel
theorem dX3_work_159 : decode cX3_work 159 = .ok (.iload_n 1, 1) := by decide +kernel
theorem dX3_work_160 : decode cX3_work 160 = .ok (.iaload, 1) := by decide +kernel
theorem dX3_work_161 : decode cX3_work 161 = .ok (.invokevirtual 97, 3) := by decide +kernel
theorem dX3_work_164 : decode cX3_work 164 = .ok (.goto 76, 3) := by decide +kernel
theorem dX3_work_167 : decode cX3_work 167 = .ok (.aload_n 0, 1) := by decide +kernel
theorem dX3_work_168 : decode cX3_work 168 = .ok (.iload_n 2, 1) := by decide +kernel
theorem dX3_work_169 : decode cX3_work 169 = .ok (.bipush 100, 2) := by decide +kernel
theorem dX3_work_171 : decode cX3_work 171 = .ok (.invokevirtual 101, 3) := by decide +kernel
theorem dX3_work_174 : decode cX3_work 174 = .ok (.aload_n 0, 1) := by decide +kernel
theorem dX3_work_175 : decode cX3_work 175 = .ok (.aload_n 0, 1) := by decide +kernel
theorem dX3_work_176 : decode cX3_work 176 = .ok (.getfield 35, 3) := by decide +kernel
theorem dX3_work_179 : decode cX3_work 179 = .ok (.getfield 94, 3) := by decide +kernel
theorem dX3_work_182 : decode cX3_work 182 = .ok (.iload_n 1, 1) := by decide +kernel
theorem dX3_work_183 : decode cX3_work 183 = .ok (.iaload, 1) := by decide +kernel
theorem dX3_work_184 : decode cX3_work 184 = .ok (.bipush 100, 2) := by decide +kernel
theorem dX3_work_186 : decode cX3_work 186 = .ok (.invokevirtual 101, 3) := by decide +kernel
theorem dX3_work_189 : decode cX3_work 189 = .ok (.goto 51, 3) := by decide +kernel
theorem dX3_work_192 : decode cX3_work 192 = .ok (.aload_n 0, 1) := by decide +kernel
theorem dX3_work_193 : decode cX3_work 193 = .ok (.iload_n 2, 1) := by decide +kernel
theorem dX3_work_194 : decode cX3_work 194 = .ok (.aload_n 0, 1) := by decide +kernel
theorem dX3_work_195 : decode cX3_work 195 = .ok (.getfield 35, 3) := by decide +kernel
theorem dX3_work_198 : decode cX3_work 198 = .ok (.getfield 84, 3) := by decide +kernel
theorem dX3_work_201 : decode cX3_work 201 = .ok (.iload_n 1, 1) := by decide +kernel
theorem dX3_work_202 : decode cX3_work 202 = .ok (.iaload, 1) := by decide +kernel
theorem dX3_work_203 : decode cX3_work 203 = .ok (.aload_n 0, 1) := by decide +kernel
theorem dX3_work_204 : decode cX3_work 204 = .ok (.getfield 35, 3) := by decide +kernel
theorem dX3_work_207 : decode cX3_work 207 = .ok (.getfield 77, 3) := by decide +kernel
theorem dX3_work_210 : decode cX3_work 210 = .ok (.iload_n 1, 1) := by decide +kernel
theorem dX3_work_211 : decode cX3_work 211 = .ok (.iaload, 1) := by decide +kernel
theorem dX3_work_212 : decode cX3_work 212 = .ok (.invokevirtual 104, 3) := by decide +kernel
theorem dX3_work_215 : decode cX3_work 215 = .ok (.goto 25, 3) := by decide +kernel
theorem dX3_work_218 : decode cX3_work 218 = .ok (.aload_n 0, 1) := by decide +kernel
theorem dX3_work_219 : decode cX3_work 219 = .ok (.iload_n 2, 1) := by decide +kernel
theorem dX3_work_220 : decode cX3_work 220 = .ok (.invokevirtual 107, 3) := by decide +kernel
theorem dX3_work_223 : decode cX3_work 223 = .ok (.goto 17, 3) := by decide +kernel
theorem dX3_work_226 : decode cX3_work 226 = .ok (.aload_n 0, 1) := by decide +kernel
theorem dX3_work_227 : decode cX3_work 227 = .ok (.iload_n 2, 1) := by decide +kernel
theorem dX3_work_228 : decode cX3_work 228 = .ok (.aload_n 0, 1) := by decide +kernel
theorem dX3_work_229 : decode cX3_work 229 = .ok (.getfield 35, 3) := by decide +kernel
theorem dX3_work_232 : decode cX3_work 232 = .ok (.getfield 77, 3) := by decide +kernel
theorem dX3_work_235 : decode cX3_work 235 = .ok (.iload_n 1, 1) := by decide +kernel
theorem dX3_work_236 : decode cX3_work 236 = .ok (.iaload, 1) := by decide +kernel
theorem dX3_work_237 : decode cX3_work 237 = .ok (.invokevirtual 101, 3) := by decide +kernel
theorem dX3_work_240 : decode cX3_work 240 = .ok (.return_, 1) := by decide +kernel
theorem dX3_giveSource_0 : decode cX3_giveSource 0 = .ok (.iconst 0, 1) := by decide +kernel
theorem dX3_giveSource_1 : decode cX3_giveSource 1 = .ok (.istore_n 2, 1) := by decide +kernel
theorem dX3_giveSource_2 : decode cX3_giveSource 2 = .ok (.iload_n 2, 1) := by decide +kernel
theorem dX3_giveSource_3 : decode cX3_giveSource 3 = .ok (.aload_n 0, 1) := by decide +kernel
theorem dX3_giveSource_4 : decode cX3_giveSource 4 = .ok (.getfield 27, 3) := by decide +kernel
theorem dX3_giveSource_7 : decode cX3_giveSource 7 = .ok (.getfield 110, 3) := by decide +kernel
theorem dX3_giveSource_10 : decode cX3_giveSource 10 = .ok (.iload_n 1, 1) := by decide +kernel
theorem dX3_giveSource_11 : decode cX3_giveSource 11 = .ok (.iaload, 1) := by decide +kernel
theorem dX3_giveSource_12 : decode cX3_giveSource 12 = .ok (.if_icmp .ge 39, 3) := by decide +kernel
theorem dX3_giveSource_15 : decode cX3_giveSource 15 = .ok (.aload_n 0, 1) := by decide +kernel
theorem dX3_giveSource_16 : decode cX3_giveSource 16 = .ok (.invokevirtual 115, 3) := by decide +kernel
theorem dX3_giveSource_19 : decode cX3_giveSource 19 = .ok (.istore_n 3, 1) := by decide +kernel
theorem dX3_giveSource_20 : decode cX3_giveSource 20 = .ok (.aload_n 0, 1) := by decide +kernel
theorem dX3_giveSource_21 : decode cX3_giveSource 21 = .ok (.getfield 27, 3) := by decide +kernel
theorem dX3_giveSource_24 : decode cX3_giveSource 24 = .ok (.getfield 119, 3) := by decide +kernel
theorem dX3_giveSource_27 : decode cX3_giveSource 27 = .ok (.aload_n 0, 1) := by decide +kernel
theorem dX3_giveSource_28 : decode cX3_giveSource 28 = .ok (.getfield 27, 3) := by decide +kernel
theorem dX3_giveSource_31 : decode cX3_giveSource 31 = .ok (.iload_n 1, 1) := by decide +kernel
theorem dX3_giveSource_32 : decode cX3_giveSource 32 = .ok (.iload_n 2, 1) := by decide +kernel
theorem dX3_giveSource_33 : decode cX3_giveSource 33 = .ok (.invokevirtual 120, 3) := by decide +kernel
theorem dX3_giveSource_36 : decode cX3_giveSource 36 = .ok (.aload_n 0, 1) := by decide +kernel
theorem dX3_giveSource_37 : decode cX3_giveSource 37 = .ok (.getfield 13, 3) := by decide +kernel
theorem dX3_giveSource_40 : decode cX3_giveSource 40 = .ok (.iload_n 3, 1) := by decide +kernel
theorem dX3_giveSource_41 : decode cX3_giveSource 41 = .ok (.iconst 3, 1) := by decide +kernel
theorem dX3_giveSource_42 : decode cX3_giveSource 42 = .ok (.invokestatic 124, 3) := by decide +kernel
theorem dX3_giveSource_45 : decode cX3_giveSource 45 = .ok (.iinc 2 1, 3) := by decide +kernel
theorem dX3_giveSource_48 : decode cX3_giveSource 48 = .ok (.goto (-46), 3) := by decide +kernel
theorem dX3_giveSource_51 : decode cX3_giveSource 51 = .ok (.return_, 1) := by decide +kernel
theorem dX3_giveFiltered_0 : decode cX3_giveFiltered 0 = .ok (.aload_n 0, 1) := by decide +kernel
theorem dX3_giveFiltered_1 : decode cX3_giveFiltered 1 = .ok (.getfield 17, 3) := by decide +kernel
theorem dX3_giveFiltered_4 : decode cX3_giveFiltered 4 = .ok (.iload_n 1, 1) := by decide +kernel
theorem dX3_giveFiltered_5 : decode cX3_giveFiltered 5 = .ok (.iaload, 1) := by decide +kernel
theorem dX3_giveFiltered_6 : decode cX3_giveFiltered 6 = .ok (.istore_n 3, 1) := by decide +kernel
theorem dX3_giveFiltered_7 : decode cX3_giveFiltered 7 = .ok (.iload_n 3, 1) := by decide +kernel
theorem dX3_giveFiltered_8 : decode cX3_giveFiltered 8 = .ok (.aload_n 0, 1) := by decide +kernel
theorem dX3_giveFiltered_9 : decode cX3_giveFiltered 9 = .ok (.getfield 20, 3) := by decide +kernel
theorem dX3_giveFiltered_12 : decode cX3_giveFiltered 12 = .ok (.iload_n 1, 1) := by decide +kernel
theorem dX3_giveFiltered_13 : decode cX3_giveFiltered 13 = .ok (.iaload, 1) := by decide +kernel
theorem dX3_giveFiltered_14 : decode cX3_giveFiltered 14 = .ok (.if_icmp .ge 36, 3) := by decide +kernel
theorem dX3_giveFiltered_17 : decode cX3_giveFiltered 17 = .ok (.aload_n 0, 1) := by decide +kernel
theorem dX3_giveFiltered_18 : decode cX3_giveFiltered 18 = .ok (.iload_n 2, 1) := by decide +kernel
theorem dX3_giveFiltered_19 : decode cX3_giveFiltered 19 = .ok (.iload_n 3, 1) := by decide +kernel
theorem dX3_giveFiltered_20 : decode cX3_giveFiltered 20 = .ok (.invokevirtual 130, 3) := by decide +kernel
theorem dX3_giveFiltered_23 : decode cX3_giveFiltered 23 = .ok (.istore 4, 2) := by decide +kernel
theorem dX3_giveFiltered_25 : decode cX3_giveFiltered 25 = .ok (.aload_n 0, 1) := by decide +kernel
theorem dX3_giveFiltered_26 : decode cX3_giveFiltered 26 = .ok (.getfield 42, 3) := by decide +kernel
theorem dX3_giveFiltered_29 : decode cX3_giveFiltered 29 = .ok (.ifCond .eq 4, 3) := by decide +kernel
theorem dX3_giveFiltered_32 : decode cX3_giveFiltered 32 = .ok (.return_, 1) := by decide +kernel
theorem dX3_giveFiltered_33 : decode cX3_giveFiltered 33 = .ok (.iload 4, 2) := by decide +kernel
theorem dX3_giveFiltered_35 : decode cX3_giveFiltered 35 = .ok (.ifCond .eq 9, 3) := by decide +kernel
theorem dX3_giveFiltered_38 : decode cX3_giveFiltered 38 = .ok (.aload_n 0, 1) := by decide +kernel
theorem dX3_giveFiltered_39 : decode cX3_giveFiltered 39 = .ok (.iload_n 3, 1) := by decide +kernel
theorem dX3_giveFiltered_40 : decode cX3_giveFiltered 40 = .ok (.invokevirtual 133, 3) := by decide +kernel
theorem dX3_giveFiltered_43 : decode cX3_giveFiltered 43 = .ok (.pop, 1) := by decide +kernel
theorem dX3_giveFiltered_44 : decode cX3_giveFiltered 44 = .ok (.iinc 3 6, 3) := by decide +kernel
theorem dX3_giveFiltered_47 : decode cX3_giveFiltered 47 = .ok (.goto (-40), 3) := by decide +kernel
theorem dX3_giveFiltered_50 : decode cX3_giveFiltered 50 = .ok (.return_, 1) := by decide +kernel
theorem dX3_giveSet_0 : decode cX3_giveSet 0 = .ok (.aload_n 0, 1) := by decide +kernel
theorem dX3_giveSet_1 : decode cX3_giveSet 1 = .ok (.getfield 17, 3) := by decide +kernel
theorem dX3_giveSet_4 : decode cX3_giveSet 4 = .ok (.iload_n 1, 1) := by decide +kernel
theorem dX3_giveSet_5 : decode cX3_giveSet 5 = .ok (.iaload, 1) := by decide +kernel
theorem dX3_giveSet_6 : decode cX3_giveSet 6 = .ok (.istore 4, 2) := by decide +kernel
theorem dX3_giveSet_8 : decode cX3_giveSet 8 = .ok (.iload 4, 2) := by decide +kernel
theorem dX3_giveSet_10 : decode cX3_giveSet 10 = .ok (.aload_n 0, 1) := by decide +kernel
theorem dX3_giveSet_11 : decode cX3_giveSet 11 = .ok (.getfield 20, 3) := by decide +kernel
theorem dX3_giveSet_14 : decode cX3_giveSet 14 = .ok (.iload_n 1, 1) := by decide +kernel
theorem dX3_giveSet_15 : decode cX3_giveSet 15 = .ok (.iaload, 1) := by decide +kernel
theorem dX3_giveSet_16 : decode cX3_giveSet 16 = .ok (.if_icmp .ge 45, 3) := by decide +kernel
theorem dX3_giveSet_19 : decode cX3_giveSet 19 = .ok (.aload_n 0, 1) := by decide +kernel
theorem dX3_giveSet_20 : decode cX3_giveSet 20 = .ok (.iload_n 3, 1) := by decide +kernel
theorem dX3_giveSet_21 : decode cX3_giveSet 21 = .ok (.iload 4, 2) := by decide +kernel
theorem dX3_giveSet_23 : decode cX3_giveSet 23 = .ok (.invokevirtual 130, 3) := by decide +kernel
theorem dX3_giveSet_26 : decode cX3_giveSet 26 = .ok (.istore 5, 2) := by decide +kernel
theorem dX3_giveSet_28 : decode cX3_giveSet 28 = .ok (.aload_n 0, 1) := by decide +kernel
theorem dX3_giveSet_29 : decode cX3_giveSet 29 = .ok (.getfield 42, 3) := by decide +kernel
theorem dX3_giveSet_32 : decode cX3_giveSet 32 = .ok (.ifCond .eq 4, 3) := by decide +kernel
theorem dX3_giveSet_35 : decode cX3_giveSet 35 = .ok (.return_, 1) := by decide +kernel
theorem dX3_giveSet_36 : decode cX3_giveSet 36 = .ok (.aload_n 0, 1) := by decide +kernel
theorem dX3_giveSet_37 : decode cX3_giveSet 37 = .ok (.iload 4, 2) := by decide +kernel
theorem dX3_giveSet_39 : decode cX3_giveSet 39 = .ok (.invokevirtual 133, 3) := by decide +kernel
theorem dX3_giveSet_42 : decode cX3_giveSet 42 = .ok (.istore 6, 2) := by decide +kernel
theorem dX3_giveSet_44 : decode cX3_giveSet 44 = .ok (.aload_n 0, 1) := by decide +kernel
theorem dX3_giveSet_45 : decode cX3_giveSet 45 = .ok (.getfield 13, 3) := by decide +kernel
theorem dX3_giveSet_48 : decode cX3_giveSet 48 = .ok (.iload 6, 2) := by decide +kernel
theorem dX3_giveSet_50 : decode cX3_giveSet 50 = .ok (.iload_n 2, 1) := by decide +kernel
theorem dX3_giveSet_51 : decode cX3_giveSet 51 = .ok (.iadd, 1) := by decide +kernel
theorem dX3_giveSet_52 : decode cX3_giveSet 52 = .ok (.iload 5, 2) := by decide +kernel
theorem dX3_giveSet_54 : decode cX3_giveSet 54 = .ok (.iastore, 1) := by decide +kernel
theorem dX3_giveSet_55 : decode cX3_giveSet 55 = .ok (.iinc 4 6, 3) := by decide +kernel
theorem dX3_giveSet_58 : decode cX3_giveSet 58 = .ok (.goto (-50), 3) := by decide +kernel
theorem dX3_giveSet_61 : decode cX3_giveSet 61 = .ok (.return_, 1) := by decide +kernel
theorem dX3_giveKept_0 : decode cX3_giveKept 0 = .ok (.aload_n 0, 1) := by decide +kernel
theorem dX3_giveKept_1 : decode cX3_giveKept 1 = .ok (.getfield 17, 3) := by decide +kernel
theorem dX3_giveKept_4 : decode cX3_giveKept 4 = .ok (.iload_n 1, 1) := by decide +kernel
theorem dX3_giveKept_5 : decode cX3_giveKept 5 = .ok (.iaload, 1) := by decide +kernel
theorem dX3_giveKept_6 : decode cX3_giveKept 6 = .ok (.istore_n 3, 1) := by decide +kernel
theorem dX3_giveKept_7 : decode cX3_giveKept 7 = .ok (.iload_n 3, 1) := by decide +kernel
theorem dX3_giveKept_8 : decode cX3_giveKept 8 = .ok (.aload_n 0, 1) := by decide +kernel
theorem dX3_giveKept_9 : decode cX3_giveKept 9 = .ok (.getfield 20, 3) := by decide +kernel
theorem dX3_giveKept_12 : decode cX3_giveKept 12 = .ok (.iload_n 1, 1) := by decide +kernel
theorem dX3_giveKept_13 : decode cX3_giveKept 13 = .ok (.iaload, 1) := by decide +kernel
theorem dX3_giveKept_14 : decode cX3_giveKept 14 = .ok (.if_icmp .ge 23, 3) := by decide +kernel
theorem dX3_giveKept_17 : decode cX3_giveKept 17 = .ok (.aload_n 0, 1) := by decide +kernel
theorem dX3_giveKept_18 : decode cX3_giveKept 18 = .ok (.invokevirtual 115, 3) := by decide +kernel
theorem dX3_giveKept_21 : decode cX3_giveKept 21 = .ok (.istore 4, 2) := by decide +kernel
theorem dX3_giveKept_23 : decode cX3_giveKept 23 = .ok (.aload_n 0, 1) := by decide +kernel
theorem dX3_giveKept_24 : decode cX3_giveKept 24 = .ok (.iload_n 2, 1) := by decide +kernel
theorem dX3_giveKept_25 : decode cX3_giveKept 25 = .ok (.iload_n 3, 1) := by decide +kernel
theorem dX3_giveKept_26 : decode cX3_giveKept 26 = .ok (.iload 4, 2) := by decide +kernel
theorem dX3_giveKept_28 : decode cX3_giveKept 28 = .ok (.invokevirtual 136, 3) := by decide +kernel
theorem dX3_giveKept_31 : decode cX3_giveKept 31 = .ok (.iinc 3 6, 3) := by decide +kernel
theorem dX3_giveKept_34 : decode cX3_giveKept 34 = .ok (.goto (-27), 3) := by decide +kernel
theorem dX3_giveKept_37 : decode cX3_giveKept 37 = .ok (.return_, 1) := by decide +kernel
theorem dX3_giveJoined_0 : decode cX3_giveJoined 0 = .ok (.aload_n 0, 1) := by decide +kernel
theorem dX3_giveJoined_1 : decode cX3_giveJoined 1 = .ok (.getfield 17, 3) := by decide +kernel
theorem dX3_giveJoined_4 : decode cX3_giveJoined 4 = .ok (.iload_n 1, 1) := by decide +kernel
theorem dX3_giveJoined_5 : decode cX3_giveJoined 5 = .ok (.iaload, 1) := by decide +kernel
theorem dX3_giveJoined_6 : decode cX3_giveJoined 6 = .ok (.istore 5, 2) := by decide +kernel
theorem dX3_giveJoined_8 : decode cX3_giveJoined 8 = .ok (.iload 5, 2) := by decide +kernel
theorem dX3_giveJoined_10 : decode cX3_giveJoined 10 = .ok (.aload_n 0, 1) := by decide +kernel
theorem dX3_giveJoined_11 : decode cX3_giveJoined 11 = .ok (.getfield 20, 3) := by decide +kernel
theorem dX3_giveJoined_14 : decode cX3_giveJoined 14 = .ok (.iload_n 1, 1) := by decide +kernel
theorem dX3_giveJoined_15 : decode cX3_giveJoined 15 = .ok (.iaload, 1) := by decide +kernel
theorem dX3_giveJoined_16 : decode cX3_giveJoined 16 = .ok (.if_icmp .ge 73, 3) := by decide +kernel
theorem dX3_giveJoined_19 : decode cX3_giveJoined 19 = .ok (.aload_n 0, 1) := by decide +kernel
theorem dX3_giveJoined_20 : decode cX3_giveJoined 20 = .ok (.getfield 17, 3) := by decide +kernel
theorem dX3_giveJoined_23 : decode cX3_giveJoined 23 = .ok (.iload_n 2, 1) := by decide +kernel
theorem dX3_giveJoined_24 : decode cX3_giveJoined 24 = .ok (.iaload, 1) := by decide +kernel
theorem dX3_giveJoined_25 : decode cX3_giveJoined 25 = .ok (.istore 6, 2) := by decide +kernel
theorem dX3_giveJoined_27 : decode cX3_giveJoined 27 = .ok (.iload 6, 2) := by decide +kernel
theorem dX3_giveJoined_29 : decode cX3_giveJoined 29 = .ok (.aload_n 0, 1) := by decide +kernel
theorem dX3_giveJoined_30 : decode cX3_giveJoined 30 = .ok (.getfield 20, 3) := by decide +kernel
theorem dX3_giveJoined_33 : decode cX3_giveJoined 33 = .ok (.iload_n 2, 1) := by decide +kernel
theorem dX3_giveJoined_34 : decode cX3_giveJoined 34 = .ok (.iaload, 1) := by decide +kernel
theorem dX3_giveJoined_35 : decode cX3_giveJoined 35 = .ok (.if_icmp .ge 48, 3) := by decide +kernel
theorem dX3_giveJoined_38 : decode cX3_giveJoined 38 = .ok (.aload_n 0, 1) := by decide +kernel
theorem dX3_giveJoined_39 : decode cX3_giveJoined 39 = .ok (.getfield 13, 3) := by decide +kernel
theorem dX3_giveJoined_42 : decode cX3_giveJoined 42 = .ok (.iload 5, 2) := by decide +kernel
theorem dX3_giveJoined_44 : decode cX3_giveJoined 44 = .ok (.iload_n 3, 1) := by decide +kernel
theorem dX3_giveJoined_45 : decode cX3_giveJoined 45 = .ok (.iadd, 1) := by decide +kernel
theorem dX3_giveJoined_46 : decode cX3_giveJoined 46 = .ok (.iaload, 1) := by decide +kernel
theorem dX3_giveJoined_47 : decode cX3_giveJoined 47 = .ok (.aload_n 0, 1) := by decide +kernel
theorem dX3_giveJoined_48 : decode cX3_giveJoined 48 = .ok (.getfield 13, 3) := by decide +kernel
theorem dX3_giveJoined_51 : decode cX3_giveJoined 51 = .ok (.iload 6, 2) := by decide +kernel
theorem dX3_giveJoined_53 : decode cX3_giveJoined 53 = .ok (.iload_n 3, 1) := by decide +kernel
theorem dX3_giveJoined_54 : decode cX3_giveJoined 54 = .ok (.iadd, 1) := by decide +kernel
theorem dX3_giveJoined_55 : decode cX3_giveJoined 55 = .ok (.iaload, 1) := by decide +kernel
theorem dX3_giveJoined_56 : decode cX3_giveJoined 56 = .ok (.if_icmp .ne 21, 3) := by decide +kernel
theorem dX3_giveJoined_59 : decode cX3_giveJoined 59 = .ok (.aload_n 0, 1) := by decide +kernel
theorem dX3_giveJoined_60 : decode cX3_giveJoined 60 = .ok (.iload 5, 2) := by decide +kernel
theorem dX3_giveJoined_62 : decode cX3_giveJoined 62 = .ok (.invokevirtual 133, 3) := by decide +kernel
theorem dX3_giveJoined_65 : decode cX3_giveJoined 65 = .ok (.istore 7, 2) := by decide +kernel
theorem dX3_giveJoined_67 : decode cX3_giveJoined 67 = .ok (.aload_n 0, 1) := by decide +kernel
theorem dX3_giveJoined_68 : decode cX3_giveJoined 68 = .ok (.iload 4, 2) := by decide +kernel
theorem dX3_giveJoined_70 : decode cX3_giveJoined 70 = .ok (.iload 6, 2) := by decide +kernel
theorem dX3_giveJoined_72 : decode cX3_giveJoined 72 = .ok (.iload 7, 2) := by decide +kernel
theorem dX3_giveJoined_74 : decode cX3_giveJoined 74 = .ok (.invokevirtual 136, 3) := by decide +kernel
theorem dX3_giveJoined_77 : decode cX3_giveJoined 77 = .ok (.iinc 6 6, 3) := by decide +kernel
theorem dX3_giveJoined_80 : decode cX3_giveJoined 80 = .ok (.goto (-53), 3) := by decide +kernel
theorem dX3_giveJoined_83 : decode cX3_giveJoined 83 = .ok (.iinc 5 6, 3) := by decide +kernel
theorem dX3_giveJoined_86 : decode cX3_giveJoined 86 = .ok (.goto (-78), 3) := by decide +kernel
theorem dX3_giveJoined_89 : decode cX3_giveJoined 89 = .ok (.return_, 1) := by decide +kernel
theorem dX3_giveFolded_0 : decode cX3_giveFolded 0 = .ok (.aload_n 0, 1) := by decide +kernel
theorem dX3_giveFolded_1 : decode cX3_giveFolded 1 = .ok (.getfield 39, 3) := by decide +kernel
theorem dX3_giveFolded_4 : decode cX3_giveFolded 4 = .ok (.istore 4, 2) := by decide +kernel
theorem dX3_giveFolded_6 : decode cX3_giveFolded 6 = .ok (.aload_n 0, 1) := by decide +kernel
theorem dX3_giveFolded_7 : decode cX3_giveFolded 7 = .ok (.getfield 17, 3) := by decide +kernel
theorem dX3_giveFolded_10 : decode cX3_giveFolded 10 = .ok (.iload_n 1, 1) := by decide +kernel
theorem dX3_giveFolded_11 : decode cX3_giveFolded 11 = .ok (.iaload, 1) := by decide +kernel
theorem dX3_giveFolded_12 : decode cX3_giveFolded 12 = .ok (.istore 5, 2) := by decide +kernel
theorem dX3_giveFolded_14 : decode cX3_giveFolded 14 = .ok (.iload 5, 2) := by decide +kernel
theorem dX3_giveFolded_16 : decode cX3_giveFolded 16 = .ok (.aload_n 0, 1) := by decide +kernel
theorem dX3_giveFolded_17 : decode cX3_giveFolded 17 = .ok (.getfield 20, 3) := by decide +kernel
theorem dX3_giveFolded_20 : decode cX3_giveFolded 20 = .ok (.iload_n 1, 1) := by decide +kernel
theorem dX3_giveFolded_21 : decode cX3_giveFolded 21 = .ok (.iaload, 1) := by decide +kernel
theorem dX3_giveFolded_22 : decode cX3_giveFolded 22 = .ok (.if_icmp .ge 77, 3) := by decide +kernel
theorem dX3_giveFolded_25 : decode cX3_giveFolded 25 = .ok (.aload_n 0, 1) := by decide +kernel
theorem dX3_giveFolded_26 : decode cX3_giveFolded 26 = .ok (.iload 4, 2) := by decide +kernel
theorem dX3_giveFolded_28 : decode cX3_giveFolded 28 = .ok (.iload_n 2, 1) := by decide +kernel
theorem dX3_giveFolded_29 : decode cX3_giveFolded 29 = .ok (.aload_n 0, 1) := by decide +kernel
theorem dX3_giveFolded_30 : decode cX3_giveFolded 30 = .ok (.getfield 13, 3) := by decide +kernel
theorem dX3_giveFolded_33 : decode cX3_giveFolded 33 = .ok (.iload 5, 2) := by decide +kernel
theorem dX3_giveFolded_35 : decode cX3_giveFolded 35 = .ok (.iload_n 2, 1) := by decide +kernel
theorem dX3_giveFolded_36 : decode cX3_giveFolded 36 = .ok (.iadd, 1) := by decide +kernel
theorem dX3_giveFolded_37 : decode cX3_giveFolded 37 = .ok (.iaload, 1) := by decide +kernel
theorem dX3_giveFolded_38 : decode cX3_giveFolded 38 = .ok (.invokevirtual 139, 3) := by decide +kernel
theorem dX3_giveFolded_41 : decode cX3_giveFolded 41 = .ok (.istore 6, 2) := by decide +kernel
theorem dX3_giveFolded_43 : decode cX3_giveFolded 43 = .ok (.iload 6, 2) := by decide +kernel
theorem dX3_giveFolded_45 : decode cX3_giveFolded 45 = .ok (.ifCond .ge 27, 3) := by decide +kernel
theorem dX3_giveFolded_48 : decode cX3_giveFolded 48 = .ok (.aload_n 0, 1) := by decide +kernel
theorem dX3_giveFolded_49 : decode cX3_giveFolded 49 = .ok (.invokevirtual 115, 3) := by decide +kernel
theorem dX3_giveFolded_52 : decode cX3_giveFolded 52 = .ok (.istore 6, 2) := by decide +kernel
theorem dX3_giveFolded_54 : decode cX3_giveFolded 54 = .ok (.aload_n 0, 1) := by decide +kernel
theorem dX3_giveFolded_55 : decode cX3_giveFolded 55 = .ok (.getfield 13, 3) := by decide +kernel
theorem dX3_giveFolded_58 : decode cX3_giveFolded 58 = .ok (.iload 6, 2) := by decide +kernel
theorem dX3_giveFolded_60 : decode cX3_giveFolded 60 = .ok (.iload_n 2, 1) := by decide +kernel
theorem dX3_giveFolded_61 : decode cX3_giveFolded 61 = .ok (.iadd, 1) := by decide +kernel
theorem dX3_giveFolded_62 : decode cX3_giveFolded 62 = .ok (.aload_n 0, 1) := by decide +kernel
theorem dX3_giveFolded_63 : decode cX3_giveFolded 63 = .ok (.getfield 13, 3) := by decide +kernel
theorem dX3_giveFolded_66 : decode cX3_giveFolded 66 = .ok (.iload 5, 2) := by decide +kernel
theorem dX3_giveFolded_68 : decode cX3_giveFolded 68 = .ok (.iload_n 2, 1) := by decide +kernel
theorem dX3_giveFolded_69 : decode cX3_giveFolded 69 = .ok (.iadd, 1) := by decide +kernel
theorem dX3_giveFolded_70 : decode cX3_giveFolded 70 = .ok (.iaload, 1) := by decide +kernel
theorem dX3_giveFolded_71 : decode cX3_giveFolded 71 = .ok (.iastore, 1) := by decide +kernel
theorem dX3_giveFolded_72 : decode cX3_giveFolded 72 = .ok (.aload_n 0, 1) := by decide +kernel
theorem dX3_giveFolded_73 : decode cX3_giveFolded 73 = .ok (.getfield 13, 3) := by decide +kernel
theorem dX3_giveFolded_76 : decode cX3_giveFolded 76 = .ok (.iload 6, 2) := by decide +kernel
theorem dX3_giveFolded_78 : decode cX3_giveFolded 78 = .ok (.iload_n 3, 1) := by decide +kernel
theorem dX3_giveFolded_79 : decode cX3_giveFolded 79 = .ok (.iadd, 1) := by decide +kernel
theorem dX3_giveFolded_80 : decode cX3_giveFolded 80 = .ok (.dup2, 1) := by decide +kernel
theorem dX3_giveFolded_81 : decode cX3_giveFolded 81 = .ok (.iaload, 1) := by decide +kernel
theorem dX3_giveFolded_82 : decode cX3_giveFolded 82 = .ok (.aload_n 0, 1) := by decide +kernel
theorem dX3_giveFolded_83 : decode cX3_giveFolded 83 = .ok (.getfield 13, 3) := by decide +kernel
theorem dX3_giveFolded_86 : decode cX3_giveFolded 86 = .ok (.iload 5, 2) := by decide +kernel
theorem dX3_giveFolded_88 : decode cX3_giveFolded 88 = .ok (.iload_n 3, 1) := by decide +kernel
theorem dX3_giveFolded_89 : decode cX3_giveFolded 89 = .ok (.iadd, 1) := by decide +kernel
theorem dX3_giveFolded_90 : decode cX3_giveFolded 90 = .ok (.iaload, 1) := by decide +kernel
theorem dX3_giveFolded_91 : decode cX3_giveFolded 91 = .ok (.iadd, 1) := by decide +kernel
theorem dX3_giveFolded_92 : decode cX3_giveFolded 92 = .ok (.iastore, 1) := by decide +kernel
theorem dX3_giveFolded_93 : decode cX3_giveFolded 93 = .ok (.iinc 5 6, 3) := by decide +kernel
theorem dX3_giveFolded_96 : decode cX3_giveFolded 96 = .ok (.goto (-82), 3) := by decide +kernel
theorem dX3_giveFolded_99 : decode cX3_giveFolded 99 = .ok (.return_, 1) := by decide +kernel
theorem dX3_giveOnce_0 : decode cX3_giveOnce 0 = .ok (.aload_n 0, 1) := by decide +kernel
theorem dX3_giveOnce_1 : decode cX3_giveOnce 1 = .ok (.getfield 39, 3) := by decide +kernel
theorem dX3_giveOnce_4 : decode cX3_giveOnce 4 = .ok (.istore_n 2, 1) := by decide +kernel
theorem dX3_giveOnce_5 : decode cX3_giveOnce 5 = .ok (.aload_n 0, 1) := by decide +kernel
theorem dX3_giveOnce_6 : decode cX3_giveOnce 6 = .ok (.getfield 17, 3) := by decide +kernel
theorem dX3_giveOnce_9 : decode cX3_giveOnce 9 = .ok (.iload_n 1, 1) := by decide +kernel
theorem dX3_giveOnce_10 : decode cX3_giveOnce 10 = .ok (.iaload, 1) := by decide +kernel
theorem dX3_giveOnce_11 : decode cX3_giveOnce 11 = .ok (.istore_n 3, 1) := by decide +kernel
theorem dX3_giveOnce_12 : decode cX3_giveOnce 12 = .ok (.iload_n 3, 1) := by decide +kernel
theorem dX3_giveOnce_13 : decode cX3_giveOnce 13 = .ok (.aload_n 0, 1) := by decide +kernel
theorem dX3_giveOnce_14 : decode cX3_giveOnce 14 = .ok (.getfield 20, 3) := by decide +kernel
theorem dX3_giveOnce_17 : decode cX3_giveOnce 17 = .ok (.iload_n 1, 1) := by decide +kernel
theorem dX3_giveOnce_18 : decode cX3_giveOnce 18 = .ok (.iaload, 1) := by decide +kernel
theorem dX3_giveOnce_19 : decode cX3_giveOnce 19 = .ok (.if_icmp .ge 24, 3) := by decide +kernel
theorem dX3_giveOnce_22 : decode cX3_giveOnce 22 = .ok (.aload_n 0, 1) := by decide +kernel
theorem dX3_giveOnce_23 : decode cX3_giveOnce 23 = .ok (.iload_n 2, 1) := by decide +kernel
theorem dX3_giveOnce_24 : decode cX3_giveOnce 24 = .ok (.iload_n 3, 1) := by decide +kernel
theorem dX3_giveOnce_25 : decode cX3_giveOnce 25 = .ok (.invokevirtual 143, 3) := by decide +kernel
theorem dX3_giveOnce_28 : decode cX3_giveOnce 28 = .ok (.ifCond .ne 9, 3) := by decide +kernel
theorem dX3_giveOnce_31 : decode cX3_giveOnce 31 = .ok (.aload_n 0, 1) := by decide +kernel
theorem dX3_giveOnce_32 : decode cX3_giveOnce 32 = .ok (.iload_n 3, 1) := by decide +kernel
theorem dX3_giveOnce_33 : decode cX3_giveOnce 33 = .ok (.invokevirtual 133, 3) := by decide +kernel
theorem dX3_giveOnce_36 : decode cX3_giveOnce 36 = .ok (.pop, 1) := by decide +kernel
theorem dX3_giveOnce_37 : decode cX3_giveOnce 37 = .ok (.iinc 3 6, 3) := by decide +kernel
theorem dX3_giveOnce_40 : decode cX3_giveOnce 40 = .ok (.goto (-28), 3) := by decide +kernel
theorem dX3_giveOnce_43 : decode cX3_giveOnce 43 = .ok (.return_, 1) := by decide +kernel
theorem dX3_giveFirst_0 : decode cX3_giveFirst 0 = .ok (.aload_n 0, 1) := by decide +kernel
theorem dX3_giveFirst_1 : decode cX3_giveFirst 1 = .ok (.getfield 20, 3) := by decide +kernel
theorem dX3_giveFirst_4 : decode cX3_giveFirst 4 = .ok (.iload_n 1, 1) := by decide +kernel
theorem dX3_giveFirst_5 : decode cX3_giveFirst 5 = .ok (.iaload, 1) := by decide +kernel
theorem dX3_giveFirst_6 : decode cX3_giveFirst 6 = .ok (.aload_n 0, 1) := by decide +kernel
theorem dX3_giveFirst_7 : decode cX3_giveFirst 7 = .ok (.getfield 17, 3) := by decide +kernel
theorem dX3_giveFirst_10 : decode cX3_giveFirst 10 = .ok (.iload_n 1, 1) := by decide +kernel
theorem dX3_giveFirst_11 : decode cX3_giveFirst 11 = .ok (.iaload, 1) := by decide +kernel
theorem dX3_giveFirst_12 : decode cX3_giveFirst 12 = .ok (.iload_n 2, 1) := by decide +kernel
theorem dX3_giveFirst_13 : decode cX3_giveFirst 13 = .ok (.bipush 6, 2) := by decide +kernel
theorem dX3_giveFirst_15 : decode cX3_giveFirst 15 = .ok (.imul, 1) := by decide +kernel
theorem dX3_giveFirst_16 : decode cX3_giveFirst 16 = .ok (.iadd, 1) := by decide +kernel
theorem dX3_giveFirst_17 : decode cX3_giveFirst 17 = .ok (.invokestatic 147, 3) := by decide +kernel
theorem dX3_giveFirst_20 : decode cX3_giveFirst 20 = .ok (.istore_n 3, 1) := by decide +kernel
theorem dX3_giveFirst_21 : decode cX3_giveFirst 21 = .ok (.aload_n 0, 1) := by decide +kernel
theorem dX3_giveFirst_22 : decode cX3_giveFirst 22 = .ok (.getfield 17, 3) := by decide +kernel
theorem dX3_giveFirst_25 : decode cX3_giveFirst 25 = .ok (.iload_n 1, 1) := by decide +kernel
theorem dX3_giveFirst_26 : decode cX3_giveFirst 26 = .ok (.iaload, 1) := by decide +kernel
theorem dX3_giveFirst_27 : decode cX3_giveFirst 27 = .ok (.istore 4, 2) := by decide +kernel
theorem dX3_giveFirst_29 : decode cX3_giveFirst 29 = .ok (.iload 4, 2) := by decide +kernel
theorem dX3_giveFirst_31 : decode cX3_giveFirst 31 = .ok (.iload_n 3, 1) := by decide +kernel
theorem dX3_giveFirst_32 : decode cX3_giveFirst 32 = .ok (.if_icmp .ge 16, 3) := by decide +kernel
theorem dX3_giveFirst_35 : decode cX3_giveFirst 35 = .ok (.aload_n 0, 1) := by decide +kernel
theorem dX3_giveFirst_36 : decode cX3_giveFirst 36 = .ok (.iload 4, 2) := by decide +kernel
theorem dX3_giveFirst_38 : decode cX3_giveFirst 38 = .ok (.invokevirtual 133, 3) := by decide +kernel
theorem dX3_giveFirst_41 : decode cX3_giveFirst 41 = .ok (.pop, 1) := by decide +kernel
theorem dX3_giveFirst_42 : decode cX3_giveFirst 42 = .ok (.iinc 4 6, 3) := by decide +kernel
theorem dX3_giveFirst_45 : decode cX3_giveFirst 45 = .ok (.goto (-16), 3) := by decide +kernel
theorem dX3_giveFirst_48 : decode cX3_giveFirst 48 = .ok (.return_, 1) := by decide +kernel
theorem dX3_findMember_0 : decode cX3_findMember 0 = .ok (.iload_n 1, 1) := by decide +kernel
theorem dX3_findMember_1 : decode cX3_findMember 1 = .ok (.istore 4, 2) := by decide +kernel
theorem dX3_findMember_3 : decode cX3_findMember 3 = .ok (.iload 4, 2) := by decide +kernel
theorem dX3_findMember_5 : decode cX3_findMember 5 = .ok (.aload_n 0, 1) := by decide +kernel
theorem dX3_findMember_6 : decode cX3_findMember 6 = .ok (.getfield 39, 3) := by decide +kernel
theorem dX3_findMember_9 : decode cX3_findMember 9 = .ok (.if_icmp .ge 25, 3) := by decide +kernel
theorem dX3_findMember_12 : decode cX3_findMember 12 = .ok (.aload_n 0, 1) := by decide +kernel
theorem dX3_findMember_13 : decode cX3_findMember 13 = .ok (.getfield 13, 3) := by decide +kernel
theorem dX3_findMember_16 : decode cX3_findMember 16 = .ok (.iload 4, 2) := by decide +kernel
theorem dX3_findMember_18 : decode cX3_findMember 18 = .ok (.iload_n 2, 1) := by decide +kernel
theorem dX3_findMember_19 : decode cX3_findMember 19 = .ok (.iadd, 1) := by decide +kernel
theorem dX3_findMember_20 : decode cX3_findMember 20 = .ok (.iaload, 1) := by decide +kernel
theorem dX3_findMember_21 : decode cX3_findMember 21 = .ok (.iload_n 3, 1) := by decide +kernel
theorem dX3_findMember_22 : decode cX3_findMember 22 = .ok (.if_icmp .ne 6, 3) := by decide +kernel
theorem dX3_findMember_25 : decode cX3_findMember 25 = .ok (.iload 4, 2) := by decide +kernel
theorem dX3_findMember_27 : decode cX3_findMember 27 = .ok (.ireturn, 1) := by decide +kernel
theorem dX3_findMember_28 : decode cX3_findMember 28 = .ok (.iinc 4 6, 3) := by decide +kernel
theorem dX3_findMember_31 : decode cX3_findMember 31 = .ok (.goto (-28), 3) := by decide +kernel
theorem dX3_findMember_34 : decode cX3_findMember 34 = .ok (.iconst (-1), 1) := by decide +kernel
theorem dX3_findMember_35 : decode cX3_findMember 35 = .ok (.ireturn, 1) := by decide +kernel
theorem dX3_hasLike_0 : decode cX3_hasLike 0 = .ok (.iload_n 1, 1) := by decide +kernel
theorem dX3_hasLike_1 : decode cX3_hasLike 1 = .ok (.istore_n 3, 1) := by decide +kernel
theorem dX3_hasLike_2 : decode cX3_hasLike 2 = .ok (.iload_n 3, 1) := by decide +kernel
theorem dX3_hasLike_3 : decode cX3_hasLike 3 = .ok (.aload_n 0, 1) := by decide +kernel
theorem dX3_hasLike_4 : decode cX3_hasLike 4 = .ok (.getfield 39, 3) := by decide +kernel
theorem dX3_hasLike_7 : decode cX3_hasLike 7 = .ok (.if_icmp .ge 20, 3) := by decide +kernel
theorem dX3_hasLike_10 : decode cX3_hasLike 10 = .ok (.aload_n 0, 1) := by decide +kernel
theorem dX3_hasLike_11 : decode cX3_hasLike 11 = .ok (.iload_n 2, 1) := by decide +kernel
theorem dX3_hasLike_12 : decode cX3_hasLike 12 = .ok (.iload_n 3, 1) := by decide +kernel
theorem dX3_hasLike_13 : decode cX3_hasLike 13 = .ok (.invokevirtual 152, 3) := by decide +kernel
theorem dX3_hasLike_16 : decode cX3_hasLike 16 = .ok (.ifCond .eq 5, 3) := by decide +kernel
theorem dX3_hasLike_19 : decode cX3_hasLike 19 = .ok (.iconst 1, 1) := by decide +kernel
theorem dX3_hasLike_20 : decode cX3_hasLike 20 = .ok (.ireturn, 1) := by decide +kernel
theorem dX3_hasLike_21 : decode cX3_hasLike 21 = .ok (.iinc 3 6, 3) := by decide +kernel
theorem dX3_hasLike_24 : decode cX3_hasLike 24 = .ok (.goto (-22), 3) := by decide +kernel
theorem dX3_hasLike_27 : decode cX3_hasLike 27 = .ok (.iconst 0, 1) := by decide +kernel
theorem dX3_hasLike_28 : decode cX3_hasLike 28 = .ok (.ireturn, 1) := by decide +kernel
theorem dX3_isLike_0 : decode cX3_isLike 0 = .ok (.iconst 0, 1) := by decide +kernel
theorem dX3_isLike_1 : decode cX3_isLike 1 = .ok (.istore_n 3, 1) := by decide +kernel
theorem dX3_isLike_2 : decode cX3_isLike 2 = .ok (.iload_n 3, 1) := by decide +kernel
theorem dX3_isLike_3 : decode cX3_isLike 3 = .ok (.bipush 6, 2) := by decide +kernel
theorem dX3_isLike_5 : decode cX3_isLike 5 = .ok (.if_icmp .ge 30, 3) := by decide +kernel
theorem dX3_isLike_8 : decode cX3_isLike 8 = .ok (.aload_n 0, 1) := by decide +kernel
theorem dX3_isLike_9 : decode cX3_isLike 9 = .ok (.getfield 13, 3) := by decide +kernel
theorem dX3_isLike_12 : decode cX3_isLike 12 = .ok (.iload_n 1, 1) := by decide +kernel
theorem dX3_isLike_13 : decode cX3_isLike 13 = .ok (.iload_n 3, 1) := by decide +kernel
theorem dX3_isLike_14 : decode cX3_isLike 14 = .ok (.iadd, 1) := by decide +kernel
theorem dX3_isLike_15 : decode cX3_isLike 15 = .ok (.iaload, 1) := by decide +kernel
theorem dX3_isLike_16 : decode cX3_isLike 16 = .ok (.aload_n 0, 1) := by decide +kernel
theorem dX3_isLike_17 : decode cX3_isLike 17 = .ok (.getfield 13, 3) := by decide +kernel
theorem dX3_isLike_20 : decode cX3_isLike 20 = .ok (.iload_n 2, 1) := by decide +kernel
theorem dX3_isLike_21 : decode cX3_isLike 21 = .ok (.iload_n 3, 1) := by decide +kernel
theorem dX3_isLike_22 : decode cX3_isLike 22 = .ok (.iadd, 1) := by decide +kernel
theorem dX3_isLike_23 : decode cX3_isLike 23 = .ok (.iaload, 1) := by decide +kernel
theorem dX3_isLike_24 : decode cX3_isLike 24 = .ok (.if_icmp .eq 5, 3) := by decide +kernel
theorem dX3_isLike_27 : decode cX3_isLike 27 = .ok (.iconst 0, 1) := by decide +kernel
theorem dX3_isLike_28 : decode cX3_isLike 28 = .ok (.ireturn, 1) := by decide +kernel
theorem dX3_isLike_29 : decode cX3_isLike 29 = .ok (.iinc 3 1, 3) := by decide +kernel
theorem dX3_isLike_32 : decode cX3_isLike 32 = .ok (.goto (-30), 3) := by decide +kernel
theorem dX3_isLike_35 : decode cX3_isLike 35 = .ok (.iconst 1, 1) := by decide +kernel
theorem dX3_isLike_36 : decode cX3_isLike 36 = .ok (.ireturn, 1) := by decide +kernel
theorem dX3_copyMembers_0 : decode cX3_copyMembers 0 = .ok (.iconst 0, 1) := by decide +kernel
theorem dX3_copyMembers_1 : decode cX3_copyMembers 1 = .ok (.istore 4, 2) := by decide +kernel
theorem dX3_copyMembers_3 : decode cX3_copyMembers 3 = .ok (.iload 4, 2) := by decide +kernel
theorem dX3_copyMembers_5 : decode cX3_copyMembers 5 = .ok (.bipush 6, 2) := by decide +kernel
theorem dX3_copyMembers_7 : decode cX3_copyMembers 7 = .ok (.if_icmp .ge 36, 3) := by decide +kernel
theorem dX3_copyMembers_10 : decode cX3_copyMembers 10 = .ok (.iload 4, 2) := by decide +kernel
theorem dX3_copyMembers_12 : decode cX3_copyMembers 12 = .ok (.iload_n 1, 1) := by decide +kernel
theorem dX3_copyMembers_13 : decode cX3_copyMembers 13 = .ok (.invokestatic 155, 3) := by decide +kernel
theorem dX3_copyMembers_16 : decode cX3_copyMembers 16 = .ok (.ifCond .eq 21, 3) := by decide +kernel
theorem dX3_copyMembers_19 : decode cX3_copyMembers 19 = .ok (.aload_n 0, 1) := by decide +kernel
theorem dX3_copyMembers_20 : decode cX3_copyMembers 20 = .ok (.getfield 13, 3) := by decide +kernel
theorem dX3_copyMembers_23 : decode cX3_copyMembers 23 = .ok (.iload_n 3, 1) := by decide +kernel
theorem dX3_copyMembers_24 : decode cX3_copyMembers 24 = .ok (.iload 4, 2) := by decide +kernel
theorem dX3_copyMembers_26 : decode cX3_copyMembers 26 = .ok (.iadd, 1) := by decide +kernel
theorem dX3_copyMembers_27 : decode cX3_copyMembers 27 = .ok (.aload_n 0, 1) := by decide +kernel
theorem dX3_copyMembers_28 : decode cX3_copyMembers 28 = .ok (.getfield 13, 3) := by decide +kernel
theorem dX3_copyMembers_31 : decode cX3_copyMembers 31 = .ok (.iload_n 2, 1) := by decide +kernel
theorem dX3_copyMembers_32 : decode cX3_copyMembers 32 = .ok (.iload 4, 2) := by decide +kernel
theorem dX3_copyMembers_34 : decode cX3_copyMembers 34 = .ok (.iadd, 1) := by decide +kernel
theorem dX3_copyMembers_35 : decode cX3_copyMembers 35 = .ok (.iaload, 1) := by decide +kernel
theorem dX3_copyMembers_36 : decode cX3_copyMembers 36 = .ok (.iastore, 1) := by decide +kernel
theorem dX3_copyMembers_37 : decode cX3_copyMembers 37 = .ok (.iinc 4 1, 3) := by decide +kernel
theorem dX3_copyMembers_40 : decode cX3_copyMembers 40 = .ok (.goto (-37), 3) := by decide +kernel
theorem dX3_copyMembers_43 : decode cX3_copyMembers 43 = .ok (.return_, 1) := by decide +kernel
theorem dX3_addCopy_0 : decode cX3_addCopy 0 = .ok (.aload_n 0, 1) := by decide +kernel
theorem dX3_addCopy_1 : decode cX3_addCopy 1 = .ok (.invokevirtual 115, 3) := by decide +kernel
theorem dX3_addCopy_4 : decode cX3_addCopy 4 = .ok (.istore_n 2, 1) := by decide +kernel
theorem dX3_addCopy_5 : decode cX3_addCopy 5 = .ok (.aload_n 0, 1) := by decide +kernel
theorem dX3_addCopy_6 : decode cX3_addCopy 6 = .ok (.getfield 13, 3) := by decide +kernel
theorem dX3_addCopy_9 : decode cX3_addCopy 9 = .ok (.iload_n 1, 1) := by decide +kernel
theorem dX3_addCopy_10 : decode cX3_addCopy 10 = .ok (.aload_n 0, 1) := by decide +kernel
theorem dX3_addCopy_11 : decode cX3_addCopy 11 = .ok (.getfield 13, 3) := by decide +kernel
theorem dX3_addCopy_14 : decode cX3_addCopy 14 = .ok (.iload_n 2, 1) := by decide +kernel
theorem dX3_addCopy_15 : decode cX3_addCopy 15 = .ok (.bipush 6, 2) := by decide +kernel
theorem dX3_addCopy_17 : decode cX3_addCopy 17 = .ok (.invokestatic 124, 3) := by decide +kernel
theorem dX3_addCopy_20 : decode cX3_addCopy 20 = .ok (.iload_n 2, 1) := by decide +kernel
theorem dX3_addCopy_21 : decode cX3_addCopy 21 = .ok (.ireturn, 1) := by decide +kernel
theorem dX3_addEmpty_0 : decode cX3_addEmpty 0 = .ok (.aload_n 0, 1) := by decide +kernel
theorem dX3_addEmpty_1 : decode cX3_addEmpty 1 = .ok (.getfield 39, 3) := by decide +kernel
theorem dX3_addEmpty_4 : decode cX3_addEmpty 4 = .ok (.istore_n 1, 1) := by decide +kernel
theorem dX3_addEmpty_5 : decode cX3_addEmpty 5 = .ok (.iload_n 1, 1) := by decide +kernel
theorem dX3_addEmpty_6 : decode cX3_addEmpty 6 = .ok (.bipush 6, 2) := by decide +kernel
theorem dX3_addEmpty_8 : decode cX3_addEmpty 8 = .ok (.iadd, 1) := by decide +kernel
theorem dX3_addEmpty_9 : decode cX3_addEmpty 9 = .ok (.aload_n 0, 1) := by decide +kernel
theorem dX3_addEmpty_10 : decode cX3_addEmpty 10 = .ok (.getfield 13, 3) := by decide +kernel
theorem dX3_addEmpty_13 : decode cX3_addEmpty 13 = .ok (.arraylength, 1) := by decide +kernel
theorem dX3_addEmpty_14 : decode cX3_addEmpty 14 = .ok (.if_icmp .le 26, 3) := by decide +kernel
theorem dX3_addEmpty_17 : decode cX3_addEmpty 17 = .ok (.aload_n 0, 1) := by decide +kernel
theorem dX3_addEmpty_18 : decode cX3_addEmpty 18 = .ok (.aload_n 0, 1) := by decide +kernel
theorem dX3_addEmpty_19 : decode cX3_addEmpty 19 = .ok (.getfield 13, 3) := by decide +kernel
theorem dX3_addEmpty_22 : decode cX3_addEmpty 22 = .ok (.iconst 2, 1) := by decide +kernel
theorem dX3_addEmpty_23 : decode cX3_addEmpty 23 = .ok (.aload_n 0, 1) := by decide +kernel
theorem dX3_addEmpty_24 : decode cX3_addEmpty 24 = .ok (.getfield 13, 3) := by decide +kernel
theorem dX3_addEmpty_27 : decode cX3_addEmpty 27 = .ok (.arraylength, 1) := by decide +kernel
theorem dX3_addEmpty_28 : decode cX3_addEmpty 28 = .ok (.imul, 1) := by decide +kernel
theorem dX3_addEmpty_29 : decode cX3_addEmpty 29 = .ok (.ldc 158, 2) := by decide +kernel
theorem dX3_addEmpty_31 : decode cX3_addEmpty 31 = .ok (.invokestatic 147, 3) := by decide +kernel
theorem dX3_addEmpty_34 : decode cX3_addEmpty 34 = .ok (.invokestatic 159, 3) := by decide +kernel
theorem dX3_addEmpty_37 : decode cX3_addEmpty 37 = .ok (.putfield 13, 3) := by decide +kernel
theorem dX3_addEmpty_40 : decode cX3_addEmpty 40 = .ok (.iconst 0, 1) := by decide +kernel
theorem dX3_addEmpty_41 : decode cX3_addEmpty 41 = .ok (.istore_n 2, 1) := by decide +kernel
theorem dX3_addEmpty_42 : decode cX3_addEmpty 42 = .ok (.iload_n 2, 1) := by decide +kernel
theorem dX3_addEmpty_43 : decode cX3_addEmpty 43 = .ok (.bipush 6, 2) := by decide +kernel
theorem dX3_addEmpty_45 : decode cX3_addEmpty 45 = .ok (.if_icmp .ge 18, 3) := by decide +kernel
theorem dX3_addEmpty_48 : decode cX3_addEmpty 48 = .ok (.aload_n 0, 1) := by decide +kernel
theorem dX3_addEmpty_49 : decode cX3_addEmpty 49 = .ok (.getfield 13, 3) := by decide +kernel
theorem dX3_addEmpty_52 : decode cX3_addEmpty 52 = .ok (.iload_n 1, 1) := by decide +kernel
theorem dX3_addEmpty_53 : decode cX3_addEmpty 53 = .ok (.iload_n 2, 1) := by decide +kernel
theorem dX3_addEmpty_54 : decode cX3_addEmpty 54 = .ok (.iadd, 1) := by decide +kernel
theorem dX3_addEmpty_55 : decode cX3_addEmpty 55 = .ok (.iconst 0, 1) := by decide +kernel
theorem dX3_addEmpty_56 : decode cX3_addEmpty 56 = .ok (.iastore, 1) := by decide +kernel
theorem dX3_addEmpty_57 : decode cX3_addEmpty 57 = .ok (.iinc 2 1, 3) := by decide +kernel
theorem dX3_addEmpty_60 : decode cX3_addEmpty 60 = .ok (.goto (-18), 3) := by decide +kernel
theorem dX3_addEmpty_63 : decode cX3_addEmpty 63 = .ok (.aload_n 0, 1) := by decide +kernel
theorem dX3_addEmpty_64 : decode cX3_addEmpty 64 = .ok (.dup, 1) := by decide +kernel
theorem dX3_addEmpty_65 : decode cX3_addEmpty 65 = .ok (.getfield 39, 3) := by decide +kernel
theorem dX3_addEmpty_68 : decode cX3_addEmpty 68 = .ok (.bipush 6, 2) := by decide +kernel
theorem dX3_addEmpty_70 : decode cX3_addEmpty 70 = .ok (.iadd, 1) := by decide +kernel
theorem dX3_addEmpty_71 : decode cX3_addEmpty 71 = .ok (.putfield 39, 3) := by decide +kernel
theorem dX3_addEmpty_74 : decode cX3_addEmpty 74 = .ok (.iload_n 1, 1) := by decide +kernel
theorem dX3_addEmpty_75 : decode cX3_addEmpty 75 = .ok (.ireturn, 1) := by decide +kernel
theorem dX3_valueOf_0 : decode cX3_valueOf 0 = .ok (.aload_n 0, 1) := by decide +kernel
theorem dX3_valueOf_1 : decode cX3_valueOf 1 = .ok (.dup, 1) := by decide +kernel
theorem dX3_valueOf_2 : decode cX3_valueOf 2 = .ok (.getfield 45, 3) := by decide +kernel
theorem dX3_valueOf_5 : decode cX3_valueOf 5 = .ok (.iconst 1, 1) := by decide +kernel
theorem dX3_valueOf_6 : decode cX3_valueOf 6 = .ok (.iadd, 1) := by decide +kernel
theorem dX3_valueOf_7 : decode cX3_valueOf 7 = .ok (.putfield 45, 3) := by decide +kernel
theorem dX3_valueOf_10 : decode cX3_valueOf 10 = .ok (.aload_n 0, 1) := by decide +kernel
theorem dX3_valueOf_11 : decode cX3_valueOf 11 = .ok (.getfield 31, 3) := by decide +kernel
theorem dX3_valueOf_14 : decode cX3_valueOf 14 = .ok (.getfield 165, 3) := by decide +kernel
theorem dX3_valueOf_17 : decode cX3_valueOf 17 = .ok (.iload_n 1, 1) := by decide +kernel
theorem dX3_valueOf_18 : decode cX3_valueOf 18 = .ok (.iaload, 1) := by decide +kernel
theorem dX3_valueOf_19 : decode cX3_valueOf 19 = .ok (.istore_n 3, 1) := by decide +kernel
theorem dX3_valueOf_20 : decode cX3_valueOf 20 = .ok (.aload_n 0, 1) := by decide +kernel
theorem dX3_valueOf_21 : decode cX3_valueOf 21 = .ok (.getfield 31, 3) := by decide +kernel
theorem dX3_valueOf_24 : decode cX3_valueOf 24 = .ok (.getfield 170, 3) := by decide +kernel
theorem dX3_valueOf_27 : decode cX3_valueOf 27 = .ok (.iload_n 1, 1) := by decide +kernel
theorem dX3_valueOf_28 : decode cX3_valueOf 28 = .ok (.iaload, 1) := by decide +kernel
theorem dX3_valueOf_29 : decode cX3_valueOf 29 = .ok (.lookupswitch 38 #[(0, 27), (1, 36)], 27) := by decide +kernel
theorem dX3_valueOf_56 : decode cX3_valueOf 56 = .ok (.aload_n 0, 1) := by decide +kernel
theorem dX3_valueOf_57 : decode cX3_valueOf 57 = .ok (.getfield 13, 3) := by decide +kernel
theorem dX3_valueOf_60 : decode cX3_valueOf 60 = .ok (.iload_n 2, 1) := by decide +kernel
theorem dX3_valueOf_61 : decode cX3_valueOf 61 = .ok (.iload_n 3, 1) := by decide +kernel
theorem dX3_valueOf_62 : decode cX3_valueOf 62 = .ok (.iadd, 1) := by decide +kernel
theorem dX3_valueOf_63 : decode cX3_valueOf 63 = .ok (.iaload, 1) := by decide +kernel
theorem dX3_valueOf_64 : decode cX3_valueOf 64 = .ok (.ireturn, 1) := by decide +kernel
theorem dX3_valueOf_65 : decode cX3_valueOf 65 = .ok (.iload_n 3, 1) := by decide +kernel
theorem dX3_valueOf_66 : decode cX3_valueOf 66 = .ok (.ireturn, 1) := by decide +kernel
theorem dX3_valueOf_67 : decode cX3_valueOf 67 = .ok (.aload_n 0, 1) := by decide +kernel
theorem dX3_valueOf_68 : decode cX3_valueOf 68 = .ok (.aload_n 0, 1) := by decide +kernel
theorem dX3_valueOf_69 : decode cX3_valueOf 69 = .ok (.getfield 31, 3) := by decide +kernel
theorem dX3_valueOf_72 : decode cX3_valueOf 72 = .ok (.getfield 170, 3) := by decide +kernel
theorem dX3_valueOf_75 : decode cX3_valueOf 75 = .ok (.iload_n 1, 1) := by decide +kernel
theorem dX3_valueOf_76 : decode cX3_valueOf 76 = .ok (.iaload, 1) := by decide +kernel
theorem dX3_valueOf_77 : decode cX3_valueOf 77 = .ok (.iload_n 3, 1) := by decide +kernel
theorem dX3_valueOf_78 : decode cX3_valueOf 78 = .ok (.aload_n 0, 1) := by decide +kernel
theorem dX3_valueOf_79 : decode cX3_valueOf 79 = .ok (.getfield 31, 3) := by decide +kernel
theorem dX3_valueOf_82 : decode cX3_valueOf 82 = .ok (.getfield 171, 3) := by decide +kernel
theorem dX3_valueOf_85 : decode cX3_valueOf 85 = .ok (.iload_n 1, 1) := by decide +kernel
theorem dX3_valueOf_86 : decode cX3_valueOf 86 = .ok (.iaload, 1) := by decide +kernel
theorem dX3_valueOf_87 : decode cX3_valueOf 87 = .ok (.iload_n 2, 1) := by decide +kernel
theorem dX3_valueOf_88 : decode cX3_valueOf 88 = .ok (.invokevirtual 174, 3) := by decide +kernel
theorem dX3_valueOf_91 : decode cX3_valueOf 91 = .ok (.ireturn, 1) := by decide +kernel
theorem dX3_valueOfParts_0 : decode cX3_valueOfParts 0 = .ok (.aload_n 0, 1) := by decide +kernel
theorem dX3_valueOfParts_1 : decode cX3_valueOfParts 1 = .ok (.iload_n 2, 1) := by decide +kernel
theorem dX3_valueOfParts_2 : decode cX3_valueOfParts 2 = .ok (.iload 4, 2) := by decide +kernel
theorem dX3_valueOfParts_4 : decode cX3_valueOfParts 4 = .ok (.invokevirtual 130, 3) := by decide +kernel
theorem dX3_valueOfParts_7 : decode cX3_valueOfParts 7 = .ok (.istore 5, 2) := by decide +kernel
theorem dX3_valueOfParts_9 : decode cX3_valueOfParts 9 = .ok (.aload_n 0, 1) := by decide +kernel
theorem dX3_valueOfParts_10 : decode cX3_valueOfParts 10 = .ok (.getfield 42, 3) := by decide +kernel
theorem dX3_valueOfParts_13 : decode cX3_valueOfParts 13 = .ok (.ifCond .eq 5, 3) := by decide +kernel
theorem dX3_valueOfParts_16 : decode cX3_valueOfParts 16 = .ok (.iconst 0, 1) := by decide +kernel
theorem dX3_valueOfParts_17 : decode cX3_valueOfParts 17 = .ok (.ireturn, 1) := by decide +kernel
theorem dX3_valueOfParts_18 : decode cX3_valueOfParts 18 = .ok (.iload_n 1, 1) := by decide +kernel
theorem dX3_valueOfParts_19 : decode cX3_valueOfParts 19 = .ok (.bipush 6, 2) := by decide +kernel
theorem dX3_valueOfParts_21 : decode cX3_valueOfParts 21 = .ok (.if_icmp .ne 10, 3) := by decide +kernel
theorem dX3_valueOfParts_24 : decode cX3_valueOfParts 24 = .ok (.aload_n 0, 1) := by decide +kernel
theorem dX3_valueOfParts_25 : decode cX3_valueOfParts 25 = .ok (.iload 5, 2) := by decide +kernel
theorem dX3_valueOfParts_27 : decode cX3_valueOfParts 27 = .ok (.invokevirtual 178, 3) := by decide +kernel
theorem dX3_valueOfParts_30 : decode cX3_valueOfParts 30 = .ok (.ireturn, 1) := by decide +kernel
theorem dX3_valueOfParts_31 : decode cX3_valueOfParts 31 = .ok (.iload_n 1, 1) := by decide +kernel
theorem dX3_valueOfParts_32 : decode cX3_valueOfParts 32 = .ok (.bipush 11, 2) := by decide +kernel
theorem dX3_valueOfParts_34 : decode cX3_valueOfParts 34 = .ok (.if_icmp .ne 14, 3) := by decide +kernel
theorem dX3_valueOfParts_37 : decode cX3_valueOfParts 37 = .ok (.iload 5, 2) := by decide +kernel
theorem dX3_valueOfParts_39 : decode cX3_valueOfParts 39 = .ok (.ifCond .ne 7, 3) := by decide +kernel
theorem dX3_valueOfParts_42 : decode cX3_valueOfParts 42 = .ok (.iconst 1, 1) := by decide +kernel
theorem dX3_valueOfParts_43 : decode cX3_valueOfParts 43 = .ok (.goto 4, 3) := by decide +kernel
theorem dX3_valueOfParts_46 : decode cX3_valueOfParts 46 = .ok (.iconst 0, 1) := by decide +kernel
theorem dX3_valueOfParts_47 : decode cX3_valueOfParts 47 = .ok (.ireturn, 1) := by decide +kernel
theorem dX3_valueOfParts_48 : decode cX3_valueOfParts 48 = .ok (.iload_n 1, 1) := by decide +kernel
theorem dX3_valueOfParts_49 : decode cX3_valueOfParts 49 = .ok (.bipush 9, 2) := by decide +kernel
theorem dX3_valueOfParts_51 : decode cX3_valueOfParts 51 = .ok (.if_icmp .ne 10, 3) := by decide +kernel
theorem dX3_valueOfParts_54 : decode cX3_valueOfParts 54 = .ok (.iload 5, 2) := by decide +kernel
theorem dX3_valueOfParts_56 : decode cX3_valueOfParts 56 = .ok (.ifCond .ne 5, 3) := by decide +kernel
theorem dX3_valueOfParts_59 : decode cX3_valueOfParts 59 = .ok (.iconst 0, 1) := by decide +kernel
theorem dX3_valueOfParts_60 : decode cX3_valueOfParts 60 = .ok (.ireturn, 1) := by decide +kernel
theorem dX3_valueOfParts_61 : decode cX3_valueOfParts 61 = .ok (.iload_n 1, 1) := by decide +kernel
theorem dX3_valueOfParts_62 : decode cX3_valueOfParts 62 = .ok (.bipush 10, 2) := by decide +kernel
theorem dX3_valueOfParts_64 : decode cX3_valueOfParts 64 = .ok (.if_icmp .ne 10, 3) := by decide +kernel
theorem dX3_valueOfParts_67 : decode cX3_valueOfParts 67 = .ok (.iload 5, 2) := by decide +kernel
theorem dX3_valueOfParts_69 : decode cX3_valueOfParts 69 = .ok (.ifCond .eq 5, 3) := by decide +kernel
theorem dX3_valueOfParts_72 : decode cX3_valueOfParts 72 = .ok (.iconst 1, 1) := by decide +kernel
theorem dX3_valueOfParts_73 : decode cX3_valueOfParts 73 = .ok (.ireturn, 1) := by decide +kernel
theorem dX3_valueOfParts_74 : decode cX3_valueOfParts 74 = .ok (.aload_n 0, 1) := by decide +kernel
theorem dX3_valueOfParts_75 : decode cX3_valueOfParts 75 = .ok (.iload_n 3, 1) := by decide +kernel
theorem dX3_valueOfParts_76 : decode cX3_valueOfParts 76 = .ok (.iload 4, 2) := by decide +kernel
theorem dX3_valueOfParts_78 : decode cX3_valueOfParts 78 = .ok (.invokevirtual 130, 3) := by decide +kernel
theorem dX3_valueOfParts_81 : decode cX3_valueOfParts 81 = .ok (.istore 6, 2) := by decide +kernel
theorem dX3_valueOfParts_83 : decode cX3_valueOfParts 83 = .ok (.aload_n 0, 1) := by decide +kernel
theorem dX3_valueOfParts_84 : decode cX3_valueOfParts 84 = .ok (.getfield 42, 3) := by decide +kernel
theorem dX3_valueOfParts_87 : decode cX3_valueOfParts 87 = .ok (.ifCond .eq 5, 3) := by decide +kernel
theorem dX3_valueOfParts_90 : decode cX3_valueOfParts 90 = .ok (.iconst 0, 1) := by decide +kernel
theorem dX3_valueOfParts_91 : decode cX3_valueOfParts 91 = .ok (.ireturn, 1) := by decide +kernel
theorem dX3_valueOfParts_92 : decode cX3_valueOfParts 92 = .ok (.aload_n 0, 1) := by decide +kernel
theorem dX3_valueOfParts_93 : decode cX3_valueOfParts 93 = .ok (.iload_n 1, 1) := by decide +kernel
theorem dX3_valueOfParts_94 : decode cX3_valueOfParts 94 = .ok (.iload 5, 2) := by decide +kernel
theorem dX3_valueOfParts_96 : decode cX3_valueOfParts 96 = .ok (.iload 6, 2) := by decide +kernel
theorem dX3_valueOfParts_98 : decode cX3_valueOfParts 98 = .ok (.invokevirtual 181, 3) := by decide +kernel
theorem dX3_valueOfParts_101 : decode cX3_valueOfParts 101 = .ok (.ireturn, 1) := by decide +kernel
theorem dX3_valueOfPair_0 : decode cX3_valueOfPair 0 = .ok (.iload_n 1, 1) := by decide +kernel
theorem dX3_valueOfPair_1 : decode cX3_valueOfPair 1 = .ok (.tableswitch 92 2 8 #[43, 47, 51, 55, 92, 70, 81], 43) := by decide +kernel
theorem dX3_valueOfPair_44 : decode cX3_valueOfPair 44 = .ok (.iload_n 2, 1) := by decide +kernel
theorem dX3_valueOfPair_45 : decode cX3_valueOfPair 45 = .ok (.iload_n 3, 1) := by decide +kernel
theorem dX3_valueOfPair_46 : decode cX3_valueOfPair 46 = .ok (.iadd, 1) := by decide +kernel
theorem dX3_valueOfPair_47 : decode cX3_valueOfPair 47 = .ok (.ireturn, 1) := by decide +kernel
theorem dX3_valueOfPair_48 : decode cX3_valueOfPair 48 = .ok (.iload_n 2, 1) := by decide +kernel
theorem dX3_valueOfPair_49 : decode cX3_valueOfPair 49 = .ok (.iload_n 3, 1) := by decide +kernel
theorem dX3_valueOfPair_50 : decode cX3_valueOfPair 50 = .ok (.isub, 1) := by decide +kernel
theorem dX3_valueOfPair_51 : decode cX3_valueOfPair 51 = .ok (.ireturn, 1) := by decide +kernel
theorem dX3_valueOfPair_52 : decode cX3_valueOfPair 52 = .ok (.iload_n 2, 1) := by decide +kernel
theorem dX3_valueOfPair_53 : decode cX3_valueOfPair 53 = .ok (.iload_n 3, 1) := by decide +kernel
theorem dX3_valueOfPair_54 : decode cX3_valueOfPair 54 = .ok (.imul, 1) := by decide +kernel
theorem dX3_valueOfPair_55 : decode cX3_valueOfPair 55 = .ok (.ireturn, 1) := by decide +kernel
theorem dX3_valueOfPair_56 : decode cX3_valueOfPair 56 = .ok (.iload_n 3, 1) := by decide +kernel
theorem dX3_valueOfPair_57 : decode cX3_valueOfPair 57 = .ok (.ifCond .ne 10, 3) := by decide +kernel
theorem dX3_valueOfPair_60 : decode cX3_valueOfPair 60 = .ok (.aload_n 0, 1) := by decide +kernel
theorem dX3_valueOfPair_61 : decode cX3_valueOfPair 61 = .ok (.iconst 1, 1) := by decide +kernel
theorem dX3_valueOfPair_62 : decode cX3_valueOfPair 62 = .ok (.putfield 42, 3) := by decide +kernel
theorem dX3_valueOfPair_65 : decode cX3_valueOfPair 65 = .ok (.iconst 0, 1) := by decide +kernel
theorem dX3_valueOfPair_66 : decode cX3_valueOfPair 66 = .ok (.ireturn, 1) := by decide +kernel
theorem dX3_valueOfPair_67 : decode cX3_valueOfPair 67 = .ok (.iload_n 2, 1) := by decide +kernel
theorem dX3_valueOfPair_68 : decode cX3_valueOfPair 68 = .ok (.iload_n 3, 1) := by decide +kernel
theorem dX3_valueOfPair_69 : decode cX3_valueOfPair 69 = .ok (.idiv, 1) := by decide +kernel
theorem dX3_valueOfPair_70 : decode cX3_valueOfPair 70 = .ok (.ireturn, 1) := by decide +kernel
theorem dX3_valueOfPair_71 : decode cX3_valueOfPair 71 = .ok (.iload_n 2, 1) := by decide +kernel
theorem dX3_valueOfPair_72 : decode cX3_valueOfPair 72 = .ok (.iload_n 3, 1) := by decide +kernel
theorem dX3_valueOfPair_73 : decode cX3_valueOfPair 73 = .ok (.if_icmp .ge 7, 3) := by decide +kernel
theorem dX3_valueOfPair_76 : decode cX3_valueOfPair 76 = .ok (.iconst 1, 1) := by decide +kernel
theorem dX3_valueOfPair_77 : decode cX3_valueOfPair 77 = .ok (.goto 4, 3) := by decide +kernel
theorem dX3_valueOfPair_80 : decode cX3_valueOfPair 80 = .ok (.iconst 0, 1) := by decide +kernel
theorem dX3_valueOfPair_81 : decode cX3_valueOfPair 81 = .ok (.ireturn, 1) := by decide +kernel
theorem dX3_valueOfPair_82 : decode cX3_valueOfPair 82 = .ok (.iload_n 2, 1) := by decide +kernel
theorem dX3_valueOfPair_83 : decode cX3_valueOfPair 83 = .ok (.iload_n 3, 1) := by decide +kernel
theorem dX3_valueOfPair_84 : decode cX3_valueOfPair 84 = .ok (.if_icmp .ne 7, 3) := by decide +kernel
theorem dX3_valueOfPair_87 : decode cX3_valueOfPair 87 = .ok (.iconst 1, 1) := by decide +kernel
theorem dX3_valueOfPair_88 : decode cX3_valueOfPair 88 = .ok (.goto 4, 3) := by decide +kernel
theorem dX3_valueOfPair_91 : decode cX3_valueOfPair 91 = .ok (.iconst 0, 1) := by decide +kernel
theorem dX3_valueOfPair_92 : decode cX3_valueOfPair 92 = .ok (.ireturn, 1) := by decide +kernel
theorem dX3_valueOfPair_93 : decode cX3_valueOfPair 93 = .ok (.iload_n 3, 1) := by decide +kernel
theorem dX3_valueOfPair_94 : decode cX3_valueOfPair 94 = .ok (.ifCond .eq 7, 3) := by decide +kernel
theorem dX3_valueOfPair_97 : decode cX3_valueOfPair 97 = .ok (.iconst 1, 1) := by decide +kernel
theorem dX3_valueOfPair_98 : decode cX3_valueOfPair 98 = .ok (.goto 4, 3) := by decide +kernel
theorem dX3_valueOfPair_101 : decode cX3_valueOfPair 101 = .ok (.iconst 0, 1) := by decide +kernel
theorem dX3_valueOfPair_102 : decode cX3_valueOfPair 102 = .ok (.ireturn, 1) := by decide +kernel
theorem dX3_itemAt_0 : decode cX3_itemAt 0 = .ok (.aload_n 0, 1) := by decide +kernel
theorem dX3_itemAt_1 : decode cX3_itemAt 1 = .ok (.getfield 27, 3) := by decide +kernel
theorem dX3_itemAt_4 : decode cX3_itemAt 4 = .ok (.iload_n 1, 1) := by decide +kernel
theorem dX3_itemAt_5 : decode cX3_itemAt 5 = .ok (.invokevirtual 184, 3) := by decide +kernel
theorem dX3_itemAt_8 : decode cX3_itemAt 8 = .ok (.ifCond .ne 10, 3) := by decide +kernel
theorem dX3_itemAt_11 : decode cX3_itemAt 11 = .ok (.aload_n 0, 1) := by decide +kernel
theorem dX3_itemAt_12 : decode cX3_itemAt 12 = .ok (.iconst 2, 1) := by decide +kernel
theorem dX3_itemAt_13 : decode cX3_itemAt 13 = .ok (.putfield 42, 3) := by decide +kernel
theorem dX3_itemAt_16 : decode cX3_itemAt 16 = .ok (.iconst 0, 1) := by decide +kernel
theorem dX3_itemAt_17 : decode cX3_itemAt 17 = .ok (.ireturn, 1) := by decide +kernel
theorem dX3_itemAt_18 : decode cX3_itemAt 18 = .ok (.aload_n 0, 1) := by decide +kernel
theorem dX3_itemAt_19 : decode cX3_itemAt 19 = .ok (.getfield 27, 3) := by decide +kernel
theorem dX3_itemAt_22 : decode cX3_itemAt 22 = .ok (.getfield 188, 3) := by decide +kernel
theorem dX3_itemAt_25 : decode cX3_itemAt 25 = .ok (.iload_n 1, 1) := by decide +kernel
theorem dX3_itemAt_26 : decode cX3_itemAt 26 = .ok (.iaload, 1) := by decide +kernel
theorem dX3_itemAt_27 : decode cX3_itemAt 27 = .ok (.ireturn, 1) := by decide +kernel
end
section
theorem dX4_init_0 : decode cX4_init 0 = .ok (.aload_n 0, 1) := by decide +kernel
theorem dX4_init_1 : decode cX4_init 1 = .ok (.invokespecial 3, 3) := by decide +kernel
theorem dX4_init_4 : decode cX4_init 4 = .ok (.aload_n 0, 1) := by decide +kernel
theorem dX4_init_5 : decode cX4_init 5 = .ok (.bipush 72, 2) := by decide +kernel
theorem dX4_init_7 : decode cX4_init 7 = .ok (.newarray .int, 2) := by decide +kernel
theorem dX4_init_9 : decode cX4_init 9 = .ok (.putfield 11, 3) := by decide +kernel
theorem dX4_init_12 : decode cX4_init 12 = .ok (.aload_n 0, 1) := by decide +kernel
theorem dX4_init_13 : decode cX4_init 13 = .ok (.iconst 4, 1) := by decide +kernel
theorem dX4_init_14 : decode cX4_init 14 = .ok (.newarray .int, 2) := by decide +kernel
theorem dX4_init_16 : decode cX4_init 16 = .ok (.putfield 15, 3) := by decide +kernel
theorem dX4_init_19 : decode cX4_init 19 = .ok (.aload_n 0, 1) := by decide +kernel
theorem dX4_init_20 : decode cX4_init 20 = .ok (.bipush 8, 2) := by decide +kernel
theorem dX4_init_22 : decode cX4_init 22 = .ok (.newarray .int, 2) := by decide +kernel
theorem dX4_init_24 : decode cX4_init 24 = .ok (.putfield 18, 3) := by decide +kernel
theorem dX4_init_27 : decode cX4_init 27 = .ok (.return_, 1) := by decide +kernel
theorem dX4_has_0 : decode cX4_has 0 = .ok (.iload_n 1, 1) := by decide +kernel
theorem dX4_has_1 : decode cX4_has 1 = .ok (.ifCond .lt 12, 3) := by decide +kernel
theorem dX4_has_4 : decode cX4_has 4 = .ok (.iload_n 1, 1) := by decide +kernel
theorem dX4_has_5 : decode cX4_has 5 = .ok (.iconst 4, 1) := by decide +kernel
theorem dX4_has_6 : decode cX4_has 6 = .ok (.if_icmp .ge 7, 3) := by decide +kernel
theorem dX4_has_9 : decode cX4_has 9 = .ok (.iconst 1, 1) := by decide +kernel
theorem dX4_has_10 : decode cX4_has 10 = .ok (.goto 4, 3) := by decide +kernel
theorem dX4_has_13 : decode cX4_has 13 = .ok (.iconst 0, 1) := by decide +kernel
theorem dX4_has_14 : decode cX4_has 14 = .ok (.ireturn, 1) := by decide +kernel
theorem dX4_hasItem_0 : decode cX4_hasItem 0 = .ok (.iload_n 1, 1) := by decide +kernel
theorem dX4_hasItem_1 : decode cX4_hasItem 1 = .ok (.ifCond .lt 13, 3) := by decide +kernel
theorem dX4_hasItem_4 : decode cX4_hasItem 4 = .ok (.iload_n 1, 1) := by decide +kernel
theorem dX4_hasItem_5 : decode cX4_hasItem 5 = .ok (.bipush 8, 2) := by decide +kernel
theorem dX4_hasItem_7 : decode cX4_hasItem 7 = .ok (.if_icmp .ge 7, 3) := by decide +kernel
theorem dX4_hasItem_10 : decode cX4_hasItem 10 = .ok (.iconst 1, 1) := by decide +kernel
theorem dX4_hasItem_11 : decode cX4_hasItem 11 = .ok (.goto 4, 3) := by decide +kernel
theorem dX4_hasItem_14 : decode cX4_hasItem 14 = .ok (.iconst 0, 1) := by decide +kernel
theorem dX4_hasItem_15 : decode cX4_hasItem 15 = .ok (.ireturn, 1) := by decide +kernel
theorem dX4_add_0 : decode cX4_add 0 = .ok (.aload_n 0, 1) := by decide +kernel
theorem dX4_add_1 : decode cX4_add 1 = .ok (.getfield 15, 3) := by decide +kernel
theorem dX4_add_4 : decode cX4_add 4 = .ok (.iload_n 1, 1) := by decide +kernel
theorem dX4_add_5 : decode cX4_add 5 = .ok (.iaload, 1) := by decide +kernel
theorem dX4_add_6 : decode cX4_add 6 = .ok (.bipush 6, 2) := by decide +kernel
theorem dX4_add_8 : decode cX4_add 8 = .ok (.if_icmp .lt 6, 3) := by decide +kernel
theorem dX4_add_11 : decode cX4_add 11 = .ok (.bipush (-2), 2) := by decide +kernel
theorem dX4_add_13 : decode cX4_add 13 = .ok (.ireturn, 1) := by decide +kernel
theorem dX4_add_14 : decode cX4_add 14 = .ok (.aload_n 0, 1) := by decide +kernel
theorem dX4_add_15 : decode cX4_add 15 = .ok (.iload_n 1, 1) := by decide +kernel
theorem dX4_add_16 : decode cX4_add 16 = .ok (.aload_n 0, 1) := by decide +kernel
theorem dX4_add_17 : decode cX4_add 17 = .ok (.getfield 15, 3) := by decide +kernel
theorem dX4_add_20 : decode cX4_add 20 = .ok (.iload_n 1, 1) := by decide +kernel
theorem dX4_add_21 : decode cX4_add 21 = .ok (.iaload, 1) := by decide +kernel
theorem dX4_add_22 : decode cX4_add 22 = .ok (.invokevirtual 21, 3) := by decide +kernel
theorem dX4_add_25 : decode cX4_add 25 = .ok (.istore 5, 2) := by decide +kernel
theorem dX4_add_27 : decode cX4_add 27 = .ok (.aload_n 0, 1) := by decide +kernel
theorem dX4_add_28 : decode cX4_add 28 = .ok (.getfield 11, 3) := by decide +kernel
theorem dX4_add_31 : decode cX4_add 31 = .ok (.iload 5, 2) := by decide +kernel
theorem dX4_add_33 : decode cX4_add 33 = .ok (.iload_n 2, 1) := by decide +kernel
theorem dX4_add_34 : decode cX4_add 34 = .ok (.iastore, 1) := by decide +kernel
theorem dX4_add_35 : decode cX4_add 35 = .ok (.aload_n 0, 1) := by decide +kernel
theorem dX4_add_36 : decode cX4_add 36 = .ok (.getfield 11, 3) := by decide +kernel
theorem dX4_add_39 : decode cX4_add 39 = .ok (.iload 5, 2) := by decide +kernel
theorem dX4_add_41 : decode cX4_add 41 = .ok (.iconst 1, 1) := by decide +kernel
theorem dX4_add_42 : decode cX4_add 42 = .ok (.iadd, 1) := by decide +kernel
theorem dX4_add_43 : decode cX4_add 43 = .ok (.iload_n 3, 1) := by decide +kernel
theorem dX4_add_44 : decode cX4_add 44 = .ok (.iastore, 1) := by decide +kernel
theorem dX4_add_45 : decode cX4_add 45 = .ok (.aload_n 0, 1) := by decide +kernel
theorem dX4_add_46 : decode cX4_add 46 = .ok (.getfield 11, 3) := by decide +kernel
theorem dX4_add_49 : decode cX4_add 49 = .ok (.iload 5, 2) := by decide +kernel
theorem dX4_add_51 : decode cX4_add 51 = .ok (.iconst 2, 1) := by decide +kernel
theorem dX4_add_52 : decode cX4_add 52 = .ok (.iadd, 1) := by decide +kernel
theorem dX4_add_53 : decode cX4_add 53 = .ok (.iload 4, 2) := by decide +kernel
theorem dX4_add_55 : decode cX4_add 55 = .ok (.iastore, 1) := by decide +kernel
theorem dX4_add_56 : decode cX4_add 56 = .ok (.aload_n 0, 1) := by decide +kernel
theorem dX4_add_57 : decode cX4_add 57 = .ok (.getfield 15, 3) := by decide +kernel
theorem dX4_add_60 : decode cX4_add 60 = .ok (.iload_n 1, 1) := by decide +kernel
theorem dX4_add_61 : decode cX4_add 61 = .ok (.dup2, 1) := by decide +kernel
theorem dX4_add_62 : decode cX4_add 62 = .ok (.iaload, 1) := by decide +kernel
theorem dX4_add_63 : decode cX4_add 63 = .ok (.iconst 1, 1) := by decide +kernel
theorem dX4_add_64 : decode cX4_add 64 = .ok (.iadd, 1) := by decide +kernel
theorem dX4_add_65 : decode cX4_add 65 = .ok (.iastore, 1) := by decide +kernel
theorem dX4_add_66 : decode cX4_add 66 = .ok (.aload_n 0, 1) := by decide +kernel
theorem dX4_add_67 : decode cX4_add 67 = .ok (.getfield 15, 3) := by decide +kernel
theorem dX4_add_70 : decode cX4_add 70 = .ok (.iload_n 1, 1) := by decide +kernel
theorem dX4_add_71 : decode cX4_add 71 = .ok (.iaload, 1) := by decide +kernel
theorem dX4_add_72 : decode cX4_add 72 = .ok (.ireturn, 1) := by decide +kernel
theorem dX4_empty_0 : decode cX4_empty 0 = .ok (.aload_n 0, 1) := by decide +kernel
theorem dX4_empty_1 : decode cX4_empty 1 = .ok (.getfield 15, 3) := by decide +kernel
theorem dX4_empty_4 : decode cX4_empty 4 = .ok (.iload_n 1, 1) := by decide +kernel
theorem dX4_empty_5 : decode cX4_empty 5 = .ok (.iaload, 1) := by decide +kernel
theorem dX4_empty_6 : decode cX4_empty 6 = .ok (.istore_n 2, 1) := by decide +kernel
theorem dX4_empty_7 : decode cX4_empty 7 = .ok (.aload_n 0, 1) := by decide +kernel
theorem dX4_empty_8 : decode cX4_empty 8 = .ok (.getfield 15, 3) := by decide +kernel
theorem dX4_empty_11 : decode cX4_empty 11 = .ok (.iload_n 1, 1) := by decide +kernel
theorem dX4_empty_12 : decode cX4_empty 12 = .ok (.iconst 0, 1) := by decide +kernel
theorem dX4_empty_13 : decode cX4_empty 13 = .ok (.iastore, 1) := by decide +kernel
theorem dX4_empty_14 : decode cX4_empty 14 = .ok (.iload_n 2, 1) := by decide +kernel
theorem dX4_empty_15 : decode cX4_empty 15 = .ok (.ireturn, 1) := by decide +kernel
theorem dX4_total_0 : decode cX4_total 0 = .ok (.iconst 0, 1) := by decide +kernel
theorem dX4_total_1 : decode cX4_total 1 = .ok (.istore_n 1, 1) := by decide +kernel
theorem dX4_total_2 : decode cX4_total 2 = .ok (.aload_n 0, 1) := by decide +kernel
theorem dX4_total_3 : decode cX4_total 3 = .ok (.getfield 15, 3) := by decide +kernel
theorem dX4_total_6 : decode cX4_total 6 = .ok (.astore_n 2, 1) := by decide +kernel
theorem dX4_total_7 : decode cX4_total 7 = .ok (.aload_n 2, 1) := by decide +kernel
theorem dX4_total_8 : decode cX4_total 8 = .ok (.arraylength, 1) := by decide +kernel
theorem dX4_total_9 : decode cX4_total 9 = .ok (.istore_n 3, 1) := by decide +kernel
theorem dX4_total_10 : decode cX4_total 10 = .ok (.iconst 0, 1) := by decide +kernel
theorem dX4_total_11 : decode cX4_total 11 = .ok (.istore 4, 2) := by decide +kernel
theorem dX4_total_13 : decode cX4_total 13 = .ok (.iload 4, 2) := by decide +kernel
theorem dX4_total_15 : decode cX4_total 15 = .ok (.iload_n 3, 1) := by decide +kernel
theorem dX4_total_16 : decode cX4_total 16 = .ok (.if_icmp .ge 20, 3) := by decide +kernel
theorem dX4_total_19 : decode cX4_total 19 = .ok (.aload_n 2, 1) := by decide +kernel
theorem dX4_total_20 : decode cX4_total 20 = .ok (.iload 4, 2) := by decide +kernel
theorem dX4_total_22 : decode cX4_total 22 = .ok (.iaload, 1) := by decide +kernel
theorem dX4_total_23 : decode cX4_total 23 = .ok (.istore 5, 2) := by decide +kernel
theorem dX4_total_25 : decode cX4_total 25 = .ok (.iload_n 1, 1) := by decide +kernel
theorem dX4_total_26 : decode cX4_total 26 = .ok (.iload 5, 2) := by decide +kernel
theorem dX4_total_28 : decode cX4_total 28 = .ok (.iadd, 1) := by decide +kernel
theorem dX4_total_29 : decode cX4_total 29 = .ok (.istore_n 1, 1) := by decide +kernel
theorem dX4_total_30 : decode cX4_total 30 = .ok (.iinc 4 1, 3) := by decide +kernel
theorem dX4_total_33 : decode cX4_total 33 = .ok (.goto (-20), 3) := by decide +kernel
theorem dX4_total_36 : decode cX4_total 36 = .ok (.iload_n 1, 1) := by decide +kernel
theorem dX4_total_37 : decode cX4_total 37 = .ok (.ireturn, 1) := by decide +kernel
theorem dX4_cellOf_0 : decode cX4_cellOf 0 = .ok (.iload_n 1, 1) := by decide +kernel
theorem dX4_cellOf_1 : decode cX4_cellOf 1 = .ok (.bipush 6, 2) := by decide +kernel
theorem dX4_cellOf_3 : decode cX4_cellOf 3 = .ok (.imul, 1) := by decide +kernel
theorem dX4_cellOf_4 : decode cX4_cellOf 4 = .ok (.iload_n 2, 1) := by decide +kernel
theorem dX4_cellOf_5 : decode cX4_cellOf 5 = .ok (.iadd, 1) := by decide +kernel
theorem dX4_cellOf_6 : decode cX4_cellOf 6 = .ok (.iconst 3, 1) := by decide +kernel
theorem dX4_cellOf_7 : decode cX4_cellOf 7 = .ok (.imul, 1) := by decide +kernel
theorem dX4_cellOf_8 : decode cX4_cellOf 8 = .ok (.ireturn, 1) := by decide +kernel
end
section
theorem dX5_init_0 : decode cX5_init 0 = .ok (.aload_n 0, 1) := by decide +kernel
theorem dX5_init_1 : decode cX5_init 1 = .ok (.invokespecial 3, 3) := by decide +kernel
theorem dX5_init_4 : decode cX5_init 4 = .ok (.aload_n 0, 1) := by decide +kernel
theorem dX5_init_5 : decode cX5_init 5 = .ok (.new 9, 3) := by decide +kernel
theorem dX5_init_8 : decode cX5_init 8 = .ok (.dup, 1) := by decide +kernel
theorem dX5_init_9 : decode cX5_init 9 = .ok (.invokespecial 11, 3) := by decide +kernel
theorem dX5_init_12 : decode cX5_init 12 = .ok (.putfield 12, 3) := by decide +kernel
theorem dX5_init_15 : decode cX5_init 15 = .ok (.aload_n 0, 1) := by decide +kernel
theorem dX5_init_16 : decode cX5_init 16 = .ok (.new 16, 3) := by decide +kernel
theorem dX5_init_19 : decode cX5_init 19 = .ok (.dup, 1) := by decide +kernel
theorem dX5_init_20 : decode cX5_init 20 = .ok (.invokespecial 18, 3) := by decide +kernel
theorem dX5_init_23 : decode cX5_init 23 = .ok (.putfield 19, 3) := by decide +kernel
theorem dX5_init_26 : decode cX5_init 26 = .ok (.aload_n 0, 1) := by decide +kernel
theorem dX5_init_27 : decode cX5_init 27 = .ok (.new 23, 3) := by decide +kernel
theorem dX5_init_30 : decode cX5_init 30 = .ok (.dup, 1) := by decide +kernel
theorem dX5_init_31 : decode cX5_init 31 = .ok (.aload_n 0, 1) := by decide +kernel
theorem dX5_init_32 : decode cX5_init 32 = .ok (.getfield 19, 3) := by decide +kernel
theorem dX5_init_35 : decode cX5_init 35 = .ok (.invokespecial 25, 3) := by decide +kernel
theorem dX5_init_38 : decode cX5_init 38 = .ok (.putfield 28, 3) := by decide +kernel
theorem dX5_init_41 : decode cX5_init 41 = .ok (.aload_n 0, 1) := by decide +kernel
theorem dX5_init_42 : decode cX5_init 42 = .ok (.new 32, 3) := by decide +kernel
theorem dX5_init_45 : decode cX5_init 45 = .ok (.dup, 1) := by decide +kernel
theorem dX5_init_46 : decode cX5_init 46 = .ok (.aload_n 0, 1) := by decide +kernel
theorem dX5_init_47 : decode cX5_init 47 = .ok (.getfield 12, 3) := by decide +kernel
theorem dX5_init_50 : decode cX5_init 50 = .ok (.aload_n 0, 1) := by decide +kernel
theorem dX5_init_51 : decode cX5_init 51 = .ok (.getfield 19, 3) := by decide +kernel
theorem dX5_init_54 : decode cX5_init 54 = .ok (.aload_n 0, 1) := by decide +kernel
theorem dX5_init_55 : decode cX5_init 55 = .ok (.getfield 28, 3) := by decide +kernel
theorem dX5_init_58 : decode cX5_init 58 = .ok (.invokespecial 34, 3) := by decide +kernel
theorem dX5_init_61 : decode cX5_init 61 = .ok (.putfield 37, 3) := by decide +kernel
theorem dX5_init_64 : decode cX5_init 64 = .ok (.aload_n 0, 1) := by decide +kernel
theorem dX5_init_65 : decode cX5_init 65 = .ok (.new 41, 3) := by decide +kernel
theorem dX5_init_68 : decode cX5_init 68 = .ok (.dup, 1) := by decide +kernel
theorem dX5_init_69 : decode cX5_init 69 = .ok (.aload_n 0, 1) := by decide +kernel
theorem dX5_init_70 : decode cX5_init 70 = .ok (.getfield 19, 3) := by decide +kernel
theorem dX5_init_73 : decode cX5_init 73 = .ok (.aload_n 0, 1) := by decide +kernel
theorem dX5_init_74 : decode cX5_init 74 = .ok (.getfield 28, 3) := by decide +kernel
theorem dX5_init_77 : decode cX5_init 77 = .ok (.invokespecial 43, 3) := by decide +kernel
theorem dX5_init_80 : decode cX5_init 80 = .ok (.putfield 46, 3) := by decide +kernel
theorem dX5_init_83 : decode cX5_init 83 = .ok (.return_, 1) := by decide +kernel
theorem dX5_row_0 : decode cX5_row 0 = .ok (.aload_n 0, 1) := by decide +kernel
theorem dX5_row_1 : decode cX5_row 1 = .ok (.getfield 12, 3) := by decide +kernel
theorem dX5_row_4 : decode cX5_row 4 = .ok (.iload_n 1, 1) := by decide +kernel
theorem dX5_row_5 : decode cX5_row 5 = .ok (.invokevirtual 50, 3) := by decide +kernel
theorem dX5_row_8 : decode cX5_row 8 = .ok (.ifCond .ne 5, 3) := by decide +kernel
theorem dX5_row_11 : decode cX5_row 11 = .ok (.iconst (-1), 1) := by decide +kernel
theorem dX5_row_12 : decode cX5_row 12 = .ok (.ireturn, 1) := by decide +kernel
theorem dX5_row_13 : decode cX5_row 13 = .ok (.aload_n 0, 1) := by decide +kernel
theorem dX5_row_14 : decode cX5_row 14 = .ok (.getfield 12, 3) := by decide +kernel
theorem dX5_row_17 : decode cX5_row 17 = .ok (.iload_n 1, 1) := by decide +kernel
theorem dX5_row_18 : decode cX5_row 18 = .ok (.iload_n 2, 1) := by decide +kernel
theorem dX5_row_19 : decode cX5_row 19 = .ok (.iload_n 3, 1) := by decide +kernel
theorem dX5_row_20 : decode cX5_row 20 = .ok (.iload 4, 2) := by decide +kernel
theorem dX5_row_22 : decode cX5_row 22 = .ok (.invokevirtual 54, 3) := by decide +kernel
theorem dX5_row_25 : decode cX5_row 25 = .ok (.ireturn, 1) := by decide +kernel
theorem dX5_clear_0 : decode cX5_clear 0 = .ok (.aload_n 0, 1) := by decide +kernel
theorem dX5_clear_1 : decode cX5_clear 1 = .ok (.getfield 12, 3) := by decide +kernel
theorem dX5_clear_4 : decode cX5_clear 4 = .ok (.iload_n 1, 1) := by decide +kernel
theorem dX5_clear_5 : decode cX5_clear 5 = .ok (.invokevirtual 50, 3) := by decide +kernel
theorem dX5_clear_8 : decode cX5_clear 8 = .ok (.ifCond .ne 5, 3) := by decide +kernel
theorem dX5_clear_11 : decode cX5_clear 11 = .ok (.iconst (-1), 1) := by decide +kernel
theorem dX5_clear_12 : decode cX5_clear 12 = .ok (.ireturn, 1) := by decide +kernel
theorem dX5_clear_13 : decode cX5_clear 13 = .ok (.aload_n 0, 1) := by decide +kernel
theorem dX5_clear_14 : decode cX5_clear 14 = .ok (.getfield 12, 3) := by decide +kernel
theorem dX5_clear_17 : decode cX5_clear 17 = .ok (.iload_n 1, 1) := by decide +kernel
theorem dX5_clear_18 : decode cX5_clear 18 = .ok (.invokevirtual 58, 3) := by decide +kernel
theorem dX5_clear_21 : decode cX5_clear 21 = .ok (.ireturn, 1) := by decide +kernel
theorem dX5_table_0 : decode cX5_table 0 = .ok (.aload_n 0, 1) := by decide +kernel
theorem dX5_table_1 : decode cX5_table 1 = .ok (.getfield 12, 3) := by decide +kernel
theorem dX5_table_4 : decode cX5_table 4 = .ok (.iload_n 1, 1) := by decide +kernel
theorem dX5_table_5 : decode cX5_table 5 = .ok (.invokevirtual 62, 3) := by decide +kernel
theorem dX5_table_8 : decode cX5_table 8 = .ok (.ifCond .ne 5, 3) := by decide +kernel
theorem dX5_table_11 : decode cX5_table 11 = .ok (.iconst (-1), 1) := by decide +kernel
theorem dX5_table_12 : decode cX5_table 12 = .ok (.ireturn, 1) := by decide +kernel
theorem dX5_table_13 : decode cX5_table 13 = .ok (.aload_n 0, 1) := by decide +kernel
theorem dX5_table_14 : decode cX5_table 14 = .ok (.getfield 12, 3) := by decide +kernel
theorem dX5_table_17 : decode cX5_table 17 = .ok (.getfield 65, 3) := by decide +kernel
theorem dX5_table_20 : decode cX5_table 20 = .ok (.iload_n 1, 1) := by decide +kernel
theorem dX5_table_21 : decode cX5_table 21 = .ok (.iload_n 2, 1) := by decide +kernel
theorem dX5_table_22 : decode cX5_table 22 = .ok (.iastore, 1) := by decide +kernel
theorem dX5_table_23 : decode cX5_table 23 = .ok (.iconst 1, 1) := by decide +kernel
theorem dX5_table_24 : decode cX5_table 24 = .ok (.ireturn, 1) := by decide +kernel
theorem dX5_formula_0 : decode cX5_formula 0 = .ok (.aload_n 0, 1) := by decide +kernel
theorem dX5_formula_1 : decode cX5_formula 1 = .ok (.getfield 19, 3) := by decide +kernel
theorem dX5_formula_4 : decode cX5_formula 4 = .ok (.iload_n 1, 1) := by decide +kernel
theorem dX5_formula_5 : decode cX5_formula 5 = .ok (.iload_n 2, 1) := by decide +kernel
theorem dX5_formula_6 : decode cX5_formula 6 = .ok (.iload_n 3, 1) := by decide +kernel
theorem dX5_formula_7 : decode cX5_formula 7 = .ok (.invokevirtual 69, 3) := by decide +kernel
theorem dX5_formula_10 : decode cX5_formula 10 = .ok (.ifCond .ne 5, 3) := by decide +kernel
theorem dX5_formula_13 : decode cX5_formula 13 = .ok (.iconst (-1), 1) := by decide +kernel
theorem dX5_formula_14 : decode cX5_formula 14 = .ok (.ireturn, 1) := by decide +kernel
theorem dX5_formula_15 : decode cX5_formula 15 = .ok (.aload_n 0, 1) := by decide +kernel
theorem dX5_formula_16 : decode cX5_formula 16 = .ok (.getfield 19, 3) := by decide +kernel
theorem dX5_formula_19 : decode cX5_formula 19 = .ok (.iload_n 1, 1) := by decide +kernel
theorem dX5_formula_20 : decode cX5_formula 20 = .ok (.iload_n 2, 1) := by decide +kernel
theorem dX5_formula_21 : decode cX5_formula 21 = .ok (.iload_n 3, 1) := by decide +kernel
theorem dX5_formula_22 : decode cX5_formula 22 = .ok (.invokevirtual 73, 3) := by decide +kernel
theorem dX5_formula_25 : decode cX5_formula 25 = .ok (.ireturn, 1) := by decide +kernel
theorem dX5_formulaOf_0 : decode cX5_formulaOf 0 = .ok (.aload_n 0, 1) := by decide +kernel
theorem dX5_formulaOf_1 : decode cX5_formulaOf 1 = .ok (.getfield 19, 3) := by decide +kernel
theorem dX5_formulaOf_4 : decode cX5_formulaOf 4 = .ok (.iload_n 1, 1) := by decide +kernel
theorem dX5_formulaOf_5 : decode cX5_formulaOf 5 = .ok (.invokevirtual 76, 3) := by decide +kernel
theorem dX5_formulaOf_8 : decode cX5_formulaOf 8 = .ok (.ifCond .ne 5, 3) := by decide +kernel
theorem dX5_formulaOf_11 : decode cX5_formulaOf 11 = .ok (.iconst (-1), 1) := by decide +kernel
theorem dX5_formulaOf_12 : decode cX5_formulaOf 12 = .ok (.ireturn, 1) := by decide +kernel
theorem dX5_formulaOf_13 : decode cX5_formulaOf 13 = .ok (.iload_n 2, 1) := by decide +kernel
theorem dX5_formulaOf_14 : decode cX5_formulaOf 14 = .ok (.lookupswitch 49 #[(0, 26), (1, 36)], 26) := by decide +kernel
theorem dX5_formulaOf_40 : decode cX5_formulaOf 40 = .ok (.aload_n 0, 1) := by decide +kernel
theorem dX5_formulaOf_41 : decode cX5_formulaOf 41 = .ok (.getfield 19, 3) := by decide +kernel
theorem dX5_formulaOf_44 : decode cX5_formulaOf 44 = .ok (.getfield 77, 3) := by decide +kernel
theorem dX5_formulaOf_47 : decode cX5_formulaOf 47 = .ok (.iload_n 1, 1) := by decide +kernel
theorem dX5_formulaOf_48 : decode cX5_formulaOf 48 = .ok (.iaload, 1) := by decide +kernel
theorem dX5_formulaOf_49 : decode cX5_formulaOf 49 = .ok (.ireturn, 1) := by decide +kernel
theorem dX5_formulaOf_50 : decode cX5_formulaOf 50 = .ok (.aload_n 0, 1) := by decide +kernel
theorem dX5_formulaOf_51 : decode cX5_formulaOf 51 = .ok (.getfield 19, 3) := by decide +kernel
theorem dX5_formulaOf_54 : decode cX5_formulaOf 54 = .ok (.getfield 80, 3) := by decide +kernel
theorem dX5_formulaOf_57 : decode cX5_formulaOf 57 = .ok (.iload_n 1, 1) := by decide +kernel
theorem dX5_formulaOf_58 : decode cX5_formulaOf 58 = .ok (.baload, 1) := by decide +kernel
theorem dX5_formulaOf_59 : decode cX5_formulaOf 59 = .ok (.invokestatic 84, 3) := by decide +kernel
theorem dX5_formulaOf_62 : decode cX5_formulaOf 62 = .ok (.ireturn, 1) := by decide +kernel
theorem dX5_formulaOf_63 : decode cX5_formulaOf 63 = .ok (.iconst (-1), 1) := by decide +kernel
theorem dX5_formulaOf_64 : decode cX5_formulaOf 64 = .ok (.ireturn, 1) := by decide +kernel
theorem dX5_node_0 : decode cX5_node 0 = .ok (.aload_n 0, 1) := by decide +kernel
theorem dX5_node_1 : decode cX5_node 1 = .ok (.getfield 28, 3) := by decide +kernel
theorem dX5_node_4 : decode cX5_node 4 = .ok (.iload_n 1, 1) := by decide +kernel
theorem dX5_node_5 : decode cX5_node 5 = .ok (.iload_n 2, 1) := by decide +kernel
theorem dX5_node_6 : decode cX5_node 6 = .ok (.iload_n 3, 1) := by decide +kernel
theorem dX5_node_7 : decode cX5_node 7 = .ok (.iload 4, 2) := by decide +kernel
theorem dX5_node_9 : decode cX5_node 9 = .ok (.iload 5, 2) := by decide +kernel
theorem dX5_node_11 : decode cX5_node 11 = .ok (.invokevirtual 88, 3) := by decide +kernel
theorem dX5_node_14 : decode cX5_node 14 = .ok (.ifCond .ne 5, 3) := by decide +kernel
theorem dX5_node_17 : decode cX5_node 17 = .ok (.iconst (-1), 1) := by decide +kernel
theorem dX5_node_18 : decode cX5_node 18 = .ok (.ireturn, 1) := by decide +kernel
theorem dX5_node_19 : decode cX5_node 19 = .ok (.aload_n 0, 1) := by decide +kernel
theorem dX5_node_20 : decode cX5_node 20 = .ok (.getfield 28, 3) := by decide +kernel
theorem dX5_node_23 : decode cX5_node 23 = .ok (.iconst 1, 1) := by decide +kernel
theorem dX5_node_24 : decode cX5_node 24 = .ok (.invokevirtual 91, 3) := by decide +kernel
theorem dX5_node_27 : decode cX5_node 27 = .ok (.ifCond .eq 20, 3) := by decide +kernel
theorem dX5_node_30 : decode cX5_node 30 = .ok (.aload_n 0, 1) := by decide +kernel
theorem dX5_node_31 : decode cX5_node 31 = .ok (.getfield 28, 3) := by decide +kernel
theorem dX5_node_34 : decode cX5_node 34 = .ok (.iload_n 1, 1) := by decide +kernel
theorem dX5_node_35 : decode cX5_node 35 = .ok (.iload_n 2, 1) := by decide +kernel
theorem dX5_node_36 : decode cX5_node 36 = .ok (.iload_n 3, 1) := by decide +kernel
theorem dX5_node_37 : decode cX5_node 37 = .ok (.iload 5, 2) := by decide +kernel
theorem dX5_node_39 : decode cX5_node 39 = .ok (.invokevirtual 94, 3) := by decide +kernel
theorem dX5_node_42 : decode cX5_node 42 = .ok (.bipush 100, 2) := by decide +kernel
theorem dX5_node_44 : decode cX5_node 44 = .ok (.if_icmp .le 6, 3) := by decide +kernel
theorem dX5_node_47 : decode cX5_node 47 = .ok (.bipush (-2), 2) := by decide +kernel
theorem dX5_node_49 : decode cX5_node 49 = .ok (.ireturn, 1) := by decide +kernel
theorem dX5_node_50 : decode cX5_node 50 = .ok (.aload_n 0, 1) := by decide +kernel
theorem dX5_node_51 : decode cX5_node 51 = .ok (.getfield 28, 3) := by decide +kernel
theorem dX5_node_54 : decode cX5_node 54 = .ok (.iload_n 1, 1) := by decide +kernel
theorem dX5_node_55 : decode cX5_node 55 = .ok (.iload_n 2, 1) := by decide +kernel
theorem dX5_node_56 : decode cX5_node 56 = .ok (.iload_n 3, 1) := by decide +kernel
theorem dX5_node_57 : decode cX5_node 57 = .ok (.iload 4, 2) := by decide +kernel
theorem dX5_node_59 : decode cX5_node 59 = .ok (.iload 5, 2) := by decide +kernel
theorem dX5_node_61 : decode cX5_node 61 = .ok (.invokevirtual 97, 3) := by decide +kernel
theorem dX5_node_64 : decode cX5_node 64 = .ok (.ireturn, 1) := by decide +kernel
theorem dX5_told_0 : decode cX5_told 0 = .ok (.aload_n 0, 1) := by decide +kernel
theorem dX5_told_1 : decode cX5_told 1 = .ok (.getfield 28, 3) := by decide +kernel
theorem dX5_told_4 : decode cX5_told 4 = .ok (.iload_n 1, 1) := by decide +kernel
theorem dX5_told_5 : decode cX5_told 5 = .ok (.invokevirtual 100, 3) := by decide +kernel
theorem dX5_told_8 : decode cX5_told 8 = .ok (.ifCond .ne 5, 3) := by decide +kernel
theorem dX5_told_11 : decode cX5_told 11 = .ok (.iconst (-1), 1) := by decide +kernel
theorem dX5_told_12 : decode cX5_told 12 = .ok (.ireturn, 1) := by decide +kernel
theorem dX5_told_13 : decode cX5_told 13 = .ok (.iload_n 2, 1) := by decide +kernel
theorem dX5_told_14 : decode cX5_told 14 = .ok (.tableswitch 115 0 6 #[42, 52, 62, 72, 82, 92, 102], 42) := by decide +kernel
theorem dX5_told_56 : decode cX5_told 56 = .ok (.aload_n 0, 1) := by decide +kernel
theorem dX5_told_57 : decode cX5_told 57 = .ok (.getfield 28, 3) := by decide +kernel
theorem dX5_told_60 : decode cX5_told 60 = .ok (.getfield 101, 3) := by decide +kernel
theorem dX5_told_63 : decode cX5_told 63 = .ok (.iload_n 1, 1) := by decide +kernel
theorem dX5_told_64 : decode cX5_told 64 = .ok (.iaload, 1) := by decide +kernel
theorem dX5_told_65 : decode cX5_told 65 = .ok (.ireturn, 1) := by decide +kernel
theorem dX5_told_66 : decode cX5_told 66 = .ok (.aload_n 0, 1) := by decide +kernel
theorem dX5_told_67 : decode cX5_told 67 = .ok (.getfield 28, 3) := by decide +kernel
theorem dX5_told_70 : decode cX5_told 70 = .ok (.getfield 104, 3) := by decide +kernel
theorem dX5_told_73 : decode cX5_told 73 = .ok (.iload_n 1, 1) := by decide +kernel
theorem dX5_told_74 : decode cX5_told 74 = .ok (.iaload, 1) := by decide +kernel
theorem dX5_told_75 : decode cX5_told 75 = .ok (.ireturn, 1) := by decide +kernel
theorem dX5_told_76 : decode cX5_told 76 = .ok (.aload_n 0, 1) := by decide +kernel
theorem dX5_told_77 : decode cX5_told 77 = .ok (.getfield 28, 3) := by decide +kernel
theorem dX5_told_80 : decode cX5_told 80 = .ok (.getfield 107, 3) := by decide +kernel
theorem dX5_told_83 : decode cX5_told 83 = .ok (.iload_n 1, 1) := by decide +kernel
theorem dX5_told_84 : decode cX5_told 84 = .ok (.iaload, 1) := by decide +kernel
theorem dX5_told_85 : decode cX5_told 85 = .ok (.ireturn, 1) := by decide +kernel
theorem dX5_told_86 : decode cX5_told 86 = .ok (.aload_n 0, 1) := by decide +kernel
theorem dX5_told_87 : decode cX5_told 87 = .ok (.getfield 28, 3) := by decide +kernel
theorem dX5_told_90 : decode cX5_told 90 = .ok (.getfield 110, 3) := by decide +kernel
theorem dX5_told_93 : decode cX5_told 93 = .ok (.iload_n 1, 1) := by decide +kernel
theorem dX5_told_94 : decode cX5_told 94 = .ok (.iaload, 1) := by decide +kernel
theorem dX5_told_95 : decode cX5_told 95 = .ok (.ireturn, 1) := by decide +kernel
theorem dX5_told_96 : decode cX5_told 96 = .ok (.aload_n 0, 1) := by decide +kernel
theorem dX5_told_97 : decode cX5_told 97 = .ok (.getfield 28, 3) := by decide +kernel
theorem dX5_told_100 : decode cX5_told 100 = .ok (.getfield 113, 3) := by decide +kernel
theorem dX5_told_103 : decode cX5_told 103 = .ok (.iload_n 1, 1) := by decide +kernel
theorem dX5_told_104 : decode cX5_told 104 = .ok (.iaload, 1) := by decide +kernel
theorem dX5_told_105 : decode cX5_told 105 = .ok (.ireturn, 1) := by decide +kernel
theorem dX5_told_106 : decode cX5_told 106 = .ok (.aload_n 0, 1) := by decide +kernel
theorem dX5_told_107 : decode cX5_told 107 = .ok (.getfield 28, 3) := by decide +kernel
theorem dX5_told_110 : decode cX5_told 110 = .ok (.getfield 116, 3) := by decide +kernel
theorem dX5_told_113 : decode cX5_told 113 = .ok (.iload_n 1, 1) := by decide +kernel
theorem dX5_told_114 : decode cX5_told 114 = .ok (.iaload, 1) := by decide +kernel
theorem dX5_told_115 : decode cX5_told 115 = .ok (.ireturn, 1) := by decide +kernel
theorem dX5_told_116 : decode cX5_told 116 = .ok (.aload_n 0, 1) := by decide +kernel
theorem dX5_told_117 : decode cX5_told 117 = .ok (.getfield 28, 3) := by decide +kernel
theorem dX5_told_120 : decode cX5_told 120 = .ok (.getfield 119, 3) := by decide +kernel
theorem dX5_told_123 : decode cX5_told 123 = .ok (.iload_n 1, 1) := by decide +kernel
theorem dX5_told_124 : decode cX5_told 124 = .ok (.baload, 1) := by decide +kernel
theorem dX5_told_125 : decode cX5_told 125 = .ok (.invokestatic 84, 3) := by decide +kernel
theorem dX5_told_128 : decode cX5_told 128 = .ok (.ireturn, 1) := by decide +kernel
theorem dX5_told_129 : decode cX5_told 129 = .ok (.iconst (-1), 1) := by decide +kernel
theorem dX5_told_130 : decode cX5_told 130 = .ok (.ireturn, 1) := by decide +kernel
theorem dX5_run_0 : decode cX5_run 0 = .ok (.aload_n 0, 1) := by decide +kernel
theorem dX5_run_1 : decode cX5_run 1 = .ok (.getfield 28, 3) := by decide +kernel
theorem dX5_run_4 : decode cX5_run 4 = .ok (.iload_n 1, 1) := by decide +kernel
theorem dX5_run_5 : decode cX5_run 5 = .ok (.invokevirtual 100, 3) := by decide +kernel
theorem dX5_run_8 : decode cX5_run 8 = .ok (.ifCond .ne 5, 3) := by decide +kernel
theorem dX5_run_11 : decode cX5_run 11 = .ok (.iconst (-1), 1) := by decide +kernel
theorem dX5_run_12 : decode cX5_run 12 = .ok (.ireturn, 1) := by decide +kernel
theorem dX5_run_13 : decode cX5_run 13 = .ok (.aload_n 0, 1) := by decide +kernel
theorem dX5_run_14 : decode cX5_run 14 = .ok (.getfield 37, 3) := by decide +kernel
theorem dX5_run_17 : decode cX5_run 17 = .ok (.iload_n 1, 1) := by decide +kernel
theorem dX5_run_18 : decode cX5_run 18 = .ok (.invokevirtual 120, 3) := by decide +kernel
theorem dX5_run_21 : decode cX5_run 21 = .ok (.ireturn, 1) := by decide +kernel
theorem dX5_member_0 : decode cX5_member 0 = .ok (.iload_n 2, 1) := by decide +kernel
theorem dX5_member_1 : decode cX5_member 1 = .ok (.invokestatic 123, 3) := by decide +kernel
theorem dX5_member_4 : decode cX5_member 4 = .ok (.ifCond .ne 5, 3) := by decide +kernel
theorem dX5_member_7 : decode cX5_member 7 = .ok (.iconst 0, 1) := by decide +kernel
theorem dX5_member_8 : decode cX5_member 8 = .ok (.ireturn, 1) := by decide +kernel
theorem dX5_member_9 : decode cX5_member 9 = .ok (.aload_n 0, 1) := by decide +kernel
theorem dX5_member_10 : decode cX5_member 10 = .ok (.getfield 37, 3) := by decide +kernel
theorem dX5_member_13 : decode cX5_member 13 = .ok (.iload_n 1, 1) := by decide +kernel
theorem dX5_member_14 : decode cX5_member 14 = .ok (.iload_n 2, 1) := by decide +kernel
theorem dX5_member_15 : decode cX5_member 15 = .ok (.invokevirtual 126, 3) := by decide +kernel
theorem dX5_member_18 : decode cX5_member 18 = .ok (.ireturn, 1) := by decide +kernel
theorem dX5_worked_0 : decode cX5_worked 0 = .ok (.iload_n 1, 1) := by decide +kernel
theorem dX5_worked_1 : decode cX5_worked 1 = .ok (.tableswitch 63 0 3 #[31, 39, 47, 55], 31) := by decide +kernel
theorem dX5_worked_32 : decode cX5_worked 32 = .ok (.aload_n 0, 1) := by decide +kernel
theorem dX5_worked_33 : decode cX5_worked 33 = .ok (.getfield 37, 3) := by decide +kernel
theorem dX5_worked_36 : decode cX5_worked 36 = .ok (.getfield 130, 3) := by decide +kernel
theorem dX5_worked_39 : decode cX5_worked 39 = .ok (.ireturn, 1) := by decide +kernel
theorem dX5_worked_40 : decode cX5_worked 40 = .ok (.aload_n 0, 1) := by decide +kernel
theorem dX5_worked_41 : decode cX5_worked 41 = .ok (.getfield 37, 3) := by decide +kernel
theorem dX5_worked_44 : decode cX5_worked 44 = .ok (.getfield 134, 3) := by decide +kernel
theorem dX5_worked_47 : decode cX5_worked 47 = .ok (.ireturn, 1) := by decide +kernel
theorem dX5_worked_48 : decode cX5_worked 48 = .ok (.aload_n 0, 1) := by decide +kernel
theorem dX5_worked_49 : decode cX5_worked 49 = .ok (.getfield 37, 3) := by decide +kernel
theorem dX5_worked_52 : decode cX5_worked 52 = .ok (.getfield 137, 3) := by decide +kernel
theorem dX5_worked_55 : decode cX5_worked 55 = .ok (.ireturn, 1) := by decide +kernel
theorem dX5_worked_56 : decode cX5_worked 56 = .ok (.aload_n 0, 1) := by decide +kernel
theorem dX5_worked_57 : decode cX5_worked 57 = .ok (.getfield 37, 3) := by decide +kernel
theorem dX5_worked_60 : decode cX5_worked 60 = .ok (.getfield 140, 3) := by decide +kernel
theorem dX5_worked_63 : decode cX5_worked 63 = .ok (.ireturn, 1) := by decide +kernel
theorem dX5_worked_64 : decode cX5_worked 64 = .ok (.iconst (-1), 1) := by decide +kernel
theorem dX5_worked_65 : decode cX5_worked 65 = .ok (.ireturn, 1) := by decide +kernel
theorem dX5_fits_0 : decode cX5_fits 0 = .ok (.aload_n 0, 1) := by decide +kernel
theorem dX5_fits_1 : decode cX5_fits 1 = .ok (.getfield 28, 3) := by decide +kernel
theorem dX5_fits_4 : decode cX5_fits 4 = .ok (.iload_n 1, 1) := by decide +kernel
theorem dX5_fits_5 : decode cX5_fits 5 = .ok (.invokevirtual 100, 3) := by decide +kernel
theorem dX5_fits_8 : decode cX5_fits 8 = .ok (.ifCond .eq 14, 3) := by decide +kernel
theorem dX5_fits_11 : decode cX5_fits 11 = .ok (.aload_n 0, 1) := by decide +kernel
theorem dX5_fits_12 : decode cX5_fits 12 = .ok (.getfield 46, 3) := by decide +kernel
theorem dX5_fits_15 : decode cX5_fits 15 = .ok (.iload_n 2, 1) := by decide +kernel
theorem dX5_fits_16 : decode cX5_fits 16 = .ok (.invokevirtual 143, 3) := by decide +kernel
theorem dX5_fits_19 : decode cX5_fits 19 = .ok (.ifCond .ne 5, 3) := by decide +kernel
theorem dX5_fits_22 : decode cX5_fits 22 = .ok (.iconst (-1), 1) := by decide +kernel
theorem dX5_fits_23 : decode cX5_fits 23 = .ok (.ireturn, 1) := by decide +kernel
theorem dX5_fits_24 : decode cX5_fits 24 = .ok (.aload_n 0, 1) := by decide +kernel
theorem dX5_fits_25 : decode cX5_fits 25 = .ok (.getfield 46, 3) := by decide +kernel
theorem dX5_fits_28 : decode cX5_fits 28 = .ok (.iload_n 1, 1) := by decide +kernel
theorem dX5_fits_29 : decode cX5_fits 29 = .ok (.iload_n 2, 1) := by decide +kernel
theorem dX5_fits_30 : decode cX5_fits 30 = .ok (.invokevirtual 144, 3) := by decide +kernel
theorem dX5_fits_33 : decode cX5_fits 33 = .ok (.invokestatic 84, 3) := by decide +kernel
theorem dX5_fits_36 : decode cX5_fits 36 = .ok (.ireturn, 1) := by decide +kernel
theorem dX5_rewrite_0 : decode cX5_rewrite 0 = .ok (.aload_n 0, 1) := by decide +kernel
theorem dX5_rewrite_1 : decode cX5_rewrite 1 = .ok (.getfield 28, 3) := by decide +kernel
theorem dX5_rewrite_4 : decode cX5_rewrite 4 = .ok (.iload_n 1, 1) := by decide +kernel
theorem dX5_rewrite_5 : decode cX5_rewrite 5 = .ok (.invokevirtual 100, 3) := by decide +kernel
theorem dX5_rewrite_8 : decode cX5_rewrite 8 = .ok (.ifCond .eq 14, 3) := by decide +kernel
theorem dX5_rewrite_11 : decode cX5_rewrite 11 = .ok (.aload_n 0, 1) := by decide +kernel
theorem dX5_rewrite_12 : decode cX5_rewrite 12 = .ok (.getfield 46, 3) := by decide +kernel
theorem dX5_rewrite_15 : decode cX5_rewrite 15 = .ok (.iload_n 2, 1) := by decide +kernel
theorem dX5_rewrite_16 : decode cX5_rewrite 16 = .ok (.invokevirtual 143, 3) := by decide +kernel
theorem dX5_rewrite_19 : decode cX5_rewrite 19 = .ok (.ifCond .ne 5, 3) := by decide +kernel
theorem dX5_rewrite_22 : decode cX5_rewrite 22 = .ok (.iconst (-1), 1) := by decide +kernel
theorem dX5_rewrite_23 : decode cX5_rewrite 23 = .ok (.ireturn, 1) := by decide +kernel
theorem dX5_rewrite_24 : decode cX5_rewrite 24 = .ok (.aload_n 0, 1) := by decide +kernel
theorem dX5_rewrite_25 : decode cX5_rewrite 25 = .ok (.getfield 46, 3) := by decide +kernel
theorem dX5_rewrite_28 : decode cX5_rewrite 28 = .ok (.iload_n 1, 1) := by decide +kernel
theorem dX5_rewrite_29 : decode cX5_rewrite 29 = .ok (.iload_n 2, 1) := by decide +kernel
theorem dX5_rewrite_30 : decode cX5_rewrite 30 = .ok (.invokevirtual 144, 3) := by decide +kernel
theorem dX5_rewrite_33 : decode cX5_rewrite 33 = .ok (.ifCond .ne 6, 3) := by decide +kernel
theorem dX5_rewrite_36 : decode cX5_rewrite 36 = .ok (.bipush (-3), 2) := by decide +kernel
theorem dX5_rewrite_38 : decode cX5_rewrite 38 = .ok (.ireturn, 1) := by decide +kernel
theorem dX5_rewrite_39 : decode cX5_rewrite 39 = .ok (.aload_n 0, 1) := by decide +kernel
theorem dX5_rewrite_40 : decode cX5_rewrite 40 = .ok (.getfield 46, 3) := by decide +kernel
theorem dX5_rewrite_43 : decode cX5_rewrite 43 = .ok (.iload_n 1, 1) := by decide +kernel
theorem dX5_rewrite_44 : decode cX5_rewrite 44 = .ok (.iload_n 2, 1) := by decide +kernel
theorem dX5_rewrite_45 : decode cX5_rewrite 45 = .ok (.invokevirtual 148, 3) := by decide +kernel
theorem dX5_rewrite_48 : decode cX5_rewrite 48 = .ok (.ifCond .ne 6, 3) := by decide +kernel
theorem dX5_rewrite_51 : decode cX5_rewrite 51 = .ok (.bipush (-2), 2) := by decide +kernel
theorem dX5_rewrite_53 : decode cX5_rewrite 53 = .ok (.ireturn, 1) := by decide +kernel
theorem dX5_rewrite_54 : decode cX5_rewrite 54 = .ok (.aload_n 0, 1) := by decide +kernel
theorem dX5_rewrite_55 : decode cX5_rewrite 55 = .ok (.getfield 46, 3) := by decide +kernel
theorem dX5_rewrite_58 : decode cX5_rewrite 58 = .ok (.iload_n 1, 1) := by decide +kernel
theorem dX5_rewrite_59 : decode cX5_rewrite 59 = .ok (.iload_n 2, 1) := by decide +kernel
theorem dX5_rewrite_60 : decode cX5_rewrite 60 = .ok (.invokevirtual 150, 3) := by decide +kernel
theorem dX5_rewrite_63 : decode cX5_rewrite 63 = .ok (.aload_n 0, 1) := by decide +kernel
theorem dX5_rewrite_64 : decode cX5_rewrite 64 = .ok (.getfield 28, 3) := by decide +kernel
theorem dX5_rewrite_67 : decode cX5_rewrite 67 = .ok (.getfield 154, 3) := by decide +kernel
theorem dX5_rewrite_70 : decode cX5_rewrite 70 = .ok (.ireturn, 1) := by decide +kernel
theorem dX5_sweep_0 : decode cX5_sweep 0 = .ok (.aload_n 0, 1) := by decide +kernel
theorem dX5_sweep_1 : decode cX5_sweep 1 = .ok (.getfield 28, 3) := by decide +kernel
theorem dX5_sweep_4 : decode cX5_sweep 4 = .ok (.iload_n 1, 1) := by decide +kernel
theorem dX5_sweep_5 : decode cX5_sweep 5 = .ok (.invokevirtual 100, 3) := by decide +kernel
theorem dX5_sweep_8 : decode cX5_sweep 8 = .ok (.ifCond .eq 13, 3) := by decide +kernel
theorem dX5_sweep_11 : decode cX5_sweep 11 = .ok (.iload_n 2, 1) := by decide +kernel
theorem dX5_sweep_12 : decode cX5_sweep 12 = .ok (.ifCond .lt 9, 3) := by decide +kernel
theorem dX5_sweep_15 : decode cX5_sweep 15 = .ok (.iload_n 2, 1) := by decide +kernel
theorem dX5_sweep_16 : decode cX5_sweep 16 = .ok (.bipush 100, 2) := by decide +kernel
theorem dX5_sweep_18 : decode cX5_sweep 18 = .ok (.if_icmp .le 5, 3) := by decide +kernel
theorem dX5_sweep_21 : decode cX5_sweep 21 = .ok (.iconst (-1), 1) := by decide +kernel
theorem dX5_sweep_22 : decode cX5_sweep 22 = .ok (.ireturn, 1) := by decide +kernel
theorem dX5_sweep_23 : decode cX5_sweep 23 = .ok (.iconst 0, 1) := by decide +kernel
theorem dX5_sweep_24 : decode cX5_sweep 24 = .ok (.istore_n 3, 1) := by decide +kernel
theorem dX5_sweep_25 : decode cX5_sweep 25 = .ok (.iload_n 3, 1) := by decide +kernel
theorem dX5_sweep_26 : decode cX5_sweep 26 = .ok (.iload_n 2, 1) := by decide +kernel
theorem dX5_sweep_27 : decode cX5_sweep 27 = .ok (.if_icmp .ge 71, 3) := by decide +kernel
theorem dX5_sweep_30 : decode cX5_sweep 30 = .ok (.aload_n 0, 1) := by decide +kernel
theorem dX5_sweep_31 : decode cX5_sweep 31 = .ok (.getfield 46, 3) := by decide +kernel
theorem dX5_sweep_34 : decode cX5_sweep 34 = .ok (.iload_n 1, 1) := by decide +kernel
theorem dX5_sweep_35 : decode cX5_sweep 35 = .ok (.invokevirtual 157, 3) := by decide +kernel
theorem dX5_sweep_38 : decode cX5_sweep 38 = .ok (.istore 4, 2) := by decide +kernel
theorem dX5_sweep_40 : decode cX5_sweep 40 = .ok (.iload 4, 2) := by decide +kernel
theorem dX5_sweep_42 : decode cX5_sweep 42 = .ok (.ifCond .ge 7, 3) := by decide +kernel
theorem dX5_sweep_45 : decode cX5_sweep 45 = .ok (.iconst (-1), 1) := by decide +kernel
theorem dX5_sweep_46 : decode cX5_sweep 46 = .ok (.goto 12, 3) := by decide +kernel
theorem dX5_sweep_49 : decode cX5_sweep 49 = .ok (.aload_n 0, 1) := by decide +kernel
theorem dX5_sweep_50 : decode cX5_sweep 50 = .ok (.getfield 46, 3) := by decide +kernel
theorem dX5_sweep_53 : decode cX5_sweep 53 = .ok (.iload 4, 2) := by decide +kernel
theorem dX5_sweep_55 : decode cX5_sweep 55 = .ok (.invokevirtual 160, 3) := by decide +kernel
theorem dX5_sweep_58 : decode cX5_sweep 58 = .ok (.istore 5, 2) := by decide +kernel
theorem dX5_sweep_60 : decode cX5_sweep 60 = .ok (.iload 5, 2) := by decide +kernel
theorem dX5_sweep_62 : decode cX5_sweep 62 = .ok (.ifCond .lt 17, 3) := by decide +kernel
theorem dX5_sweep_65 : decode cX5_sweep 65 = .ok (.aload_n 0, 1) := by decide +kernel
theorem dX5_sweep_66 : decode cX5_sweep 66 = .ok (.getfield 46, 3) := by decide +kernel
theorem dX5_sweep_69 : decode cX5_sweep 69 = .ok (.iload 4, 2) := by decide +kernel
theorem dX5_sweep_71 : decode cX5_sweep 71 = .ok (.iload 5, 2) := by decide +kernel
theorem dX5_sweep_73 : decode cX5_sweep 73 = .ok (.invokevirtual 148, 3) := by decide +kernel
theorem dX5_sweep_76 : decode cX5_sweep 76 = .ok (.ifCond .ne 5, 3) := by decide +kernel
theorem dX5_sweep_79 : decode cX5_sweep 79 = .ok (.iload_n 3, 1) := by decide +kernel
theorem dX5_sweep_80 : decode cX5_sweep 80 = .ok (.ireturn, 1) := by decide +kernel
theorem dX5_sweep_81 : decode cX5_sweep 81 = .ok (.aload_n 0, 1) := by decide +kernel
theorem dX5_sweep_82 : decode cX5_sweep 82 = .ok (.getfield 46, 3) := by decide +kernel
theorem dX5_sweep_85 : decode cX5_sweep 85 = .ok (.iload 4, 2) := by decide +kernel
theorem dX5_sweep_87 : decode cX5_sweep 87 = .ok (.iload 5, 2) := by decide +kernel
theorem dX5_sweep_89 : decode cX5_sweep 89 = .ok (.invokevirtual 150, 3) := by decide +kernel
theorem dX5_sweep_92 : decode cX5_sweep 92 = .ok (.iinc 3 1, 3) := by decide +kernel
theorem dX5_sweep_95 : decode cX5_sweep 95 = .ok (.goto (-70), 3) := by decide +kernel
theorem dX5_sweep_98 : decode cX5_sweep 98 = .ok (.iload_n 2, 1) := by decide +kernel
theorem dX5_sweep_99 : decode cX5_sweep 99 = .ok (.ireturn, 1) := by decide +kernel
theorem dX5_count_0 : decode cX5_count 0 = .ok (.iload_n 1, 1) := by decide +kernel
theorem dX5_count_1 : decode cX5_count 1 = .ok (.tableswitch 63 0 3 #[31, 39, 47, 55], 31) := by decide +kernel
theorem dX5_count_32 : decode cX5_count 32 = .ok (.aload_n 0, 1) := by decide +kernel
theorem dX5_count_33 : decode cX5_count 33 = .ok (.getfield 19, 3) := by decide +kernel
theorem dX5_count_36 : decode cX5_count 36 = .ok (.getfield 163, 3) := by decide +kernel
theorem dX5_count_39 : decode cX5_count 39 = .ok (.ireturn, 1) := by decide +kernel
theorem dX5_count_40 : decode cX5_count 40 = .ok (.aload_n 0, 1) := by decide +kernel
theorem dX5_count_41 : decode cX5_count 41 = .ok (.getfield 28, 3) := by decide +kernel
theorem dX5_count_44 : decode cX5_count 44 = .ok (.getfield 154, 3) := by decide +kernel
theorem dX5_count_47 : decode cX5_count 47 = .ok (.ireturn, 1) := by decide +kernel
theorem dX5_count_48 : decode cX5_count 48 = .ok (.aload_n 0, 1) := by decide +kernel
theorem dX5_count_49 : decode cX5_count 49 = .ok (.getfield 46, 3) := by decide +kernel
theorem dX5_count_52 : decode cX5_count 52 = .ok (.getfield 164, 3) := by decide +kernel
theorem dX5_count_55 : decode cX5_count 55 = .ok (.ireturn, 1) := by decide +kernel
theorem dX5_count_56 : decode cX5_count 56 = .ok (.aload_n 0, 1) := by decide +kernel
theorem dX5_count_57 : decode cX5_count 57 = .ok (.getfield 12, 3) := by decide +kernel
theorem dX5_count_60 : decode cX5_count 60 = .ok (.invokevirtual 167, 3) := by decide +kernel
theorem dX5_count_63 : decode cX5_count 63 = .ok (.ireturn, 1) := by decide +kernel
theorem dX5_count_64 : decode cX5_count 64 = .ok (.iconst (-1), 1) := by decide +kernel
theorem dX5_count_65 : decode cX5_count 65 = .ok (.ireturn, 1) := by decide +kernel
theorem dX5_isMember_0 : decode cX5_isMember 0 = .ok (.iload_n 0, 1) := by decide +kernel
theorem dX5_isMember_1 : decode cX5_isMember 1 = .ok (.ifCond .lt 13, 3) := by decide +kernel
theorem dX5_isMember_4 : decode cX5_isMember 4 = .ok (.iload_n 0, 1) := by decide +kernel
theorem dX5_isMember_5 : decode cX5_isMember 5 = .ok (.bipush 6, 2) := by decide +kernel
theorem dX5_isMember_7 : decode cX5_isMember 7 = .ok (.if_icmp .ge 7, 3) := by decide +kernel
theorem dX5_isMember_10 : decode cX5_isMember 10 = .ok (.iconst 1, 1) := by decide +kernel
theorem dX5_isMember_11 : decode cX5_isMember 11 = .ok (.goto 4, 3) := by decide +kernel
theorem dX5_isMember_14 : decode cX5_isMember 14 = .ok (.iconst 0, 1) := by decide +kernel
theorem dX5_isMember_15 : decode cX5_isMember 15 = .ok (.ireturn, 1) := by decide +kernel
theorem dX5_isSet_0 : decode cX5_isSet 0 = .ok (.iload_n 0, 1) := by decide +kernel
theorem dX5_isSet_1 : decode cX5_isSet 1 = .ok (.ifCond .lt 13, 3) := by decide +kernel
theorem dX5_isSet_4 : decode cX5_isSet 4 = .ok (.iload_n 0, 1) := by decide +kernel
theorem dX5_isSet_5 : decode cX5_isSet 5 = .ok (.bipush 64, 2) := by decide +kernel
theorem dX5_isSet_7 : decode cX5_isSet 7 = .ok (.if_icmp .ge 7, 3) := by decide +kernel
theorem dX5_isSet_10 : decode cX5_isSet 10 = .ok (.iconst 1, 1) := by decide +kernel
theorem dX5_isSet_11 : decode cX5_isSet 11 = .ok (.goto 4, 3) := by decide +kernel
theorem dX5_isSet_14 : decode cX5_isSet 14 = .ok (.iconst 0, 1) := by decide +kernel
theorem dX5_isSet_15 : decode cX5_isSet 15 = .ok (.ireturn, 1) := by decide +kernel
theorem dX5_isIn_0 : decode cX5_isIn 0 = .ok (.iload_n 1, 1) := by decide +kernel
theorem dX5_isIn_1 : decode cX5_isIn 1 = .ok (.iload_n 0, 1) := by decide +kernel
theorem dX5_isIn_2 : decode cX5_isIn 2 = .ok (.ishr, 1) := by decide +kernel
theorem dX5_isIn_3 : decode cX5_isIn 3 = .ok (.iconst 1, 1) := by decide +kernel
theorem dX5_isIn_4 : decode cX5_isIn 4 = .ok (.iand, 1) := by decide +kernel
theorem dX5_isIn_5 : decode cX5_isIn 5 = .ok (.iconst 1, 1) := by decide +kernel
theorem dX5_isIn_6 : decode cX5_isIn 6 = .ok (.if_icmp .ne 7, 3) := by decide +kernel
theorem dX5_isIn_9 : decode cX5_isIn 9 = .ok (.iconst 1, 1) := by decide +kernel
theorem dX5_isIn_10 : decode cX5_isIn 10 = .ok (.goto 4, 3) := by decide +kernel
theorem dX5_isIn_13 : decode cX5_isIn 13 = .ok (.iconst 0, 1) := by decide +kernel
theorem dX5_isIn_14 : decode cX5_isIn 14 = .ok (.ireturn, 1) := by decide +kernel
theorem dX5_isWithin_0 : decode cX5_isWithin 0 = .ok (.iload_n 0, 1) := by decide +kernel
theorem dX5_isWithin_1 : decode cX5_isWithin 1 = .ok (.iload_n 1, 1) := by decide +kernel
theorem dX5_isWithin_2 : decode cX5_isWithin 2 = .ok (.iconst (-1), 1) := by decide +kernel
theorem dX5_isWithin_3 : decode cX5_isWithin 3 = .ok (.ixor, 1) := by decide +kernel
theorem dX5_isWithin_4 : decode cX5_isWithin 4 = .ok (.iand, 1) := by decide +kernel
theorem dX5_isWithin_5 : decode cX5_isWithin 5 = .ok (.ifCond .ne 7, 3) := by decide +kernel
theorem dX5_isWithin_8 : decode cX5_isWithin 8 = .ok (.iconst 1, 1) := by decide +kernel
theorem dX5_isWithin_9 : decode cX5_isWithin 9 = .ok (.goto 4, 3) := by decide +kernel
theorem dX5_isWithin_12 : decode cX5_isWithin 12 = .ok (.iconst 0, 1) := by decide +kernel
theorem dX5_isWithin_13 : decode cX5_isWithin 13 = .ok (.ireturn, 1) := by decide +kernel
theorem dX5_asNumber_0 : decode cX5_asNumber 0 = .ok (.iload_n 0, 1) := by decide +kernel
theorem dX5_asNumber_1 : decode cX5_asNumber 1 = .ok (.ifCond .eq 7, 3) := by decide +kernel
theorem dX5_asNumber_4 : decode cX5_asNumber 4 = .ok (.iconst 1, 1) := by decide +kernel
theorem dX5_asNumber_5 : decode cX5_asNumber 5 = .ok (.goto 4, 3) := by decide +kernel
theorem dX5_asNumber_8 : decode cX5_asNumber 8 = .ok (.iconst 0, 1) := by decide +kernel
theorem dX5_asNumber_9 : decode cX5_asNumber 9 = .ok (.ireturn, 1) := by decide +kernel
end
section
theorem dX6_init_0 : decode cX6_init 0 = .ok (.aload_n 0, 1) := by decide +kernel
theorem dX6_init_1 : decode cX6_init 1 = .ok (.invokespecial 1, 3) := by decide +kernel
theorem dX6_init_4 : decode cX6_init 4 = .ok (.aload_n 0, 1) := by decide +kernel
theorem dX6_init_5 : decode cX6_init 5 = .ok (.iconst 4, 1) := by decide +kernel
theorem dX6_init_6 : decode cX6_init 6 = .ok (.newarray .int, 2) := by decide +kernel
theorem dX6_init_8 : decode cX6_init 8 = .ok (.putfield 7, 3) := by decide +kernel
theorem dX6_init_11 : decode cX6_init 11 = .ok (.aload_n 0, 1) := by decide +kernel
theorem dX6_init_12 : decode cX6_init 12 = .ok (.bipush 72, 2) := by decide +kernel
theorem dX6_init_14 : decode cX6_init 14 = .ok (.newarray .int, 2) := by decide +kernel
theorem dX6_init_16 : decode cX6_init 16 = .ok (.putfield 13, 3) := by decide +kernel
theorem dX6_init_19 : decode cX6_init 19 = .ok (.aload_n 0, 1) := by decide +kernel
theorem dX6_init_20 : decode cX6_init 20 = .ok (.bipush 8, 2) := by decide +kernel
theorem dX6_init_22 : decode cX6_init 22 = .ok (.newarray .int, 2) := by decide +kernel
theorem dX6_init_24 : decode cX6_init 24 = .ok (.putfield 16, 3) := by decide +kernel
theorem dX6_init_27 : decode cX6_init 27 = .ok (.aload_n 0, 1) := by decide +kernel
theorem dX6_init_28 : decode cX6_init 28 = .ok (.bipush 40, 2) := by decide +kernel
theorem dX6_init_30 : decode cX6_init 30 = .ok (.newarray .int, 2) := by decide +kernel
theorem dX6_init_32 : decode cX6_init 32 = .ok (.putfield 19, 3) := by decide +kernel
theorem dX6_init_35 : decode cX6_init 35 = .ok (.aload_n 0, 1) := by decide +kernel
theorem dX6_init_36 : decode cX6_init 36 = .ok (.bipush 40, 2) := by decide +kernel
theorem dX6_init_38 : decode cX6_init 38 = .ok (.newarray .int, 2) := by decide +kernel
theorem dX6_init_40 : decode cX6_init 40 = .ok (.putfield 22, 3) := by decide +kernel
theorem dX6_init_43 : decode cX6_init 43 = .ok (.aload_n 0, 1) := by decide +kernel
theorem dX6_init_44 : decode cX6_init 44 = .ok (.bipush 40, 2) := by decide +kernel
theorem dX6_init_46 : decode cX6_init 46 = .ok (.newarray .int, 2) := by decide +kernel
theorem dX6_init_48 : decode cX6_init 48 = .ok (.putfield 25, 3) := by decide +kernel
theorem dX6_init_51 : decode cX6_init 51 = .ok (.aload_n 0, 1) := by decide +kernel
theorem dX6_init_52 : decode cX6_init 52 = .ok (.bipush 40, 2) := by decide +kernel
theorem dX6_init_54 : decode cX6_init 54 = .ok (.newarray .int, 2) := by decide +kernel
theorem dX6_init_56 : decode cX6_init 56 = .ok (.putfield 28, 3) := by decide +kernel
theorem dX6_init_59 : decode cX6_init 59 = .ok (.aload_n 0, 1) := by decide +kernel
theorem dX6_init_60 : decode cX6_init 60 = .ok (.bipush 40, 2) := by decide +kernel
theorem dX6_init_62 : decode cX6_init 62 = .ok (.newarray .boolean, 2) := by decide +kernel
theorem dX6_init_64 : decode cX6_init 64 = .ok (.putfield 31, 3) := by decide +kernel
theorem dX6_init_67 : decode cX6_init 67 = .ok (.aload_n 0, 1) := by decide +kernel
theorem dX6_init_68 : decode cX6_init 68 = .ok (.bipush 40, 2) := by decide +kernel
theorem dX6_init_70 : decode cX6_init 70 = .ok (.newarray .int, 2) := by decide +kernel
theorem dX6_init_72 : decode cX6_init 72 = .ok (.putfield 35, 3) := by decide +kernel
theorem dX6_init_75 : decode cX6_init 75 = .ok (.aload_n 0, 1) := by decide +kernel
theorem dX6_init_76 : decode cX6_init 76 = .ok (.bipush 60, 2) := by decide +kernel
theorem dX6_init_78 : decode cX6_init 78 = .ok (.newarray .int, 2) := by decide +kernel
theorem dX6_init_80 : decode cX6_init 80 = .ok (.putfield 38, 3) := by decide +kernel
theorem dX6_init_83 : decode cX6_init 83 = .ok (.aload_n 0, 1) := by decide +kernel
theorem dX6_init_84 : decode cX6_init 84 = .ok (.bipush 60, 2) := by decide +kernel
theorem dX6_init_86 : decode cX6_init 86 = .ok (.newarray .int, 2) := by decide +kernel
theorem dX6_init_88 : decode cX6_init 88 = .ok (.putfield 41, 3) := by decide +kernel
theorem dX6_init_91 : decode cX6_init 91 = .ok (.aload_n 0, 1) := by decide +kernel
theorem dX6_init_92 : decode cX6_init 92 = .ok (.bipush 60, 2) := by decide +kernel
theorem dX6_init_94 : decode cX6_init 94 = .ok (.newarray .int, 2) := by decide +kernel
theorem dX6_init_96 : decode cX6_init 96 = .ok (.putfield 44, 3) := by decide +kernel
theorem dX6_init_99 : decode cX6_init 99 = .ok (.aload_n 0, 1) := by decide +kernel
theorem dX6_init_100 : decode cX6_init 100 = .ok (.bipush 60, 2) := by decide +kernel
theorem dX6_init_102 : decode cX6_init 102 = .ok (.newarray .int, 2) := by decide +kernel
theorem dX6_init_104 : decode cX6_init 104 = .ok (.putfield 47, 3) := by decide +kernel
theorem dX6_init_107 : decode cX6_init 107 = .ok (.aload_n 0, 1) := by decide +kernel
theorem dX6_init_108 : decode cX6_init 108 = .ok (.bipush 60, 2) := by decide +kernel
theorem dX6_init_110 : decode cX6_init 110 = .ok (.newarray .int, 2) := by decide +kernel
theorem dX6_init_112 : decode cX6_init 112 = .ok (.putfield 50, 3) := by decide +kernel
theorem dX6_init_115 : decode cX6_init 115 = .ok (.aload_n 0, 1) := by decide +kernel
theorem dX6_init_116 : decode cX6_init 116 = .ok (.bipush 60, 2) := by decide +kernel
theorem dX6_init_118 : decode cX6_init 118 = .ok (.newarray .int, 2) := by decide +kernel
theorem dX6_init_120 : decode cX6_init 120 = .ok (.putfield 53, 3) := by decide +kernel
theorem dX6_init_123 : decode cX6_init 123 = .ok (.aload_n 0, 1) := by decide +kernel
theorem dX6_init_124 : decode cX6_init 124 = .ok (.bipush 60, 2) := by decide +kernel
theorem dX6_init_126 : decode cX6_init 126 = .ok (.newarray .boolean, 2) := by decide +kernel
theorem dX6_init_128 : decode cX6_init 128 = .ok (.putfield 56, 3) := by decide +kernel
theorem dX6_init_131 : decode cX6_init 131 = .ok (.aload_n 0, 1) := by decide +kernel
theorem dX6_init_132 : decode cX6_init 132 = .ok (.bipush 40, 2) := by decide +kernel
theorem dX6_init_134 : decode cX6_init 134 = .ok (.newarray .int, 2) := by decide +kernel
theorem dX6_init_136 : decode cX6_init 136 = .ok (.putfield 59, 3) := by decide +kernel
theorem dX6_init_139 : decode cX6_init 139 = .ok (.aload_n 0, 1) := by decide +kernel
theorem dX6_init_140 : decode cX6_init 140 = .ok (.bipush 40, 2) := by decide +kernel
theorem dX6_init_142 : decode cX6_init 142 = .ok (.newarray .int, 2) := by decide +kernel
theorem dX6_init_144 : decode cX6_init 144 = .ok (.putfield 62, 3) := by decide +kernel
theorem dX6_init_147 : decode cX6_init 147 = .ok (.aload_n 0, 1) := by decide +kernel
theorem dX6_init_148 : decode cX6_init 148 = .ok (.bipush 40, 2) := by decide +kernel
theorem dX6_init_150 : decode cX6_init 150 = .ok (.newarray .int, 2) := by decide +kernel
theorem dX6_init_152 : decode cX6_init 152 = .ok (.putfield 65, 3) := by decide +kernel
theorem dX6_init_155 : decode cX6_init 155 = .ok (.aload_n 0, 1) := by decide +kernel
theorem dX6_init_156 : decode cX6_init 156 = .ok (.ldc 68, 2) := by decide +kernel
theorem dX6_init_158 : decode cX6_init 158 = .ok (.newarray .int, 2) := by decide +kernel
theorem dX6_init_160 : decode cX6_init 160 = .ok (.putfield 69, 3) := by decide +kernel
theorem dX6_init_163 : decode cX6_init 163 = .ok (.aload_n 0, 1) := by decide +kernel
theorem dX6_init_164 : decode cX6_init 164 = .ok (.bipush 60, 2) := by decide +kernel
theorem dX6_init_166 : decode cX6_init 166 = .ok (.newarray .int, 2) := by decide +kernel
theorem dX6_init_168 : decode cX6_init 168 = .ok (.putfield 72, 3) := by decide +kernel
theorem dX6_init_171 : decode cX6_init 171 = .ok (.aload_n 0, 1) := by decide +kernel
theorem dX6_init_172 : decode cX6_init 172 = .ok (.bipush 60, 2) := by decide +kernel
theorem dX6_init_174 : decode cX6_init 174 = .ok (.newarray .boolean, 2) := by decide +kernel
theorem dX6_init_176 : decode cX6_init 176 = .ok (.putfield 75, 3) := by decide +kernel
theorem dX6_init_179 : decode cX6_init 179 = .ok (.aload_n 0, 1) := by decide +kernel
theorem dX6_init_180 : decode cX6_init 180 = .ok (.bipush 60, 2) := by decide +kernel
theorem dX6_init_182 : decode cX6_init 182 = .ok (.newarray .int, 2) := by decide +kernel
theorem dX6_init_184 : decode cX6_init 184 = .ok (.putfield 78, 3) := by decide +kernel
theorem dX6_init_187 : decode cX6_init 187 = .ok (.aload_n 0, 1) := by decide +kernel
theorem dX6_init_188 : decode cX6_init 188 = .ok (.sipush 600, 3) := by decide +kernel
theorem dX6_init_191 : decode cX6_init 191 = .ok (.newarray .int, 2) := by decide +kernel
theorem dX6_init_193 : decode cX6_init 193 = .ok (.putfield 81, 3) := by decide +kernel
theorem dX6_init_196 : decode cX6_init 196 = .ok (.aload_n 0, 1) := by decide +kernel
theorem dX6_init_197 : decode cX6_init 197 = .ok (.iconst (-1), 1) := by decide +kernel
theorem dX6_init_198 : decode cX6_init 198 = .ok (.putfield 84, 3) := by decide +kernel
theorem dX6_init_201 : decode cX6_init 201 = .ok (.return_, 1) := by decide +kernel
theorem dX6_in_0 : decode cX6_in 0 = .ok (.lload_n 0, 1) := by decide +kernel
theorem dX6_in_1 : decode cX6_in 1 = .ok (.lload_n 2, 1) := by decide +kernel
theorem dX6_in_2 : decode cX6_in 2 = .ok (.lcmp, 1) := by decide +kernel
theorem dX6_in_3 : decode cX6_in 3 = .ok (.ifCond .lt 14, 3) := by decide +kernel
theorem dX6_in_6 : decode cX6_in 6 = .ok (.lload_n 0, 1) := by decide +kernel
theorem dX6_in_7 : decode cX6_in 7 = .ok (.lload 4, 2) := by decide +kernel
theorem dX6_in_9 : decode cX6_in 9 = .ok (.lcmp, 1) := by decide +kernel
theorem dX6_in_10 : decode cX6_in 10 = .ok (.ifCond .gt 7, 3) := by decide +kernel
theorem dX6_in_13 : decode cX6_in 13 = .ok (.iconst 1, 1) := by decide +kernel
theorem dX6_in_14 : decode cX6_in 14 = .ok (.goto 4, 3) := by decide +kernel
theorem dX6_in_17 : decode cX6_in 17 = .ok (.iconst 0, 1) := by decide +kernel
theorem dX6_in_18 : decode cX6_in 18 = .ok (.ireturn, 1) := by decide +kernel
theorem dX6_row_0 : decode cX6_row 0 = .ok (.iload_n 1, 1) := by decide +kernel
theorem dX6_row_1 : decode cX6_row 1 = .ok (.i2l, 1) := by decide +kernel
theorem dX6_row_2 : decode cX6_row 2 = .ok (.lconst 0, 1) := by decide +kernel
theorem dX6_row_3 : decode cX6_row 3 = .ok (.ldc2_w 88, 3) := by decide +kernel
theorem dX6_row_6 : decode cX6_row 6 = .ok (.invokestatic 90, 3) := by decide +kernel
theorem dX6_row_9 : decode cX6_row 9 = .ok (.ifCond .ne 5, 3) := by decide +kernel
theorem dX6_row_12 : decode cX6_row 12 = .ok (.iconst (-1), 1) := by decide +kernel
theorem dX6_row_13 : decode cX6_row 13 = .ok (.ireturn, 1) := by decide +kernel
theorem dX6_row_14 : decode cX6_row 14 = .ok (.aload_n 0, 1) := by decide +kernel
theorem dX6_row_15 : decode cX6_row 15 = .ok (.getfield 7, 3) := by decide +kernel
theorem dX6_row_18 : decode cX6_row 18 = .ok (.iload_n 1, 1) := by decide +kernel
theorem dX6_row_19 : decode cX6_row 19 = .ok (.iaload, 1) := by decide +kernel
theorem dX6_row_20 : decode cX6_row 20 = .ok (.bipush 6, 2) := by decide +kernel
theorem dX6_row_22 : decode cX6_row 22 = .ok (.if_icmp .ne 6, 3) := by decide +kernel
theorem dX6_row_25 : decode cX6_row 25 = .ok (.bipush (-2), 2) := by decide +kernel
theorem dX6_row_27 : decode cX6_row 27 = .ok (.ireturn, 1) := by decide +kernel
theorem dX6_row_28 : decode cX6_row 28 = .ok (.bipush 18, 2) := by decide +kernel
theorem dX6_row_30 : decode cX6_row 30 = .ok (.iload_n 1, 1) := by decide +kernel
theorem dX6_row_31 : decode cX6_row 31 = .ok (.imul, 1) := by decide +kernel
theorem dX6_row_32 : decode cX6_row 32 = .ok (.iconst 3, 1) := by decide +kernel
theorem dX6_row_33 : decode cX6_row 33 = .ok (.aload_n 0, 1) := by decide +kernel
theorem dX6_row_34 : decode cX6_row 34 = .ok (.getfield 7, 3) := by decide +kernel
theorem dX6_row_37 : decode cX6_row 37 = .ok (.iload_n 1, 1) := by decide +kernel
theorem dX6_row_38 : decode cX6_row 38 = .ok (.iaload, 1) := by decide +kernel
theorem dX6_row_39 : decode cX6_row 39 = .ok (.imul, 1) := by decide +kernel
theorem dX6_row_40 : decode cX6_row 40 = .ok (.iadd, 1) := by decide +kernel
theorem dX6_row_41 : decode cX6_row 41 = .ok (.istore 5, 2) := by decide +kernel
theorem dX6_row_43 : decode cX6_row 43 = .ok (.aload_n 0, 1) := by decide +kernel
theorem dX6_row_44 : decode cX6_row 44 = .ok (.getfield 13, 3) := by decide +kernel
theorem dX6_row_47 : decode cX6_row 47 = .ok (.iload 5, 2) := by decide +kernel
theorem dX6_row_49 : decode cX6_row 49 = .ok (.iload_n 2, 1) := by decide +kernel
theorem dX6_row_50 : decode cX6_row 50 = .ok (.iastore, 1) := by decide +kernel
theorem dX6_row_51 : decode cX6_row 51 = .ok (.aload_n 0, 1) := by decide +kernel
theorem dX6_row_52 : decode cX6_row 52 = .ok (.getfield 13, 3) := by decide +kernel
theorem dX6_row_55 : decode cX6_row 55 = .ok (.iload 5, 2) := by decide +kernel
theorem dX6_row_57 : decode cX6_row 57 = .ok (.iconst 1, 1) := by decide +kernel
theorem dX6_row_58 : decode cX6_row 58 = .ok (.iadd, 1) := by decide +kernel
theorem dX6_row_59 : decode cX6_row 59 = .ok (.iload_n 3, 1) := by decide +kernel
theorem dX6_row_60 : decode cX6_row 60 = .ok (.iastore, 1) := by decide +kernel
theorem dX6_row_61 : decode cX6_row 61 = .ok (.aload_n 0, 1) := by decide +kernel
theorem dX6_row_62 : decode cX6_row 62 = .ok (.getfield 13, 3) := by decide +kernel
theorem dX6_row_65 : decode cX6_row 65 = .ok (.iload 5, 2) := by decide +kernel
theorem dX6_row_67 : decode cX6_row 67 = .ok (.iconst 2, 1) := by decide +kernel
theorem dX6_row_68 : decode cX6_row 68 = .ok (.iadd, 1) := by decide +kernel
theorem dX6_row_69 : decode cX6_row 69 = .ok (.iload 4, 2) := by decide +kernel
theorem dX6_row_71 : decode cX6_row 71 = .ok (.iastore, 1) := by decide +kernel
theorem dX6_row_72 : decode cX6_row 72 = .ok (.aload_n 0, 1) := by decide +kernel
theorem dX6_row_73 : decode cX6_row 73 = .ok (.getfield 7, 3) := by decide +kernel
theorem dX6_row_76 : decode cX6_row 76 = .ok (.iload_n 1, 1) := by decide +kernel
theorem dX6_row_77 : decode cX6_row 77 = .ok (.dup2, 1) := by decide +kernel
theorem dX6_row_78 : decode cX6_row 78 = .ok (.iaload, 1) := by decide +kernel
theorem dX6_row_79 : decode cX6_row 79 = .ok (.iconst 1, 1) := by decide +kernel
theorem dX6_row_80 : decode cX6_row 80 = .ok (.iadd, 1) := by decide +kernel
theorem dX6_row_81 : decode cX6_row 81 = .ok (.iastore, 1) := by decide +kernel
theorem dX6_row_82 : decode cX6_row 82 = .ok (.aload_n 0, 1) := by decide +kernel
theorem dX6_row_83 : decode cX6_row 83 = .ok (.getfield 7, 3) := by decide +kernel
theorem dX6_row_86 : decode cX6_row 86 = .ok (.iload_n 1, 1) := by decide +kernel
theorem dX6_row_87 : decode cX6_row 87 = .ok (.iaload, 1) := by decide +kernel
theorem dX6_row_88 : decode cX6_row 88 = .ok (.ireturn, 1) := by decide +kernel
theorem dX6_clear_0 : decode cX6_clear 0 = .ok (.iload_n 1, 1) := by decide +kernel
theorem dX6_clear_1 : decode cX6_clear 1 = .ok (.i2l, 1) := by decide +kernel
theorem dX6_clear_2 : decode cX6_clear 2 = .ok (.lconst 0, 1) := by decide +kernel
theorem dX6_clear_3 : decode cX6_clear 3 = .ok (.ldc2_w 88, 3) := by decide +kernel
theorem dX6_clear_6 : decode cX6_clear 6 = .ok (.invokestatic 90, 3) := by decide +kernel
theorem dX6_clear_9 : decode cX6_clear 9 = .ok (.ifCond .ne 5, 3) := by decide +kernel
theorem dX6_clear_12 : decode cX6_clear 12 = .ok (.iconst (-1), 1) := by decide +kernel
theorem dX6_clear_13 : decode cX6_clear 13 = .ok (.ireturn, 1) := by decide +kernel
theorem dX6_clear_14 : decode cX6_clear 14 = .ok (.aload_n 0, 1) := by decide +kernel
theorem dX6_clear_15 : decode cX6_clear 15 = .ok (.getfield 7, 3) := by decide +kernel
theorem dX6_clear_18 : decode cX6_clear 18 = .ok (.iload_n 1, 1) := by decide +kernel
theorem dX6_clear_19 : decode cX6_clear 19 = .ok (.iaload, 1) := by decide +kernel
theorem dX6_clear_20 : decode cX6_clear 20 = .ok (.istore_n 2, 1) := by decide +kernel
theorem dX6_clear_21 : decode cX6_clear 21 = .ok (.aload_n 0, 1) := by decide +kernel
theorem dX6_clear_22 : decode cX6_clear 22 = .ok (.getfield 7, 3) := by decide +kernel
theorem dX6_clear_25 : decode cX6_clear 25 = .ok (.iload_n 1, 1) := by decide +kernel
theorem dX6_clear_26 : decode cX6_clear 26 = .ok (.iconst 0, 1) := by decide +kernel
theorem dX6_clear_27 : decode cX6_clear 27 = .ok (.iastore, 1) := by decide +kernel
theorem dX6_clear_28 : decode cX6_clear 28 = .ok (.iload_n 2, 1) := by decide +kernel
theorem dX6_clear_29 : decode cX6_clear 29 = .ok (.ireturn, 1) := by decide +kernel
theorem dX6_table_0 : decode cX6_table 0 = .ok (.iload_n 1, 1) := by decide +kernel
theorem dX6_table_1 : decode cX6_table 1 = .ok (.i2l, 1) := by decide +kernel
theorem dX6_table_2 : decode cX6_table 2 = .ok (.lconst 0, 1) := by decide +kernel
theorem dX6_table_3 : decode cX6_table 3 = .ok (.ldc2_w 94, 3) := by decide +kernel
theorem dX6_table_6 : decode cX6_table 6 = .ok (.invokestatic 90, 3) := by decide +kernel
theorem dX6_table_9 : decode cX6_table 9 = .ok (.ifCond .ne 5, 3) := by decide +kernel
theorem dX6_table_12 : decode cX6_table 12 = .ok (.iconst (-1), 1) := by decide +kernel
theorem dX6_table_13 : decode cX6_table 13 = .ok (.ireturn, 1) := by decide +kernel
theorem dX6_table_14 : decode cX6_table 14 = .ok (.aload_n 0, 1) := by decide +kernel
theorem dX6_table_15 : decode cX6_table 15 = .ok (.getfield 16, 3) := by decide +kernel
theorem dX6_table_18 : decode cX6_table 18 = .ok (.iload_n 1, 1) := by decide +kernel
theorem dX6_table_19 : decode cX6_table 19 = .ok (.iload_n 2, 1) := by decide +kernel
theorem dX6_table_20 : decode cX6_table 20 = .ok (.iastore, 1) := by decide +kernel
theorem dX6_table_21 : decode cX6_table 21 = .ok (.iconst 1, 1) := by decide +kernel
theorem dX6_table_22 : decode cX6_table 22 = .ok (.ireturn, 1) := by decide +kernel
theorem dX6_isFormula_0 : decode cX6_isFormula 0 = .ok (.iload_n 1, 1) := by decide +kernel
theorem dX6_isFormula_1 : decode cX6_isFormula 1 = .ok (.i2l, 1) := by decide +kernel
theorem dX6_isFormula_2 : decode cX6_isFormula 2 = .ok (.lconst 0, 1) := by decide +kernel
theorem dX6_isFormula_3 : decode cX6_isFormula 3 = .ok (.aload_n 0, 1) := by decide +kernel
theorem dX6_isFormula_4 : decode cX6_isFormula 4 = .ok (.getfield 96, 3) := by decide +kernel
theorem dX6_isFormula_7 : decode cX6_isFormula 7 = .ok (.iconst 1, 1) := by decide +kernel
theorem dX6_isFormula_8 : decode cX6_isFormula 8 = .ok (.isub, 1) := by decide +kernel
theorem dX6_isFormula_9 : decode cX6_isFormula 9 = .ok (.i2l, 1) := by decide +kernel
theorem dX6_isFormula_10 : decode cX6_isFormula 10 = .ok (.invokestatic 90, 3) := by decide +kernel
theorem dX6_isFormula_13 : decode cX6_isFormula 13 = .ok (.ireturn, 1) := by decide +kernel
theorem dX6_hasTwo_0 : decode cX6_hasTwo 0 = .ok (.iload_n 0, 1) := by decide +kernel
theorem dX6_hasTwo_1 : decode cX6_hasTwo 1 = .ok (.iconst 1, 1) := by decide +kernel
theorem dX6_hasTwo_2 : decode cX6_hasTwo 2 = .ok (.if_icmp .le 19, 3) := by decide +kernel
theorem dX6_hasTwo_5 : decode cX6_hasTwo 5 = .ok (.iload_n 0, 1) := by decide +kernel
theorem dX6_hasTwo_6 : decode cX6_hasTwo 6 = .ok (.bipush 6, 2) := by decide +kernel
theorem dX6_hasTwo_8 : decode cX6_hasTwo 8 = .ok (.if_icmp .eq 13, 3) := by decide +kernel
theorem dX6_hasTwo_11 : decode cX6_hasTwo 11 = .ok (.iload_n 0, 1) := by decide +kernel
theorem dX6_hasTwo_12 : decode cX6_hasTwo 12 = .ok (.bipush 11, 2) := by decide +kernel
theorem dX6_hasTwo_14 : decode cX6_hasTwo 14 = .ok (.if_icmp .eq 7, 3) := by decide +kernel
theorem dX6_hasTwo_17 : decode cX6_hasTwo 17 = .ok (.iconst 1, 1) := by decide +kernel
theorem dX6_hasTwo_18 : decode cX6_hasTwo 18 = .ok (.goto 4, 3) := by decide +kernel
theorem dX6_hasTwo_21 : decode cX6_hasTwo 21 = .ok (.iconst 0, 1) := by decide +kernel
theorem dX6_hasTwo_22 : decode cX6_hasTwo 22 = .ok (.ireturn, 1) := by decide +kernel
theorem dX6_hasOne_0 : decode cX6_hasOne 0 = .ok (.iload_n 0, 1) := by decide +kernel
theorem dX6_hasOne_1 : decode cX6_hasOne 1 = .ok (.iconst 1, 1) := by decide +kernel
theorem dX6_hasOne_2 : decode cX6_hasOne 2 = .ok (.if_icmp .le 7, 3) := by decide +kernel
theorem dX6_hasOne_5 : decode cX6_hasOne 5 = .ok (.iconst 1, 1) := by decide +kernel
theorem dX6_hasOne_6 : decode cX6_hasOne 6 = .ok (.goto 4, 3) := by decide +kernel
theorem dX6_hasOne_9 : decode cX6_hasOne 9 = .ok (.iconst 0, 1) := by decide +kernel
theorem dX6_hasOne_10 : decode cX6_hasOne 10 = .ok (.ireturn, 1) := by decide +kernel
theorem dX6_sizeOf_0 : decode cX6_sizeOf 0 = .ok (.iconst 1, 1) := by decide +kernel
theorem dX6_sizeOf_1 : decode cX6_sizeOf 1 = .ok (.iload_n 1, 1) := by decide +kernel
theorem dX6_sizeOf_2 : decode cX6_sizeOf 2 = .ok (.invokestatic 99, 3) := by decide +kernel
theorem dX6_sizeOf_5 : decode cX6_sizeOf 5 = .ok (.ifCond .eq 12, 3) := by decide +kernel
theorem dX6_sizeOf_8 : decode cX6_sizeOf 8 = .ok (.aload_n 0, 1) := by decide +kernel
theorem dX6_sizeOf_9 : decode cX6_sizeOf 9 = .ok (.getfield 35, 3) := by decide +kernel
theorem dX6_sizeOf_12 : decode cX6_sizeOf 12 = .ok (.iload_n 2, 1) := by decide +kernel
theorem dX6_sizeOf_13 : decode cX6_sizeOf 13 = .ok (.iaload, 1) := by decide +kernel
theorem dX6_sizeOf_14 : decode cX6_sizeOf 14 = .ok (.goto 4, 3) := by decide +kernel
theorem dX6_sizeOf_17 : decode cX6_sizeOf 17 = .ok (.iconst 0, 1) := by decide +kernel
theorem dX6_sizeOf_18 : decode cX6_sizeOf 18 = .ok (.iadd, 1) := by decide +kernel
theorem dX6_sizeOf_19 : decode cX6_sizeOf 19 = .ok (.iload_n 1, 1) := by decide +kernel
theorem dX6_sizeOf_20 : decode cX6_sizeOf 20 = .ok (.invokestatic 103, 3) := by decide +kernel
theorem dX6_sizeOf_23 : decode cX6_sizeOf 23 = .ok (.ifCond .eq 12, 3) := by decide +kernel
theorem dX6_sizeOf_26 : decode cX6_sizeOf 26 = .ok (.aload_n 0, 1) := by decide +kernel
theorem dX6_sizeOf_27 : decode cX6_sizeOf 27 = .ok (.getfield 35, 3) := by decide +kernel
theorem dX6_sizeOf_30 : decode cX6_sizeOf 30 = .ok (.iload_n 3, 1) := by decide +kernel
theorem dX6_sizeOf_31 : decode cX6_sizeOf 31 = .ok (.iaload, 1) := by decide +kernel
theorem dX6_sizeOf_32 : decode cX6_sizeOf 32 = .ok (.goto 4, 3) := by decide +kernel
theorem dX6_sizeOf_35 : decode cX6_sizeOf 35 = .ok (.iconst 0, 1) := by decide +kernel
theorem dX6_sizeOf_36 : decode cX6_sizeOf 36 = .ok (.iadd, 1) := by decide +kernel
theorem dX6_sizeOf_37 : decode cX6_sizeOf 37 = .ok (.ireturn, 1) := by decide +kernel
theorem dX6_tell_0 : decode cX6_tell 0 = .ok (.aload_n 0, 1) := by decide +kernel
theorem dX6_tell_1 : decode cX6_tell 1 = .ok (.getfield 96, 3) := by decide +kernel
theorem dX6_tell_4 : decode cX6_tell 4 = .ok (.istore 4, 2) := by decide +kernel
theorem dX6_tell_6 : decode cX6_tell 6 = .ok (.aload_n 0, 1) := by decide +kernel
theorem dX6_tell_7 : decode cX6_tell 7 = .ok (.getfield 35, 3) := by decide +kernel
theorem dX6_tell_10 : decode cX6_tell 10 = .ok (.iload 4, 2) := by decide +kernel
theorem dX6_tell_12 : decode cX6_tell 12 = .ok (.aload_n 0, 1) := by decide +kernel
theorem dX6_tell_13 : decode cX6_tell 13 = .ok (.iload_n 1, 1) := by decide +kernel
theorem dX6_tell_14 : decode cX6_tell 14 = .ok (.iload_n 2, 1) := by decide +kernel
theorem dX6_tell_15 : decode cX6_tell 15 = .ok (.iload_n 3, 1) := by decide +kernel
theorem dX6_tell_16 : decode cX6_tell 16 = .ok (.invokevirtual 106, 3) := by decide +kernel
theorem dX6_tell_19 : decode cX6_tell 19 = .ok (.iastore, 1) := by decide +kernel
theorem dX6_tell_20 : decode cX6_tell 20 = .ok (.aload_n 0, 1) := by decide +kernel
theorem dX6_tell_21 : decode cX6_tell 21 = .ok (.getfield 19, 3) := by decide +kernel
theorem dX6_tell_24 : decode cX6_tell 24 = .ok (.iload 4, 2) := by decide +kernel
theorem dX6_tell_26 : decode cX6_tell 26 = .ok (.iload_n 1, 1) := by decide +kernel
theorem dX6_tell_27 : decode cX6_tell 27 = .ok (.iastore, 1) := by decide +kernel
theorem dX6_tell_28 : decode cX6_tell 28 = .ok (.aload_n 0, 1) := by decide +kernel
theorem dX6_tell_29 : decode cX6_tell 29 = .ok (.getfield 22, 3) := by decide +kernel
theorem dX6_tell_32 : decode cX6_tell 32 = .ok (.iload 4, 2) := by decide +kernel
theorem dX6_tell_34 : decode cX6_tell 34 = .ok (.iload_n 2, 1) := by decide +kernel
theorem dX6_tell_35 : decode cX6_tell 35 = .ok (.iastore, 1) := by decide +kernel
theorem dX6_tell_36 : decode cX6_tell 36 = .ok (.aload_n 0, 1) := by decide +kernel
theorem dX6_tell_37 : decode cX6_tell 37 = .ok (.getfield 25, 3) := by decide +kernel
theorem dX6_tell_40 : decode cX6_tell 40 = .ok (.iload 4, 2) := by decide +kernel
theorem dX6_tell_42 : decode cX6_tell 42 = .ok (.iload_n 3, 1) := by decide +kernel
theorem dX6_tell_43 : decode cX6_tell 43 = .ok (.iastore, 1) := by decide +kernel
theorem dX6_tell_44 : decode cX6_tell 44 = .ok (.aload_n 0, 1) := by decide +kernel
theorem dX6_tell_45 : decode cX6_tell 45 = .ok (.getfield 28, 3) := by decide +kernel
theorem dX6_tell_48 : decode cX6_tell 48 = .ok (.iload 4, 2) := by decide +kernel
theorem dX6_tell_50 : decode cX6_tell 50 = .ok (.iload_n 1, 1) := by decide +kernel
theorem dX6_tell_51 : decode cX6_tell 51 = .ok (.ifCond .ne 9, 3) := by decide +kernel
theorem dX6_tell_54 : decode cX6_tell 54 = .ok (.iconst 1, 1) := by decide +kernel
theorem dX6_tell_55 : decode cX6_tell 55 = .ok (.iload_n 2, 1) := by decide +kernel
theorem dX6_tell_56 : decode cX6_tell 56 = .ok (.ishl, 1) := by decide +kernel
theorem dX6_tell_57 : decode cX6_tell 57 = .ok (.goto 4, 3) := by decide +kernel
theorem dX6_tell_60 : decode cX6_tell 60 = .ok (.iconst 0, 1) := by decide +kernel
theorem dX6_tell_61 : decode cX6_tell 61 = .ok (.iastore, 1) := by decide +kernel
theorem dX6_tell_62 : decode cX6_tell 62 = .ok (.aload_n 0, 1) := by decide +kernel
theorem dX6_tell_63 : decode cX6_tell 63 = .ok (.getfield 31, 3) := by decide +kernel
theorem dX6_tell_66 : decode cX6_tell 66 = .ok (.iload 4, 2) := by decide +kernel
theorem dX6_tell_68 : decode cX6_tell 68 = .ok (.iload_n 1, 1) := by decide +kernel
theorem dX6_tell_69 : decode cX6_tell 69 = .ok (.iconst 5, 1) := by decide +kernel
theorem dX6_tell_70 : decode cX6_tell 70 = .ok (.if_icmp .eq 9, 3) := by decide +kernel
theorem dX6_tell_73 : decode cX6_tell 73 = .ok (.iload_n 1, 1) := by decide +kernel
theorem dX6_tell_74 : decode cX6_tell 74 = .ok (.bipush 6, 2) := by decide +kernel
theorem dX6_tell_76 : decode cX6_tell 76 = .ok (.if_icmp .ne 7, 3) := by decide +kernel
theorem dX6_tell_79 : decode cX6_tell 79 = .ok (.iconst 1, 1) := by decide +kernel
theorem dX6_tell_80 : decode cX6_tell 80 = .ok (.goto 4, 3) := by decide +kernel
theorem dX6_tell_83 : decode cX6_tell 83 = .ok (.iconst 0, 1) := by decide +kernel
theorem dX6_tell_84 : decode cX6_tell 84 = .ok (.bastore, 1) := by decide +kernel
theorem dX6_tell_85 : decode cX6_tell 85 = .ok (.iload_n 1, 1) := by decide +kernel
theorem dX6_tell_86 : decode cX6_tell 86 = .ok (.invokestatic 99, 3) := by decide +kernel
theorem dX6_tell_89 : decode cX6_tell 89 = .ok (.ifCond .eq 55, 3) := by decide +kernel
theorem dX6_tell_92 : decode cX6_tell 92 = .ok (.aload_n 0, 1) := by decide +kernel
theorem dX6_tell_93 : decode cX6_tell 93 = .ok (.getfield 28, 3) := by decide +kernel
theorem dX6_tell_96 : decode cX6_tell 96 = .ok (.iload 4, 2) := by decide +kernel
theorem dX6_tell_98 : decode cX6_tell 98 = .ok (.aload_n 0, 1) := by decide +kernel
theorem dX6_tell_99 : decode cX6_tell 99 = .ok (.getfield 28, 3) := by decide +kernel
theorem dX6_tell_102 : decode cX6_tell 102 = .ok (.iload 4, 2) := by decide +kernel
theorem dX6_tell_104 : decode cX6_tell 104 = .ok (.iaload, 1) := by decide +kernel
theorem dX6_tell_105 : decode cX6_tell 105 = .ok (.aload_n 0, 1) := by decide +kernel
theorem dX6_tell_106 : decode cX6_tell 106 = .ok (.getfield 28, 3) := by decide +kernel
theorem dX6_tell_109 : decode cX6_tell 109 = .ok (.iload_n 2, 1) := by decide +kernel
theorem dX6_tell_110 : decode cX6_tell 110 = .ok (.iaload, 1) := by decide +kernel
theorem dX6_tell_111 : decode cX6_tell 111 = .ok (.ior, 1) := by decide +kernel
theorem dX6_tell_112 : decode cX6_tell 112 = .ok (.iastore, 1) := by decide +kernel
theorem dX6_tell_113 : decode cX6_tell 113 = .ok (.aload_n 0, 1) := by decide +kernel
theorem dX6_tell_114 : decode cX6_tell 114 = .ok (.getfield 31, 3) := by decide +kernel
theorem dX6_tell_117 : decode cX6_tell 117 = .ok (.iload 4, 2) := by decide +kernel
theorem dX6_tell_119 : decode cX6_tell 119 = .ok (.aload_n 0, 1) := by decide +kernel
theorem dX6_tell_120 : decode cX6_tell 120 = .ok (.getfield 31, 3) := by decide +kernel
theorem dX6_tell_123 : decode cX6_tell 123 = .ok (.iload 4, 2) := by decide +kernel
theorem dX6_tell_125 : decode cX6_tell 125 = .ok (.baload, 1) := by decide +kernel
theorem dX6_tell_126 : decode cX6_tell 126 = .ok (.ifCond .ne 12, 3) := by decide +kernel
theorem dX6_tell_129 : decode cX6_tell 129 = .ok (.aload_n 0, 1) := by decide +kernel
theorem dX6_tell_130 : decode cX6_tell 130 = .ok (.getfield 31, 3) := by decide +kernel
theorem dX6_tell_133 : decode cX6_tell 133 = .ok (.iload_n 2, 1) := by decide +kernel
theorem dX6_tell_134 : decode cX6_tell 134 = .ok (.baload, 1) := by decide +kernel
theorem dX6_tell_135 : decode cX6_tell 135 = .ok (.ifCond .eq 7, 3) := by decide +kernel
theorem dX6_tell_138 : decode cX6_tell 138 = .ok (.iconst 1, 1) := by decide +kernel
theorem dX6_tell_139 : decode cX6_tell 139 = .ok (.goto 4, 3) := by decide +kernel
theorem dX6_tell_142 : decode cX6_tell 142 = .ok (.iconst 0, 1) := by decide +kernel
theorem dX6_tell_143 : decode cX6_tell 143 = .ok (.bastore, 1) := by decide +kernel
theorem dX6_tell_144 : decode cX6_tell 144 = .ok (.iload_n 1, 1) := by decide +kernel
theorem dX6_tell_145 : decode cX6_tell 145 = .ok (.invokestatic 103, 3) := by decide +kernel
theorem dX6_tell_148 : decode cX6_tell 148 = .ok (.ifCond .eq 55, 3) := by decide +kernel
theorem dX6_tell_151 : decode cX6_tell 151 = .ok (.aload_n 0, 1) := by decide +kernel
theorem dX6_tell_152 : decode cX6_tell 152 = .ok (.getfield 28, 3) := by decide +kernel
theorem dX6_tell_155 : decode cX6_tell 155 = .ok (.iload 4, 2) := by decide +kernel
theorem dX6_tell_157 : decode cX6_tell 157 = .ok (.aload_n 0, 1) := by decide +kernel
theorem dX6_tell_158 : decode cX6_tell 158 = .ok (.getfield 28, 3) := by decide +kernel
theorem dX6_tell_161 : decode cX6_tell 161 = .ok (.iload 4, 2) := by decide +kernel
theorem dX6_tell_163 : decode cX6_tell 163 = .ok (.iaload, 1) := by decide +kernel
theorem dX6_tell_164 : decode cX6_tell 164 = .ok (.aload_n 0, 1) := by decide +kernel
theorem dX6_tell_165 : decode cX6_tell 165 = .ok (.getfield 28, 3) := by decide +kernel
theorem dX6_tell_168 : decode cX6_tell 168 = .ok (.iload_n 3, 1) := by decide +kernel
theorem dX6_tell_169 : decode cX6_tell 169 = .ok (.iaload, 1) := by decide +kernel
theorem dX6_tell_170 : decode cX6_tell 170 = .ok (.ior, 1) := by decide +kernel
theorem dX6_tell_171 : decode cX6_tell 171 = .ok (.iastore, 1) := by decide +kernel
theorem dX6_tell_172 : decode cX6_tell 172 = .ok (.aload_n 0, 1) := by decide +kernel
theorem dX6_tell_173 : decode cX6_tell 173 = .ok (.getfield 31, 3) := by decide +kernel
theorem dX6_tell_176 : decode cX6_tell 176 = .ok (.iload 4, 2) := by decide +kernel
theorem dX6_tell_178 : decode cX6_tell 178 = .ok (.aload_n 0, 1) := by decide +kernel
theorem dX6_tell_179 : decode cX6_tell 179 = .ok (.getfield 31, 3) := by decide +kernel
theorem dX6_tell_182 : decode cX6_tell 182 = .ok (.iload 4, 2) := by decide +kernel
theorem dX6_tell_184 : decode cX6_tell 184 = .ok (.baload, 1) := by decide +kernel
theorem dX6_tell_185 : decode cX6_tell 185 = .ok (.ifCond .ne 12, 3) := by decide +kernel
theorem dX6_tell_188 : decode cX6_tell 188 = .ok (.aload_n 0, 1) := by decide +kernel
theorem dX6_tell_189 : decode cX6_tell 189 = .ok (.getfield 31, 3) := by decide +kernel
theorem dX6_tell_192 : decode cX6_tell 192 = .ok (.iload_n 3, 1) := by decide +kernel
theorem dX6_tell_193 : decode cX6_tell 193 = .ok (.baload, 1) := by decide +kernel
theorem dX6_tell_194 : decode cX6_tell 194 = .ok (.ifCond .eq 7, 3) := by decide +kernel
theorem dX6_tell_197 : decode cX6_tell 197 = .ok (.iconst 1, 1) := by decide +kernel
theorem dX6_tell_198 : decode cX6_tell 198 = .ok (.goto 4, 3) := by decide +kernel
theorem dX6_tell_201 : decode cX6_tell 201 = .ok (.iconst 0, 1) := by decide +kernel
theorem dX6_tell_202 : decode cX6_tell 202 = .ok (.bastore, 1) := by decide +kernel
theorem dX6_tell_203 : decode cX6_tell 203 = .ok (.aload_n 0, 1) := by decide +kernel
theorem dX6_tell_204 : decode cX6_tell 204 = .ok (.dup, 1) := by decide +kernel
theorem dX6_tell_205 : decode cX6_tell 205 = .ok (.getfield 96, 3) := by decide +kernel
theorem dX6_tell_208 : decode cX6_tell 208 = .ok (.iconst 1, 1) := by decide +kernel
theorem dX6_tell_209 : decode cX6_tell 209 = .ok (.iadd, 1) := by decide +kernel
theorem dX6_tell_210 : decode cX6_tell 210 = .ok (.putfield 96, 3) := by decide +kernel
theorem dX6_tell_213 : decode cX6_tell 213 = .ok (.iload 4, 2) := by decide +kernel
theorem dX6_tell_215 : decode cX6_tell 215 = .ok (.ireturn, 1) := by decide +kernel
theorem dX6_formula_0 : decode cX6_formula 0 = .ok (.iload_n 1, 1) := by decide +kernel
theorem dX6_formula_1 : decode cX6_formula 1 = .ok (.i2l, 1) := by decide +kernel
theorem dX6_formula_2 : decode cX6_formula 2 = .ok (.lconst 0, 1) := by decide +kernel
theorem dX6_formula_3 : decode cX6_formula 3 = .ok (.ldc2_w 110, 3) := by decide +kernel
theorem dX6_formula_6 : decode cX6_formula 6 = .ok (.invokestatic 90, 3) := by decide +kernel
theorem dX6_formula_9 : decode cX6_formula 9 = .ok (.ifCond .eq 49, 3) := by decide +kernel
theorem dX6_formula_12 : decode cX6_formula 12 = .ok (.iload_n 1, 1) := by decide +kernel
theorem dX6_formula_13 : decode cX6_formula 13 = .ok (.ifCond .ne 15, 3) := by decide +kernel
theorem dX6_formula_16 : decode cX6_formula 16 = .ok (.iload_n 2, 1) := by decide +kernel
theorem dX6_formula_17 : decode cX6_formula 17 = .ok (.i2l, 1) := by decide +kernel
theorem dX6_formula_18 : decode cX6_formula 18 = .ok (.lconst 0, 1) := by decide +kernel
theorem dX6_formula_19 : decode cX6_formula 19 = .ok (.ldc2_w 112, 3) := by decide +kernel
theorem dX6_formula_22 : decode cX6_formula 22 = .ok (.invokestatic 90, 3) := by decide +kernel
theorem dX6_formula_25 : decode cX6_formula 25 = .ok (.ifCond .eq 33, 3) := by decide +kernel
theorem dX6_formula_28 : decode cX6_formula 28 = .ok (.iload_n 1, 1) := by decide +kernel
theorem dX6_formula_29 : decode cX6_formula 29 = .ok (.invokestatic 99, 3) := by decide +kernel
theorem dX6_formula_32 : decode cX6_formula 32 = .ok (.ifCond .eq 11, 3) := by decide +kernel
theorem dX6_formula_35 : decode cX6_formula 35 = .ok (.aload_n 0, 1) := by decide +kernel
theorem dX6_formula_36 : decode cX6_formula 36 = .ok (.iload_n 2, 1) := by decide +kernel
theorem dX6_formula_37 : decode cX6_formula 37 = .ok (.invokevirtual 114, 3) := by decide +kernel
theorem dX6_formula_40 : decode cX6_formula 40 = .ok (.ifCond .eq 18, 3) := by decide +kernel
theorem dX6_formula_43 : decode cX6_formula 43 = .ok (.iload_n 1, 1) := by decide +kernel
theorem dX6_formula_44 : decode cX6_formula 44 = .ok (.invokestatic 103, 3) := by decide +kernel
theorem dX6_formula_47 : decode cX6_formula 47 = .ok (.ifCond .eq 13, 3) := by decide +kernel
theorem dX6_formula_50 : decode cX6_formula 50 = .ok (.aload_n 0, 1) := by decide +kernel
theorem dX6_formula_51 : decode cX6_formula 51 = .ok (.iload_n 3, 1) := by decide +kernel
theorem dX6_formula_52 : decode cX6_formula 52 = .ok (.invokevirtual 114, 3) := by decide +kernel
theorem dX6_formula_55 : decode cX6_formula 55 = .ok (.ifCond .ne 5, 3) := by decide +kernel
theorem dX6_formula_58 : decode cX6_formula 58 = .ok (.iconst (-1), 1) := by decide +kernel
theorem dX6_formula_59 : decode cX6_formula 59 = .ok (.ireturn, 1) := by decide +kernel
theorem dX6_formula_60 : decode cX6_formula 60 = .ok (.aload_n 0, 1) := by decide +kernel
theorem dX6_formula_61 : decode cX6_formula 61 = .ok (.getfield 96, 3) := by decide +kernel
theorem dX6_formula_64 : decode cX6_formula 64 = .ok (.bipush 40, 2) := by decide +kernel
theorem dX6_formula_66 : decode cX6_formula 66 = .ok (.if_icmp .eq 15, 3) := by decide +kernel
theorem dX6_formula_69 : decode cX6_formula 69 = .ok (.aload_n 0, 1) := by decide +kernel
theorem dX6_formula_70 : decode cX6_formula 70 = .ok (.iload_n 1, 1) := by decide +kernel
theorem dX6_formula_71 : decode cX6_formula 71 = .ok (.iload_n 2, 1) := by decide +kernel
theorem dX6_formula_72 : decode cX6_formula 72 = .ok (.iload_n 3, 1) := by decide +kernel
theorem dX6_formula_73 : decode cX6_formula 73 = .ok (.invokevirtual 106, 3) := by decide +kernel
theorem dX6_formula_76 : decode cX6_formula 76 = .ok (.bipush 30, 2) := by decide +kernel
theorem dX6_formula_78 : decode cX6_formula 78 = .ok (.if_icmp .le 6, 3) := by decide +kernel
theorem dX6_formula_81 : decode cX6_formula 81 = .ok (.bipush (-2), 2) := by decide +kernel
theorem dX6_formula_83 : decode cX6_formula 83 = .ok (.ireturn, 1) := by decide +kernel
theorem dX6_formula_84 : decode cX6_formula 84 = .ok (.aload_n 0, 1) := by decide +kernel
theorem dX6_formula_85 : decode cX6_formula 85 = .ok (.iload_n 1, 1) := by decide +kernel
theorem dX6_formula_86 : decode cX6_formula 86 = .ok (.iload_n 2, 1) := by decide +kernel
theorem dX6_formula_87 : decode cX6_formula 87 = .ok (.iload_n 3, 1) := by decide +kernel
theorem dX6_formula_88 : decode cX6_formula 88 = .ok (.invokevirtual 117, 3) := by decide +kernel
theorem dX6_formula_91 : decode cX6_formula 91 = .ok (.ireturn, 1) := by decide +kernel
theorem dX6_formulaOf_0 : decode cX6_formulaOf 0 = .ok (.aload_n 0, 1) := by decide +kernel
theorem dX6_formulaOf_1 : decode cX6_formulaOf 1 = .ok (.iload_n 1, 1) := by decide +kernel
theorem dX6_formulaOf_2 : decode cX6_formulaOf 2 = .ok (.invokevirtual 114, 3) := by decide +kernel
theorem dX6_formulaOf_5 : decode cX6_formulaOf 5 = .ok (.ifCond .eq 13, 3) := by decide +kernel
theorem dX6_formulaOf_8 : decode cX6_formulaOf 8 = .ok (.iload_n 2, 1) := by decide +kernel
theorem dX6_formulaOf_9 : decode cX6_formulaOf 9 = .ok (.i2l, 1) := by decide +kernel
theorem dX6_formulaOf_10 : decode cX6_formulaOf 10 = .ok (.lconst 0, 1) := by decide +kernel
theorem dX6_formulaOf_11 : decode cX6_formulaOf 11 = .ok (.lconst 1, 1) := by decide +kernel
theorem dX6_formulaOf_12 : decode cX6_formulaOf 12 = .ok (.invokestatic 90, 3) := by decide +kernel
theorem dX6_formulaOf_15 : decode cX6_formulaOf 15 = .ok (.ifCond .ne 5, 3) := by decide +kernel
theorem dX6_formulaOf_18 : decode cX6_formulaOf 18 = .ok (.iconst (-1), 1) := by decide +kernel
theorem dX6_formulaOf_19 : decode cX6_formulaOf 19 = .ok (.ireturn, 1) := by decide +kernel
theorem dX6_formulaOf_20 : decode cX6_formulaOf 20 = .ok (.iload_n 2, 1) := by decide +kernel
theorem dX6_formulaOf_21 : decode cX6_formulaOf 21 = .ok (.ifCond .ne 12, 3) := by decide +kernel
theorem dX6_formulaOf_24 : decode cX6_formulaOf 24 = .ok (.aload_n 0, 1) := by decide +kernel
theorem dX6_formulaOf_25 : decode cX6_formulaOf 25 = .ok (.getfield 28, 3) := by decide +kernel
theorem dX6_formulaOf_28 : decode cX6_formulaOf 28 = .ok (.iload_n 1, 1) := by decide +kernel
theorem dX6_formulaOf_29 : decode cX6_formulaOf 29 = .ok (.iaload, 1) := by decide +kernel
theorem dX6_formulaOf_30 : decode cX6_formulaOf 30 = .ok (.goto 17, 3) := by decide +kernel
theorem dX6_formulaOf_33 : decode cX6_formulaOf 33 = .ok (.aload_n 0, 1) := by decide +kernel
theorem dX6_formulaOf_34 : decode cX6_formulaOf 34 = .ok (.getfield 31, 3) := by decide +kernel
theorem dX6_formulaOf_37 : decode cX6_formulaOf 37 = .ok (.iload_n 1, 1) := by decide +kernel
theorem dX6_formulaOf_38 : decode cX6_formulaOf 38 = .ok (.baload, 1) := by decide +kernel
theorem dX6_formulaOf_39 : decode cX6_formulaOf 39 = .ok (.ifCond .eq 7, 3) := by decide +kernel
theorem dX6_formulaOf_42 : decode cX6_formulaOf 42 = .ok (.iconst 1, 1) := by decide +kernel
theorem dX6_formulaOf_43 : decode cX6_formulaOf 43 = .ok (.goto 4, 3) := by decide +kernel
theorem dX6_formulaOf_46 : decode cX6_formulaOf 46 = .ok (.iconst 0, 1) := by decide +kernel
theorem dX6_formulaOf_47 : decode cX6_formulaOf 47 = .ok (.ireturn, 1) := by decide +kernel
theorem dX6_isNode_0 : decode cX6_isNode 0 = .ok (.iload_n 1, 1) := by decide +kernel
theorem dX6_isNode_1 : decode cX6_isNode 1 = .ok (.i2l, 1) := by decide +kernel
theorem dX6_isNode_2 : decode cX6_isNode 2 = .ok (.lconst 0, 1) := by decide +kernel
theorem dX6_isNode_3 : decode cX6_isNode 3 = .ok (.aload_n 0, 1) := by decide +kernel
theorem dX6_isNode_4 : decode cX6_isNode 4 = .ok (.getfield 120, 3) := by decide +kernel
theorem dX6_isNode_7 : decode cX6_isNode 7 = .ok (.iconst 1, 1) := by decide +kernel
theorem dX6_isNode_8 : decode cX6_isNode 8 = .ok (.isub, 1) := by decide +kernel
theorem dX6_isNode_9 : decode cX6_isNode 9 = .ok (.i2l, 1) := by decide +kernel
theorem dX6_isNode_10 : decode cX6_isNode 10 = .ok (.invokestatic 90, 3) := by decide +kernel
theorem dX6_isNode_13 : decode cX6_isNode 13 = .ok (.ireturn, 1) := by decide +kernel
theorem dX6_isTwo_0 : decode cX6_isTwo 0 = .ok (.iload_n 0, 1) := by decide +kernel
theorem dX6_isTwo_1 : decode cX6_isTwo 1 = .ok (.iconst 4, 1) := by decide +kernel
theorem dX6_isTwo_2 : decode cX6_isTwo 2 = .ok (.if_icmp .eq 8, 3) := by decide +kernel
theorem dX6_isTwo_5 : decode cX6_isTwo 5 = .ok (.iload_n 0, 1) := by decide +kernel
theorem dX6_isTwo_6 : decode cX6_isTwo 6 = .ok (.iconst 5, 1) := by decide +kernel
theorem dX6_isTwo_7 : decode cX6_isTwo 7 = .ok (.if_icmp .ne 7, 3) := by decide +kernel
theorem dX6_isTwo_10 : decode cX6_isTwo 10 = .ok (.iconst 1, 1) := by decide +kernel
theorem dX6_isTwo_11 : decode cX6_isTwo 11 = .ok (.goto 4, 3) := by decide +kernel
theorem dX6_isTwo_14 : decode cX6_isTwo 14 = .ok (.iconst 0, 1) := by decide +kernel
theorem dX6_isTwo_15 : decode cX6_isTwo 15 = .ok (.ireturn, 1) := by decide +kernel
theorem dX6_hasMember_0 : decode cX6_hasMember 0 = .ok (.iload_n 0, 1) := by decide +kernel
theorem dX6_hasMember_1 : decode cX6_hasMember 1 = .ok (.iconst 2, 1) := by decide +kernel
theorem dX6_hasMember_2 : decode cX6_hasMember 2 = .ok (.if_icmp .eq 14, 3) := by decide +kernel
theorem dX6_hasMember_5 : decode cX6_hasMember 5 = .ok (.iload_n 0, 1) := by decide +kernel
theorem dX6_hasMember_6 : decode cX6_hasMember 6 = .ok (.iconst 4, 1) := by decide +kernel
theorem dX6_hasMember_7 : decode cX6_hasMember 7 = .ok (.if_icmp .eq 9, 3) := by decide +kernel
theorem dX6_hasMember_10 : decode cX6_hasMember 10 = .ok (.iload_n 0, 1) := by decide +kernel
theorem dX6_hasMember_11 : decode cX6_hasMember 11 = .ok (.bipush 6, 2) := by decide +kernel
theorem dX6_hasMember_13 : decode cX6_hasMember 13 = .ok (.if_icmp .ne 7, 3) := by decide +kernel
theorem dX6_hasMember_16 : decode cX6_hasMember 16 = .ok (.iconst 1, 1) := by decide +kernel
theorem dX6_hasMember_17 : decode cX6_hasMember 17 = .ok (.goto 4, 3) := by decide +kernel
theorem dX6_hasMember_20 : decode cX6_hasMember 20 = .ok (.iconst 0, 1) := by decide +kernel
theorem dX6_hasMember_21 : decode cX6_hasMember 21 = .ok (.ireturn, 1) := by decide +kernel
theorem dX6_hasNumber_0 : decode cX6_hasNumber 0 = .ok (.iload_n 0, 1) := by decide +kernel
theorem dX6_hasNumber_1 : decode cX6_hasNumber 1 = .ok (.i2l, 1) := by decide +kernel
theorem dX6_hasNumber_2 : decode cX6_hasNumber 2 = .ok (.lconst 1, 1) := by decide +kernel
theorem dX6_hasNumber_3 : decode cX6_hasNumber 3 = .ok (.ldc2_w 123, 3) := by decide +kernel
theorem dX6_hasNumber_6 : decode cX6_hasNumber 6 = .ok (.invokestatic 90, 3) := by decide +kernel
theorem dX6_hasNumber_9 : decode cX6_hasNumber 9 = .ok (.ifCond .ne 15, 3) := by decide +kernel
theorem dX6_hasNumber_12 : decode cX6_hasNumber 12 = .ok (.iload_n 0, 1) := by decide +kernel
theorem dX6_hasNumber_13 : decode cX6_hasNumber 13 = .ok (.bipush 6, 2) := by decide +kernel
theorem dX6_hasNumber_15 : decode cX6_hasNumber 15 = .ok (.if_icmp .eq 9, 3) := by decide +kernel
theorem dX6_hasNumber_18 : decode cX6_hasNumber 18 = .ok (.iload_n 0, 1) := by decide +kernel
theorem dX6_hasNumber_19 : decode cX6_hasNumber 19 = .ok (.bipush 8, 2) := by decide +kernel
theorem dX6_hasNumber_21 : decode cX6_hasNumber 21 = .ok (.if_icmp .ne 7, 3) := by decide +kernel
theorem dX6_hasNumber_24 : decode cX6_hasNumber 24 = .ok (.iconst 1, 1) := by decide +kernel
theorem dX6_hasNumber_25 : decode cX6_hasNumber 25 = .ok (.goto 4, 3) := by decide +kernel
theorem dX6_hasNumber_28 : decode cX6_hasNumber 28 = .ok (.iconst 0, 1) := by decide +kernel
theorem dX6_hasNumber_29 : decode cX6_hasNumber 29 = .ok (.ireturn, 1) := by decide +kernel
theorem dX6_isRight_0 : decode cX6_isRight 0 = .ok (.iload_n 1, 1) := by decide +kernel
theorem dX6_isRight_1 : decode cX6_isRight 1 = .ok (.tableswitch 96 1 8 #[47, 47, 53, 53, 96, 63, 96, 86], 47) := by decide +kernel
theorem dX6_isRight_48 : decode cX6_isRight 48 = .ok (.aload_n 0, 1) := by decide +kernel
theorem dX6_isRight_49 : decode cX6_isRight 49 = .ok (.iload_n 2, 1) := by decide +kernel
theorem dX6_isRight_50 : decode cX6_isRight 50 = .ok (.invokevirtual 114, 3) := by decide +kernel
theorem dX6_isRight_53 : decode cX6_isRight 53 = .ok (.ireturn, 1) := by decide +kernel
theorem dX6_isRight_54 : decode cX6_isRight 54 = .ok (.iload_n 2, 1) := by decide +kernel
theorem dX6_isRight_55 : decode cX6_isRight 55 = .ok (.i2l, 1) := by decide +kernel
theorem dX6_isRight_56 : decode cX6_isRight 56 = .ok (.lconst 0, 1) := by decide +kernel
theorem dX6_isRight_57 : decode cX6_isRight 57 = .ok (.ldc2_w 125, 3) := by decide +kernel
theorem dX6_isRight_60 : decode cX6_isRight 60 = .ok (.invokestatic 90, 3) := by decide +kernel
theorem dX6_isRight_63 : decode cX6_isRight 63 = .ok (.ireturn, 1) := by decide +kernel
theorem dX6_isRight_64 : decode cX6_isRight 64 = .ok (.iload_n 2, 1) := by decide +kernel
theorem dX6_isRight_65 : decode cX6_isRight 65 = .ok (.i2l, 1) := by decide +kernel
theorem dX6_isRight_66 : decode cX6_isRight 66 = .ok (.lconst 0, 1) := by decide +kernel
theorem dX6_isRight_67 : decode cX6_isRight 67 = .ok (.ldc2_w 112, 3) := by decide +kernel
theorem dX6_isRight_70 : decode cX6_isRight 70 = .ok (.invokestatic 90, 3) := by decide +kernel
theorem dX6_isRight_73 : decode cX6_isRight 73 = .ok (.ifCond .eq 12, 3) := by decide +kernel
theorem dX6_isRight_76 : decode cX6_isRight 76 = .ok (.iload_n 2, 1) := by decide +kernel
theorem dX6_isRight_77 : decode cX6_isRight 77 = .ok (.iload_n 3, 1) := by decide +kernel
theorem dX6_isRight_78 : decode cX6_isRight 78 = .ok (.if_icmp .eq 7, 3) := by decide +kernel
theorem dX6_isRight_81 : decode cX6_isRight 81 = .ok (.iconst 1, 1) := by decide +kernel
theorem dX6_isRight_82 : decode cX6_isRight 82 = .ok (.goto 4, 3) := by decide +kernel
theorem dX6_isRight_85 : decode cX6_isRight 85 = .ok (.iconst 0, 1) := by decide +kernel
theorem dX6_isRight_86 : decode cX6_isRight 86 = .ok (.ireturn, 1) := by decide +kernel
theorem dX6_isRight_87 : decode cX6_isRight 87 = .ok (.iload_n 2, 1) := by decide +kernel
theorem dX6_isRight_88 : decode cX6_isRight 88 = .ok (.i2l, 1) := by decide +kernel
theorem dX6_isRight_89 : decode cX6_isRight 89 = .ok (.lconst 0, 1) := by decide +kernel
theorem dX6_isRight_90 : decode cX6_isRight 90 = .ok (.ldc2_w 127, 3) := by decide +kernel
theorem dX6_isRight_93 : decode cX6_isRight 93 = .ok (.invokestatic 90, 3) := by decide +kernel
theorem dX6_isRight_96 : decode cX6_isRight 96 = .ok (.ireturn, 1) := by decide +kernel
theorem dX6_isRight_97 : decode cX6_isRight 97 = .ok (.iconst 1, 1) := by decide +kernel
theorem dX6_isRight_98 : decode cX6_isRight 98 = .ok (.ireturn, 1) := by decide +kernel
theorem dX6_bound_0 : decode cX6_bound 0 = .ok (.aload_n 0, 1) := by decide +kernel
theorem dX6_bound_1 : decode cX6_bound 1 = .ok (.getfield 38, 3) := by decide +kernel
theorem dX6_bound_4 : decode cX6_bound 4 = .ok (.iload_n 1, 1) := by decide +kernel
theorem dX6_bound_5 : decode cX6_bound 5 = .ok (.iaload, 1) := by decide +kernel
theorem dX6_bound_6 : decode cX6_bound 6 = .ok (.ifCond .ne 8, 3) := by decide +kernel
theorem dX6_bound_9 : decode cX6_bound 9 = .ok (.bipush 6, 2) := by decide +kernel
theorem dX6_bound_11 : decode cX6_bound 11 = .ok (.goto 14, 3) := by decide +kernel
theorem dX6_bound_14 : decode cX6_bound 14 = .ok (.aload_n 0, 1) := by decide +kernel
theorem dX6_bound_15 : decode cX6_bound 15 = .ok (.getfield 53, 3) := by decide +kernel
theorem dX6_bound_18 : decode cX6_bound 18 = .ok (.aload_n 0, 1) := by decide +kernel
theorem dX6_bound_19 : decode cX6_bound 19 = .ok (.getfield 41, 3) := by decide +kernel
theorem dX6_bound_22 : decode cX6_bound 22 = .ok (.iload_n 1, 1) := by decide +kernel
theorem dX6_bound_23 : decode cX6_bound 23 = .ok (.iaload, 1) := by decide +kernel
theorem dX6_bound_24 : decode cX6_bound 24 = .ok (.iaload, 1) := by decide +kernel
theorem dX6_bound_25 : decode cX6_bound 25 = .ok (.istore_n 2, 1) := by decide +kernel
theorem dX6_bound_26 : decode cX6_bound 26 = .ok (.aload_n 0, 1) := by decide +kernel
theorem dX6_bound_27 : decode cX6_bound 27 = .ok (.getfield 38, 3) := by decide +kernel
theorem dX6_bound_30 : decode cX6_bound 30 = .ok (.iload_n 1, 1) := by decide +kernel
theorem dX6_bound_31 : decode cX6_bound 31 = .ok (.iaload, 1) := by decide +kernel
theorem dX6_bound_32 : decode cX6_bound 32 = .ok (.invokestatic 129, 3) := by decide +kernel
theorem dX6_bound_35 : decode cX6_bound 35 = .ok (.ifCond .eq 17, 3) := by decide +kernel
theorem dX6_bound_38 : decode cX6_bound 38 = .ok (.aload_n 0, 1) := by decide +kernel
theorem dX6_bound_39 : decode cX6_bound 39 = .ok (.getfield 53, 3) := by decide +kernel
theorem dX6_bound_42 : decode cX6_bound 42 = .ok (.aload_n 0, 1) := by decide +kernel
theorem dX6_bound_43 : decode cX6_bound 43 = .ok (.getfield 44, 3) := by decide +kernel
theorem dX6_bound_46 : decode cX6_bound 46 = .ok (.iload_n 1, 1) := by decide +kernel
theorem dX6_bound_47 : decode cX6_bound 47 = .ok (.iaload, 1) := by decide +kernel
theorem dX6_bound_48 : decode cX6_bound 48 = .ok (.iaload, 1) := by decide +kernel
theorem dX6_bound_49 : decode cX6_bound 49 = .ok (.goto 4, 3) := by decide +kernel
theorem dX6_bound_52 : decode cX6_bound 52 = .ok (.iconst 0, 1) := by decide +kernel
theorem dX6_bound_53 : decode cX6_bound 53 = .ok (.istore_n 3, 1) := by decide +kernel
theorem dX6_bound_54 : decode cX6_bound 54 = .ok (.iload_n 2, 1) := by decide +kernel
theorem dX6_bound_55 : decode cX6_bound 55 = .ok (.iconst (-1), 1) := by decide +kernel
theorem dX6_bound_56 : decode cX6_bound 56 = .ok (.if_icmp .eq 8, 3) := by decide +kernel
theorem dX6_bound_59 : decode cX6_bound 59 = .ok (.iload_n 3, 1) := by decide +kernel
theorem dX6_bound_60 : decode cX6_bound 60 = .ok (.iconst (-1), 1) := by decide +kernel
theorem dX6_bound_61 : decode cX6_bound 61 = .ok (.if_icmp .ne 5, 3) := by decide +kernel
theorem dX6_bound_64 : decode cX6_bound 64 = .ok (.iconst (-1), 1) := by decide +kernel
theorem dX6_bound_65 : decode cX6_bound 65 = .ok (.ireturn, 1) := by decide +kernel
theorem dX6_bound_66 : decode cX6_bound 66 = .ok (.aload_n 0, 1) := by decide +kernel
theorem dX6_bound_67 : decode cX6_bound 67 = .ok (.getfield 38, 3) := by decide +kernel
theorem dX6_bound_70 : decode cX6_bound 70 = .ok (.iload_n 1, 1) := by decide +kernel
theorem dX6_bound_71 : decode cX6_bound 71 = .ok (.iaload, 1) := by decide +kernel
theorem dX6_bound_72 : decode cX6_bound 72 = .ok (.iconst 4, 1) := by decide +kernel
theorem dX6_bound_73 : decode cX6_bound 73 = .ok (.if_icmp .ne 9, 3) := by decide +kernel
theorem dX6_bound_76 : decode cX6_bound 76 = .ok (.iload_n 2, 1) := by decide +kernel
theorem dX6_bound_77 : decode cX6_bound 77 = .ok (.iload_n 3, 1) := by decide +kernel
theorem dX6_bound_78 : decode cX6_bound 78 = .ok (.imul, 1) := by decide +kernel
theorem dX6_bound_79 : decode cX6_bound 79 = .ok (.goto 50, 3) := by decide +kernel
theorem dX6_bound_82 : decode cX6_bound 82 = .ok (.aload_n 0, 1) := by decide +kernel
theorem dX6_bound_83 : decode cX6_bound 83 = .ok (.getfield 38, 3) := by decide +kernel
theorem dX6_bound_86 : decode cX6_bound 86 = .ok (.iload_n 1, 1) := by decide +kernel
theorem dX6_bound_87 : decode cX6_bound 87 = .ok (.iaload, 1) := by decide +kernel
theorem dX6_bound_88 : decode cX6_bound 88 = .ok (.iconst 5, 1) := by decide +kernel
theorem dX6_bound_89 : decode cX6_bound 89 = .ok (.if_icmp .ne 9, 3) := by decide +kernel
theorem dX6_bound_92 : decode cX6_bound 92 = .ok (.iload_n 2, 1) := by decide +kernel
theorem dX6_bound_93 : decode cX6_bound 93 = .ok (.iload_n 3, 1) := by decide +kernel
theorem dX6_bound_94 : decode cX6_bound 94 = .ok (.iadd, 1) := by decide +kernel
theorem dX6_bound_95 : decode cX6_bound 95 = .ok (.goto 34, 3) := by decide +kernel
theorem dX6_bound_98 : decode cX6_bound 98 = .ok (.aload_n 0, 1) := by decide +kernel
theorem dX6_bound_99 : decode cX6_bound 99 = .ok (.getfield 38, 3) := by decide +kernel
theorem dX6_bound_102 : decode cX6_bound 102 = .ok (.iload_n 1, 1) := by decide +kernel
theorem dX6_bound_103 : decode cX6_bound 103 = .ok (.iaload, 1) := by decide +kernel
theorem dX6_bound_104 : decode cX6_bound 104 = .ok (.bipush 8, 2) := by decide +kernel
theorem dX6_bound_106 : decode cX6_bound 106 = .ok (.if_icmp .ne 22, 3) := by decide +kernel
theorem dX6_bound_109 : decode cX6_bound 109 = .ok (.aload_n 0, 1) := by decide +kernel
theorem dX6_bound_110 : decode cX6_bound 110 = .ok (.getfield 50, 3) := by decide +kernel
theorem dX6_bound_113 : decode cX6_bound 113 = .ok (.iload_n 1, 1) := by decide +kernel
theorem dX6_bound_114 : decode cX6_bound 114 = .ok (.iaload, 1) := by decide +kernel
theorem dX6_bound_115 : decode cX6_bound 115 = .ok (.iload_n 2, 1) := by decide +kernel
theorem dX6_bound_116 : decode cX6_bound 116 = .ok (.if_icmp .ge 12, 3) := by decide +kernel
theorem dX6_bound_119 : decode cX6_bound 119 = .ok (.aload_n 0, 1) := by decide +kernel
theorem dX6_bound_120 : decode cX6_bound 120 = .ok (.getfield 50, 3) := by decide +kernel
theorem dX6_bound_123 : decode cX6_bound 123 = .ok (.iload_n 1, 1) := by decide +kernel
theorem dX6_bound_124 : decode cX6_bound 124 = .ok (.iaload, 1) := by decide +kernel
theorem dX6_bound_125 : decode cX6_bound 125 = .ok (.goto 4, 3) := by decide +kernel
theorem dX6_bound_128 : decode cX6_bound 128 = .ok (.iload_n 2, 1) := by decide +kernel
theorem dX6_bound_129 : decode cX6_bound 129 = .ok (.ireturn, 1) := by decide +kernel
theorem dX6_look_0 : decode cX6_look 0 = .ok (.iconst 0, 1) := by decide +kernel
theorem dX6_look_1 : decode cX6_look 1 = .ok (.istore_n 1, 1) := by decide +kernel
theorem dX6_look_2 : decode cX6_look 2 = .ok (.iload_n 1, 1) := by decide +kernel
theorem dX6_look_3 : decode cX6_look 3 = .ok (.aload_n 0, 1) := by decide +kernel
theorem dX6_look_4 : decode cX6_look 4 = .ok (.getfield 120, 3) := by decide +kernel
theorem dX6_look_7 : decode cX6_look 7 = .ok (.if_icmp .ge 61, 3) := by decide +kernel
theorem dX6_look_10 : decode cX6_look 10 = .ok (.aload_n 0, 1) := by decide +kernel
theorem dX6_look_11 : decode cX6_look 11 = .ok (.getfield 53, 3) := by decide +kernel
theorem dX6_look_14 : decode cX6_look 14 = .ok (.iload_n 1, 1) := by decide +kernel
theorem dX6_look_15 : decode cX6_look 15 = .ok (.iconst (-1), 1) := by decide +kernel
theorem dX6_look_16 : decode cX6_look 16 = .ok (.iastore, 1) := by decide +kernel
theorem dX6_look_17 : decode cX6_look 17 = .ok (.aload_n 0, 1) := by decide +kernel
theorem dX6_look_18 : decode cX6_look 18 = .ok (.getfield 56, 3) := by decide +kernel
theorem dX6_look_21 : decode cX6_look 21 = .ok (.iload_n 1, 1) := by decide +kernel
theorem dX6_look_22 : decode cX6_look 22 = .ok (.aload_n 0, 1) := by decide +kernel
theorem dX6_look_23 : decode cX6_look 23 = .ok (.getfield 38, 3) := by decide +kernel
theorem dX6_look_26 : decode cX6_look 26 = .ok (.iload_n 1, 1) := by decide +kernel
theorem dX6_look_27 : decode cX6_look 27 = .ok (.iaload, 1) := by decide +kernel
theorem dX6_look_28 : decode cX6_look 28 = .ok (.iconst 1, 1) := by decide +kernel
theorem dX6_look_29 : decode cX6_look 29 = .ok (.if_icmp .eq 13, 3) := by decide +kernel
theorem dX6_look_32 : decode cX6_look 32 = .ok (.aload_n 0, 1) := by decide +kernel
theorem dX6_look_33 : decode cX6_look 33 = .ok (.getfield 38, 3) := by decide +kernel
theorem dX6_look_36 : decode cX6_look 36 = .ok (.iload_n 1, 1) := by decide +kernel
theorem dX6_look_37 : decode cX6_look 37 = .ok (.iaload, 1) := by decide +kernel
theorem dX6_look_38 : decode cX6_look 38 = .ok (.iconst 2, 1) := by decide +kernel
theorem dX6_look_39 : decode cX6_look 39 = .ok (.if_icmp .ne 21, 3) := by decide +kernel
theorem dX6_look_42 : decode cX6_look 42 = .ok (.aload_n 0, 1) := by decide +kernel
theorem dX6_look_43 : decode cX6_look 43 = .ok (.getfield 31, 3) := by decide +kernel
theorem dX6_look_46 : decode cX6_look 46 = .ok (.aload_n 0, 1) := by decide +kernel
theorem dX6_look_47 : decode cX6_look 47 = .ok (.getfield 50, 3) := by decide +kernel
theorem dX6_look_50 : decode cX6_look 50 = .ok (.iload_n 1, 1) := by decide +kernel
theorem dX6_look_51 : decode cX6_look 51 = .ok (.iaload, 1) := by decide +kernel
theorem dX6_look_52 : decode cX6_look 52 = .ok (.baload, 1) := by decide +kernel
theorem dX6_look_53 : decode cX6_look 53 = .ok (.ifCond .eq 7, 3) := by decide +kernel
theorem dX6_look_56 : decode cX6_look 56 = .ok (.iconst 1, 1) := by decide +kernel
theorem dX6_look_57 : decode cX6_look 57 = .ok (.goto 4, 3) := by decide +kernel
theorem dX6_look_60 : decode cX6_look 60 = .ok (.iconst 0, 1) := by decide +kernel
theorem dX6_look_61 : decode cX6_look 61 = .ok (.bastore, 1) := by decide +kernel
theorem dX6_look_62 : decode cX6_look 62 = .ok (.iinc 1 1, 3) := by decide +kernel
theorem dX6_look_65 : decode cX6_look 65 = .ok (.goto (-63), 3) := by decide +kernel
theorem dX6_look_68 : decode cX6_look 68 = .ok (.iconst 1, 1) := by decide +kernel
theorem dX6_look_69 : decode cX6_look 69 = .ok (.istore_n 1, 1) := by decide +kernel
theorem dX6_look_70 : decode cX6_look 70 = .ok (.iload_n 1, 1) := by decide +kernel
theorem dX6_look_71 : decode cX6_look 71 = .ok (.ifCond .eq 175, 3) := by decide +kernel
theorem dX6_look_74 : decode cX6_look 74 = .ok (.iconst 0, 1) := by decide +kernel
theorem dX6_look_75 : decode cX6_look 75 = .ok (.istore_n 1, 1) := by decide +kernel
theorem dX6_look_76 : decode cX6_look 76 = .ok (.iconst 0, 1) := by decide +kernel
theorem dX6_look_77 : decode cX6_look 77 = .ok (.istore_n 2, 1) := by decide +kernel
theorem dX6_look_78 : decode cX6_look 78 = .ok (.iload_n 2, 1) := by decide +kernel
theorem dX6_look_79 : decode cX6_look 79 = .ok (.aload_n 0, 1) := by decide +kernel
theorem dX6_look_80 : decode cX6_look 80 = .ok (.getfield 120, 3) := by decide +kernel
theorem dX6_look_83 : decode cX6_look 83 = .ok (.if_icmp .ge 160, 3) := by decide +kernel
theorem dX6_look_86 : decode cX6_look 86 = .ok (.aload_n 0, 1) := by decide +kernel
theorem dX6_look_87 : decode cX6_look 87 = .ok (.getfield 53, 3) := by decide +kernel
theorem dX6_look_90 : decode cX6_look 90 = .ok (.iload_n 2, 1) := by decide +kernel
theorem dX6_look_91 : decode cX6_look 91 = .ok (.iaload, 1) := by decide +kernel
theorem dX6_look_92 : decode cX6_look 92 = .ok (.iconst (-1), 1) := by decide +kernel
theorem dX6_look_93 : decode cX6_look 93 = .ok (.if_icmp .ne 11, 3) := by decide +kernel
theorem dX6_look_96 : decode cX6_look 96 = .ok (.aload_n 0, 1) := by decide +kernel
theorem dX6_look_97 : decode cX6_look 97 = .ok (.iload_n 2, 1) := by decide +kernel
theorem dX6_look_98 : decode cX6_look 98 = .ok (.invokevirtual 132, 3) := by decide +kernel
theorem dX6_look_101 : decode cX6_look 101 = .ok (.goto 4, 3) := by decide +kernel
theorem dX6_look_104 : decode cX6_look 104 = .ok (.iconst (-1), 1) := by decide +kernel
theorem dX6_look_105 : decode cX6_look 105 = .ok (.istore_n 3, 1) := by decide +kernel
theorem dX6_look_106 : decode cX6_look 106 = .ok (.aload_n 0, 1) := by decide +kernel
theorem dX6_look_107 : decode cX6_look 107 = .ok (.getfield 56, 3) := by decide +kernel
theorem dX6_look_110 : decode cX6_look 110 = .ok (.iload_n 2, 1) := by decide +kernel
theorem dX6_look_111 : decode cX6_look 111 = .ok (.baload, 1) := by decide +kernel
theorem dX6_look_112 : decode cX6_look 112 = .ok (.ifCond .ne 56, 3) := by decide +kernel
theorem dX6_look_115 : decode cX6_look 115 = .ok (.aload_n 0, 1) := by decide +kernel
theorem dX6_look_116 : decode cX6_look 116 = .ok (.getfield 38, 3) := by decide +kernel
theorem dX6_look_119 : decode cX6_look 119 = .ok (.iload_n 2, 1) := by decide +kernel
theorem dX6_look_120 : decode cX6_look 120 = .ok (.iaload, 1) := by decide +kernel
theorem dX6_look_121 : decode cX6_look 121 = .ok (.ifCond .eq 17, 3) := by decide +kernel
theorem dX6_look_124 : decode cX6_look 124 = .ok (.aload_n 0, 1) := by decide +kernel
theorem dX6_look_125 : decode cX6_look 125 = .ok (.getfield 56, 3) := by decide +kernel
theorem dX6_look_128 : decode cX6_look 128 = .ok (.aload_n 0, 1) := by decide +kernel
theorem dX6_look_129 : decode cX6_look 129 = .ok (.getfield 41, 3) := by decide +kernel
theorem dX6_look_132 : decode cX6_look 132 = .ok (.iload_n 2, 1) := by decide +kernel
theorem dX6_look_133 : decode cX6_look 133 = .ok (.iaload, 1) := by decide +kernel
theorem dX6_look_134 : decode cX6_look 134 = .ok (.baload, 1) := by decide +kernel
theorem dX6_look_135 : decode cX6_look 135 = .ok (.ifCond .ne 29, 3) := by decide +kernel
theorem dX6_look_138 : decode cX6_look 138 = .ok (.aload_n 0, 1) := by decide +kernel
theorem dX6_look_139 : decode cX6_look 139 = .ok (.getfield 38, 3) := by decide +kernel
theorem dX6_look_142 : decode cX6_look 142 = .ok (.iload_n 2, 1) := by decide +kernel
theorem dX6_look_143 : decode cX6_look 143 = .ok (.iaload, 1) := by decide +kernel
theorem dX6_look_144 : decode cX6_look 144 = .ok (.invokestatic 129, 3) := by decide +kernel
theorem dX6_look_147 : decode cX6_look 147 = .ok (.ifCond .eq 21, 3) := by decide +kernel
theorem dX6_look_150 : decode cX6_look 150 = .ok (.aload_n 0, 1) := by decide +kernel
theorem dX6_look_151 : decode cX6_look 151 = .ok (.getfield 56, 3) := by decide +kernel
theorem dX6_look_154 : decode cX6_look 154 = .ok (.aload_n 0, 1) := by decide +kernel
theorem dX6_look_155 : decode cX6_look 155 = .ok (.getfield 44, 3) := by decide +kernel
theorem dX6_look_158 : decode cX6_look 158 = .ok (.iload_n 2, 1) := by decide +kernel
theorem dX6_look_159 : decode cX6_look 159 = .ok (.iaload, 1) := by decide +kernel
theorem dX6_look_160 : decode cX6_look 160 = .ok (.baload, 1) := by decide +kernel
theorem dX6_look_161 : decode cX6_look 161 = .ok (.ifCond .eq 7, 3) := by decide +kernel
theorem dX6_look_164 : decode cX6_look 164 = .ok (.iconst 1, 1) := by decide +kernel
theorem dX6_look_165 : decode cX6_look 165 = .ok (.goto 4, 3) := by decide +kernel
theorem dX6_look_168 : decode cX6_look 168 = .ok (.iconst 0, 1) := by decide +kernel
theorem dX6_look_169 : decode cX6_look 169 = .ok (.istore 4, 2) := by decide +kernel
theorem dX6_look_171 : decode cX6_look 171 = .ok (.iload_n 1, 1) := by decide +kernel
theorem dX6_look_172 : decode cX6_look 172 = .ok (.ifCond .ne 13, 3) := by decide +kernel
theorem dX6_look_175 : decode cX6_look 175 = .ok (.iload_n 3, 1) := by decide +kernel
theorem dX6_look_176 : decode cX6_look 176 = .ok (.iconst (-1), 1) := by decide +kernel
theorem dX6_look_177 : decode cX6_look 177 = .ok (.if_icmp .ne 8, 3) := by decide +kernel
theorem dX6_look_180 : decode cX6_look 180 = .ok (.iload 4, 2) := by decide +kernel
theorem dX6_look_182 : decode cX6_look 182 = .ok (.ifCond .eq 7, 3) := by decide +kernel
theorem dX6_look_185 : decode cX6_look 185 = .ok (.iconst 1, 1) := by decide +kernel
theorem dX6_look_186 : decode cX6_look 186 = .ok (.goto 4, 3) := by decide +kernel
theorem dX6_look_189 : decode cX6_look 189 = .ok (.iconst 0, 1) := by decide +kernel
theorem dX6_look_190 : decode cX6_look 190 = .ok (.istore_n 1, 1) := by decide +kernel
theorem dX6_look_191 : decode cX6_look 191 = .ok (.aload_n 0, 1) := by decide +kernel
theorem dX6_look_192 : decode cX6_look 192 = .ok (.getfield 53, 3) := by decide +kernel
theorem dX6_look_195 : decode cX6_look 195 = .ok (.iload_n 2, 1) := by decide +kernel
theorem dX6_look_196 : decode cX6_look 196 = .ok (.iload_n 3, 1) := by decide +kernel
theorem dX6_look_197 : decode cX6_look 197 = .ok (.iconst (-1), 1) := by decide +kernel
theorem dX6_look_198 : decode cX6_look 198 = .ok (.if_icmp .eq 7, 3) := by decide +kernel
theorem dX6_look_201 : decode cX6_look 201 = .ok (.iload_n 3, 1) := by decide +kernel
theorem dX6_look_202 : decode cX6_look 202 = .ok (.goto 9, 3) := by decide +kernel
theorem dX6_look_205 : decode cX6_look 205 = .ok (.aload_n 0, 1) := by decide +kernel
theorem dX6_look_206 : decode cX6_look 206 = .ok (.getfield 53, 3) := by decide +kernel
theorem dX6_look_209 : decode cX6_look 209 = .ok (.iload_n 2, 1) := by decide +kernel
theorem dX6_look_210 : decode cX6_look 210 = .ok (.iaload, 1) := by decide +kernel
theorem dX6_look_211 : decode cX6_look 211 = .ok (.iastore, 1) := by decide +kernel
theorem dX6_look_212 : decode cX6_look 212 = .ok (.aload_n 0, 1) := by decide +kernel
theorem dX6_look_213 : decode cX6_look 213 = .ok (.getfield 56, 3) := by decide +kernel
theorem dX6_look_216 : decode cX6_look 216 = .ok (.iload_n 2, 1) := by decide +kernel
theorem dX6_look_217 : decode cX6_look 217 = .ok (.aload_n 0, 1) := by decide +kernel
theorem dX6_look_218 : decode cX6_look 218 = .ok (.getfield 56, 3) := by decide +kernel
theorem dX6_look_221 : decode cX6_look 221 = .ok (.iload_n 2, 1) := by decide +kernel
theorem dX6_look_222 : decode cX6_look 222 = .ok (.baload, 1) := by decide +kernel
theorem dX6_look_223 : decode cX6_look 223 = .ok (.ifCond .ne 8, 3) := by decide +kernel
theorem dX6_look_226 : decode cX6_look 226 = .ok (.iload 4, 2) := by decide +kernel
theorem dX6_look_228 : decode cX6_look 228 = .ok (.ifCond .eq 7, 3) := by decide +kernel
theorem dX6_look_231 : decode cX6_look 231 = .ok (.iconst 1, 1) := by decide +kernel
theorem dX6_look_232 : decode cX6_look 232 = .ok (.goto 4, 3) := by decide +kernel
theorem dX6_look_235 : decode cX6_look 235 = .ok (.iconst 0, 1) := by decide +kernel
theorem dX6_look_236 : decode cX6_look 236 = .ok (.bastore, 1) := by decide +kernel
theorem dX6_look_237 : decode cX6_look 237 = .ok (.iinc 2 1, 3) := by decide +kernel
theorem dX6_look_240 : decode cX6_look 240 = .ok (.goto (-162), 3) := by decide +kernel
theorem dX6_look_243 : decode cX6_look 243 = .ok (.goto (-173), 3) := by decide +kernel
theorem dX6_look_246 : decode cX6_look 246 = .ok (.return_, 1) := by decide +kernel
theorem dX6_lay_0 : decode cX6_lay 0 = .ok (.aload_n 0, 1) := by decide +kernel
theorem dX6_lay_1 : decode cX6_lay 1 = .ok (.getfield 120, 3) := by decide +kernel
theorem dX6_lay_4 : decode cX6_lay 4 = .ok (.istore 6, 2) := by decide +kernel
theorem dX6_lay_6 : decode cX6_lay 6 = .ok (.aload_n 0, 1) := by decide +kernel
theorem dX6_lay_7 : decode cX6_lay 7 = .ok (.iload 6, 2) := by decide +kernel
theorem dX6_lay_9 : decode cX6_lay 9 = .ok (.iload_n 1, 1) := by decide +kernel
theorem dX6_lay_10 : decode cX6_lay 10 = .ok (.iload_n 2, 1) := by decide +kernel
theorem dX6_lay_11 : decode cX6_lay 11 = .ok (.iload_n 3, 1) := by decide +kernel
theorem dX6_lay_12 : decode cX6_lay 12 = .ok (.iload 4, 2) := by decide +kernel
theorem dX6_lay_14 : decode cX6_lay 14 = .ok (.iload 5, 2) := by decide +kernel
theorem dX6_lay_16 : decode cX6_lay 16 = .ok (.invokevirtual 136, 3) := by decide +kernel
theorem dX6_lay_19 : decode cX6_lay 19 = .ok (.aload_n 0, 1) := by decide +kernel
theorem dX6_lay_20 : decode cX6_lay 20 = .ok (.dup, 1) := by decide +kernel
theorem dX6_lay_21 : decode cX6_lay 21 = .ok (.getfield 120, 3) := by decide +kernel
theorem dX6_lay_24 : decode cX6_lay 24 = .ok (.iconst 1, 1) := by decide +kernel
theorem dX6_lay_25 : decode cX6_lay 25 = .ok (.iadd, 1) := by decide +kernel
theorem dX6_lay_26 : decode cX6_lay 26 = .ok (.putfield 120, 3) := by decide +kernel
theorem dX6_lay_29 : decode cX6_lay 29 = .ok (.iload 6, 2) := by decide +kernel
theorem dX6_lay_31 : decode cX6_lay 31 = .ok (.ireturn, 1) := by decide +kernel
theorem dX6_put_0 : decode cX6_put 0 = .ok (.aload_n 0, 1) := by decide +kernel
theorem dX6_put_1 : decode cX6_put 1 = .ok (.getfield 38, 3) := by decide +kernel
theorem dX6_put_4 : decode cX6_put 4 = .ok (.iload_n 1, 1) := by decide +kernel
theorem dX6_put_5 : decode cX6_put 5 = .ok (.iload_n 2, 1) := by decide +kernel
theorem dX6_put_6 : decode cX6_put 6 = .ok (.iastore, 1) := by decide +kernel
theorem dX6_put_7 : decode cX6_put 7 = .ok (.aload_n 0, 1) := by decide +kernel
theorem dX6_put_8 : decode cX6_put 8 = .ok (.getfield 41, 3) := by decide +kernel
theorem dX6_put_11 : decode cX6_put 11 = .ok (.iload_n 1, 1) := by decide +kernel
theorem dX6_put_12 : decode cX6_put 12 = .ok (.iload_n 3, 1) := by decide +kernel
theorem dX6_put_13 : decode cX6_put 13 = .ok (.iastore, 1) := by decide +kernel
theorem dX6_put_14 : decode cX6_put 14 = .ok (.aload_n 0, 1) := by decide +kernel
theorem dX6_put_15 : decode cX6_put 15 = .ok (.getfield 44, 3) := by decide +kernel
theorem dX6_put_18 : decode cX6_put 18 = .ok (.iload_n 1, 1) := by decide +kernel
theorem dX6_put_19 : decode cX6_put 19 = .ok (.iload_n 2, 1) := by decide +kernel
theorem dX6_put_20 : decode cX6_put 20 = .ok (.invokestatic 129, 3) := by decide +kernel
theorem dX6_put_23 : decode cX6_put 23 = .ok (.ifCond .eq 8, 3) := by decide +kernel
theorem dX6_put_26 : decode cX6_put 26 = .ok (.iload 4, 2) := by decide +kernel
theorem dX6_put_28 : decode cX6_put 28 = .ok (.goto 4, 3) := by decide +kernel
theorem dX6_put_31 : decode cX6_put 31 = .ok (.iconst 0, 1) := by decide +kernel
theorem dX6_put_32 : decode cX6_put 32 = .ok (.iastore, 1) := by decide +kernel
theorem dX6_put_33 : decode cX6_put 33 = .ok (.aload_n 0, 1) := by decide +kernel
theorem dX6_put_34 : decode cX6_put 34 = .ok (.getfield 47, 3) := by decide +kernel
theorem dX6_put_37 : decode cX6_put 37 = .ok (.iload_n 1, 1) := by decide +kernel
theorem dX6_put_38 : decode cX6_put 38 = .ok (.iload_n 2, 1) := by decide +kernel
theorem dX6_put_39 : decode cX6_put 39 = .ok (.invokestatic 140, 3) := by decide +kernel
theorem dX6_put_42 : decode cX6_put 42 = .ok (.ifCond .eq 8, 3) := by decide +kernel
theorem dX6_put_45 : decode cX6_put 45 = .ok (.iload 5, 2) := by decide +kernel
theorem dX6_put_47 : decode cX6_put 47 = .ok (.goto 4, 3) := by decide +kernel
theorem dX6_put_50 : decode cX6_put 50 = .ok (.iconst 0, 1) := by decide +kernel
theorem dX6_put_51 : decode cX6_put 51 = .ok (.iastore, 1) := by decide +kernel
theorem dX6_put_52 : decode cX6_put 52 = .ok (.aload_n 0, 1) := by decide +kernel
theorem dX6_put_53 : decode cX6_put 53 = .ok (.getfield 50, 3) := by decide +kernel
theorem dX6_put_56 : decode cX6_put 56 = .ok (.iload_n 1, 1) := by decide +kernel
theorem dX6_put_57 : decode cX6_put 57 = .ok (.iload_n 2, 1) := by decide +kernel
theorem dX6_put_58 : decode cX6_put 58 = .ok (.invokestatic 143, 3) := by decide +kernel
theorem dX6_put_61 : decode cX6_put 61 = .ok (.ifCond .eq 8, 3) := by decide +kernel
theorem dX6_put_64 : decode cX6_put 64 = .ok (.iload 6, 2) := by decide +kernel
theorem dX6_put_66 : decode cX6_put 66 = .ok (.goto 4, 3) := by decide +kernel
theorem dX6_put_69 : decode cX6_put 69 = .ok (.iconst 0, 1) := by decide +kernel
theorem dX6_put_70 : decode cX6_put 70 = .ok (.iastore, 1) := by decide +kernel
theorem dX6_put_71 : decode cX6_put 71 = .ok (.return_, 1) := by decide +kernel
theorem dX6_node_0 : decode cX6_node 0 = .ok (.iload_n 1, 1) := by decide +kernel
theorem dX6_node_1 : decode cX6_node 1 = .ok (.i2l, 1) := by decide +kernel
theorem dX6_node_2 : decode cX6_node 2 = .ok (.lconst 0, 1) := by decide +kernel
theorem dX6_node_3 : decode cX6_node 3 = .ok (.ldc2_w 146, 3) := by decide +kernel
theorem dX6_node_6 : decode cX6_node 6 = .ok (.invokestatic 90, 3) := by decide +kernel
theorem dX6_node_9 : decode cX6_node 9 = .ok (.ifCond .eq 77, 3) := by decide +kernel
theorem dX6_node_12 : decode cX6_node 12 = .ok (.iload_n 1, 1) := by decide +kernel
theorem dX6_node_13 : decode cX6_node 13 = .ok (.ifCond .ne 18, 3) := by decide +kernel
theorem dX6_node_16 : decode cX6_node 16 = .ok (.iload_n 2, 1) := by decide +kernel
theorem dX6_node_17 : decode cX6_node 17 = .ok (.i2l, 1) := by decide +kernel
theorem dX6_node_18 : decode cX6_node 18 = .ok (.lconst 0, 1) := by decide +kernel
theorem dX6_node_19 : decode cX6_node 19 = .ok (.ldc2_w 88, 3) := by decide +kernel
theorem dX6_node_22 : decode cX6_node 22 = .ok (.invokestatic 90, 3) := by decide +kernel
theorem dX6_node_25 : decode cX6_node 25 = .ok (.ifCond .ne 14, 3) := by decide +kernel
theorem dX6_node_28 : decode cX6_node 28 = .ok (.goto 58, 3) := by decide +kernel
theorem dX6_node_31 : decode cX6_node 31 = .ok (.aload_n 0, 1) := by decide +kernel
theorem dX6_node_32 : decode cX6_node 32 = .ok (.iload_n 2, 1) := by decide +kernel
theorem dX6_node_33 : decode cX6_node 33 = .ok (.invokevirtual 148, 3) := by decide +kernel
theorem dX6_node_36 : decode cX6_node 36 = .ok (.ifCond .eq 50, 3) := by decide +kernel
theorem dX6_node_39 : decode cX6_node 39 = .ok (.iload_n 1, 1) := by decide +kernel
theorem dX6_node_40 : decode cX6_node 40 = .ok (.invokestatic 129, 3) := by decide +kernel
theorem dX6_node_43 : decode cX6_node 43 = .ok (.ifCond .eq 11, 3) := by decide +kernel
theorem dX6_node_46 : decode cX6_node 46 = .ok (.aload_n 0, 1) := by decide +kernel
theorem dX6_node_47 : decode cX6_node 47 = .ok (.iload_n 3, 1) := by decide +kernel
theorem dX6_node_48 : decode cX6_node 48 = .ok (.invokevirtual 148, 3) := by decide +kernel
theorem dX6_node_51 : decode cX6_node 51 = .ok (.ifCond .eq 35, 3) := by decide +kernel
theorem dX6_node_54 : decode cX6_node 54 = .ok (.iload_n 1, 1) := by decide +kernel
theorem dX6_node_55 : decode cX6_node 55 = .ok (.invokestatic 140, 3) := by decide +kernel
theorem dX6_node_58 : decode cX6_node 58 = .ok (.ifCond .eq 16, 3) := by decide +kernel
theorem dX6_node_61 : decode cX6_node 61 = .ok (.iload 4, 2) := by decide +kernel
theorem dX6_node_63 : decode cX6_node 63 = .ok (.i2l, 1) := by decide +kernel
theorem dX6_node_64 : decode cX6_node 64 = .ok (.lconst 0, 1) := by decide +kernel
theorem dX6_node_65 : decode cX6_node 65 = .ok (.ldc2_w 112, 3) := by decide +kernel
theorem dX6_node_68 : decode cX6_node 68 = .ok (.invokestatic 90, 3) := by decide +kernel
theorem dX6_node_71 : decode cX6_node 71 = .ok (.ifCond .eq 15, 3) := by decide +kernel
theorem dX6_node_74 : decode cX6_node 74 = .ok (.aload_n 0, 1) := by decide +kernel
theorem dX6_node_75 : decode cX6_node 75 = .ok (.iload_n 1, 1) := by decide +kernel
theorem dX6_node_76 : decode cX6_node 76 = .ok (.iload 5, 2) := by decide +kernel
theorem dX6_node_78 : decode cX6_node 78 = .ok (.iload 4, 2) := by decide +kernel
theorem dX6_node_80 : decode cX6_node 80 = .ok (.invokevirtual 151, 3) := by decide +kernel
theorem dX6_node_83 : decode cX6_node 83 = .ok (.ifCond .ne 5, 3) := by decide +kernel
theorem dX6_node_86 : decode cX6_node 86 = .ok (.iconst (-1), 1) := by decide +kernel
theorem dX6_node_87 : decode cX6_node 87 = .ok (.ireturn, 1) := by decide +kernel
theorem dX6_node_88 : decode cX6_node 88 = .ok (.aload_n 0, 1) := by decide +kernel
theorem dX6_node_89 : decode cX6_node 89 = .ok (.getfield 120, 3) := by decide +kernel
theorem dX6_node_92 : decode cX6_node 92 = .ok (.bipush 60, 2) := by decide +kernel
theorem dX6_node_94 : decode cX6_node 94 = .ok (.if_icmp .ne 6, 3) := by decide +kernel
theorem dX6_node_97 : decode cX6_node 97 = .ok (.bipush (-2), 2) := by decide +kernel
theorem dX6_node_99 : decode cX6_node 99 = .ok (.ireturn, 1) := by decide +kernel
theorem dX6_node_100 : decode cX6_node 100 = .ok (.aload_n 0, 1) := by decide +kernel
theorem dX6_node_101 : decode cX6_node 101 = .ok (.iload_n 1, 1) := by decide +kernel
theorem dX6_node_102 : decode cX6_node 102 = .ok (.iload_n 2, 1) := by decide +kernel
theorem dX6_node_103 : decode cX6_node 103 = .ok (.iload_n 3, 1) := by decide +kernel
theorem dX6_node_104 : decode cX6_node 104 = .ok (.iload 4, 2) := by decide +kernel
theorem dX6_node_106 : decode cX6_node 106 = .ok (.iload 5, 2) := by decide +kernel
theorem dX6_node_108 : decode cX6_node 108 = .ok (.invokevirtual 155, 3) := by decide +kernel
theorem dX6_node_111 : decode cX6_node 111 = .ok (.istore 6, 2) := by decide +kernel
theorem dX6_node_113 : decode cX6_node 113 = .ok (.aload_n 0, 1) := by decide +kernel
theorem dX6_node_114 : decode cX6_node 114 = .ok (.invokevirtual 159, 3) := by decide +kernel
theorem dX6_node_117 : decode cX6_node 117 = .ok (.aload_n 0, 1) := by decide +kernel
theorem dX6_node_118 : decode cX6_node 118 = .ok (.getfield 53, 3) := by decide +kernel
theorem dX6_node_121 : decode cX6_node 121 = .ok (.iload 6, 2) := by decide +kernel
theorem dX6_node_123 : decode cX6_node 123 = .ok (.iaload, 1) := by decide +kernel
theorem dX6_node_124 : decode cX6_node 124 = .ok (.bipush 100, 2) := by decide +kernel
theorem dX6_node_126 : decode cX6_node 126 = .ok (.if_icmp .le 16, 3) := by decide +kernel
theorem dX6_node_129 : decode cX6_node 129 = .ok (.aload_n 0, 1) := by decide +kernel
theorem dX6_node_130 : decode cX6_node 130 = .ok (.dup, 1) := by decide +kernel
theorem dX6_node_131 : decode cX6_node 131 = .ok (.getfield 120, 3) := by decide +kernel
theorem dX6_node_134 : decode cX6_node 134 = .ok (.iconst 1, 1) := by decide +kernel
theorem dX6_node_135 : decode cX6_node 135 = .ok (.isub, 1) := by decide +kernel
theorem dX6_node_136 : decode cX6_node 136 = .ok (.putfield 120, 3) := by decide +kernel
theorem dX6_node_139 : decode cX6_node 139 = .ok (.bipush (-2), 2) := by decide +kernel
theorem dX6_node_141 : decode cX6_node 141 = .ok (.ireturn, 1) := by decide +kernel
theorem dX6_node_142 : decode cX6_node 142 = .ok (.iload 6, 2) := by decide +kernel
theorem dX6_node_144 : decode cX6_node 144 = .ok (.ireturn, 1) := by decide +kernel
theorem dX6_told_0 : decode cX6_told 0 = .ok (.aload_n 0, 1) := by decide +kernel
theorem dX6_told_1 : decode cX6_told 1 = .ok (.iload_n 1, 1) := by decide +kernel
theorem dX6_told_2 : decode cX6_told 2 = .ok (.invokevirtual 148, 3) := by decide +kernel
theorem dX6_told_5 : decode cX6_told 5 = .ok (.ifCond .eq 15, 3) := by decide +kernel
theorem dX6_told_8 : decode cX6_told 8 = .ok (.iload_n 2, 1) := by decide +kernel
theorem dX6_told_9 : decode cX6_told 9 = .ok (.i2l, 1) := by decide +kernel
theorem dX6_told_10 : decode cX6_told 10 = .ok (.lconst 0, 1) := by decide +kernel
theorem dX6_told_11 : decode cX6_told 11 = .ok (.ldc2_w 162, 3) := by decide +kernel
theorem dX6_told_14 : decode cX6_told 14 = .ok (.invokestatic 90, 3) := by decide +kernel
theorem dX6_told_17 : decode cX6_told 17 = .ok (.ifCond .ne 5, 3) := by decide +kernel
theorem dX6_told_20 : decode cX6_told 20 = .ok (.iconst (-1), 1) := by decide +kernel
theorem dX6_told_21 : decode cX6_told 21 = .ok (.ireturn, 1) := by decide +kernel
theorem dX6_told_22 : decode cX6_told 22 = .ok (.aload_n 0, 1) := by decide +kernel
theorem dX6_told_23 : decode cX6_told 23 = .ok (.invokevirtual 159, 3) := by decide +kernel
theorem dX6_told_26 : decode cX6_told 26 = .ok (.iload_n 2, 1) := by decide +kernel
theorem dX6_told_27 : decode cX6_told 27 = .ok (.tableswitch 79 0 5 #[37, 44, 51, 58, 65, 72], 37) := by decide +kernel
theorem dX6_told_64 : decode cX6_told 64 = .ok (.aload_n 0, 1) := by decide +kernel
theorem dX6_told_65 : decode cX6_told 65 = .ok (.getfield 38, 3) := by decide +kernel
theorem dX6_told_68 : decode cX6_told 68 = .ok (.iload_n 1, 1) := by decide +kernel
theorem dX6_told_69 : decode cX6_told 69 = .ok (.iaload, 1) := by decide +kernel
theorem dX6_told_70 : decode cX6_told 70 = .ok (.ireturn, 1) := by decide +kernel
theorem dX6_told_71 : decode cX6_told 71 = .ok (.aload_n 0, 1) := by decide +kernel
theorem dX6_told_72 : decode cX6_told 72 = .ok (.getfield 41, 3) := by decide +kernel
theorem dX6_told_75 : decode cX6_told 75 = .ok (.iload_n 1, 1) := by decide +kernel
theorem dX6_told_76 : decode cX6_told 76 = .ok (.iaload, 1) := by decide +kernel
theorem dX6_told_77 : decode cX6_told 77 = .ok (.ireturn, 1) := by decide +kernel
theorem dX6_told_78 : decode cX6_told 78 = .ok (.aload_n 0, 1) := by decide +kernel
theorem dX6_told_79 : decode cX6_told 79 = .ok (.getfield 44, 3) := by decide +kernel
theorem dX6_told_82 : decode cX6_told 82 = .ok (.iload_n 1, 1) := by decide +kernel
theorem dX6_told_83 : decode cX6_told 83 = .ok (.iaload, 1) := by decide +kernel
theorem dX6_told_84 : decode cX6_told 84 = .ok (.ireturn, 1) := by decide +kernel
theorem dX6_told_85 : decode cX6_told 85 = .ok (.aload_n 0, 1) := by decide +kernel
theorem dX6_told_86 : decode cX6_told 86 = .ok (.getfield 47, 3) := by decide +kernel
theorem dX6_told_89 : decode cX6_told 89 = .ok (.iload_n 1, 1) := by decide +kernel
theorem dX6_told_90 : decode cX6_told 90 = .ok (.iaload, 1) := by decide +kernel
theorem dX6_told_91 : decode cX6_told 91 = .ok (.ireturn, 1) := by decide +kernel
theorem dX6_told_92 : decode cX6_told 92 = .ok (.aload_n 0, 1) := by decide +kernel
theorem dX6_told_93 : decode cX6_told 93 = .ok (.getfield 50, 3) := by decide +kernel
theorem dX6_told_96 : decode cX6_told 96 = .ok (.iload_n 1, 1) := by decide +kernel
theorem dX6_told_97 : decode cX6_told 97 = .ok (.iaload, 1) := by decide +kernel
theorem dX6_told_98 : decode cX6_told 98 = .ok (.ireturn, 1) := by decide +kernel
theorem dX6_told_99 : decode cX6_told 99 = .ok (.aload_n 0, 1) := by decide +kernel
theorem dX6_told_100 : decode cX6_told 100 = .ok (.getfield 53, 3) := by decide +kernel
theorem dX6_told_103 : decode cX6_told 103 = .ok (.iload_n 1, 1) := by decide +kernel
theorem dX6_told_104 : decode cX6_told 104 = .ok (.iaload, 1) := by decide +kernel
theorem dX6_told_105 : decode cX6_told 105 = .ok (.ireturn, 1) := by decide +kernel
theorem dX6_told_106 : decode cX6_told 106 = .ok (.aload_n 0, 1) := by decide +kernel
theorem dX6_told_107 : decode cX6_told 107 = .ok (.getfield 56, 3) := by decide +kernel
theorem dX6_told_110 : decode cX6_told 110 = .ok (.iload_n 1, 1) := by decide +kernel
theorem dX6_told_111 : decode cX6_told 111 = .ok (.baload, 1) := by decide +kernel
theorem dX6_told_112 : decode cX6_told 112 = .ok (.ifCond .eq 7, 3) := by decide +kernel
theorem dX6_told_115 : decode cX6_told 115 = .ok (.iconst 1, 1) := by decide +kernel
theorem dX6_told_116 : decode cX6_told 116 = .ok (.goto 4, 3) := by decide +kernel
theorem dX6_told_119 : decode cX6_told 119 = .ok (.iconst 0, 1) := by decide +kernel
theorem dX6_told_120 : decode cX6_told 120 = .ok (.ireturn, 1) := by decide +kernel
theorem dX6_begins_0 : decode cX6_begins 0 = .ok (.aload_n 0, 1) := by decide +kernel
theorem dX6_begins_1 : decode cX6_begins 1 = .ok (.getfield 59, 3) := by decide +kernel
theorem dX6_begins_4 : decode cX6_begins 4 = .ok (.aload_n 0, 1) := by decide +kernel
theorem dX6_begins_5 : decode cX6_begins 5 = .ok (.getfield 164, 3) := by decide +kernel
theorem dX6_begins_8 : decode cX6_begins 8 = .ok (.iload_n 1, 1) := by decide +kernel
theorem dX6_begins_9 : decode cX6_begins 9 = .ok (.iastore, 1) := by decide +kernel
theorem dX6_begins_10 : decode cX6_begins 10 = .ok (.aload_n 0, 1) := by decide +kernel
theorem dX6_begins_11 : decode cX6_begins 11 = .ok (.getfield 62, 3) := by decide +kernel
theorem dX6_begins_14 : decode cX6_begins 14 = .ok (.aload_n 0, 1) := by decide +kernel
theorem dX6_begins_15 : decode cX6_begins 15 = .ok (.getfield 164, 3) := by decide +kernel
theorem dX6_begins_18 : decode cX6_begins 18 = .ok (.iconst 0, 1) := by decide +kernel
theorem dX6_begins_19 : decode cX6_begins 19 = .ok (.iastore, 1) := by decide +kernel
theorem dX6_begins_20 : decode cX6_begins 20 = .ok (.aload_n 0, 1) := by decide +kernel
theorem dX6_begins_21 : decode cX6_begins 21 = .ok (.dup, 1) := by decide +kernel
theorem dX6_begins_22 : decode cX6_begins 22 = .ok (.getfield 164, 3) := by decide +kernel
theorem dX6_begins_25 : decode cX6_begins 25 = .ok (.iconst 1, 1) := by decide +kernel
theorem dX6_begins_26 : decode cX6_begins 26 = .ok (.iadd, 1) := by decide +kernel
theorem dX6_begins_27 : decode cX6_begins 27 = .ok (.putfield 164, 3) := by decide +kernel
theorem dX6_begins_30 : decode cX6_begins 30 = .ok (.aload_n 0, 1) := by decide +kernel
theorem dX6_begins_31 : decode cX6_begins 31 = .ok (.dup, 1) := by decide +kernel
theorem dX6_begins_32 : decode cX6_begins 32 = .ok (.getfield 167, 3) := by decide +kernel
theorem dX6_begins_35 : decode cX6_begins 35 = .ok (.iconst 1, 1) := by decide +kernel
theorem dX6_begins_36 : decode cX6_begins 36 = .ok (.iadd, 1) := by decide +kernel
theorem dX6_begins_37 : decode cX6_begins 37 = .ok (.putfield 167, 3) := by decide +kernel
theorem dX6_begins_40 : decode cX6_begins 40 = .ok (.return_, 1) := by decide +kernel
theorem dX6_asks_0 : decode cX6_asks 0 = .ok (.aload_n 0, 1) := by decide +kernel
theorem dX6_asks_1 : decode cX6_asks 1 = .ok (.getfield 62, 3) := by decide +kernel
theorem dX6_asks_4 : decode cX6_asks 4 = .ok (.aload_n 0, 1) := by decide +kernel
theorem dX6_asks_5 : decode cX6_asks 5 = .ok (.getfield 164, 3) := by decide +kernel
theorem dX6_asks_8 : decode cX6_asks 8 = .ok (.iconst 1, 1) := by decide +kernel
theorem dX6_asks_9 : decode cX6_asks 9 = .ok (.isub, 1) := by decide +kernel
theorem dX6_asks_10 : decode cX6_asks 10 = .ok (.dup2, 1) := by decide +kernel
theorem dX6_asks_11 : decode cX6_asks 11 = .ok (.iaload, 1) := by decide +kernel
theorem dX6_asks_12 : decode cX6_asks 12 = .ok (.iconst 1, 1) := by decide +kernel
theorem dX6_asks_13 : decode cX6_asks 13 = .ok (.iadd, 1) := by decide +kernel
theorem dX6_asks_14 : decode cX6_asks 14 = .ok (.iastore, 1) := by decide +kernel
theorem dX6_asks_15 : decode cX6_asks 15 = .ok (.aload_n 0, 1) := by decide +kernel
theorem dX6_asks_16 : decode cX6_asks 16 = .ok (.iload_n 1, 1) := by decide +kernel
theorem dX6_asks_17 : decode cX6_asks 17 = .ok (.invokevirtual 170, 3) := by decide +kernel
theorem dX6_asks_20 : decode cX6_asks 20 = .ok (.return_, 1) := by decide +kernel
theorem dX6_gives_0 : decode cX6_gives 0 = .ok (.aload_n 0, 1) := by decide +kernel
theorem dX6_gives_1 : decode cX6_gives 1 = .ok (.iload_n 1, 1) := by decide +kernel
theorem dX6_gives_2 : decode cX6_gives 2 = .ok (.putfield 174, 3) := by decide +kernel
theorem dX6_gives_5 : decode cX6_gives 5 = .ok (.aload_n 0, 1) := by decide +kernel
theorem dX6_gives_6 : decode cX6_gives 6 = .ok (.dup, 1) := by decide +kernel
theorem dX6_gives_7 : decode cX6_gives 7 = .ok (.getfield 164, 3) := by decide +kernel
theorem dX6_gives_10 : decode cX6_gives 10 = .ok (.iconst 1, 1) := by decide +kernel
theorem dX6_gives_11 : decode cX6_gives 11 = .ok (.isub, 1) := by decide +kernel
theorem dX6_gives_12 : decode cX6_gives 12 = .ok (.putfield 164, 3) := by decide +kernel
theorem dX6_gives_15 : decode cX6_gives 15 = .ok (.return_, 1) := by decide +kernel
theorem dX6_goesOn_0 : decode cX6_goesOn 0 = .ok (.aload_n 0, 1) := by decide +kernel
theorem dX6_goesOn_1 : decode cX6_goesOn 1 = .ok (.getfield 164, 3) := by decide +kernel
theorem dX6_goesOn_4 : decode cX6_goesOn 4 = .ok (.iconst 1, 1) := by decide +kernel
theorem dX6_goesOn_5 : decode cX6_goesOn 5 = .ok (.isub, 1) := by decide +kernel
theorem dX6_goesOn_6 : decode cX6_goesOn 6 = .ok (.istore_n 2, 1) := by decide +kernel
theorem dX6_goesOn_7 : decode cX6_goesOn 7 = .ok (.aload_n 0, 1) := by decide +kernel
theorem dX6_goesOn_8 : decode cX6_goesOn 8 = .ok (.getfield 59, 3) := by decide +kernel
theorem dX6_goesOn_11 : decode cX6_goesOn 11 = .ok (.iload_n 2, 1) := by decide +kernel
theorem dX6_goesOn_12 : decode cX6_goesOn 12 = .ok (.iaload, 1) := by decide +kernel
theorem dX6_goesOn_13 : decode cX6_goesOn 13 = .ok (.istore_n 3, 1) := by decide +kernel
theorem dX6_goesOn_14 : decode cX6_goesOn 14 = .ok (.aload_n 0, 1) := by decide +kernel
theorem dX6_goesOn_15 : decode cX6_goesOn 15 = .ok (.getfield 19, 3) := by decide +kernel
theorem dX6_goesOn_18 : decode cX6_goesOn 18 = .ok (.iload_n 3, 1) := by decide +kernel
theorem dX6_goesOn_19 : decode cX6_goesOn 19 = .ok (.iaload, 1) := by decide +kernel
theorem dX6_goesOn_20 : decode cX6_goesOn 20 = .ok (.istore 4, 2) := by decide +kernel
theorem dX6_goesOn_22 : decode cX6_goesOn 22 = .ok (.iload 4, 2) := by decide +kernel
theorem dX6_goesOn_24 : decode cX6_goesOn 24 = .ok (.ifCond .ne 23, 3) := by decide +kernel
theorem dX6_goesOn_27 : decode cX6_goesOn 27 = .ok (.aload_n 0, 1) := by decide +kernel
theorem dX6_goesOn_28 : decode cX6_goesOn 28 = .ok (.aload_n 0, 1) := by decide +kernel
theorem dX6_goesOn_29 : decode cX6_goesOn 29 = .ok (.getfield 69, 3) := by decide +kernel
theorem dX6_goesOn_32 : decode cX6_goesOn 32 = .ok (.iload_n 1, 1) := by decide +kernel
theorem dX6_goesOn_33 : decode cX6_goesOn 33 = .ok (.aload_n 0, 1) := by decide +kernel
theorem dX6_goesOn_34 : decode cX6_goesOn 34 = .ok (.getfield 22, 3) := by decide +kernel
theorem dX6_goesOn_37 : decode cX6_goesOn 37 = .ok (.iload_n 3, 1) := by decide +kernel
theorem dX6_goesOn_38 : decode cX6_goesOn 38 = .ok (.iaload, 1) := by decide +kernel
theorem dX6_goesOn_39 : decode cX6_goesOn 39 = .ok (.iadd, 1) := by decide +kernel
theorem dX6_goesOn_40 : decode cX6_goesOn 40 = .ok (.iaload, 1) := by decide +kernel
theorem dX6_goesOn_41 : decode cX6_goesOn 41 = .ok (.invokevirtual 177, 3) := by decide +kernel
theorem dX6_goesOn_44 : decode cX6_goesOn 44 = .ok (.goto 157, 3) := by decide +kernel
theorem dX6_goesOn_47 : decode cX6_goesOn 47 = .ok (.iload 4, 2) := by decide +kernel
theorem dX6_goesOn_49 : decode cX6_goesOn 49 = .ok (.iconst 1, 1) := by decide +kernel
theorem dX6_goesOn_50 : decode cX6_goesOn 50 = .ok (.if_icmp .ne 16, 3) := by decide +kernel
theorem dX6_goesOn_53 : decode cX6_goesOn 53 = .ok (.aload_n 0, 1) := by decide +kernel
theorem dX6_goesOn_54 : decode cX6_goesOn 54 = .ok (.aload_n 0, 1) := by decide +kernel
theorem dX6_goesOn_55 : decode cX6_goesOn 55 = .ok (.getfield 22, 3) := by decide +kernel
theorem dX6_goesOn_58 : decode cX6_goesOn 58 = .ok (.iload_n 3, 1) := by decide +kernel
theorem dX6_goesOn_59 : decode cX6_goesOn 59 = .ok (.iaload, 1) := by decide +kernel
theorem dX6_goesOn_60 : decode cX6_goesOn 60 = .ok (.invokevirtual 177, 3) := by decide +kernel
theorem dX6_goesOn_63 : decode cX6_goesOn 63 = .ok (.goto 138, 3) := by decide +kernel
theorem dX6_goesOn_66 : decode cX6_goesOn 66 = .ok (.aload_n 0, 1) := by decide +kernel
theorem dX6_goesOn_67 : decode cX6_goesOn 67 = .ok (.getfield 62, 3) := by decide +kernel
theorem dX6_goesOn_70 : decode cX6_goesOn 70 = .ok (.iload_n 2, 1) := by decide +kernel
theorem dX6_goesOn_71 : decode cX6_goesOn 71 = .ok (.iaload, 1) := by decide +kernel
theorem dX6_goesOn_72 : decode cX6_goesOn 72 = .ok (.ifCond .ne 16, 3) := by decide +kernel
theorem dX6_goesOn_75 : decode cX6_goesOn 75 = .ok (.aload_n 0, 1) := by decide +kernel
theorem dX6_goesOn_76 : decode cX6_goesOn 76 = .ok (.aload_n 0, 1) := by decide +kernel
theorem dX6_goesOn_77 : decode cX6_goesOn 77 = .ok (.getfield 22, 3) := by decide +kernel
theorem dX6_goesOn_80 : decode cX6_goesOn 80 = .ok (.iload_n 3, 1) := by decide +kernel
theorem dX6_goesOn_81 : decode cX6_goesOn 81 = .ok (.iaload, 1) := by decide +kernel
theorem dX6_goesOn_82 : decode cX6_goesOn 82 = .ok (.invokevirtual 180, 3) := by decide +kernel
theorem dX6_goesOn_85 : decode cX6_goesOn 85 = .ok (.goto 116, 3) := by decide +kernel
theorem dX6_goesOn_88 : decode cX6_goesOn 88 = .ok (.iload 4, 2) := by decide +kernel
theorem dX6_goesOn_90 : decode cX6_goesOn 90 = .ok (.invokestatic 103, 3) := by decide +kernel
theorem dX6_goesOn_93 : decode cX6_goesOn 93 = .ok (.ifCond .ne 12, 3) := by decide +kernel
theorem dX6_goesOn_96 : decode cX6_goesOn 96 = .ok (.aload_n 0, 1) := by decide +kernel
theorem dX6_goesOn_97 : decode cX6_goesOn 97 = .ok (.iload 4, 2) := by decide +kernel
theorem dX6_goesOn_99 : decode cX6_goesOn 99 = .ok (.invokevirtual 183, 3) := by decide +kernel
theorem dX6_goesOn_102 : decode cX6_goesOn 102 = .ok (.goto 99, 3) := by decide +kernel
theorem dX6_goesOn_105 : decode cX6_goesOn 105 = .ok (.aload_n 0, 1) := by decide +kernel
theorem dX6_goesOn_106 : decode cX6_goesOn 106 = .ok (.getfield 62, 3) := by decide +kernel
theorem dX6_goesOn_109 : decode cX6_goesOn 109 = .ok (.iload_n 2, 1) := by decide +kernel
theorem dX6_goesOn_110 : decode cX6_goesOn 110 = .ok (.iaload, 1) := by decide +kernel
theorem dX6_goesOn_111 : decode cX6_goesOn 111 = .ok (.iconst 1, 1) := by decide +kernel
theorem dX6_goesOn_112 : decode cX6_goesOn 112 = .ok (.if_icmp .ne 73, 3) := by decide +kernel
theorem dX6_goesOn_115 : decode cX6_goesOn 115 = .ok (.aload_n 0, 1) := by decide +kernel
theorem dX6_goesOn_116 : decode cX6_goesOn 116 = .ok (.getfield 65, 3) := by decide +kernel
theorem dX6_goesOn_119 : decode cX6_goesOn 119 = .ok (.iload_n 2, 1) := by decide +kernel
theorem dX6_goesOn_120 : decode cX6_goesOn 120 = .ok (.aload_n 0, 1) := by decide +kernel
theorem dX6_goesOn_121 : decode cX6_goesOn 121 = .ok (.getfield 174, 3) := by decide +kernel
theorem dX6_goesOn_124 : decode cX6_goesOn 124 = .ok (.iastore, 1) := by decide +kernel
theorem dX6_goesOn_125 : decode cX6_goesOn 125 = .ok (.iload 4, 2) := by decide +kernel
theorem dX6_goesOn_127 : decode cX6_goesOn 127 = .ok (.bipush 9, 2) := by decide +kernel
theorem dX6_goesOn_129 : decode cX6_goesOn 129 = .ok (.if_icmp .ne 10, 3) := by decide +kernel
theorem dX6_goesOn_132 : decode cX6_goesOn 132 = .ok (.aload_n 0, 1) := by decide +kernel
theorem dX6_goesOn_133 : decode cX6_goesOn 133 = .ok (.getfield 174, 3) := by decide +kernel
theorem dX6_goesOn_136 : decode cX6_goesOn 136 = .ok (.ifCond .eq 17, 3) := by decide +kernel
theorem dX6_goesOn_139 : decode cX6_goesOn 139 = .ok (.iload 4, 2) := by decide +kernel
theorem dX6_goesOn_141 : decode cX6_goesOn 141 = .ok (.bipush 10, 2) := by decide +kernel
theorem dX6_goesOn_143 : decode cX6_goesOn 143 = .ok (.if_icmp .ne 29, 3) := by decide +kernel
theorem dX6_goesOn_146 : decode cX6_goesOn 146 = .ok (.aload_n 0, 1) := by decide +kernel
theorem dX6_goesOn_147 : decode cX6_goesOn 147 = .ok (.getfield 174, 3) := by decide +kernel
theorem dX6_goesOn_150 : decode cX6_goesOn 150 = .ok (.ifCond .eq 22, 3) := by decide +kernel
theorem dX6_goesOn_153 : decode cX6_goesOn 153 = .ok (.aload_n 0, 1) := by decide +kernel
theorem dX6_goesOn_154 : decode cX6_goesOn 154 = .ok (.iload 4, 2) := by decide +kernel
theorem dX6_goesOn_156 : decode cX6_goesOn 156 = .ok (.bipush 9, 2) := by decide +kernel
theorem dX6_goesOn_158 : decode cX6_goesOn 158 = .ok (.if_icmp .ne 7, 3) := by decide +kernel
theorem dX6_goesOn_161 : decode cX6_goesOn 161 = .ok (.iconst 0, 1) := by decide +kernel
theorem dX6_goesOn_162 : decode cX6_goesOn 162 = .ok (.goto 4, 3) := by decide +kernel
theorem dX6_goesOn_165 : decode cX6_goesOn 165 = .ok (.iconst 1, 1) := by decide +kernel
theorem dX6_goesOn_166 : decode cX6_goesOn 166 = .ok (.invokevirtual 177, 3) := by decide +kernel
theorem dX6_goesOn_169 : decode cX6_goesOn 169 = .ok (.goto 32, 3) := by decide +kernel
theorem dX6_goesOn_172 : decode cX6_goesOn 172 = .ok (.aload_n 0, 1) := by decide +kernel
theorem dX6_goesOn_173 : decode cX6_goesOn 173 = .ok (.aload_n 0, 1) := by decide +kernel
theorem dX6_goesOn_174 : decode cX6_goesOn 174 = .ok (.getfield 25, 3) := by decide +kernel
theorem dX6_goesOn_177 : decode cX6_goesOn 177 = .ok (.iload_n 3, 1) := by decide +kernel
theorem dX6_goesOn_178 : decode cX6_goesOn 178 = .ok (.iaload, 1) := by decide +kernel
theorem dX6_goesOn_179 : decode cX6_goesOn 179 = .ok (.invokevirtual 180, 3) := by decide +kernel
theorem dX6_goesOn_182 : decode cX6_goesOn 182 = .ok (.goto 19, 3) := by decide +kernel
theorem dX6_goesOn_185 : decode cX6_goesOn 185 = .ok (.aload_n 0, 1) := by decide +kernel
theorem dX6_goesOn_186 : decode cX6_goesOn 186 = .ok (.iload 4, 2) := by decide +kernel
theorem dX6_goesOn_188 : decode cX6_goesOn 188 = .ok (.aload_n 0, 1) := by decide +kernel
theorem dX6_goesOn_189 : decode cX6_goesOn 189 = .ok (.getfield 65, 3) := by decide +kernel
theorem dX6_goesOn_192 : decode cX6_goesOn 192 = .ok (.iload_n 2, 1) := by decide +kernel
theorem dX6_goesOn_193 : decode cX6_goesOn 193 = .ok (.iaload, 1) := by decide +kernel
theorem dX6_goesOn_194 : decode cX6_goesOn 194 = .ok (.aload_n 0, 1) := by decide +kernel
theorem dX6_goesOn_195 : decode cX6_goesOn 195 = .ok (.getfield 174, 3) := by decide +kernel
theorem dX6_goesOn_198 : decode cX6_goesOn 198 = .ok (.invokevirtual 186, 3) := by decide +kernel
theorem dX6_goesOn_201 : decode cX6_goesOn 201 = .ok (.return_, 1) := by decide +kernel
theorem dX6_single_0 : decode cX6_single 0 = .ok (.iload_n 1, 1) := by decide +kernel
theorem dX6_single_1 : decode cX6_single 1 = .ok (.bipush 11, 2) := by decide +kernel
theorem dX6_single_3 : decode cX6_single 3 = .ok (.if_icmp .ne 22, 3) := by decide +kernel
theorem dX6_single_6 : decode cX6_single 6 = .ok (.aload_n 0, 1) := by decide +kernel
theorem dX6_single_7 : decode cX6_single 7 = .ok (.aload_n 0, 1) := by decide +kernel
theorem dX6_single_8 : decode cX6_single 8 = .ok (.getfield 174, 3) := by decide +kernel
theorem dX6_single_11 : decode cX6_single 11 = .ok (.ifCond .ne 7, 3) := by decide +kernel
theorem dX6_single_14 : decode cX6_single 14 = .ok (.iconst 1, 1) := by decide +kernel
theorem dX6_single_15 : decode cX6_single 15 = .ok (.goto 4, 3) := by decide +kernel
theorem dX6_single_18 : decode cX6_single 18 = .ok (.iconst 0, 1) := by decide +kernel
theorem dX6_single_19 : decode cX6_single 19 = .ok (.invokevirtual 177, 3) := by decide +kernel
theorem dX6_single_22 : decode cX6_single 22 = .ok (.goto 39, 3) := by decide +kernel
theorem dX6_single_25 : decode cX6_single 25 = .ok (.aload_n 0, 1) := by decide +kernel
theorem dX6_single_26 : decode cX6_single 26 = .ok (.getfield 174, 3) := by decide +kernel
theorem dX6_single_29 : decode cX6_single 29 = .ok (.i2l, 1) := by decide +kernel
theorem dX6_single_30 : decode cX6_single 30 = .ok (.lconst 0, 1) := by decide +kernel
theorem dX6_single_31 : decode cX6_single 31 = .ok (.ldc2_w 94, 3) := by decide +kernel
theorem dX6_single_34 : decode cX6_single 34 = .ok (.invokestatic 90, 3) := by decide +kernel
theorem dX6_single_37 : decode cX6_single 37 = .ok (.ifCond .eq 19, 3) := by decide +kernel
theorem dX6_single_40 : decode cX6_single 40 = .ok (.aload_n 0, 1) := by decide +kernel
theorem dX6_single_41 : decode cX6_single 41 = .ok (.aload_n 0, 1) := by decide +kernel
theorem dX6_single_42 : decode cX6_single 42 = .ok (.getfield 16, 3) := by decide +kernel
theorem dX6_single_45 : decode cX6_single 45 = .ok (.aload_n 0, 1) := by decide +kernel
theorem dX6_single_46 : decode cX6_single 46 = .ok (.getfield 174, 3) := by decide +kernel
theorem dX6_single_49 : decode cX6_single 49 = .ok (.iaload, 1) := by decide +kernel
theorem dX6_single_50 : decode cX6_single 50 = .ok (.invokevirtual 177, 3) := by decide +kernel
theorem dX6_single_53 : decode cX6_single 53 = .ok (.goto 8, 3) := by decide +kernel
theorem dX6_single_56 : decode cX6_single 56 = .ok (.aload_n 0, 1) := by decide +kernel
theorem dX6_single_57 : decode cX6_single 57 = .ok (.iconst 2, 1) := by decide +kernel
theorem dX6_single_58 : decode cX6_single 58 = .ok (.putfield 190, 3) := by decide +kernel
theorem dX6_single_61 : decode cX6_single 61 = .ok (.return_, 1) := by decide +kernel
theorem dX6_both_0 : decode cX6_both 0 = .ok (.iload_n 1, 1) := by decide +kernel
theorem dX6_both_1 : decode cX6_both 1 = .ok (.tableswitch 132 2 8 #[43, 53, 63, 73, 132, 98, 115], 43) := by decide +kernel
theorem dX6_both_44 : decode cX6_both 44 = .ok (.aload_n 0, 1) := by decide +kernel
theorem dX6_both_45 : decode cX6_both 45 = .ok (.iload_n 2, 1) := by decide +kernel
theorem dX6_both_46 : decode cX6_both 46 = .ok (.iload_n 3, 1) := by decide +kernel
theorem dX6_both_47 : decode cX6_both 47 = .ok (.iadd, 1) := by decide +kernel
theorem dX6_both_48 : decode cX6_both 48 = .ok (.invokevirtual 177, 3) := by decide +kernel
theorem dX6_both_51 : decode cX6_both 51 = .ok (.goto 95, 3) := by decide +kernel
theorem dX6_both_54 : decode cX6_both 54 = .ok (.aload_n 0, 1) := by decide +kernel
theorem dX6_both_55 : decode cX6_both 55 = .ok (.iload_n 2, 1) := by decide +kernel
theorem dX6_both_56 : decode cX6_both 56 = .ok (.iload_n 3, 1) := by decide +kernel
theorem dX6_both_57 : decode cX6_both 57 = .ok (.isub, 1) := by decide +kernel
theorem dX6_both_58 : decode cX6_both 58 = .ok (.invokevirtual 177, 3) := by decide +kernel
theorem dX6_both_61 : decode cX6_both 61 = .ok (.goto 85, 3) := by decide +kernel
theorem dX6_both_64 : decode cX6_both 64 = .ok (.aload_n 0, 1) := by decide +kernel
theorem dX6_both_65 : decode cX6_both 65 = .ok (.iload_n 2, 1) := by decide +kernel
theorem dX6_both_66 : decode cX6_both 66 = .ok (.iload_n 3, 1) := by decide +kernel
theorem dX6_both_67 : decode cX6_both 67 = .ok (.imul, 1) := by decide +kernel
theorem dX6_both_68 : decode cX6_both 68 = .ok (.invokevirtual 177, 3) := by decide +kernel
theorem dX6_both_71 : decode cX6_both 71 = .ok (.goto 75, 3) := by decide +kernel
theorem dX6_both_74 : decode cX6_both 74 = .ok (.iload_n 3, 1) := by decide +kernel
theorem dX6_both_75 : decode cX6_both 75 = .ok (.ifCond .ne 11, 3) := by decide +kernel
theorem dX6_both_78 : decode cX6_both 78 = .ok (.aload_n 0, 1) := by decide +kernel
theorem dX6_both_79 : decode cX6_both 79 = .ok (.iconst 1, 1) := by decide +kernel
theorem dX6_both_80 : decode cX6_both 80 = .ok (.putfield 190, 3) := by decide +kernel
theorem dX6_both_83 : decode cX6_both 83 = .ok (.goto 63, 3) := by decide +kernel
theorem dX6_both_86 : decode cX6_both 86 = .ok (.aload_n 0, 1) := by decide +kernel
theorem dX6_both_87 : decode cX6_both 87 = .ok (.iload_n 2, 1) := by decide +kernel
theorem dX6_both_88 : decode cX6_both 88 = .ok (.i2l, 1) := by decide +kernel
theorem dX6_both_89 : decode cX6_both 89 = .ok (.iload_n 3, 1) := by decide +kernel
theorem dX6_both_90 : decode cX6_both 90 = .ok (.i2l, 1) := by decide +kernel
theorem dX6_both_91 : decode cX6_both 91 = .ok (.ldiv, 1) := by decide +kernel
theorem dX6_both_92 : decode cX6_both 92 = .ok (.l2i, 1) := by decide +kernel
theorem dX6_both_93 : decode cX6_both 93 = .ok (.invokevirtual 177, 3) := by decide +kernel
theorem dX6_both_96 : decode cX6_both 96 = .ok (.goto 50, 3) := by decide +kernel
theorem dX6_both_99 : decode cX6_both 99 = .ok (.aload_n 0, 1) := by decide +kernel
theorem dX6_both_100 : decode cX6_both 100 = .ok (.iload_n 2, 1) := by decide +kernel
theorem dX6_both_101 : decode cX6_both 101 = .ok (.iload_n 3, 1) := by decide +kernel
theorem dX6_both_102 : decode cX6_both 102 = .ok (.if_icmp .ge 7, 3) := by decide +kernel
theorem dX6_both_105 : decode cX6_both 105 = .ok (.iconst 1, 1) := by decide +kernel
theorem dX6_both_106 : decode cX6_both 106 = .ok (.goto 4, 3) := by decide +kernel
theorem dX6_both_109 : decode cX6_both 109 = .ok (.iconst 0, 1) := by decide +kernel
theorem dX6_both_110 : decode cX6_both 110 = .ok (.invokevirtual 177, 3) := by decide +kernel
theorem dX6_both_113 : decode cX6_both 113 = .ok (.goto 33, 3) := by decide +kernel
theorem dX6_both_116 : decode cX6_both 116 = .ok (.aload_n 0, 1) := by decide +kernel
theorem dX6_both_117 : decode cX6_both 117 = .ok (.iload_n 2, 1) := by decide +kernel
theorem dX6_both_118 : decode cX6_both 118 = .ok (.iload_n 3, 1) := by decide +kernel
theorem dX6_both_119 : decode cX6_both 119 = .ok (.if_icmp .ne 7, 3) := by decide +kernel
theorem dX6_both_122 : decode cX6_both 122 = .ok (.iconst 1, 1) := by decide +kernel
theorem dX6_both_123 : decode cX6_both 123 = .ok (.goto 4, 3) := by decide +kernel
theorem dX6_both_126 : decode cX6_both 126 = .ok (.iconst 0, 1) := by decide +kernel
theorem dX6_both_127 : decode cX6_both 127 = .ok (.invokevirtual 177, 3) := by decide +kernel
theorem dX6_both_130 : decode cX6_both 130 = .ok (.goto 16, 3) := by decide +kernel
theorem dX6_both_133 : decode cX6_both 133 = .ok (.aload_n 0, 1) := by decide +kernel
theorem dX6_both_134 : decode cX6_both 134 = .ok (.iload_n 3, 1) := by decide +kernel
theorem dX6_both_135 : decode cX6_both 135 = .ok (.ifCond .eq 7, 3) := by decide +kernel
theorem dX6_both_138 : decode cX6_both 138 = .ok (.iconst 1, 1) := by decide +kernel
theorem dX6_both_139 : decode cX6_both 139 = .ok (.goto 4, 3) := by decide +kernel
theorem dX6_both_142 : decode cX6_both 142 = .ok (.iconst 0, 1) := by decide +kernel
theorem dX6_both_143 : decode cX6_both 143 = .ok (.invokevirtual 177, 3) := by decide +kernel
theorem dX6_both_146 : decode cX6_both 146 = .ok (.return_, 1) := by decide +kernel
theorem dX6_work_0 : decode cX6_work 0 = .ok (.aload_n 0, 1) := by decide +kernel
theorem dX6_work_1 : decode cX6_work 1 = .ok (.iconst 0, 1) := by decide +kernel
theorem dX6_work_2 : decode cX6_work 2 = .ok (.putfield 164, 3) := by decide +kernel
theorem dX6_work_5 : decode cX6_work 5 = .ok (.aload_n 0, 1) := by decide +kernel
theorem dX6_work_6 : decode cX6_work 6 = .ok (.iload_n 1, 1) := by decide +kernel
theorem dX6_work_7 : decode cX6_work 7 = .ok (.invokevirtual 170, 3) := by decide +kernel
theorem dX6_work_10 : decode cX6_work 10 = .ok (.aload_n 0, 1) := by decide +kernel
theorem dX6_work_11 : decode cX6_work 11 = .ok (.getfield 164, 3) := by decide +kernel
theorem dX6_work_14 : decode cX6_work 14 = .ok (.ifCond .le 18, 3) := by decide +kernel
theorem dX6_work_17 : decode cX6_work 17 = .ok (.aload_n 0, 1) := by decide +kernel
theorem dX6_work_18 : decode cX6_work 18 = .ok (.getfield 190, 3) := by decide +kernel
theorem dX6_work_21 : decode cX6_work 21 = .ok (.ifCond .ne 11, 3) := by decide +kernel
theorem dX6_work_24 : decode cX6_work 24 = .ok (.aload_n 0, 1) := by decide +kernel
theorem dX6_work_25 : decode cX6_work 25 = .ok (.iload_n 2, 1) := by decide +kernel
theorem dX6_work_26 : decode cX6_work 26 = .ok (.invokevirtual 193, 3) := by decide +kernel
theorem dX6_work_29 : decode cX6_work 29 = .ok (.goto (-19), 3) := by decide +kernel
theorem dX6_work_32 : decode cX6_work 32 = .ok (.return_, 1) := by decide +kernel
theorem dX6_place_0 : decode cX6_place 0 = .ok (.sipush 600, 3) := by decide +kernel
theorem dX6_place_3 : decode cX6_place 3 = .ok (.iload_n 0, 1) := by decide +kernel
theorem dX6_place_4 : decode cX6_place 4 = .ok (.imul, 1) := by decide +kernel
theorem dX6_place_5 : decode cX6_place 5 = .ok (.bipush 6, 2) := by decide +kernel
theorem dX6_place_7 : decode cX6_place 7 = .ok (.iload_n 1, 1) := by decide +kernel
theorem dX6_place_8 : decode cX6_place 8 = .ok (.imul, 1) := by decide +kernel
theorem dX6_place_9 : decode cX6_place 9 = .ok (.iadd, 1) := by decide +kernel
theorem dX6_place_10 : decode cX6_place 10 = .ok (.ireturn, 1) := by decide +kernel
theorem dX6_copy_0 : decode cX6_copy 0 = .ok (.iconst 0, 1) := by decide +kernel
theorem dX6_copy_1 : decode cX6_copy 1 = .ok (.istore_n 3, 1) := by decide +kernel
theorem dX6_copy_2 : decode cX6_copy 2 = .ok (.iload_n 3, 1) := by decide +kernel
theorem dX6_copy_3 : decode cX6_copy 3 = .ok (.bipush 6, 2) := by decide +kernel
theorem dX6_copy_5 : decode cX6_copy 5 = .ok (.if_icmp .ge 25, 3) := by decide +kernel
theorem dX6_copy_8 : decode cX6_copy 8 = .ok (.aload_n 0, 1) := by decide +kernel
theorem dX6_copy_9 : decode cX6_copy 9 = .ok (.getfield 69, 3) := by decide +kernel
theorem dX6_copy_12 : decode cX6_copy 12 = .ok (.iload_n 2, 1) := by decide +kernel
theorem dX6_copy_13 : decode cX6_copy 13 = .ok (.iload_n 3, 1) := by decide +kernel
theorem dX6_copy_14 : decode cX6_copy 14 = .ok (.iadd, 1) := by decide +kernel
theorem dX6_copy_15 : decode cX6_copy 15 = .ok (.aload_n 0, 1) := by decide +kernel
theorem dX6_copy_16 : decode cX6_copy 16 = .ok (.getfield 69, 3) := by decide +kernel
theorem dX6_copy_19 : decode cX6_copy 19 = .ok (.iload_n 1, 1) := by decide +kernel
theorem dX6_copy_20 : decode cX6_copy 20 = .ok (.iload_n 3, 1) := by decide +kernel
theorem dX6_copy_21 : decode cX6_copy 21 = .ok (.iadd, 1) := by decide +kernel
theorem dX6_copy_22 : decode cX6_copy 22 = .ok (.iaload, 1) := by decide +kernel
theorem dX6_copy_23 : decode cX6_copy 23 = .ok (.iastore, 1) := by decide +kernel
theorem dX6_copy_24 : decode cX6_copy 24 = .ok (.iinc 3 1, 3) := by decide +kernel
theorem dX6_copy_27 : decode cX6_copy 27 = .ok (.goto (-25), 3) := by decide +kernel
theorem dX6_copy_30 : decode cX6_copy 30 = .ok (.iload_n 2, 1) := by decide +kernel
theorem dX6_copy_31 : decode cX6_copy 31 = .ok (.ireturn, 1) := by decide +kernel
theorem dX6_add_0 : decode cX6_add 0 = .ok (.aload_n 0, 1) := by decide +kernel
theorem dX6_add_1 : decode cX6_add 1 = .ok (.iload_n 2, 1) := by decide +kernel
theorem dX6_add_2 : decode cX6_add 2 = .ok (.iload_n 1, 1) := by decide +kernel
theorem dX6_add_3 : decode cX6_add 3 = .ok (.aload_n 0, 1) := by decide +kernel
theorem dX6_add_4 : decode cX6_add 4 = .ok (.getfield 72, 3) := by decide +kernel
theorem dX6_add_7 : decode cX6_add 7 = .ok (.iload_n 1, 1) := by decide +kernel
theorem dX6_add_8 : decode cX6_add 8 = .ok (.iaload, 1) := by decide +kernel
theorem dX6_add_9 : decode cX6_add 9 = .ok (.invokestatic 196, 3) := by decide +kernel
theorem dX6_add_12 : decode cX6_add 12 = .ok (.invokevirtual 200, 3) := by decide +kernel
theorem dX6_add_15 : decode cX6_add 15 = .ok (.istore_n 3, 1) := by decide +kernel
theorem dX6_add_16 : decode cX6_add 16 = .ok (.aload_n 0, 1) := by decide +kernel
theorem dX6_add_17 : decode cX6_add 17 = .ok (.getfield 72, 3) := by decide +kernel
theorem dX6_add_20 : decode cX6_add 20 = .ok (.iload_n 1, 1) := by decide +kernel
theorem dX6_add_21 : decode cX6_add 21 = .ok (.dup2, 1) := by decide +kernel
theorem dX6_add_22 : decode cX6_add 22 = .ok (.iaload, 1) := by decide +kernel
theorem dX6_add_23 : decode cX6_add 23 = .ok (.iconst 1, 1) := by decide +kernel
theorem dX6_add_24 : decode cX6_add 24 = .ok (.iadd, 1) := by decide +kernel
theorem dX6_add_25 : decode cX6_add 25 = .ok (.iastore, 1) := by decide +kernel
theorem dX6_add_26 : decode cX6_add 26 = .ok (.return_, 1) := by decide +kernel
theorem dX6_does_0 : decode cX6_does 0 = .ok (.aload_n 0, 1) := by decide +kernel
theorem dX6_does_1 : decode cX6_does 1 = .ok (.getfield 41, 3) := by decide +kernel
theorem dX6_does_4 : decode cX6_does 4 = .ok (.iload_n 1, 1) := by decide +kernel
theorem dX6_does_5 : decode cX6_does 5 = .ok (.iaload, 1) := by decide +kernel
theorem dX6_does_6 : decode cX6_does 6 = .ok (.istore_n 2, 1) := by decide +kernel
theorem dX6_does_7 : decode cX6_does 7 = .ok (.aload_n 0, 1) := by decide +kernel
theorem dX6_does_8 : decode cX6_does 8 = .ok (.getfield 72, 3) := by decide +kernel
theorem dX6_does_11 : decode cX6_does 11 = .ok (.iload_n 1, 1) := by decide +kernel
theorem dX6_does_12 : decode cX6_does 12 = .ok (.iconst 0, 1) := by decide +kernel
theorem dX6_does_13 : decode cX6_does 13 = .ok (.iastore, 1) := by decide +kernel
theorem dX6_does_14 : decode cX6_does 14 = .ok (.aload_n 0, 1) := by decide +kernel
theorem dX6_does_15 : decode cX6_does 15 = .ok (.getfield 38, 3) := by decide +kernel
theorem dX6_does_18 : decode cX6_does 18 = .ok (.iload_n 1, 1) := by decide +kernel
theorem dX6_does_19 : decode cX6_does 19 = .ok (.iaload, 1) := by decide +kernel
theorem dX6_does_20 : decode cX6_does 20 = .ok (.ifCond .ne 89, 3) := by decide +kernel
theorem dX6_does_23 : decode cX6_does 23 = .ok (.iconst 0, 1) := by decide +kernel
theorem dX6_does_24 : decode cX6_does 24 = .ok (.istore_n 3, 1) := by decide +kernel
theorem dX6_does_25 : decode cX6_does 25 = .ok (.iload_n 3, 1) := by decide +kernel
theorem dX6_does_26 : decode cX6_does 26 = .ok (.aload_n 0, 1) := by decide +kernel
theorem dX6_does_27 : decode cX6_does 27 = .ok (.getfield 7, 3) := by decide +kernel
theorem dX6_does_30 : decode cX6_does 30 = .ok (.iload_n 2, 1) := by decide +kernel
theorem dX6_does_31 : decode cX6_does 31 = .ok (.iaload, 1) := by decide +kernel
theorem dX6_does_32 : decode cX6_does 32 = .ok (.if_icmp .ge 64, 3) := by decide +kernel
theorem dX6_does_35 : decode cX6_does 35 = .ok (.iconst 0, 1) := by decide +kernel
theorem dX6_does_36 : decode cX6_does 36 = .ok (.istore 4, 2) := by decide +kernel
theorem dX6_does_38 : decode cX6_does 38 = .ok (.iload 4, 2) := by decide +kernel
theorem dX6_does_40 : decode cX6_does 40 = .ok (.bipush 6, 2) := by decide +kernel
theorem dX6_does_42 : decode cX6_does 42 = .ok (.if_icmp .ge 48, 3) := by decide +kernel
theorem dX6_does_45 : decode cX6_does 45 = .ok (.aload_n 0, 1) := by decide +kernel
theorem dX6_does_46 : decode cX6_does 46 = .ok (.getfield 69, 3) := by decide +kernel
theorem dX6_does_49 : decode cX6_does 49 = .ok (.iload_n 1, 1) := by decide +kernel
theorem dX6_does_50 : decode cX6_does 50 = .ok (.iload_n 3, 1) := by decide +kernel
theorem dX6_does_51 : decode cX6_does 51 = .ok (.invokestatic 196, 3) := by decide +kernel
theorem dX6_does_54 : decode cX6_does 54 = .ok (.iload 4, 2) := by decide +kernel
theorem dX6_does_56 : decode cX6_does 56 = .ok (.iadd, 1) := by decide +kernel
theorem dX6_does_57 : decode cX6_does 57 = .ok (.iload 4, 2) := by decide +kernel
theorem dX6_does_59 : decode cX6_does 59 = .ok (.iconst 3, 1) := by decide +kernel
theorem dX6_does_60 : decode cX6_does 60 = .ok (.if_icmp .ge 22, 3) := by decide +kernel
theorem dX6_does_63 : decode cX6_does 63 = .ok (.aload_n 0, 1) := by decide +kernel
theorem dX6_does_64 : decode cX6_does 64 = .ok (.getfield 13, 3) := by decide +kernel
theorem dX6_does_67 : decode cX6_does 67 = .ok (.bipush 18, 2) := by decide +kernel
theorem dX6_does_69 : decode cX6_does 69 = .ok (.iload_n 2, 1) := by decide +kernel
theorem dX6_does_70 : decode cX6_does 70 = .ok (.imul, 1) := by decide +kernel
theorem dX6_does_71 : decode cX6_does 71 = .ok (.iconst 3, 1) := by decide +kernel
theorem dX6_does_72 : decode cX6_does 72 = .ok (.iload_n 3, 1) := by decide +kernel
theorem dX6_does_73 : decode cX6_does 73 = .ok (.imul, 1) := by decide +kernel
theorem dX6_does_74 : decode cX6_does 74 = .ok (.iadd, 1) := by decide +kernel
theorem dX6_does_75 : decode cX6_does 75 = .ok (.iload 4, 2) := by decide +kernel
theorem dX6_does_77 : decode cX6_does 77 = .ok (.iadd, 1) := by decide +kernel
theorem dX6_does_78 : decode cX6_does 78 = .ok (.iaload, 1) := by decide +kernel
theorem dX6_does_79 : decode cX6_does 79 = .ok (.goto 4, 3) := by decide +kernel
theorem dX6_does_82 : decode cX6_does 82 = .ok (.iconst 0, 1) := by decide +kernel
theorem dX6_does_83 : decode cX6_does 83 = .ok (.iastore, 1) := by decide +kernel
theorem dX6_does_84 : decode cX6_does 84 = .ok (.iinc 4 1, 3) := by decide +kernel
theorem dX6_does_87 : decode cX6_does 87 = .ok (.goto (-49), 3) := by decide +kernel
theorem dX6_does_90 : decode cX6_does 90 = .ok (.iinc 3 1, 3) := by decide +kernel
theorem dX6_does_93 : decode cX6_does 93 = .ok (.goto (-68), 3) := by decide +kernel
theorem dX6_does_96 : decode cX6_does 96 = .ok (.aload_n 0, 1) := by decide +kernel
theorem dX6_does_97 : decode cX6_does 97 = .ok (.getfield 72, 3) := by decide +kernel
theorem dX6_does_100 : decode cX6_does 100 = .ok (.iload_n 1, 1) := by decide +kernel
theorem dX6_does_101 : decode cX6_does 101 = .ok (.aload_n 0, 1) := by decide +kernel
theorem dX6_does_102 : decode cX6_does 102 = .ok (.getfield 7, 3) := by decide +kernel
theorem dX6_does_105 : decode cX6_does 105 = .ok (.iload_n 2, 1) := by decide +kernel
theorem dX6_does_106 : decode cX6_does 106 = .ok (.iaload, 1) := by decide +kernel
theorem dX6_does_107 : decode cX6_does 107 = .ok (.iastore, 1) := by decide +kernel
theorem dX6_does_108 : decode cX6_does 108 = .ok (.return_, 1) := by decide +kernel
theorem dX6_does_109 : decode cX6_does 109 = .ok (.iconst 0, 1) := by decide +kernel
theorem dX6_does_110 : decode cX6_does 110 = .ok (.istore_n 3, 1) := by decide +kernel
theorem dX6_does_111 : decode cX6_does 111 = .ok (.iload_n 3, 1) := by decide +kernel
theorem dX6_does_112 : decode cX6_does 112 = .ok (.aload_n 0, 1) := by decide +kernel
theorem dX6_does_113 : decode cX6_does 113 = .ok (.getfield 72, 3) := by decide +kernel
theorem dX6_does_116 : decode cX6_does 116 = .ok (.iload_n 2, 1) := by decide +kernel
theorem dX6_does_117 : decode cX6_does 117 = .ok (.iaload, 1) := by decide +kernel
theorem dX6_does_118 : decode cX6_does 118 = .ok (.if_icmp .ge 27, 3) := by decide +kernel
theorem dX6_does_121 : decode cX6_does 121 = .ok (.aload_n 0, 1) := by decide +kernel
theorem dX6_does_122 : decode cX6_does 122 = .ok (.getfield 190, 3) := by decide +kernel
theorem dX6_does_125 : decode cX6_does 125 = .ok (.ifCond .ne 20, 3) := by decide +kernel
theorem dX6_does_128 : decode cX6_does 128 = .ok (.aload_n 0, 1) := by decide +kernel
theorem dX6_does_129 : decode cX6_does 129 = .ok (.iload_n 1, 1) := by decide +kernel
theorem dX6_does_130 : decode cX6_does 130 = .ok (.iload_n 3, 1) := by decide +kernel
theorem dX6_does_131 : decode cX6_does 131 = .ok (.iload_n 2, 1) := by decide +kernel
theorem dX6_does_132 : decode cX6_does 132 = .ok (.iload_n 3, 1) := by decide +kernel
theorem dX6_does_133 : decode cX6_does 133 = .ok (.invokestatic 196, 3) := by decide +kernel
theorem dX6_does_136 : decode cX6_does 136 = .ok (.invokevirtual 203, 3) := by decide +kernel
theorem dX6_does_139 : decode cX6_does 139 = .ok (.iinc 3 1, 3) := by decide +kernel
theorem dX6_does_142 : decode cX6_does 142 = .ok (.goto (-31), 3) := by decide +kernel
theorem dX6_does_145 : decode cX6_does 145 = .ok (.aload_n 0, 1) := by decide +kernel
theorem dX6_does_146 : decode cX6_does 146 = .ok (.getfield 38, 3) := by decide +kernel
theorem dX6_does_149 : decode cX6_does 149 = .ok (.iload_n 1, 1) := by decide +kernel
theorem dX6_does_150 : decode cX6_does 150 = .ok (.iaload, 1) := by decide +kernel
theorem dX6_does_151 : decode cX6_does 151 = .ok (.iconst 5, 1) := by decide +kernel
theorem dX6_does_152 : decode cX6_does 152 = .ok (.if_icmp .ne 41, 3) := by decide +kernel
theorem dX6_does_155 : decode cX6_does 155 = .ok (.iconst 0, 1) := by decide +kernel
theorem dX6_does_156 : decode cX6_does 156 = .ok (.istore_n 3, 1) := by decide +kernel
theorem dX6_does_157 : decode cX6_does 157 = .ok (.iload_n 3, 1) := by decide +kernel
theorem dX6_does_158 : decode cX6_does 158 = .ok (.aload_n 0, 1) := by decide +kernel
theorem dX6_does_159 : decode cX6_does 159 = .ok (.getfield 72, 3) := by decide +kernel
theorem dX6_does_162 : decode cX6_does 162 = .ok (.aload_n 0, 1) := by decide +kernel
theorem dX6_does_163 : decode cX6_does 163 = .ok (.getfield 44, 3) := by decide +kernel
theorem dX6_does_166 : decode cX6_does 166 = .ok (.iload_n 1, 1) := by decide +kernel
theorem dX6_does_167 : decode cX6_does 167 = .ok (.iaload, 1) := by decide +kernel
theorem dX6_does_168 : decode cX6_does 168 = .ok (.iaload, 1) := by decide +kernel
theorem dX6_does_169 : decode cX6_does 169 = .ok (.if_icmp .ge 24, 3) := by decide +kernel
theorem dX6_does_172 : decode cX6_does 172 = .ok (.aload_n 0, 1) := by decide +kernel
theorem dX6_does_173 : decode cX6_does 173 = .ok (.iload_n 1, 1) := by decide +kernel
theorem dX6_does_174 : decode cX6_does 174 = .ok (.aload_n 0, 1) := by decide +kernel
theorem dX6_does_175 : decode cX6_does 175 = .ok (.getfield 44, 3) := by decide +kernel
theorem dX6_does_178 : decode cX6_does 178 = .ok (.iload_n 1, 1) := by decide +kernel
theorem dX6_does_179 : decode cX6_does 179 = .ok (.iaload, 1) := by decide +kernel
theorem dX6_does_180 : decode cX6_does 180 = .ok (.iload_n 3, 1) := by decide +kernel
theorem dX6_does_181 : decode cX6_does 181 = .ok (.invokestatic 196, 3) := by decide +kernel
theorem dX6_does_184 : decode cX6_does 184 = .ok (.invokevirtual 206, 3) := by decide +kernel
theorem dX6_does_187 : decode cX6_does 187 = .ok (.iinc 3 1, 3) := by decide +kernel
theorem dX6_does_190 : decode cX6_does 190 = .ok (.goto (-33), 3) := by decide +kernel
theorem dX6_does_193 : decode cX6_does 193 = .ok (.return_, 1) := by decide +kernel
theorem dX6_takes_0 : decode cX6_takes 0 = .ok (.aload_n 0, 1) := by decide +kernel
theorem dX6_takes_1 : decode cX6_takes 1 = .ok (.getfield 38, 3) := by decide +kernel
theorem dX6_takes_4 : decode cX6_takes 4 = .ok (.iload_n 1, 1) := by decide +kernel
theorem dX6_takes_5 : decode cX6_takes 5 = .ok (.iaload, 1) := by decide +kernel
theorem dX6_takes_6 : decode cX6_takes 6 = .ok (.tableswitch 249 1 8 #[46, 80, 128, 194, 249, 203, 212, 230], 46) := by decide +kernel
theorem dX6_takes_52 : decode cX6_takes 52 = .ok (.aload_n 0, 1) := by decide +kernel
theorem dX6_takes_53 : decode cX6_takes 53 = .ok (.aload_n 0, 1) := by decide +kernel
theorem dX6_takes_54 : decode cX6_takes 54 = .ok (.getfield 50, 3) := by decide +kernel
theorem dX6_takes_57 : decode cX6_takes 57 = .ok (.iload_n 1, 1) := by decide +kernel
theorem dX6_takes_58 : decode cX6_takes 58 = .ok (.iaload, 1) := by decide +kernel
theorem dX6_takes_59 : decode cX6_takes 59 = .ok (.iload_n 3, 1) := by decide +kernel
theorem dX6_takes_60 : decode cX6_takes 60 = .ok (.invokevirtual 210, 3) := by decide +kernel
theorem dX6_takes_63 : decode cX6_takes 63 = .ok (.aload_n 0, 1) := by decide +kernel
theorem dX6_takes_64 : decode cX6_takes 64 = .ok (.getfield 190, 3) := by decide +kernel
theorem dX6_takes_67 : decode cX6_takes 67 = .ok (.ifCond .ne 194, 3) := by decide +kernel
theorem dX6_takes_70 : decode cX6_takes 70 = .ok (.aload_n 0, 1) := by decide +kernel
theorem dX6_takes_71 : decode cX6_takes 71 = .ok (.getfield 174, 3) := by decide +kernel
theorem dX6_takes_74 : decode cX6_takes 74 = .ok (.ifCond .eq 187, 3) := by decide +kernel
theorem dX6_takes_77 : decode cX6_takes 77 = .ok (.aload_n 0, 1) := by decide +kernel
theorem dX6_takes_78 : decode cX6_takes 78 = .ok (.iload_n 1, 1) := by decide +kernel
theorem dX6_takes_79 : decode cX6_takes 79 = .ok (.iload_n 3, 1) := by decide +kernel
theorem dX6_takes_80 : decode cX6_takes 80 = .ok (.invokevirtual 206, 3) := by decide +kernel
theorem dX6_takes_83 : decode cX6_takes 83 = .ok (.goto 178, 3) := by decide +kernel
theorem dX6_takes_86 : decode cX6_takes 86 = .ok (.aload_n 0, 1) := by decide +kernel
theorem dX6_takes_87 : decode cX6_takes 87 = .ok (.aload_n 0, 1) := by decide +kernel
theorem dX6_takes_88 : decode cX6_takes 88 = .ok (.getfield 50, 3) := by decide +kernel
theorem dX6_takes_91 : decode cX6_takes 91 = .ok (.iload_n 1, 1) := by decide +kernel
theorem dX6_takes_92 : decode cX6_takes 92 = .ok (.iaload, 1) := by decide +kernel
theorem dX6_takes_93 : decode cX6_takes 93 = .ok (.iload_n 3, 1) := by decide +kernel
theorem dX6_takes_94 : decode cX6_takes 94 = .ok (.invokevirtual 210, 3) := by decide +kernel
theorem dX6_takes_97 : decode cX6_takes 97 = .ok (.aload_n 0, 1) := by decide +kernel
theorem dX6_takes_98 : decode cX6_takes 98 = .ok (.getfield 190, 3) := by decide +kernel
theorem dX6_takes_101 : decode cX6_takes 101 = .ok (.ifCond .ne 160, 3) := by decide +kernel
theorem dX6_takes_104 : decode cX6_takes 104 = .ok (.aload_n 0, 1) := by decide +kernel
theorem dX6_takes_105 : decode cX6_takes 105 = .ok (.iload_n 1, 1) := by decide +kernel
theorem dX6_takes_106 : decode cX6_takes 106 = .ok (.iload_n 3, 1) := by decide +kernel
theorem dX6_takes_107 : decode cX6_takes 107 = .ok (.invokevirtual 206, 3) := by decide +kernel
theorem dX6_takes_110 : decode cX6_takes 110 = .ok (.aload_n 0, 1) := by decide +kernel
theorem dX6_takes_111 : decode cX6_takes 111 = .ok (.getfield 69, 3) := by decide +kernel
theorem dX6_takes_114 : decode cX6_takes 114 = .ok (.iload_n 1, 1) := by decide +kernel
theorem dX6_takes_115 : decode cX6_takes 115 = .ok (.iload_n 2, 1) := by decide +kernel
theorem dX6_takes_116 : decode cX6_takes 116 = .ok (.invokestatic 196, 3) := by decide +kernel
theorem dX6_takes_119 : decode cX6_takes 119 = .ok (.aload_n 0, 1) := by decide +kernel
theorem dX6_takes_120 : decode cX6_takes 120 = .ok (.getfield 47, 3) := by decide +kernel
theorem dX6_takes_123 : decode cX6_takes 123 = .ok (.iload_n 1, 1) := by decide +kernel
theorem dX6_takes_124 : decode cX6_takes 124 = .ok (.iaload, 1) := by decide +kernel
theorem dX6_takes_125 : decode cX6_takes 125 = .ok (.iadd, 1) := by decide +kernel
theorem dX6_takes_126 : decode cX6_takes 126 = .ok (.aload_n 0, 1) := by decide +kernel
theorem dX6_takes_127 : decode cX6_takes 127 = .ok (.getfield 174, 3) := by decide +kernel
theorem dX6_takes_130 : decode cX6_takes 130 = .ok (.iastore, 1) := by decide +kernel
theorem dX6_takes_131 : decode cX6_takes 131 = .ok (.goto 130, 3) := by decide +kernel
theorem dX6_takes_134 : decode cX6_takes 134 = .ok (.aload_n 0, 1) := by decide +kernel
theorem dX6_takes_135 : decode cX6_takes 135 = .ok (.iload_n 1, 1) := by decide +kernel
theorem dX6_takes_136 : decode cX6_takes 136 = .ok (.iload_n 3, 1) := by decide +kernel
theorem dX6_takes_137 : decode cX6_takes 137 = .ok (.invokevirtual 206, 3) := by decide +kernel
theorem dX6_takes_140 : decode cX6_takes 140 = .ok (.iconst 0, 1) := by decide +kernel
theorem dX6_takes_141 : decode cX6_takes 141 = .ok (.istore 4, 2) := by decide +kernel
theorem dX6_takes_143 : decode cX6_takes 143 = .ok (.iload 4, 2) := by decide +kernel
theorem dX6_takes_145 : decode cX6_takes 145 = .ok (.bipush 6, 2) := by decide +kernel
theorem dX6_takes_147 : decode cX6_takes 147 = .ok (.if_icmp .ge 50, 3) := by decide +kernel
theorem dX6_takes_150 : decode cX6_takes 150 = .ok (.aload_n 0, 1) := by decide +kernel
theorem dX6_takes_151 : decode cX6_takes 151 = .ok (.getfield 69, 3) := by decide +kernel
theorem dX6_takes_154 : decode cX6_takes 154 = .ok (.iload_n 1, 1) := by decide +kernel
theorem dX6_takes_155 : decode cX6_takes 155 = .ok (.iload_n 2, 1) := by decide +kernel
theorem dX6_takes_156 : decode cX6_takes 156 = .ok (.invokestatic 196, 3) := by decide +kernel
theorem dX6_takes_159 : decode cX6_takes 159 = .ok (.iload 4, 2) := by decide +kernel
theorem dX6_takes_161 : decode cX6_takes 161 = .ok (.iadd, 1) := by decide +kernel
theorem dX6_takes_162 : decode cX6_takes 162 = .ok (.aload_n 0, 1) := by decide +kernel
theorem dX6_takes_163 : decode cX6_takes 163 = .ok (.getfield 50, 3) := by decide +kernel
theorem dX6_takes_166 : decode cX6_takes 166 = .ok (.iload_n 1, 1) := by decide +kernel
theorem dX6_takes_167 : decode cX6_takes 167 = .ok (.iaload, 1) := by decide +kernel
theorem dX6_takes_168 : decode cX6_takes 168 = .ok (.iload 4, 2) := by decide +kernel
theorem dX6_takes_170 : decode cX6_takes 170 = .ok (.ishr, 1) := by decide +kernel
theorem dX6_takes_171 : decode cX6_takes 171 = .ok (.iconst 1, 1) := by decide +kernel
theorem dX6_takes_172 : decode cX6_takes 172 = .ok (.iand, 1) := by decide +kernel
theorem dX6_takes_173 : decode cX6_takes 173 = .ok (.iconst 1, 1) := by decide +kernel
theorem dX6_takes_174 : decode cX6_takes 174 = .ok (.if_icmp .ne 15, 3) := by decide +kernel
theorem dX6_takes_177 : decode cX6_takes 177 = .ok (.aload_n 0, 1) := by decide +kernel
theorem dX6_takes_178 : decode cX6_takes 178 = .ok (.getfield 69, 3) := by decide +kernel
theorem dX6_takes_181 : decode cX6_takes 181 = .ok (.iload_n 3, 1) := by decide +kernel
theorem dX6_takes_182 : decode cX6_takes 182 = .ok (.iload 4, 2) := by decide +kernel
theorem dX6_takes_184 : decode cX6_takes 184 = .ok (.iadd, 1) := by decide +kernel
theorem dX6_takes_185 : decode cX6_takes 185 = .ok (.iaload, 1) := by decide +kernel
theorem dX6_takes_186 : decode cX6_takes 186 = .ok (.goto 4, 3) := by decide +kernel
theorem dX6_takes_189 : decode cX6_takes 189 = .ok (.iconst 0, 1) := by decide +kernel
theorem dX6_takes_190 : decode cX6_takes 190 = .ok (.iastore, 1) := by decide +kernel
theorem dX6_takes_191 : decode cX6_takes 191 = .ok (.iinc 4 1, 3) := by decide +kernel
theorem dX6_takes_194 : decode cX6_takes 194 = .ok (.goto (-51), 3) := by decide +kernel
theorem dX6_takes_197 : decode cX6_takes 197 = .ok (.goto 64, 3) := by decide +kernel
theorem dX6_takes_200 : decode cX6_takes 200 = .ok (.aload_n 0, 1) := by decide +kernel
theorem dX6_takes_201 : decode cX6_takes 201 = .ok (.iload_n 1, 1) := by decide +kernel
theorem dX6_takes_202 : decode cX6_takes 202 = .ok (.iload_n 3, 1) := by decide +kernel
theorem dX6_takes_203 : decode cX6_takes 203 = .ok (.invokevirtual 213, 3) := by decide +kernel
theorem dX6_takes_206 : decode cX6_takes 206 = .ok (.goto 55, 3) := by decide +kernel
theorem dX6_takes_209 : decode cX6_takes 209 = .ok (.aload_n 0, 1) := by decide +kernel
theorem dX6_takes_210 : decode cX6_takes 210 = .ok (.iload_n 1, 1) := by decide +kernel
theorem dX6_takes_211 : decode cX6_takes 211 = .ok (.iload_n 3, 1) := by decide +kernel
theorem dX6_takes_212 : decode cX6_takes 212 = .ok (.invokevirtual 216, 3) := by decide +kernel
theorem dX6_takes_215 : decode cX6_takes 215 = .ok (.goto 46, 3) := by decide +kernel
theorem dX6_takes_218 : decode cX6_takes 218 = .ok (.aload_n 0, 1) := by decide +kernel
theorem dX6_takes_219 : decode cX6_takes 219 = .ok (.iload_n 1, 1) := by decide +kernel
theorem dX6_takes_220 : decode cX6_takes 220 = .ok (.iload_n 3, 1) := by decide +kernel
theorem dX6_takes_221 : decode cX6_takes 221 = .ok (.invokevirtual 219, 3) := by decide +kernel
theorem dX6_takes_224 : decode cX6_takes 224 = .ok (.ifCond .ne 37, 3) := by decide +kernel
theorem dX6_takes_227 : decode cX6_takes 227 = .ok (.aload_n 0, 1) := by decide +kernel
theorem dX6_takes_228 : decode cX6_takes 228 = .ok (.iload_n 1, 1) := by decide +kernel
theorem dX6_takes_229 : decode cX6_takes 229 = .ok (.iload_n 3, 1) := by decide +kernel
theorem dX6_takes_230 : decode cX6_takes 230 = .ok (.invokevirtual 206, 3) := by decide +kernel
theorem dX6_takes_233 : decode cX6_takes 233 = .ok (.goto 28, 3) := by decide +kernel
theorem dX6_takes_236 : decode cX6_takes 236 = .ok (.iload_n 2, 1) := by decide +kernel
theorem dX6_takes_237 : decode cX6_takes 237 = .ok (.aload_n 0, 1) := by decide +kernel
theorem dX6_takes_238 : decode cX6_takes 238 = .ok (.getfield 50, 3) := by decide +kernel
theorem dX6_takes_241 : decode cX6_takes 241 = .ok (.iload_n 1, 1) := by decide +kernel
theorem dX6_takes_242 : decode cX6_takes 242 = .ok (.iaload, 1) := by decide +kernel
theorem dX6_takes_243 : decode cX6_takes 243 = .ok (.if_icmp .ge 18, 3) := by decide +kernel
theorem dX6_takes_246 : decode cX6_takes 246 = .ok (.aload_n 0, 1) := by decide +kernel
theorem dX6_takes_247 : decode cX6_takes 247 = .ok (.iload_n 1, 1) := by decide +kernel
theorem dX6_takes_248 : decode cX6_takes 248 = .ok (.iload_n 3, 1) := by decide +kernel
theorem dX6_takes_249 : decode cX6_takes 249 = .ok (.invokevirtual 206, 3) := by decide +kernel
theorem dX6_takes_252 : decode cX6_takes 252 = .ok (.goto 9, 3) := by decide +kernel
theorem dX6_takes_255 : decode cX6_takes 255 = .ok (.aload_n 0, 1) := by decide +kernel
theorem dX6_takes_256 : decode cX6_takes 256 = .ok (.iload_n 1, 1) := by decide +kernel
theorem dX6_takes_257 : decode cX6_takes 257 = .ok (.iload_n 3, 1) := by decide +kernel
theorem dX6_takes_258 : decode cX6_takes 258 = .ok (.invokevirtual 206, 3) := by decide +kernel
theorem dX6_takes_261 : decode cX6_takes 261 = .ok (.return_, 1) := by decide +kernel
theorem dX6_joins_0 : decode cX6_joins 0 = .ok (.aload_n 0, 1) := by decide +kernel
theorem dX6_joins_1 : decode cX6_joins 1 = .ok (.getfield 44, 3) := by decide +kernel
theorem dX6_joins_4 : decode cX6_joins 4 = .ok (.iload_n 1, 1) := by decide +kernel
theorem dX6_joins_5 : decode cX6_joins 5 = .ok (.iaload, 1) := by decide +kernel
theorem dX6_joins_6 : decode cX6_joins 6 = .ok (.istore_n 3, 1) := by decide +kernel
theorem dX6_joins_7 : decode cX6_joins 7 = .ok (.iconst 0, 1) := by decide +kernel
theorem dX6_joins_8 : decode cX6_joins 8 = .ok (.istore 4, 2) := by decide +kernel
theorem dX6_joins_10 : decode cX6_joins 10 = .ok (.iload 4, 2) := by decide +kernel
theorem dX6_joins_12 : decode cX6_joins 12 = .ok (.aload_n 0, 1) := by decide +kernel
theorem dX6_joins_13 : decode cX6_joins 13 = .ok (.getfield 72, 3) := by decide +kernel
theorem dX6_joins_16 : decode cX6_joins 16 = .ok (.iload_n 3, 1) := by decide +kernel
theorem dX6_joins_17 : decode cX6_joins 17 = .ok (.iaload, 1) := by decide +kernel
theorem dX6_joins_18 : decode cX6_joins 18 = .ok (.if_icmp .ge 131, 3) := by decide +kernel
theorem dX6_joins_21 : decode cX6_joins 21 = .ok (.iload_n 3, 1) := by decide +kernel
theorem dX6_joins_22 : decode cX6_joins 22 = .ok (.iload 4, 2) := by decide +kernel
theorem dX6_joins_24 : decode cX6_joins 24 = .ok (.invokestatic 196, 3) := by decide +kernel
theorem dX6_joins_27 : decode cX6_joins 27 = .ok (.istore 5, 2) := by decide +kernel
theorem dX6_joins_29 : decode cX6_joins 29 = .ok (.aload_n 0, 1) := by decide +kernel
theorem dX6_joins_30 : decode cX6_joins 30 = .ok (.getfield 69, 3) := by decide +kernel
theorem dX6_joins_33 : decode cX6_joins 33 = .ok (.iload 5, 2) := by decide +kernel
theorem dX6_joins_35 : decode cX6_joins 35 = .ok (.aload_n 0, 1) := by decide +kernel
theorem dX6_joins_36 : decode cX6_joins 36 = .ok (.getfield 47, 3) := by decide +kernel
theorem dX6_joins_39 : decode cX6_joins 39 = .ok (.iload_n 1, 1) := by decide +kernel
theorem dX6_joins_40 : decode cX6_joins 40 = .ok (.iaload, 1) := by decide +kernel
theorem dX6_joins_41 : decode cX6_joins 41 = .ok (.iadd, 1) := by decide +kernel
theorem dX6_joins_42 : decode cX6_joins 42 = .ok (.iaload, 1) := by decide +kernel
theorem dX6_joins_43 : decode cX6_joins 43 = .ok (.aload_n 0, 1) := by decide +kernel
theorem dX6_joins_44 : decode cX6_joins 44 = .ok (.getfield 69, 3) := by decide +kernel
theorem dX6_joins_47 : decode cX6_joins 47 = .ok (.iload_n 2, 1) := by decide +kernel
theorem dX6_joins_48 : decode cX6_joins 48 = .ok (.aload_n 0, 1) := by decide +kernel
theorem dX6_joins_49 : decode cX6_joins 49 = .ok (.getfield 47, 3) := by decide +kernel
theorem dX6_joins_52 : decode cX6_joins 52 = .ok (.iload_n 1, 1) := by decide +kernel
theorem dX6_joins_53 : decode cX6_joins 53 = .ok (.iaload, 1) := by decide +kernel
theorem dX6_joins_54 : decode cX6_joins 54 = .ok (.iadd, 1) := by decide +kernel
theorem dX6_joins_55 : decode cX6_joins 55 = .ok (.iaload, 1) := by decide +kernel
theorem dX6_joins_56 : decode cX6_joins 56 = .ok (.if_icmp .ne 87, 3) := by decide +kernel
theorem dX6_joins_59 : decode cX6_joins 59 = .ok (.aload_n 0, 1) := by decide +kernel
theorem dX6_joins_60 : decode cX6_joins 60 = .ok (.iload_n 1, 1) := by decide +kernel
theorem dX6_joins_61 : decode cX6_joins 61 = .ok (.iload_n 2, 1) := by decide +kernel
theorem dX6_joins_62 : decode cX6_joins 62 = .ok (.invokevirtual 206, 3) := by decide +kernel
theorem dX6_joins_65 : decode cX6_joins 65 = .ok (.iload_n 1, 1) := by decide +kernel
theorem dX6_joins_66 : decode cX6_joins 66 = .ok (.aload_n 0, 1) := by decide +kernel
theorem dX6_joins_67 : decode cX6_joins 67 = .ok (.getfield 72, 3) := by decide +kernel
theorem dX6_joins_70 : decode cX6_joins 70 = .ok (.iload_n 1, 1) := by decide +kernel
theorem dX6_joins_71 : decode cX6_joins 71 = .ok (.iaload, 1) := by decide +kernel
theorem dX6_joins_72 : decode cX6_joins 72 = .ok (.iconst 1, 1) := by decide +kernel
theorem dX6_joins_73 : decode cX6_joins 73 = .ok (.isub, 1) := by decide +kernel
theorem dX6_joins_74 : decode cX6_joins 74 = .ok (.invokestatic 196, 3) := by decide +kernel
theorem dX6_joins_77 : decode cX6_joins 77 = .ok (.istore 6, 2) := by decide +kernel
theorem dX6_joins_79 : decode cX6_joins 79 = .ok (.iconst 0, 1) := by decide +kernel
theorem dX6_joins_80 : decode cX6_joins 80 = .ok (.istore 7, 2) := by decide +kernel
theorem dX6_joins_82 : decode cX6_joins 82 = .ok (.iload 7, 2) := by decide +kernel
theorem dX6_joins_84 : decode cX6_joins 84 = .ok (.bipush 6, 2) := by decide +kernel
theorem dX6_joins_86 : decode cX6_joins 86 = .ok (.if_icmp .ge 57, 3) := by decide +kernel
theorem dX6_joins_89 : decode cX6_joins 89 = .ok (.aload_n 0, 1) := by decide +kernel
theorem dX6_joins_90 : decode cX6_joins 90 = .ok (.getfield 69, 3) := by decide +kernel
theorem dX6_joins_93 : decode cX6_joins 93 = .ok (.iload 6, 2) := by decide +kernel
theorem dX6_joins_95 : decode cX6_joins 95 = .ok (.iload 7, 2) := by decide +kernel
theorem dX6_joins_97 : decode cX6_joins 97 = .ok (.iadd, 1) := by decide +kernel
theorem dX6_joins_98 : decode cX6_joins 98 = .ok (.aload_n 0, 1) := by decide +kernel
theorem dX6_joins_99 : decode cX6_joins 99 = .ok (.getfield 50, 3) := by decide +kernel
theorem dX6_joins_102 : decode cX6_joins 102 = .ok (.iload_n 1, 1) := by decide +kernel
theorem dX6_joins_103 : decode cX6_joins 103 = .ok (.iaload, 1) := by decide +kernel
theorem dX6_joins_104 : decode cX6_joins 104 = .ok (.iload 7, 2) := by decide +kernel
theorem dX6_joins_106 : decode cX6_joins 106 = .ok (.ishr, 1) := by decide +kernel
theorem dX6_joins_107 : decode cX6_joins 107 = .ok (.iconst 1, 1) := by decide +kernel
theorem dX6_joins_108 : decode cX6_joins 108 = .ok (.iand, 1) := by decide +kernel
theorem dX6_joins_109 : decode cX6_joins 109 = .ok (.iconst 1, 1) := by decide +kernel
theorem dX6_joins_110 : decode cX6_joins 110 = .ok (.if_icmp .ne 16, 3) := by decide +kernel
theorem dX6_joins_113 : decode cX6_joins 113 = .ok (.aload_n 0, 1) := by decide +kernel
theorem dX6_joins_114 : decode cX6_joins 114 = .ok (.getfield 69, 3) := by decide +kernel
theorem dX6_joins_117 : decode cX6_joins 117 = .ok (.iload 5, 2) := by decide +kernel
theorem dX6_joins_119 : decode cX6_joins 119 = .ok (.iload 7, 2) := by decide +kernel
theorem dX6_joins_121 : decode cX6_joins 121 = .ok (.iadd, 1) := by decide +kernel
theorem dX6_joins_122 : decode cX6_joins 122 = .ok (.iaload, 1) := by decide +kernel
theorem dX6_joins_123 : decode cX6_joins 123 = .ok (.goto 13, 3) := by decide +kernel
theorem dX6_joins_126 : decode cX6_joins 126 = .ok (.aload_n 0, 1) := by decide +kernel
theorem dX6_joins_127 : decode cX6_joins 127 = .ok (.getfield 69, 3) := by decide +kernel
theorem dX6_joins_130 : decode cX6_joins 130 = .ok (.iload 6, 2) := by decide +kernel
theorem dX6_joins_132 : decode cX6_joins 132 = .ok (.iload 7, 2) := by decide +kernel
theorem dX6_joins_134 : decode cX6_joins 134 = .ok (.iadd, 1) := by decide +kernel
theorem dX6_joins_135 : decode cX6_joins 135 = .ok (.iaload, 1) := by decide +kernel
theorem dX6_joins_136 : decode cX6_joins 136 = .ok (.iastore, 1) := by decide +kernel
theorem dX6_joins_137 : decode cX6_joins 137 = .ok (.iinc 7 1, 3) := by decide +kernel
theorem dX6_joins_140 : decode cX6_joins 140 = .ok (.goto (-58), 3) := by decide +kernel
theorem dX6_joins_143 : decode cX6_joins 143 = .ok (.iinc 4 1, 3) := by decide +kernel
theorem dX6_joins_146 : decode cX6_joins 146 = .ok (.goto (-136), 3) := by decide +kernel
theorem dX6_joins_149 : decode cX6_joins 149 = .ok (.return_, 1) := by decide +kernel
theorem dX6_folds_0 : decode cX6_folds 0 = .ok (.iconst 0, 1) := by decide +kernel
theorem dX6_folds_1 : decode cX6_folds 1 = .ok (.istore_n 3, 1) := by decide +kernel
theorem dX6_folds_2 : decode cX6_folds 2 = .ok (.iload_n 3, 1) := by decide +kernel
theorem dX6_folds_3 : decode cX6_folds 3 = .ok (.aload_n 0, 1) := by decide +kernel
theorem dX6_folds_4 : decode cX6_folds 4 = .ok (.getfield 72, 3) := by decide +kernel
theorem dX6_folds_7 : decode cX6_folds 7 = .ok (.iload_n 1, 1) := by decide +kernel
theorem dX6_folds_8 : decode cX6_folds 8 = .ok (.iaload, 1) := by decide +kernel
theorem dX6_folds_9 : decode cX6_folds 9 = .ok (.if_icmp .ge 42, 3) := by decide +kernel
theorem dX6_folds_12 : decode cX6_folds 12 = .ok (.aload_n 0, 1) := by decide +kernel
theorem dX6_folds_13 : decode cX6_folds 13 = .ok (.getfield 69, 3) := by decide +kernel
theorem dX6_folds_16 : decode cX6_folds 16 = .ok (.iload_n 1, 1) := by decide +kernel
theorem dX6_folds_17 : decode cX6_folds 17 = .ok (.iload_n 3, 1) := by decide +kernel
theorem dX6_folds_18 : decode cX6_folds 18 = .ok (.invokestatic 196, 3) := by decide +kernel
theorem dX6_folds_21 : decode cX6_folds 21 = .ok (.aload_n 0, 1) := by decide +kernel
theorem dX6_folds_22 : decode cX6_folds 22 = .ok (.getfield 47, 3) := by decide +kernel
theorem dX6_folds_25 : decode cX6_folds 25 = .ok (.iload_n 1, 1) := by decide +kernel
theorem dX6_folds_26 : decode cX6_folds 26 = .ok (.iaload, 1) := by decide +kernel
theorem dX6_folds_27 : decode cX6_folds 27 = .ok (.iadd, 1) := by decide +kernel
theorem dX6_folds_28 : decode cX6_folds 28 = .ok (.iaload, 1) := by decide +kernel
theorem dX6_folds_29 : decode cX6_folds 29 = .ok (.aload_n 0, 1) := by decide +kernel
theorem dX6_folds_30 : decode cX6_folds 30 = .ok (.getfield 69, 3) := by decide +kernel
theorem dX6_folds_33 : decode cX6_folds 33 = .ok (.iload_n 2, 1) := by decide +kernel
theorem dX6_folds_34 : decode cX6_folds 34 = .ok (.aload_n 0, 1) := by decide +kernel
theorem dX6_folds_35 : decode cX6_folds 35 = .ok (.getfield 47, 3) := by decide +kernel
theorem dX6_folds_38 : decode cX6_folds 38 = .ok (.iload_n 1, 1) := by decide +kernel
theorem dX6_folds_39 : decode cX6_folds 39 = .ok (.iaload, 1) := by decide +kernel
theorem dX6_folds_40 : decode cX6_folds 40 = .ok (.iadd, 1) := by decide +kernel
theorem dX6_folds_41 : decode cX6_folds 41 = .ok (.iaload, 1) := by decide +kernel
theorem dX6_folds_42 : decode cX6_folds 42 = .ok (.if_icmp .eq 9, 3) := by decide +kernel
theorem dX6_folds_45 : decode cX6_folds 45 = .ok (.iinc 3 1, 3) := by decide +kernel
theorem dX6_folds_48 : decode cX6_folds 48 = .ok (.goto (-46), 3) := by decide +kernel
theorem dX6_folds_51 : decode cX6_folds 51 = .ok (.iload_n 1, 1) := by decide +kernel
theorem dX6_folds_52 : decode cX6_folds 52 = .ok (.iload_n 3, 1) := by decide +kernel
theorem dX6_folds_53 : decode cX6_folds 53 = .ok (.invokestatic 196, 3) := by decide +kernel
theorem dX6_folds_56 : decode cX6_folds 56 = .ok (.istore 4, 2) := by decide +kernel
theorem dX6_folds_58 : decode cX6_folds 58 = .ok (.iload_n 3, 1) := by decide +kernel
theorem dX6_folds_59 : decode cX6_folds 59 = .ok (.aload_n 0, 1) := by decide +kernel
theorem dX6_folds_60 : decode cX6_folds 60 = .ok (.getfield 72, 3) := by decide +kernel
theorem dX6_folds_63 : decode cX6_folds 63 = .ok (.iload_n 1, 1) := by decide +kernel
theorem dX6_folds_64 : decode cX6_folds 64 = .ok (.iaload, 1) := by decide +kernel
theorem dX6_folds_65 : decode cX6_folds 65 = .ok (.if_icmp .ne 67, 3) := by decide +kernel
theorem dX6_folds_68 : decode cX6_folds 68 = .ok (.iconst 0, 1) := by decide +kernel
theorem dX6_folds_69 : decode cX6_folds 69 = .ok (.istore 5, 2) := by decide +kernel
theorem dX6_folds_71 : decode cX6_folds 71 = .ok (.iload 5, 2) := by decide +kernel
theorem dX6_folds_73 : decode cX6_folds 73 = .ok (.bipush 6, 2) := by decide +kernel
theorem dX6_folds_75 : decode cX6_folds 75 = .ok (.if_icmp .ge 20, 3) := by decide +kernel
theorem dX6_folds_78 : decode cX6_folds 78 = .ok (.aload_n 0, 1) := by decide +kernel
theorem dX6_folds_79 : decode cX6_folds 79 = .ok (.getfield 69, 3) := by decide +kernel
theorem dX6_folds_82 : decode cX6_folds 82 = .ok (.iload 4, 2) := by decide +kernel
theorem dX6_folds_84 : decode cX6_folds 84 = .ok (.iload 5, 2) := by decide +kernel
theorem dX6_folds_86 : decode cX6_folds 86 = .ok (.iadd, 1) := by decide +kernel
theorem dX6_folds_87 : decode cX6_folds 87 = .ok (.iconst 0, 1) := by decide +kernel
theorem dX6_folds_88 : decode cX6_folds 88 = .ok (.iastore, 1) := by decide +kernel
theorem dX6_folds_89 : decode cX6_folds 89 = .ok (.iinc 5 1, 3) := by decide +kernel
theorem dX6_folds_92 : decode cX6_folds 92 = .ok (.goto (-21), 3) := by decide +kernel
theorem dX6_folds_95 : decode cX6_folds 95 = .ok (.aload_n 0, 1) := by decide +kernel
theorem dX6_folds_96 : decode cX6_folds 96 = .ok (.getfield 69, 3) := by decide +kernel
theorem dX6_folds_99 : decode cX6_folds 99 = .ok (.iload 4, 2) := by decide +kernel
theorem dX6_folds_101 : decode cX6_folds 101 = .ok (.aload_n 0, 1) := by decide +kernel
theorem dX6_folds_102 : decode cX6_folds 102 = .ok (.getfield 47, 3) := by decide +kernel
theorem dX6_folds_105 : decode cX6_folds 105 = .ok (.iload_n 1, 1) := by decide +kernel
theorem dX6_folds_106 : decode cX6_folds 106 = .ok (.iaload, 1) := by decide +kernel
theorem dX6_folds_107 : decode cX6_folds 107 = .ok (.iadd, 1) := by decide +kernel
theorem dX6_folds_108 : decode cX6_folds 108 = .ok (.aload_n 0, 1) := by decide +kernel
theorem dX6_folds_109 : decode cX6_folds 109 = .ok (.getfield 69, 3) := by decide +kernel
theorem dX6_folds_112 : decode cX6_folds 112 = .ok (.iload_n 2, 1) := by decide +kernel
theorem dX6_folds_113 : decode cX6_folds 113 = .ok (.aload_n 0, 1) := by decide +kernel
theorem dX6_folds_114 : decode cX6_folds 114 = .ok (.getfield 47, 3) := by decide +kernel
theorem dX6_folds_117 : decode cX6_folds 117 = .ok (.iload_n 1, 1) := by decide +kernel
theorem dX6_folds_118 : decode cX6_folds 118 = .ok (.iaload, 1) := by decide +kernel
theorem dX6_folds_119 : decode cX6_folds 119 = .ok (.iadd, 1) := by decide +kernel
theorem dX6_folds_120 : decode cX6_folds 120 = .ok (.iaload, 1) := by decide +kernel
theorem dX6_folds_121 : decode cX6_folds 121 = .ok (.iastore, 1) := by decide +kernel
theorem dX6_folds_122 : decode cX6_folds 122 = .ok (.aload_n 0, 1) := by decide +kernel
theorem dX6_folds_123 : decode cX6_folds 123 = .ok (.getfield 72, 3) := by decide +kernel
theorem dX6_folds_126 : decode cX6_folds 126 = .ok (.iload_n 1, 1) := by decide +kernel
theorem dX6_folds_127 : decode cX6_folds 127 = .ok (.dup2, 1) := by decide +kernel
theorem dX6_folds_128 : decode cX6_folds 128 = .ok (.iaload, 1) := by decide +kernel
theorem dX6_folds_129 : decode cX6_folds 129 = .ok (.iconst 1, 1) := by decide +kernel
theorem dX6_folds_130 : decode cX6_folds 130 = .ok (.iadd, 1) := by decide +kernel
theorem dX6_folds_131 : decode cX6_folds 131 = .ok (.iastore, 1) := by decide +kernel
theorem dX6_folds_132 : decode cX6_folds 132 = .ok (.aload_n 0, 1) := by decide +kernel
theorem dX6_folds_133 : decode cX6_folds 133 = .ok (.getfield 69, 3) := by decide +kernel
theorem dX6_folds_136 : decode cX6_folds 136 = .ok (.iload 4, 2) := by decide +kernel
theorem dX6_folds_138 : decode cX6_folds 138 = .ok (.aload_n 0, 1) := by decide +kernel
theorem dX6_folds_139 : decode cX6_folds 139 = .ok (.getfield 50, 3) := by decide +kernel
theorem dX6_folds_142 : decode cX6_folds 142 = .ok (.iload_n 1, 1) := by decide +kernel
theorem dX6_folds_143 : decode cX6_folds 143 = .ok (.iaload, 1) := by decide +kernel
theorem dX6_folds_144 : decode cX6_folds 144 = .ok (.iadd, 1) := by decide +kernel
theorem dX6_folds_145 : decode cX6_folds 145 = .ok (.aload_n 0, 1) := by decide +kernel
theorem dX6_folds_146 : decode cX6_folds 146 = .ok (.getfield 69, 3) := by decide +kernel
theorem dX6_folds_149 : decode cX6_folds 149 = .ok (.iload 4, 2) := by decide +kernel
theorem dX6_folds_151 : decode cX6_folds 151 = .ok (.aload_n 0, 1) := by decide +kernel
theorem dX6_folds_152 : decode cX6_folds 152 = .ok (.getfield 50, 3) := by decide +kernel
theorem dX6_folds_155 : decode cX6_folds 155 = .ok (.iload_n 1, 1) := by decide +kernel
theorem dX6_folds_156 : decode cX6_folds 156 = .ok (.iaload, 1) := by decide +kernel
theorem dX6_folds_157 : decode cX6_folds 157 = .ok (.iadd, 1) := by decide +kernel
theorem dX6_folds_158 : decode cX6_folds 158 = .ok (.iaload, 1) := by decide +kernel
theorem dX6_folds_159 : decode cX6_folds 159 = .ok (.aload_n 0, 1) := by decide +kernel
theorem dX6_folds_160 : decode cX6_folds 160 = .ok (.getfield 69, 3) := by decide +kernel
theorem dX6_folds_163 : decode cX6_folds 163 = .ok (.iload_n 2, 1) := by decide +kernel
theorem dX6_folds_164 : decode cX6_folds 164 = .ok (.aload_n 0, 1) := by decide +kernel
theorem dX6_folds_165 : decode cX6_folds 165 = .ok (.getfield 50, 3) := by decide +kernel
end
section
theorem dX6_folds_168 : decode cX6_folds 168 = .ok (.iload_n 1, 1) := by decide +kernel
theorem dX6_folds_169 : decode cX6_folds 169 = .ok (.iaload, 1) := by decide +kernel
theorem dX6_folds_170 : decode cX6_folds 170 = .ok (.iadd, 1) := by decide +kernel
theorem dX6_folds_171 : decode cX6_folds 171 = .ok (.iaload, 1) := by decide +kernel
theorem dX6_folds_172 : decode cX6_folds 172 = .ok (.iadd, 1) := by decide +kernel
theorem dX6_folds_173 : decode cX6_folds 173 = .ok (.iastore, 1) := by decide +kernel
theorem dX6_folds_174 : decode cX6_folds 174 = .ok (.return_, 1) := by decide +kernel
theorem dX6_has_0 : decode cX6_has 0 = .ok (.iconst 0, 1) := by decide +kernel
theorem dX6_has_1 : decode cX6_has 1 = .ok (.istore_n 3, 1) := by decide +kernel
theorem dX6_has_2 : decode cX6_has 2 = .ok (.iload_n 3, 1) := by decide +kernel
theorem dX6_has_3 : decode cX6_has 3 = .ok (.aload_n 0, 1) := by decide +kernel
theorem dX6_has_4 : decode cX6_has 4 = .ok (.getfield 72, 3) := by decide +kernel
theorem dX6_has_7 : decode cX6_has 7 = .ok (.iload_n 1, 1) := by decide +kernel
theorem dX6_has_8 : decode cX6_has 8 = .ok (.iaload, 1) := by decide +kernel
theorem dX6_has_9 : decode cX6_has 9 = .ok (.if_icmp .ge 72, 3) := by decide +kernel
theorem dX6_has_12 : decode cX6_has 12 = .ok (.iconst 1, 1) := by decide +kernel
theorem dX6_has_13 : decode cX6_has 13 = .ok (.istore 4, 2) := by decide +kernel
theorem dX6_has_15 : decode cX6_has 15 = .ok (.iconst 0, 1) := by decide +kernel
theorem dX6_has_16 : decode cX6_has 16 = .ok (.istore 5, 2) := by decide +kernel
theorem dX6_has_18 : decode cX6_has 18 = .ok (.iload 5, 2) := by decide +kernel
theorem dX6_has_20 : decode cX6_has 20 = .ok (.bipush 6, 2) := by decide +kernel
theorem dX6_has_22 : decode cX6_has 22 = .ok (.if_icmp .ge 46, 3) := by decide +kernel
theorem dX6_has_25 : decode cX6_has 25 = .ok (.iload 4, 2) := by decide +kernel
theorem dX6_has_27 : decode cX6_has 27 = .ok (.ifCond .eq 32, 3) := by decide +kernel
theorem dX6_has_30 : decode cX6_has 30 = .ok (.aload_n 0, 1) := by decide +kernel
theorem dX6_has_31 : decode cX6_has 31 = .ok (.getfield 69, 3) := by decide +kernel
theorem dX6_has_34 : decode cX6_has 34 = .ok (.iload_n 1, 1) := by decide +kernel
theorem dX6_has_35 : decode cX6_has 35 = .ok (.iload_n 3, 1) := by decide +kernel
theorem dX6_has_36 : decode cX6_has 36 = .ok (.invokestatic 196, 3) := by decide +kernel
theorem dX6_has_39 : decode cX6_has 39 = .ok (.iload 5, 2) := by decide +kernel
theorem dX6_has_41 : decode cX6_has 41 = .ok (.iadd, 1) := by decide +kernel
theorem dX6_has_42 : decode cX6_has 42 = .ok (.iaload, 1) := by decide +kernel
theorem dX6_has_43 : decode cX6_has 43 = .ok (.aload_n 0, 1) := by decide +kernel
theorem dX6_has_44 : decode cX6_has 44 = .ok (.getfield 69, 3) := by decide +kernel
theorem dX6_has_47 : decode cX6_has 47 = .ok (.iload_n 2, 1) := by decide +kernel
theorem dX6_has_48 : decode cX6_has 48 = .ok (.iload 5, 2) := by decide +kernel
theorem dX6_has_50 : decode cX6_has 50 = .ok (.iadd, 1) := by decide +kernel
theorem dX6_has_51 : decode cX6_has 51 = .ok (.iaload, 1) := by decide +kernel
theorem dX6_has_52 : decode cX6_has 52 = .ok (.if_icmp .ne 7, 3) := by decide +kernel
theorem dX6_has_55 : decode cX6_has 55 = .ok (.iconst 1, 1) := by decide +kernel
theorem dX6_has_56 : decode cX6_has 56 = .ok (.goto 4, 3) := by decide +kernel
theorem dX6_has_59 : decode cX6_has 59 = .ok (.iconst 0, 1) := by decide +kernel
theorem dX6_has_60 : decode cX6_has 60 = .ok (.istore 4, 2) := by decide +kernel
theorem dX6_has_62 : decode cX6_has 62 = .ok (.iinc 5 1, 3) := by decide +kernel
theorem dX6_has_65 : decode cX6_has 65 = .ok (.goto (-47), 3) := by decide +kernel
theorem dX6_has_68 : decode cX6_has 68 = .ok (.iload 4, 2) := by decide +kernel
theorem dX6_has_70 : decode cX6_has 70 = .ok (.ifCond .eq 5, 3) := by decide +kernel
theorem dX6_has_73 : decode cX6_has 73 = .ok (.iconst 1, 1) := by decide +kernel
theorem dX6_has_74 : decode cX6_has 74 = .ok (.ireturn, 1) := by decide +kernel
theorem dX6_has_75 : decode cX6_has 75 = .ok (.iinc 3 1, 3) := by decide +kernel
theorem dX6_has_78 : decode cX6_has 78 = .ok (.goto (-76), 3) := by decide +kernel
theorem dX6_has_81 : decode cX6_has 81 = .ok (.iconst 0, 1) := by decide +kernel
theorem dX6_has_82 : decode cX6_has 82 = .ok (.ireturn, 1) := by decide +kernel
theorem dX6_run_0 : decode cX6_run 0 = .ok (.aload_n 0, 1) := by decide +kernel
theorem dX6_run_1 : decode cX6_run 1 = .ok (.iload_n 1, 1) := by decide +kernel
theorem dX6_run_2 : decode cX6_run 2 = .ok (.invokevirtual 148, 3) := by decide +kernel
theorem dX6_run_5 : decode cX6_run 5 = .ok (.ifCond .ne 5, 3) := by decide +kernel
theorem dX6_run_8 : decode cX6_run 8 = .ok (.iconst (-1), 1) := by decide +kernel
theorem dX6_run_9 : decode cX6_run 9 = .ok (.ireturn, 1) := by decide +kernel
theorem dX6_run_10 : decode cX6_run 10 = .ok (.iconst 0, 1) := by decide +kernel
theorem dX6_run_11 : decode cX6_run 11 = .ok (.istore_n 2, 1) := by decide +kernel
theorem dX6_run_12 : decode cX6_run 12 = .ok (.iload_n 2, 1) := by decide +kernel
theorem dX6_run_13 : decode cX6_run 13 = .ok (.aload_n 0, 1) := by decide +kernel
theorem dX6_run_14 : decode cX6_run 14 = .ok (.getfield 120, 3) := by decide +kernel
theorem dX6_run_17 : decode cX6_run 17 = .ok (.if_icmp .ge 16, 3) := by decide +kernel
theorem dX6_run_20 : decode cX6_run 20 = .ok (.aload_n 0, 1) := by decide +kernel
theorem dX6_run_21 : decode cX6_run 21 = .ok (.getfield 75, 3) := by decide +kernel
theorem dX6_run_24 : decode cX6_run 24 = .ok (.iload_n 2, 1) := by decide +kernel
theorem dX6_run_25 : decode cX6_run 25 = .ok (.iconst 0, 1) := by decide +kernel
theorem dX6_run_26 : decode cX6_run 26 = .ok (.bastore, 1) := by decide +kernel
theorem dX6_run_27 : decode cX6_run 27 = .ok (.iinc 2 1, 3) := by decide +kernel
theorem dX6_run_30 : decode cX6_run 30 = .ok (.goto (-18), 3) := by decide +kernel
theorem dX6_run_33 : decode cX6_run 33 = .ok (.aload_n 0, 1) := by decide +kernel
theorem dX6_run_34 : decode cX6_run 34 = .ok (.iconst 0, 1) := by decide +kernel
theorem dX6_run_35 : decode cX6_run 35 = .ok (.putfield 190, 3) := by decide +kernel
theorem dX6_run_38 : decode cX6_run 38 = .ok (.aload_n 0, 1) := by decide +kernel
theorem dX6_run_39 : decode cX6_run 39 = .ok (.iconst 0, 1) := by decide +kernel
theorem dX6_run_40 : decode cX6_run 40 = .ok (.putfield 167, 3) := by decide +kernel
theorem dX6_run_43 : decode cX6_run 43 = .ok (.iconst 0, 1) := by decide +kernel
theorem dX6_run_44 : decode cX6_run 44 = .ok (.istore_n 2, 1) := by decide +kernel
theorem dX6_run_45 : decode cX6_run 45 = .ok (.iconst (-1), 1) := by decide +kernel
theorem dX6_run_46 : decode cX6_run 46 = .ok (.istore_n 3, 1) := by decide +kernel
theorem dX6_run_47 : decode cX6_run 47 = .ok (.iconst 1, 1) := by decide +kernel
theorem dX6_run_48 : decode cX6_run 48 = .ok (.istore 4, 2) := by decide +kernel
theorem dX6_run_50 : decode cX6_run 50 = .ok (.aload_n 0, 1) := by decide +kernel
theorem dX6_run_51 : decode cX6_run 51 = .ok (.getfield 78, 3) := by decide +kernel
theorem dX6_run_54 : decode cX6_run 54 = .ok (.iconst 0, 1) := by decide +kernel
theorem dX6_run_55 : decode cX6_run 55 = .ok (.iload_n 1, 1) := by decide +kernel
theorem dX6_run_56 : decode cX6_run 56 = .ok (.iastore, 1) := by decide +kernel
theorem dX6_run_57 : decode cX6_run 57 = .ok (.iload 4, 2) := by decide +kernel
theorem dX6_run_59 : decode cX6_run 59 = .ok (.ifCond .le 151, 3) := by decide +kernel
theorem dX6_run_62 : decode cX6_run 62 = .ok (.aload_n 0, 1) := by decide +kernel
theorem dX6_run_63 : decode cX6_run 63 = .ok (.getfield 190, 3) := by decide +kernel
theorem dX6_run_66 : decode cX6_run 66 = .ok (.ifCond .ne 144, 3) := by decide +kernel
theorem dX6_run_69 : decode cX6_run 69 = .ok (.aload_n 0, 1) := by decide +kernel
theorem dX6_run_70 : decode cX6_run 70 = .ok (.getfield 78, 3) := by decide +kernel
theorem dX6_run_73 : decode cX6_run 73 = .ok (.iload 4, 2) := by decide +kernel
theorem dX6_run_75 : decode cX6_run 75 = .ok (.iconst 1, 1) := by decide +kernel
theorem dX6_run_76 : decode cX6_run 76 = .ok (.isub, 1) := by decide +kernel
theorem dX6_run_77 : decode cX6_run 77 = .ok (.iaload, 1) := by decide +kernel
theorem dX6_run_78 : decode cX6_run 78 = .ok (.istore 5, 2) := by decide +kernel
theorem dX6_run_80 : decode cX6_run 80 = .ok (.aload_n 0, 1) := by decide +kernel
theorem dX6_run_81 : decode cX6_run 81 = .ok (.getfield 38, 3) := by decide +kernel
theorem dX6_run_84 : decode cX6_run 84 = .ok (.iload 5, 2) := by decide +kernel
theorem dX6_run_86 : decode cX6_run 86 = .ok (.iaload, 1) := by decide +kernel
theorem dX6_run_87 : decode cX6_run 87 = .ok (.ifCond .eq 38, 3) := by decide +kernel
theorem dX6_run_90 : decode cX6_run 90 = .ok (.aload_n 0, 1) := by decide +kernel
theorem dX6_run_91 : decode cX6_run 91 = .ok (.getfield 75, 3) := by decide +kernel
theorem dX6_run_94 : decode cX6_run 94 = .ok (.aload_n 0, 1) := by decide +kernel
theorem dX6_run_95 : decode cX6_run 95 = .ok (.getfield 41, 3) := by decide +kernel
theorem dX6_run_98 : decode cX6_run 98 = .ok (.iload 5, 2) := by decide +kernel
theorem dX6_run_100 : decode cX6_run 100 = .ok (.iaload, 1) := by decide +kernel
theorem dX6_run_101 : decode cX6_run 101 = .ok (.baload, 1) := by decide +kernel
theorem dX6_run_102 : decode cX6_run 102 = .ok (.ifCond .ne 23, 3) := by decide +kernel
theorem dX6_run_105 : decode cX6_run 105 = .ok (.aload_n 0, 1) := by decide +kernel
theorem dX6_run_106 : decode cX6_run 106 = .ok (.getfield 78, 3) := by decide +kernel
theorem dX6_run_109 : decode cX6_run 109 = .ok (.iload 4, 2) := by decide +kernel
theorem dX6_run_111 : decode cX6_run 111 = .ok (.aload_n 0, 1) := by decide +kernel
theorem dX6_run_112 : decode cX6_run 112 = .ok (.getfield 41, 3) := by decide +kernel
theorem dX6_run_115 : decode cX6_run 115 = .ok (.iload 5, 2) := by decide +kernel
theorem dX6_run_117 : decode cX6_run 117 = .ok (.iaload, 1) := by decide +kernel
theorem dX6_run_118 : decode cX6_run 118 = .ok (.iastore, 1) := by decide +kernel
theorem dX6_run_119 : decode cX6_run 119 = .ok (.iinc 4 1, 3) := by decide +kernel
theorem dX6_run_122 : decode cX6_run 122 = .ok (.goto 85, 3) := by decide +kernel
theorem dX6_run_125 : decode cX6_run 125 = .ok (.aload_n 0, 1) := by decide +kernel
theorem dX6_run_126 : decode cX6_run 126 = .ok (.getfield 38, 3) := by decide +kernel
theorem dX6_run_129 : decode cX6_run 129 = .ok (.iload 5, 2) := by decide +kernel
theorem dX6_run_131 : decode cX6_run 131 = .ok (.iaload, 1) := by decide +kernel
theorem dX6_run_132 : decode cX6_run 132 = .ok (.invokestatic 129, 3) := by decide +kernel
theorem dX6_run_135 : decode cX6_run 135 = .ok (.ifCond .eq 38, 3) := by decide +kernel
theorem dX6_run_138 : decode cX6_run 138 = .ok (.aload_n 0, 1) := by decide +kernel
theorem dX6_run_139 : decode cX6_run 139 = .ok (.getfield 75, 3) := by decide +kernel
theorem dX6_run_142 : decode cX6_run 142 = .ok (.aload_n 0, 1) := by decide +kernel
theorem dX6_run_143 : decode cX6_run 143 = .ok (.getfield 44, 3) := by decide +kernel
theorem dX6_run_146 : decode cX6_run 146 = .ok (.iload 5, 2) := by decide +kernel
theorem dX6_run_148 : decode cX6_run 148 = .ok (.iaload, 1) := by decide +kernel
theorem dX6_run_149 : decode cX6_run 149 = .ok (.baload, 1) := by decide +kernel
theorem dX6_run_150 : decode cX6_run 150 = .ok (.ifCond .ne 23, 3) := by decide +kernel
theorem dX6_run_153 : decode cX6_run 153 = .ok (.aload_n 0, 1) := by decide +kernel
theorem dX6_run_154 : decode cX6_run 154 = .ok (.getfield 78, 3) := by decide +kernel
theorem dX6_run_157 : decode cX6_run 157 = .ok (.iload 4, 2) := by decide +kernel
theorem dX6_run_159 : decode cX6_run 159 = .ok (.aload_n 0, 1) := by decide +kernel
theorem dX6_run_160 : decode cX6_run 160 = .ok (.getfield 44, 3) := by decide +kernel
theorem dX6_run_163 : decode cX6_run 163 = .ok (.iload 5, 2) := by decide +kernel
theorem dX6_run_165 : decode cX6_run 165 = .ok (.iaload, 1) := by decide +kernel
theorem dX6_run_166 : decode cX6_run 166 = .ok (.iastore, 1) := by decide +kernel
theorem dX6_run_167 : decode cX6_run 167 = .ok (.iinc 4 1, 3) := by decide +kernel
theorem dX6_run_170 : decode cX6_run 170 = .ok (.goto 37, 3) := by decide +kernel
theorem dX6_run_173 : decode cX6_run 173 = .ok (.aload_n 0, 1) := by decide +kernel
theorem dX6_run_174 : decode cX6_run 174 = .ok (.iload 5, 2) := by decide +kernel
theorem dX6_run_176 : decode cX6_run 176 = .ok (.invokevirtual 223, 3) := by decide +kernel
theorem dX6_run_179 : decode cX6_run 179 = .ok (.iinc 2 1, 3) := by decide +kernel
theorem dX6_run_182 : decode cX6_run 182 = .ok (.aload_n 0, 1) := by decide +kernel
theorem dX6_run_183 : decode cX6_run 183 = .ok (.getfield 75, 3) := by decide +kernel
theorem dX6_run_186 : decode cX6_run 186 = .ok (.iload 5, 2) := by decide +kernel
theorem dX6_run_188 : decode cX6_run 188 = .ok (.iconst 1, 1) := by decide +kernel
theorem dX6_run_189 : decode cX6_run 189 = .ok (.bastore, 1) := by decide +kernel
theorem dX6_run_190 : decode cX6_run 190 = .ok (.aload_n 0, 1) := by decide +kernel
theorem dX6_run_191 : decode cX6_run 191 = .ok (.getfield 190, 3) := by decide +kernel
theorem dX6_run_194 : decode cX6_run 194 = .ok (.ifCond .eq 8, 3) := by decide +kernel
theorem dX6_run_197 : decode cX6_run 197 = .ok (.iload 5, 2) := by decide +kernel
theorem dX6_run_199 : decode cX6_run 199 = .ok (.goto 4, 3) := by decide +kernel
theorem dX6_run_202 : decode cX6_run 202 = .ok (.iload_n 3, 1) := by decide +kernel
theorem dX6_run_203 : decode cX6_run 203 = .ok (.istore_n 3, 1) := by decide +kernel
theorem dX6_run_204 : decode cX6_run 204 = .ok (.iinc 4 (-1), 3) := by decide +kernel
theorem dX6_run_207 : decode cX6_run 207 = .ok (.goto (-150), 3) := by decide +kernel
theorem dX6_run_210 : decode cX6_run 210 = .ok (.aload_n 0, 1) := by decide +kernel
theorem dX6_run_211 : decode cX6_run 211 = .ok (.aload_n 0, 1) := by decide +kernel
theorem dX6_run_212 : decode cX6_run 212 = .ok (.getfield 190, 3) := by decide +kernel
theorem dX6_run_215 : decode cX6_run 215 = .ok (.putfield 226, 3) := by decide +kernel
theorem dX6_run_218 : decode cX6_run 218 = .ok (.aload_n 0, 1) := by decide +kernel
theorem dX6_run_219 : decode cX6_run 219 = .ok (.aload_n 0, 1) := by decide +kernel
theorem dX6_run_220 : decode cX6_run 220 = .ok (.getfield 167, 3) := by decide +kernel
theorem dX6_run_223 : decode cX6_run 223 = .ok (.putfield 229, 3) := by decide +kernel
theorem dX6_run_226 : decode cX6_run 226 = .ok (.aload_n 0, 1) := by decide +kernel
theorem dX6_run_227 : decode cX6_run 227 = .ok (.iload_n 2, 1) := by decide +kernel
theorem dX6_run_228 : decode cX6_run 228 = .ok (.putfield 232, 3) := by decide +kernel
theorem dX6_run_231 : decode cX6_run 231 = .ok (.aload_n 0, 1) := by decide +kernel
theorem dX6_run_232 : decode cX6_run 232 = .ok (.iload_n 3, 1) := by decide +kernel
theorem dX6_run_233 : decode cX6_run 233 = .ok (.putfield 84, 3) := by decide +kernel
theorem dX6_run_236 : decode cX6_run 236 = .ok (.aload_n 0, 1) := by decide +kernel
theorem dX6_run_237 : decode cX6_run 237 = .ok (.aload_n 0, 1) := by decide +kernel
theorem dX6_run_238 : decode cX6_run 238 = .ok (.getfield 190, 3) := by decide +kernel
theorem dX6_run_241 : decode cX6_run 241 = .ok (.ifCond .ne 12, 3) := by decide +kernel
theorem dX6_run_244 : decode cX6_run 244 = .ok (.aload_n 0, 1) := by decide +kernel
theorem dX6_run_245 : decode cX6_run 245 = .ok (.getfield 72, 3) := by decide +kernel
theorem dX6_run_248 : decode cX6_run 248 = .ok (.iload_n 1, 1) := by decide +kernel
theorem dX6_run_249 : decode cX6_run 249 = .ok (.iaload, 1) := by decide +kernel
theorem dX6_run_250 : decode cX6_run 250 = .ok (.goto 4, 3) := by decide +kernel
theorem dX6_run_253 : decode cX6_run 253 = .ok (.iconst 0, 1) := by decide +kernel
theorem dX6_run_254 : decode cX6_run 254 = .ok (.putfield 235, 3) := by decide +kernel
theorem dX6_run_257 : decode cX6_run 257 = .ok (.iconst 0, 1) := by decide +kernel
theorem dX6_run_258 : decode cX6_run 258 = .ok (.istore 5, 2) := by decide +kernel
theorem dX6_run_260 : decode cX6_run 260 = .ok (.iload 5, 2) := by decide +kernel
theorem dX6_run_262 : decode cX6_run 262 = .ok (.bipush 6, 2) := by decide +kernel
theorem dX6_run_264 : decode cX6_run 264 = .ok (.aload_n 0, 1) := by decide +kernel
theorem dX6_run_265 : decode cX6_run 265 = .ok (.getfield 235, 3) := by decide +kernel
theorem dX6_run_268 : decode cX6_run 268 = .ok (.imul, 1) := by decide +kernel
theorem dX6_run_269 : decode cX6_run 269 = .ok (.if_icmp .ge 29, 3) := by decide +kernel
theorem dX6_run_272 : decode cX6_run 272 = .ok (.aload_n 0, 1) := by decide +kernel
theorem dX6_run_273 : decode cX6_run 273 = .ok (.getfield 81, 3) := by decide +kernel
theorem dX6_run_276 : decode cX6_run 276 = .ok (.iload 5, 2) := by decide +kernel
theorem dX6_run_278 : decode cX6_run 278 = .ok (.aload_n 0, 1) := by decide +kernel
theorem dX6_run_279 : decode cX6_run 279 = .ok (.getfield 69, 3) := by decide +kernel
theorem dX6_run_282 : decode cX6_run 282 = .ok (.sipush 600, 3) := by decide +kernel
theorem dX6_run_285 : decode cX6_run 285 = .ok (.iload_n 1, 1) := by decide +kernel
theorem dX6_run_286 : decode cX6_run 286 = .ok (.imul, 1) := by decide +kernel
theorem dX6_run_287 : decode cX6_run 287 = .ok (.iload 5, 2) := by decide +kernel
theorem dX6_run_289 : decode cX6_run 289 = .ok (.iadd, 1) := by decide +kernel
theorem dX6_run_290 : decode cX6_run 290 = .ok (.iaload, 1) := by decide +kernel
theorem dX6_run_291 : decode cX6_run 291 = .ok (.iastore, 1) := by decide +kernel
theorem dX6_run_292 : decode cX6_run 292 = .ok (.iinc 5 1, 3) := by decide +kernel
theorem dX6_run_295 : decode cX6_run 295 = .ok (.goto (-35), 3) := by decide +kernel
theorem dX6_run_298 : decode cX6_run 298 = .ok (.aload_n 0, 1) := by decide +kernel
theorem dX6_run_299 : decode cX6_run 299 = .ok (.getfield 190, 3) := by decide +kernel
theorem dX6_run_302 : decode cX6_run 302 = .ok (.ifCond .ne 10, 3) := by decide +kernel
theorem dX6_run_305 : decode cX6_run 305 = .ok (.aload_n 0, 1) := by decide +kernel
theorem dX6_run_306 : decode cX6_run 306 = .ok (.getfield 235, 3) := by decide +kernel
theorem dX6_run_309 : decode cX6_run 309 = .ok (.goto 10, 3) := by decide +kernel
theorem dX6_run_312 : decode cX6_run 312 = .ok (.bipush (-10), 2) := by decide +kernel
theorem dX6_run_314 : decode cX6_run 314 = .ok (.aload_n 0, 1) := by decide +kernel
theorem dX6_run_315 : decode cX6_run 315 = .ok (.getfield 190, 3) := by decide +kernel
theorem dX6_run_318 : decode cX6_run 318 = .ok (.isub, 1) := by decide +kernel
theorem dX6_run_319 : decode cX6_run 319 = .ok (.ireturn, 1) := by decide +kernel
theorem dX6_member_0 : decode cX6_member 0 = .ok (.iload_n 1, 1) := by decide +kernel
theorem dX6_member_1 : decode cX6_member 1 = .ok (.i2l, 1) := by decide +kernel
theorem dX6_member_2 : decode cX6_member 2 = .ok (.lconst 0, 1) := by decide +kernel
theorem dX6_member_3 : decode cX6_member 3 = .ok (.aload_n 0, 1) := by decide +kernel
theorem dX6_member_4 : decode cX6_member 4 = .ok (.getfield 235, 3) := by decide +kernel
theorem dX6_member_7 : decode cX6_member 7 = .ok (.iconst 1, 1) := by decide +kernel
theorem dX6_member_8 : decode cX6_member 8 = .ok (.isub, 1) := by decide +kernel
theorem dX6_member_9 : decode cX6_member 9 = .ok (.i2l, 1) := by decide +kernel
theorem dX6_member_10 : decode cX6_member 10 = .ok (.invokestatic 90, 3) := by decide +kernel
theorem dX6_member_13 : decode cX6_member 13 = .ok (.ifCond .eq 29, 3) := by decide +kernel
theorem dX6_member_16 : decode cX6_member 16 = .ok (.iload_n 2, 1) := by decide +kernel
theorem dX6_member_17 : decode cX6_member 17 = .ok (.i2l, 1) := by decide +kernel
theorem dX6_member_18 : decode cX6_member 18 = .ok (.lconst 0, 1) := by decide +kernel
theorem dX6_member_19 : decode cX6_member 19 = .ok (.ldc2_w 112, 3) := by decide +kernel
theorem dX6_member_22 : decode cX6_member 22 = .ok (.invokestatic 90, 3) := by decide +kernel
theorem dX6_member_25 : decode cX6_member 25 = .ok (.ifCond .eq 17, 3) := by decide +kernel
theorem dX6_member_28 : decode cX6_member 28 = .ok (.aload_n 0, 1) := by decide +kernel
theorem dX6_member_29 : decode cX6_member 29 = .ok (.getfield 81, 3) := by decide +kernel
theorem dX6_member_32 : decode cX6_member 32 = .ok (.bipush 6, 2) := by decide +kernel
theorem dX6_member_34 : decode cX6_member 34 = .ok (.iload_n 1, 1) := by decide +kernel
theorem dX6_member_35 : decode cX6_member 35 = .ok (.imul, 1) := by decide +kernel
theorem dX6_member_36 : decode cX6_member 36 = .ok (.iload_n 2, 1) := by decide +kernel
theorem dX6_member_37 : decode cX6_member 37 = .ok (.iadd, 1) := by decide +kernel
theorem dX6_member_38 : decode cX6_member 38 = .ok (.iaload, 1) := by decide +kernel
theorem dX6_member_39 : decode cX6_member 39 = .ok (.goto 4, 3) := by decide +kernel
theorem dX6_member_42 : decode cX6_member 42 = .ok (.iconst 0, 1) := by decide +kernel
theorem dX6_member_43 : decode cX6_member 43 = .ok (.ireturn, 1) := by decide +kernel
theorem dX6_worked_0 : decode cX6_worked 0 = .ok (.iload_n 1, 1) := by decide +kernel
theorem dX6_worked_1 : decode cX6_worked 1 = .ok (.tableswitch 51 0 3 #[31, 36, 41, 46], 31) := by decide +kernel
theorem dX6_worked_32 : decode cX6_worked 32 = .ok (.aload_n 0, 1) := by decide +kernel
theorem dX6_worked_33 : decode cX6_worked 33 = .ok (.getfield 226, 3) := by decide +kernel
theorem dX6_worked_36 : decode cX6_worked 36 = .ok (.ireturn, 1) := by decide +kernel
theorem dX6_worked_37 : decode cX6_worked 37 = .ok (.aload_n 0, 1) := by decide +kernel
theorem dX6_worked_38 : decode cX6_worked 38 = .ok (.getfield 229, 3) := by decide +kernel
theorem dX6_worked_41 : decode cX6_worked 41 = .ok (.ireturn, 1) := by decide +kernel
theorem dX6_worked_42 : decode cX6_worked 42 = .ok (.aload_n 0, 1) := by decide +kernel
theorem dX6_worked_43 : decode cX6_worked 43 = .ok (.getfield 232, 3) := by decide +kernel
theorem dX6_worked_46 : decode cX6_worked 46 = .ok (.ireturn, 1) := by decide +kernel
theorem dX6_worked_47 : decode cX6_worked 47 = .ok (.aload_n 0, 1) := by decide +kernel
theorem dX6_worked_48 : decode cX6_worked 48 = .ok (.getfield 84, 3) := by decide +kernel
theorem dX6_worked_51 : decode cX6_worked 51 = .ok (.ireturn, 1) := by decide +kernel
theorem dX6_worked_52 : decode cX6_worked 52 = .ok (.iconst (-1), 1) := by decide +kernel
theorem dX6_worked_53 : decode cX6_worked 53 = .ok (.ireturn, 1) := by decide +kernel
theorem dX6_isOf_0 : decode cX6_isOf 0 = .ok (.iload_n 0, 1) := by decide +kernel
theorem dX6_isOf_1 : decode cX6_isOf 1 = .ok (.iload_n 1, 1) := by decide +kernel
theorem dX6_isOf_2 : decode cX6_isOf 2 = .ok (.iconst (-1), 1) := by decide +kernel
theorem dX6_isOf_3 : decode cX6_isOf 3 = .ok (.ixor, 1) := by decide +kernel
theorem dX6_isOf_4 : decode cX6_isOf 4 = .ok (.iand, 1) := by decide +kernel
theorem dX6_isOf_5 : decode cX6_isOf 5 = .ok (.ifCond .ne 7, 3) := by decide +kernel
theorem dX6_isOf_8 : decode cX6_isOf 8 = .ok (.iconst 1, 1) := by decide +kernel
theorem dX6_isOf_9 : decode cX6_isOf 9 = .ok (.goto 4, 3) := by decide +kernel
theorem dX6_isOf_12 : decode cX6_isOf 12 = .ok (.iconst 0, 1) := by decide +kernel
theorem dX6_isOf_13 : decode cX6_isOf 13 = .ok (.ireturn, 1) := by decide +kernel
theorem dX6_isFold_0 : decode cX6_isFold 0 = .ok (.aload_n 0, 1) := by decide +kernel
theorem dX6_isFold_1 : decode cX6_isFold 1 = .ok (.getfield 38, 3) := by decide +kernel
theorem dX6_isFold_4 : decode cX6_isFold 4 = .ok (.iload_n 1, 1) := by decide +kernel
theorem dX6_isFold_5 : decode cX6_isFold 5 = .ok (.iaload, 1) := by decide +kernel
theorem dX6_isFold_6 : decode cX6_isFold 6 = .ok (.bipush 6, 2) := by decide +kernel
theorem dX6_isFold_8 : decode cX6_isFold 8 = .ok (.if_icmp .ne 27, 3) := by decide +kernel
theorem dX6_isFold_11 : decode cX6_isFold 11 = .ok (.aload_n 0, 1) := by decide +kernel
theorem dX6_isFold_12 : decode cX6_isFold 12 = .ok (.getfield 47, 3) := by decide +kernel
theorem dX6_isFold_15 : decode cX6_isFold 15 = .ok (.iload_n 1, 1) := by decide +kernel
theorem dX6_isFold_16 : decode cX6_isFold 16 = .ok (.iaload, 1) := by decide +kernel
theorem dX6_isFold_17 : decode cX6_isFold 17 = .ok (.iload_n 2, 1) := by decide +kernel
theorem dX6_isFold_18 : decode cX6_isFold 18 = .ok (.if_icmp .ne 17, 3) := by decide +kernel
theorem dX6_isFold_21 : decode cX6_isFold 21 = .ok (.aload_n 0, 1) := by decide +kernel
theorem dX6_isFold_22 : decode cX6_isFold 22 = .ok (.getfield 50, 3) := by decide +kernel
theorem dX6_isFold_25 : decode cX6_isFold 25 = .ok (.iload_n 1, 1) := by decide +kernel
theorem dX6_isFold_26 : decode cX6_isFold 26 = .ok (.iaload, 1) := by decide +kernel
theorem dX6_isFold_27 : decode cX6_isFold 27 = .ok (.iload_n 3, 1) := by decide +kernel
theorem dX6_isFold_28 : decode cX6_isFold 28 = .ok (.if_icmp .ne 7, 3) := by decide +kernel
theorem dX6_isFold_31 : decode cX6_isFold 31 = .ok (.iconst 1, 1) := by decide +kernel
theorem dX6_isFold_32 : decode cX6_isFold 32 = .ok (.goto 4, 3) := by decide +kernel
theorem dX6_isFold_35 : decode cX6_isFold 35 = .ok (.iconst 0, 1) := by decide +kernel
theorem dX6_isFold_36 : decode cX6_isFold 36 = .ok (.ireturn, 1) := by decide +kernel
theorem dX6_stands_0 : decode cX6_stands 0 = .ok (.aload_n 0, 1) := by decide +kernel
theorem dX6_stands_1 : decode cX6_stands 1 = .ok (.getfield 38, 3) := by decide +kernel
theorem dX6_stands_4 : decode cX6_stands 4 = .ok (.iload_n 1, 1) := by decide +kernel
theorem dX6_stands_5 : decode cX6_stands 5 = .ok (.iaload, 1) := by decide +kernel
theorem dX6_stands_6 : decode cX6_stands 6 = .ok (.ifCond .ne 5, 3) := by decide +kernel
theorem dX6_stands_9 : decode cX6_stands 9 = .ok (.iconst 0, 1) := by decide +kernel
theorem dX6_stands_10 : decode cX6_stands 10 = .ok (.ireturn, 1) := by decide +kernel
theorem dX6_stands_11 : decode cX6_stands 11 = .ok (.aload_n 0, 1) := by decide +kernel
theorem dX6_stands_12 : decode cX6_stands 12 = .ok (.getfield 41, 3) := by decide +kernel
theorem dX6_stands_15 : decode cX6_stands 15 = .ok (.iload_n 1, 1) := by decide +kernel
theorem dX6_stands_16 : decode cX6_stands 16 = .ok (.iaload, 1) := by decide +kernel
theorem dX6_stands_17 : decode cX6_stands 17 = .ok (.istore_n 3, 1) := by decide +kernel
theorem dX6_stands_18 : decode cX6_stands 18 = .ok (.aload_n 0, 1) := by decide +kernel
theorem dX6_stands_19 : decode cX6_stands 19 = .ok (.getfield 38, 3) := by decide +kernel
theorem dX6_stands_22 : decode cX6_stands 22 = .ok (.iload_n 3, 1) := by decide +kernel
theorem dX6_stands_23 : decode cX6_stands 23 = .ok (.iaload, 1) := by decide +kernel
theorem dX6_stands_24 : decode cX6_stands 24 = .ok (.istore 4, 2) := by decide +kernel
theorem dX6_stands_26 : decode cX6_stands 26 = .ok (.aload_n 0, 1) := by decide +kernel
theorem dX6_stands_27 : decode cX6_stands 27 = .ok (.getfield 50, 3) := by decide +kernel
theorem dX6_stands_30 : decode cX6_stands 30 = .ok (.iload_n 1, 1) := by decide +kernel
theorem dX6_stands_31 : decode cX6_stands 31 = .ok (.iaload, 1) := by decide +kernel
theorem dX6_stands_32 : decode cX6_stands 32 = .ok (.istore 5, 2) := by decide +kernel
theorem dX6_stands_34 : decode cX6_stands 34 = .ok (.aload_n 0, 1) := by decide +kernel
theorem dX6_stands_35 : decode cX6_stands 35 = .ok (.getfield 38, 3) := by decide +kernel
theorem dX6_stands_38 : decode cX6_stands 38 = .ok (.iload_n 1, 1) := by decide +kernel
theorem dX6_stands_39 : decode cX6_stands 39 = .ok (.iaload, 1) := by decide +kernel
theorem dX6_stands_40 : decode cX6_stands 40 = .ok (.iconst 1, 1) := by decide +kernel
theorem dX6_stands_41 : decode cX6_stands 41 = .ok (.if_icmp .eq 13, 3) := by decide +kernel
theorem dX6_stands_44 : decode cX6_stands 44 = .ok (.aload_n 0, 1) := by decide +kernel
theorem dX6_stands_45 : decode cX6_stands 45 = .ok (.getfield 38, 3) := by decide +kernel
theorem dX6_stands_48 : decode cX6_stands 48 = .ok (.iload_n 1, 1) := by decide +kernel
theorem dX6_stands_49 : decode cX6_stands 49 = .ok (.iaload, 1) := by decide +kernel
theorem dX6_stands_50 : decode cX6_stands 50 = .ok (.iconst 2, 1) := by decide +kernel
theorem dX6_stands_51 : decode cX6_stands 51 = .ok (.if_icmp .ne 8, 3) := by decide +kernel
theorem dX6_stands_54 : decode cX6_stands 54 = .ok (.iload 5, 2) := by decide +kernel
theorem dX6_stands_56 : decode cX6_stands 56 = .ok (.goto 4, 3) := by decide +kernel
theorem dX6_stands_59 : decode cX6_stands 59 = .ok (.iconst (-1), 1) := by decide +kernel
theorem dX6_stands_60 : decode cX6_stands 60 = .ok (.istore 6, 2) := by decide +kernel
theorem dX6_stands_62 : decode cX6_stands 62 = .ok (.iload 4, 2) := by decide +kernel
theorem dX6_stands_64 : decode cX6_stands 64 = .ok (.iconst 1, 1) := by decide +kernel
theorem dX6_stands_65 : decode cX6_stands 65 = .ok (.if_icmp .eq 9, 3) := by decide +kernel
theorem dX6_stands_68 : decode cX6_stands 68 = .ok (.iload 4, 2) := by decide +kernel
theorem dX6_stands_70 : decode cX6_stands 70 = .ok (.iconst 2, 1) := by decide +kernel
theorem dX6_stands_71 : decode cX6_stands 71 = .ok (.if_icmp .ne 12, 3) := by decide +kernel
theorem dX6_stands_74 : decode cX6_stands 74 = .ok (.aload_n 0, 1) := by decide +kernel
theorem dX6_stands_75 : decode cX6_stands 75 = .ok (.getfield 50, 3) := by decide +kernel
theorem dX6_stands_78 : decode cX6_stands 78 = .ok (.iload_n 3, 1) := by decide +kernel
theorem dX6_stands_79 : decode cX6_stands 79 = .ok (.iaload, 1) := by decide +kernel
theorem dX6_stands_80 : decode cX6_stands 80 = .ok (.goto 4, 3) := by decide +kernel
theorem dX6_stands_83 : decode cX6_stands 83 = .ok (.iconst (-1), 1) := by decide +kernel
theorem dX6_stands_84 : decode cX6_stands 84 = .ok (.istore 7, 2) := by decide +kernel
theorem dX6_stands_86 : decode cX6_stands 86 = .ok (.aload_n 0, 1) := by decide +kernel
theorem dX6_stands_87 : decode cX6_stands 87 = .ok (.getfield 38, 3) := by decide +kernel
theorem dX6_stands_90 : decode cX6_stands 90 = .ok (.iload_n 1, 1) := by decide +kernel
theorem dX6_stands_91 : decode cX6_stands 91 = .ok (.iaload, 1) := by decide +kernel
theorem dX6_stands_92 : decode cX6_stands 92 = .ok (.iconst 1, 1) := by decide +kernel
theorem dX6_stands_93 : decode cX6_stands 93 = .ok (.if_icmp .ne 7, 3) := by decide +kernel
theorem dX6_stands_96 : decode cX6_stands 96 = .ok (.iconst 1, 1) := by decide +kernel
theorem dX6_stands_97 : decode cX6_stands 97 = .ok (.goto 4, 3) := by decide +kernel
theorem dX6_stands_100 : decode cX6_stands 100 = .ok (.iconst 0, 1) := by decide +kernel
theorem dX6_stands_101 : decode cX6_stands 101 = .ok (.istore 8, 2) := by decide +kernel
theorem dX6_stands_103 : decode cX6_stands 103 = .ok (.iload_n 2, 1) := by decide +kernel
theorem dX6_stands_104 : decode cX6_stands 104 = .ok (.tableswitch 773 0 16 #[84, 130, 166, 210, 256, 297, 346, 364, 401, 467, 489, 535, 557, 622, 670, 694, 718], 84) := by decide +kernel
theorem dX6_stands_188 : decode cX6_stands 188 = .ok (.iload 8, 2) := by decide +kernel
theorem dX6_stands_190 : decode cX6_stands 190 = .ok (.ifCond .eq 42, 3) := by decide +kernel
theorem dX6_stands_193 : decode cX6_stands 193 = .ok (.iload 4, 2) := by decide +kernel
theorem dX6_stands_195 : decode cX6_stands 195 = .ok (.iconst 2, 1) := by decide +kernel
theorem dX6_stands_196 : decode cX6_stands 196 = .ok (.if_icmp .ne 36, 3) := by decide +kernel
theorem dX6_stands_199 : decode cX6_stands 199 = .ok (.aload_n 0, 1) := by decide +kernel
theorem dX6_stands_200 : decode cX6_stands 200 = .ok (.getfield 28, 3) := by decide +kernel
theorem dX6_stands_203 : decode cX6_stands 203 = .ok (.iload 6, 2) := by decide +kernel
theorem dX6_stands_205 : decode cX6_stands 205 = .ok (.iaload, 1) := by decide +kernel
theorem dX6_stands_206 : decode cX6_stands 206 = .ok (.aload_n 0, 1) := by decide +kernel
theorem dX6_stands_207 : decode cX6_stands 207 = .ok (.getfield 47, 3) := by decide +kernel
theorem dX6_stands_210 : decode cX6_stands 210 = .ok (.iload_n 3, 1) := by decide +kernel
theorem dX6_stands_211 : decode cX6_stands 211 = .ok (.iaload, 1) := by decide +kernel
theorem dX6_stands_212 : decode cX6_stands 212 = .ok (.ishr, 1) := by decide +kernel
theorem dX6_stands_213 : decode cX6_stands 213 = .ok (.iconst 1, 1) := by decide +kernel
theorem dX6_stands_214 : decode cX6_stands 214 = .ok (.iand, 1) := by decide +kernel
theorem dX6_stands_215 : decode cX6_stands 215 = .ok (.ifCond .ne 17, 3) := by decide +kernel
theorem dX6_stands_218 : decode cX6_stands 218 = .ok (.aload_n 0, 1) := by decide +kernel
theorem dX6_stands_219 : decode cX6_stands 219 = .ok (.getfield 31, 3) := by decide +kernel
theorem dX6_stands_222 : decode cX6_stands 222 = .ok (.iload 7, 2) := by decide +kernel
theorem dX6_stands_224 : decode cX6_stands 224 = .ok (.baload, 1) := by decide +kernel
theorem dX6_stands_225 : decode cX6_stands 225 = .ok (.ifCond .ne 7, 3) := by decide +kernel
theorem dX6_stands_228 : decode cX6_stands 228 = .ok (.iconst 1, 1) := by decide +kernel
theorem dX6_stands_229 : decode cX6_stands 229 = .ok (.goto 4, 3) := by decide +kernel
theorem dX6_stands_232 : decode cX6_stands 232 = .ok (.iconst 0, 1) := by decide +kernel
theorem dX6_stands_233 : decode cX6_stands 233 = .ok (.ireturn, 1) := by decide +kernel
theorem dX6_stands_234 : decode cX6_stands 234 = .ok (.iload 8, 2) := by decide +kernel
theorem dX6_stands_236 : decode cX6_stands 236 = .ok (.ifCond .eq 32, 3) := by decide +kernel
theorem dX6_stands_239 : decode cX6_stands 239 = .ok (.iload 4, 2) := by decide +kernel
theorem dX6_stands_241 : decode cX6_stands 241 = .ok (.iconst 3, 1) := by decide +kernel
theorem dX6_stands_242 : decode cX6_stands 242 = .ok (.if_icmp .ne 26, 3) := by decide +kernel
theorem dX6_stands_245 : decode cX6_stands 245 = .ok (.aload_n 0, 1) := by decide +kernel
theorem dX6_stands_246 : decode cX6_stands 246 = .ok (.getfield 28, 3) := by decide +kernel
theorem dX6_stands_249 : decode cX6_stands 249 = .ok (.iload 6, 2) := by decide +kernel
theorem dX6_stands_251 : decode cX6_stands 251 = .ok (.iaload, 1) := by decide +kernel
theorem dX6_stands_252 : decode cX6_stands 252 = .ok (.aload_n 0, 1) := by decide +kernel
theorem dX6_stands_253 : decode cX6_stands 253 = .ok (.getfield 50, 3) := by decide +kernel
theorem dX6_stands_256 : decode cX6_stands 256 = .ok (.iload_n 3, 1) := by decide +kernel
theorem dX6_stands_257 : decode cX6_stands 257 = .ok (.iaload, 1) := by decide +kernel
theorem dX6_stands_258 : decode cX6_stands 258 = .ok (.invokestatic 238, 3) := by decide +kernel
theorem dX6_stands_261 : decode cX6_stands 261 = .ok (.ifCond .eq 7, 3) := by decide +kernel
theorem dX6_stands_264 : decode cX6_stands 264 = .ok (.iconst 1, 1) := by decide +kernel
theorem dX6_stands_265 : decode cX6_stands 265 = .ok (.goto 4, 3) := by decide +kernel
theorem dX6_stands_268 : decode cX6_stands 268 = .ok (.iconst 0, 1) := by decide +kernel
theorem dX6_stands_269 : decode cX6_stands 269 = .ok (.ireturn, 1) := by decide +kernel
theorem dX6_stands_270 : decode cX6_stands 270 = .ok (.iload 8, 2) := by decide +kernel
theorem dX6_stands_272 : decode cX6_stands 272 = .ok (.ifCond .eq 40, 3) := by decide +kernel
theorem dX6_stands_275 : decode cX6_stands 275 = .ok (.iload 4, 2) := by decide +kernel
theorem dX6_stands_277 : decode cX6_stands 277 = .ok (.iconst 4, 1) := by decide +kernel
theorem dX6_stands_278 : decode cX6_stands 278 = .ok (.if_icmp .ne 34, 3) := by decide +kernel
theorem dX6_stands_281 : decode cX6_stands 281 = .ok (.aload_n 0, 1) := by decide +kernel
theorem dX6_stands_282 : decode cX6_stands 282 = .ok (.getfield 28, 3) := by decide +kernel
theorem dX6_stands_285 : decode cX6_stands 285 = .ok (.iload 6, 2) := by decide +kernel
theorem dX6_stands_287 : decode cX6_stands 287 = .ok (.iaload, 1) := by decide +kernel
theorem dX6_stands_288 : decode cX6_stands 288 = .ok (.aload_n 0, 1) := by decide +kernel
theorem dX6_stands_289 : decode cX6_stands 289 = .ok (.getfield 50, 3) := by decide +kernel
theorem dX6_stands_292 : decode cX6_stands 292 = .ok (.iload_n 3, 1) := by decide +kernel
theorem dX6_stands_293 : decode cX6_stands 293 = .ok (.iaload, 1) := by decide +kernel
theorem dX6_stands_294 : decode cX6_stands 294 = .ok (.iand, 1) := by decide +kernel
theorem dX6_stands_295 : decode cX6_stands 295 = .ok (.ifCond .ne 17, 3) := by decide +kernel
theorem dX6_stands_298 : decode cX6_stands 298 = .ok (.aload_n 0, 1) := by decide +kernel
theorem dX6_stands_299 : decode cX6_stands 299 = .ok (.getfield 31, 3) := by decide +kernel
theorem dX6_stands_302 : decode cX6_stands 302 = .ok (.iload 6, 2) := by decide +kernel
theorem dX6_stands_304 : decode cX6_stands 304 = .ok (.baload, 1) := by decide +kernel
theorem dX6_stands_305 : decode cX6_stands 305 = .ok (.ifCond .ne 7, 3) := by decide +kernel
theorem dX6_stands_308 : decode cX6_stands 308 = .ok (.iconst 1, 1) := by decide +kernel
theorem dX6_stands_309 : decode cX6_stands 309 = .ok (.goto 4, 3) := by decide +kernel
theorem dX6_stands_312 : decode cX6_stands 312 = .ok (.iconst 0, 1) := by decide +kernel
theorem dX6_stands_313 : decode cX6_stands 313 = .ok (.ireturn, 1) := by decide +kernel
theorem dX6_stands_314 : decode cX6_stands 314 = .ok (.iload 8, 2) := by decide +kernel
theorem dX6_stands_316 : decode cX6_stands 316 = .ok (.ifCond .eq 42, 3) := by decide +kernel
theorem dX6_stands_319 : decode cX6_stands 319 = .ok (.iload 4, 2) := by decide +kernel
theorem dX6_stands_321 : decode cX6_stands 321 = .ok (.iconst 4, 1) := by decide +kernel
theorem dX6_stands_322 : decode cX6_stands 322 = .ok (.if_icmp .ne 36, 3) := by decide +kernel
theorem dX6_stands_325 : decode cX6_stands 325 = .ok (.aload_n 0, 1) := by decide +kernel
theorem dX6_stands_326 : decode cX6_stands 326 = .ok (.getfield 28, 3) := by decide +kernel
theorem dX6_stands_329 : decode cX6_stands 329 = .ok (.iload 6, 2) := by decide +kernel
theorem dX6_stands_331 : decode cX6_stands 331 = .ok (.iaload, 1) := by decide +kernel
theorem dX6_stands_332 : decode cX6_stands 332 = .ok (.aload_n 0, 1) := by decide +kernel
theorem dX6_stands_333 : decode cX6_stands 333 = .ok (.getfield 50, 3) := by decide +kernel
theorem dX6_stands_336 : decode cX6_stands 336 = .ok (.iload_n 3, 1) := by decide +kernel
theorem dX6_stands_337 : decode cX6_stands 337 = .ok (.iaload, 1) := by decide +kernel
theorem dX6_stands_338 : decode cX6_stands 338 = .ok (.invokestatic 238, 3) := by decide +kernel
theorem dX6_stands_341 : decode cX6_stands 341 = .ok (.ifCond .eq 17, 3) := by decide +kernel
theorem dX6_stands_344 : decode cX6_stands 344 = .ok (.aload_n 0, 1) := by decide +kernel
theorem dX6_stands_345 : decode cX6_stands 345 = .ok (.getfield 31, 3) := by decide +kernel
theorem dX6_stands_348 : decode cX6_stands 348 = .ok (.iload 6, 2) := by decide +kernel
theorem dX6_stands_350 : decode cX6_stands 350 = .ok (.baload, 1) := by decide +kernel
theorem dX6_stands_351 : decode cX6_stands 351 = .ok (.ifCond .ne 7, 3) := by decide +kernel
theorem dX6_stands_354 : decode cX6_stands 354 = .ok (.iconst 1, 1) := by decide +kernel
theorem dX6_stands_355 : decode cX6_stands 355 = .ok (.goto 4, 3) := by decide +kernel
theorem dX6_stands_358 : decode cX6_stands 358 = .ok (.iconst 0, 1) := by decide +kernel
theorem dX6_stands_359 : decode cX6_stands 359 = .ok (.ireturn, 1) := by decide +kernel
theorem dX6_stands_360 : decode cX6_stands 360 = .ok (.iload 8, 2) := by decide +kernel
theorem dX6_stands_362 : decode cX6_stands 362 = .ok (.ifCond .eq 37, 3) := by decide +kernel
theorem dX6_stands_365 : decode cX6_stands 365 = .ok (.iload 4, 2) := by decide +kernel
theorem dX6_stands_367 : decode cX6_stands 367 = .ok (.iconst 5, 1) := by decide +kernel
theorem dX6_stands_368 : decode cX6_stands 368 = .ok (.if_icmp .ne 31, 3) := by decide +kernel
theorem dX6_stands_371 : decode cX6_stands 371 = .ok (.aload_n 0, 1) := by decide +kernel
theorem dX6_stands_372 : decode cX6_stands 372 = .ok (.getfield 31, 3) := by decide +kernel
theorem dX6_stands_375 : decode cX6_stands 375 = .ok (.iload 6, 2) := by decide +kernel
theorem dX6_stands_377 : decode cX6_stands 377 = .ok (.baload, 1) := by decide +kernel
theorem dX6_stands_378 : decode cX6_stands 378 = .ok (.ifCond .eq 17, 3) := by decide +kernel
theorem dX6_stands_381 : decode cX6_stands 381 = .ok (.aload_n 0, 1) := by decide +kernel
theorem dX6_stands_382 : decode cX6_stands 382 = .ok (.getfield 56, 3) := by decide +kernel
theorem dX6_stands_385 : decode cX6_stands 385 = .ok (.aload_n 0, 1) := by decide +kernel
theorem dX6_stands_386 : decode cX6_stands 386 = .ok (.getfield 44, 3) := by decide +kernel
theorem dX6_stands_389 : decode cX6_stands 389 = .ok (.iload_n 3, 1) := by decide +kernel
theorem dX6_stands_390 : decode cX6_stands 390 = .ok (.iaload, 1) := by decide +kernel
theorem dX6_stands_391 : decode cX6_stands 391 = .ok (.baload, 1) := by decide +kernel
theorem dX6_stands_392 : decode cX6_stands 392 = .ok (.ifCond .ne 7, 3) := by decide +kernel
theorem dX6_stands_395 : decode cX6_stands 395 = .ok (.iconst 1, 1) := by decide +kernel
theorem dX6_stands_396 : decode cX6_stands 396 = .ok (.goto 4, 3) := by decide +kernel
theorem dX6_stands_399 : decode cX6_stands 399 = .ok (.iconst 0, 1) := by decide +kernel
theorem dX6_stands_400 : decode cX6_stands 400 = .ok (.ireturn, 1) := by decide +kernel
theorem dX6_stands_401 : decode cX6_stands 401 = .ok (.iload 8, 2) := by decide +kernel
theorem dX6_stands_403 : decode cX6_stands 403 = .ok (.ifCond .eq 45, 3) := by decide +kernel
theorem dX6_stands_406 : decode cX6_stands 406 = .ok (.iload 4, 2) := by decide +kernel
theorem dX6_stands_408 : decode cX6_stands 408 = .ok (.bipush 6, 2) := by decide +kernel
theorem dX6_stands_410 : decode cX6_stands 410 = .ok (.if_icmp .ne 38, 3) := by decide +kernel
theorem dX6_stands_413 : decode cX6_stands 413 = .ok (.aload_n 0, 1) := by decide +kernel
theorem dX6_stands_414 : decode cX6_stands 414 = .ok (.getfield 28, 3) := by decide +kernel
theorem dX6_stands_417 : decode cX6_stands 417 = .ok (.iload 6, 2) := by decide +kernel
theorem dX6_stands_419 : decode cX6_stands 419 = .ok (.iaload, 1) := by decide +kernel
theorem dX6_stands_420 : decode cX6_stands 420 = .ok (.iconst 1, 1) := by decide +kernel
theorem dX6_stands_421 : decode cX6_stands 421 = .ok (.aload_n 0, 1) := by decide +kernel
theorem dX6_stands_422 : decode cX6_stands 422 = .ok (.getfield 47, 3) := by decide +kernel
theorem dX6_stands_425 : decode cX6_stands 425 = .ok (.iload_n 3, 1) := by decide +kernel
theorem dX6_stands_426 : decode cX6_stands 426 = .ok (.iaload, 1) := by decide +kernel
theorem dX6_stands_427 : decode cX6_stands 427 = .ok (.ishl, 1) := by decide +kernel
theorem dX6_stands_428 : decode cX6_stands 428 = .ok (.invokestatic 238, 3) := by decide +kernel
theorem dX6_stands_431 : decode cX6_stands 431 = .ok (.ifCond .eq 17, 3) := by decide +kernel
theorem dX6_stands_434 : decode cX6_stands 434 = .ok (.aload_n 0, 1) := by decide +kernel
theorem dX6_stands_435 : decode cX6_stands 435 = .ok (.getfield 31, 3) := by decide +kernel
theorem dX6_stands_438 : decode cX6_stands 438 = .ok (.iload 6, 2) := by decide +kernel
theorem dX6_stands_440 : decode cX6_stands 440 = .ok (.baload, 1) := by decide +kernel
theorem dX6_stands_441 : decode cX6_stands 441 = .ok (.ifCond .ne 7, 3) := by decide +kernel
theorem dX6_stands_444 : decode cX6_stands 444 = .ok (.iconst 1, 1) := by decide +kernel
theorem dX6_stands_445 : decode cX6_stands 445 = .ok (.goto 4, 3) := by decide +kernel
theorem dX6_stands_448 : decode cX6_stands 448 = .ok (.iconst 0, 1) := by decide +kernel
theorem dX6_stands_449 : decode cX6_stands 449 = .ok (.ireturn, 1) := by decide +kernel
theorem dX6_stands_450 : decode cX6_stands 450 = .ok (.iload 8, 2) := by decide +kernel
theorem dX6_stands_452 : decode cX6_stands 452 = .ok (.ifCond .eq 14, 3) := by decide +kernel
theorem dX6_stands_455 : decode cX6_stands 455 = .ok (.iload 4, 2) := by decide +kernel
theorem dX6_stands_457 : decode cX6_stands 457 = .ok (.bipush 7, 2) := by decide +kernel
theorem dX6_stands_459 : decode cX6_stands 459 = .ok (.if_icmp .ne 7, 3) := by decide +kernel
theorem dX6_stands_462 : decode cX6_stands 462 = .ok (.iconst 1, 1) := by decide +kernel
theorem dX6_stands_463 : decode cX6_stands 463 = .ok (.goto 4, 3) := by decide +kernel
theorem dX6_stands_466 : decode cX6_stands 466 = .ok (.iconst 0, 1) := by decide +kernel
theorem dX6_stands_467 : decode cX6_stands 467 = .ok (.ireturn, 1) := by decide +kernel
theorem dX6_stands_468 : decode cX6_stands 468 = .ok (.iload 8, 2) := by decide +kernel
theorem dX6_stands_470 : decode cX6_stands 470 = .ok (.ifCond .eq 33, 3) := by decide +kernel
theorem dX6_stands_473 : decode cX6_stands 473 = .ok (.iload 4, 2) := by decide +kernel
theorem dX6_stands_475 : decode cX6_stands 475 = .ok (.iconst 1, 1) := by decide +kernel
theorem dX6_stands_476 : decode cX6_stands 476 = .ok (.if_icmp .ne 27, 3) := by decide +kernel
theorem dX6_stands_479 : decode cX6_stands 479 = .ok (.aload_n 0, 1) := by decide +kernel
theorem dX6_stands_480 : decode cX6_stands 480 = .ok (.getfield 31, 3) := by decide +kernel
theorem dX6_stands_483 : decode cX6_stands 483 = .ok (.iload 7, 2) := by decide +kernel
theorem dX6_stands_485 : decode cX6_stands 485 = .ok (.baload, 1) := by decide +kernel
theorem dX6_stands_486 : decode cX6_stands 486 = .ok (.ifCond .eq 13, 3) := by decide +kernel
theorem dX6_stands_489 : decode cX6_stands 489 = .ok (.aload_n 0, 1) := by decide +kernel
theorem dX6_stands_490 : decode cX6_stands 490 = .ok (.getfield 31, 3) := by decide +kernel
theorem dX6_stands_493 : decode cX6_stands 493 = .ok (.iload 6, 2) := by decide +kernel
theorem dX6_stands_495 : decode cX6_stands 495 = .ok (.baload, 1) := by decide +kernel
theorem dX6_stands_496 : decode cX6_stands 496 = .ok (.ifCond .ne 7, 3) := by decide +kernel
theorem dX6_stands_499 : decode cX6_stands 499 = .ok (.iconst 1, 1) := by decide +kernel
theorem dX6_stands_500 : decode cX6_stands 500 = .ok (.goto 4, 3) := by decide +kernel
theorem dX6_stands_503 : decode cX6_stands 503 = .ok (.iconst 0, 1) := by decide +kernel
theorem dX6_stands_504 : decode cX6_stands 504 = .ok (.ireturn, 1) := by decide +kernel
theorem dX6_stands_505 : decode cX6_stands 505 = .ok (.aload_n 0, 1) := by decide +kernel
theorem dX6_stands_506 : decode cX6_stands 506 = .ok (.getfield 38, 3) := by decide +kernel
theorem dX6_stands_509 : decode cX6_stands 509 = .ok (.iload_n 1, 1) := by decide +kernel
theorem dX6_stands_510 : decode cX6_stands 510 = .ok (.iaload, 1) := by decide +kernel
theorem dX6_stands_511 : decode cX6_stands 511 = .ok (.iconst 2, 1) := by decide +kernel
theorem dX6_stands_512 : decode cX6_stands 512 = .ok (.if_icmp .ne 57, 3) := by decide +kernel
theorem dX6_stands_515 : decode cX6_stands 515 = .ok (.iload 4, 2) := by decide +kernel
theorem dX6_stands_517 : decode cX6_stands 517 = .ok (.iconst 2, 1) := by decide +kernel
theorem dX6_stands_518 : decode cX6_stands 518 = .ok (.if_icmp .ne 51, 3) := by decide +kernel
theorem dX6_stands_521 : decode cX6_stands 521 = .ok (.aload_n 0, 1) := by decide +kernel
theorem dX6_stands_522 : decode cX6_stands 522 = .ok (.getfield 47, 3) := by decide +kernel
theorem dX6_stands_525 : decode cX6_stands 525 = .ok (.iload_n 1, 1) := by decide +kernel
theorem dX6_stands_526 : decode cX6_stands 526 = .ok (.iaload, 1) := by decide +kernel
theorem dX6_stands_527 : decode cX6_stands 527 = .ok (.aload_n 0, 1) := by decide +kernel
theorem dX6_stands_528 : decode cX6_stands 528 = .ok (.getfield 47, 3) := by decide +kernel
theorem dX6_stands_531 : decode cX6_stands 531 = .ok (.iload_n 3, 1) := by decide +kernel
theorem dX6_stands_532 : decode cX6_stands 532 = .ok (.iaload, 1) := by decide +kernel
theorem dX6_stands_533 : decode cX6_stands 533 = .ok (.if_icmp .ne 36, 3) := by decide +kernel
theorem dX6_stands_536 : decode cX6_stands 536 = .ok (.aload_n 0, 1) := by decide +kernel
theorem dX6_stands_537 : decode cX6_stands 537 = .ok (.getfield 28, 3) := by decide +kernel
theorem dX6_stands_540 : decode cX6_stands 540 = .ok (.iload 6, 2) := by decide +kernel
theorem dX6_stands_542 : decode cX6_stands 542 = .ok (.iaload, 1) := by decide +kernel
theorem dX6_stands_543 : decode cX6_stands 543 = .ok (.aload_n 0, 1) := by decide +kernel
theorem dX6_stands_544 : decode cX6_stands 544 = .ok (.getfield 47, 3) := by decide +kernel
theorem dX6_stands_547 : decode cX6_stands 547 = .ok (.iload_n 1, 1) := by decide +kernel
theorem dX6_stands_548 : decode cX6_stands 548 = .ok (.iaload, 1) := by decide +kernel
theorem dX6_stands_549 : decode cX6_stands 549 = .ok (.ishr, 1) := by decide +kernel
theorem dX6_stands_550 : decode cX6_stands 550 = .ok (.iconst 1, 1) := by decide +kernel
theorem dX6_stands_551 : decode cX6_stands 551 = .ok (.iand, 1) := by decide +kernel
theorem dX6_stands_552 : decode cX6_stands 552 = .ok (.ifCond .ne 17, 3) := by decide +kernel
theorem dX6_stands_555 : decode cX6_stands 555 = .ok (.aload_n 0, 1) := by decide +kernel
theorem dX6_stands_556 : decode cX6_stands 556 = .ok (.getfield 31, 3) := by decide +kernel
theorem dX6_stands_559 : decode cX6_stands 559 = .ok (.iload 7, 2) := by decide +kernel
theorem dX6_stands_561 : decode cX6_stands 561 = .ok (.baload, 1) := by decide +kernel
theorem dX6_stands_562 : decode cX6_stands 562 = .ok (.ifCond .ne 7, 3) := by decide +kernel
theorem dX6_stands_565 : decode cX6_stands 565 = .ok (.iconst 1, 1) := by decide +kernel
theorem dX6_stands_566 : decode cX6_stands 566 = .ok (.goto 4, 3) := by decide +kernel
theorem dX6_stands_569 : decode cX6_stands 569 = .ok (.iconst 0, 1) := by decide +kernel
theorem dX6_stands_570 : decode cX6_stands 570 = .ok (.ireturn, 1) := by decide +kernel
theorem dX6_stands_571 : decode cX6_stands 571 = .ok (.aload_n 0, 1) := by decide +kernel
theorem dX6_stands_572 : decode cX6_stands 572 = .ok (.getfield 38, 3) := by decide +kernel
theorem dX6_stands_575 : decode cX6_stands 575 = .ok (.iload_n 1, 1) := by decide +kernel
theorem dX6_stands_576 : decode cX6_stands 576 = .ok (.iaload, 1) := by decide +kernel
theorem dX6_stands_577 : decode cX6_stands 577 = .ok (.iconst 3, 1) := by decide +kernel
theorem dX6_stands_578 : decode cX6_stands 578 = .ok (.if_icmp .ne 13, 3) := by decide +kernel
theorem dX6_stands_581 : decode cX6_stands 581 = .ok (.iload 4, 2) := by decide +kernel
theorem dX6_stands_583 : decode cX6_stands 583 = .ok (.iconst 3, 1) := by decide +kernel
theorem dX6_stands_584 : decode cX6_stands 584 = .ok (.if_icmp .ne 7, 3) := by decide +kernel
theorem dX6_stands_587 : decode cX6_stands 587 = .ok (.iconst 1, 1) := by decide +kernel
theorem dX6_stands_588 : decode cX6_stands 588 = .ok (.goto 4, 3) := by decide +kernel
theorem dX6_stands_591 : decode cX6_stands 591 = .ok (.iconst 0, 1) := by decide +kernel
theorem dX6_stands_592 : decode cX6_stands 592 = .ok (.ireturn, 1) := by decide +kernel
theorem dX6_stands_593 : decode cX6_stands 593 = .ok (.aload_n 0, 1) := by decide +kernel
theorem dX6_stands_594 : decode cX6_stands 594 = .ok (.getfield 38, 3) := by decide +kernel
theorem dX6_stands_597 : decode cX6_stands 597 = .ok (.iload_n 1, 1) := by decide +kernel
theorem dX6_stands_598 : decode cX6_stands 598 = .ok (.iaload, 1) := by decide +kernel
theorem dX6_stands_599 : decode cX6_stands 599 = .ok (.iconst 3, 1) := by decide +kernel
theorem dX6_stands_600 : decode cX6_stands 600 = .ok (.if_icmp .ne 37, 3) := by decide +kernel
theorem dX6_stands_603 : decode cX6_stands 603 = .ok (.iload 4, 2) := by decide +kernel
theorem dX6_stands_605 : decode cX6_stands 605 = .ok (.iconst 2, 1) := by decide +kernel
theorem dX6_stands_606 : decode cX6_stands 606 = .ok (.if_icmp .ne 31, 3) := by decide +kernel
theorem dX6_stands_609 : decode cX6_stands 609 = .ok (.iload 5, 2) := by decide +kernel
theorem dX6_stands_611 : decode cX6_stands 611 = .ok (.aload_n 0, 1) := by decide +kernel
theorem dX6_stands_612 : decode cX6_stands 612 = .ok (.getfield 47, 3) := by decide +kernel
theorem dX6_stands_615 : decode cX6_stands 615 = .ok (.iload_n 3, 1) := by decide +kernel
theorem dX6_stands_616 : decode cX6_stands 616 = .ok (.iaload, 1) := by decide +kernel
theorem dX6_stands_617 : decode cX6_stands 617 = .ok (.ishr, 1) := by decide +kernel
theorem dX6_stands_618 : decode cX6_stands 618 = .ok (.iconst 1, 1) := by decide +kernel
theorem dX6_stands_619 : decode cX6_stands 619 = .ok (.iand, 1) := by decide +kernel
theorem dX6_stands_620 : decode cX6_stands 620 = .ok (.ifCond .ne 17, 3) := by decide +kernel
theorem dX6_stands_623 : decode cX6_stands 623 = .ok (.aload_n 0, 1) := by decide +kernel
theorem dX6_stands_624 : decode cX6_stands 624 = .ok (.getfield 31, 3) := by decide +kernel
theorem dX6_stands_627 : decode cX6_stands 627 = .ok (.iload 7, 2) := by decide +kernel
theorem dX6_stands_629 : decode cX6_stands 629 = .ok (.baload, 1) := by decide +kernel
theorem dX6_stands_630 : decode cX6_stands 630 = .ok (.ifCond .ne 7, 3) := by decide +kernel
theorem dX6_stands_633 : decode cX6_stands 633 = .ok (.iconst 1, 1) := by decide +kernel
theorem dX6_stands_634 : decode cX6_stands 634 = .ok (.goto 4, 3) := by decide +kernel
theorem dX6_stands_637 : decode cX6_stands 637 = .ok (.iconst 0, 1) := by decide +kernel
theorem dX6_stands_638 : decode cX6_stands 638 = .ok (.ireturn, 1) := by decide +kernel
theorem dX6_stands_639 : decode cX6_stands 639 = .ok (.aload_n 0, 1) := by decide +kernel
theorem dX6_stands_640 : decode cX6_stands 640 = .ok (.getfield 38, 3) := by decide +kernel
theorem dX6_stands_643 : decode cX6_stands 643 = .ok (.iload_n 1, 1) := by decide +kernel
theorem dX6_stands_644 : decode cX6_stands 644 = .ok (.iaload, 1) := by decide +kernel
theorem dX6_stands_645 : decode cX6_stands 645 = .ok (.iconst 3, 1) := by decide +kernel
theorem dX6_stands_646 : decode cX6_stands 646 = .ok (.if_icmp .ne 13, 3) := by decide +kernel
theorem dX6_stands_649 : decode cX6_stands 649 = .ok (.iload 4, 2) := by decide +kernel
theorem dX6_stands_651 : decode cX6_stands 651 = .ok (.iconst 5, 1) := by decide +kernel
theorem dX6_stands_652 : decode cX6_stands 652 = .ok (.if_icmp .ne 7, 3) := by decide +kernel
theorem dX6_stands_655 : decode cX6_stands 655 = .ok (.iconst 1, 1) := by decide +kernel
theorem dX6_stands_656 : decode cX6_stands 656 = .ok (.goto 4, 3) := by decide +kernel
theorem dX6_stands_659 : decode cX6_stands 659 = .ok (.iconst 0, 1) := by decide +kernel
theorem dX6_stands_660 : decode cX6_stands 660 = .ok (.ireturn, 1) := by decide +kernel
theorem dX6_stands_661 : decode cX6_stands 661 = .ok (.aload_n 0, 1) := by decide +kernel
theorem dX6_stands_662 : decode cX6_stands 662 = .ok (.getfield 38, 3) := by decide +kernel
theorem dX6_stands_665 : decode cX6_stands 665 = .ok (.iload_n 1, 1) := by decide +kernel
theorem dX6_stands_666 : decode cX6_stands 666 = .ok (.iaload, 1) := by decide +kernel
theorem dX6_stands_667 : decode cX6_stands 667 = .ok (.bipush 6, 2) := by decide +kernel
theorem dX6_stands_669 : decode cX6_stands 669 = .ok (.if_icmp .ne 55, 3) := by decide +kernel
theorem dX6_stands_672 : decode cX6_stands 672 = .ok (.iload 4, 2) := by decide +kernel
theorem dX6_stands_674 : decode cX6_stands 674 = .ok (.iconst 5, 1) := by decide +kernel
theorem dX6_stands_675 : decode cX6_stands 675 = .ok (.if_icmp .ne 49, 3) := by decide +kernel
theorem dX6_stands_678 : decode cX6_stands 678 = .ok (.aload_n 0, 1) := by decide +kernel
theorem dX6_stands_679 : decode cX6_stands 679 = .ok (.aload_n 0, 1) := by decide +kernel
theorem dX6_stands_680 : decode cX6_stands 680 = .ok (.getfield 41, 3) := by decide +kernel
theorem dX6_stands_683 : decode cX6_stands 683 = .ok (.iload_n 3, 1) := by decide +kernel
theorem dX6_stands_684 : decode cX6_stands 684 = .ok (.iaload, 1) := by decide +kernel
theorem dX6_stands_685 : decode cX6_stands 685 = .ok (.aload_n 0, 1) := by decide +kernel
theorem dX6_stands_686 : decode cX6_stands 686 = .ok (.getfield 47, 3) := by decide +kernel
theorem dX6_stands_689 : decode cX6_stands 689 = .ok (.iload_n 1, 1) := by decide +kernel
theorem dX6_stands_690 : decode cX6_stands 690 = .ok (.iaload, 1) := by decide +kernel
theorem dX6_stands_691 : decode cX6_stands 691 = .ok (.iload 5, 2) := by decide +kernel
theorem dX6_stands_693 : decode cX6_stands 693 = .ok (.invokevirtual 241, 3) := by decide +kernel
theorem dX6_stands_696 : decode cX6_stands 696 = .ok (.ifCond .eq 24, 3) := by decide +kernel
theorem dX6_stands_699 : decode cX6_stands 699 = .ok (.aload_n 0, 1) := by decide +kernel
theorem dX6_stands_700 : decode cX6_stands 700 = .ok (.aload_n 0, 1) := by decide +kernel
theorem dX6_stands_701 : decode cX6_stands 701 = .ok (.getfield 44, 3) := by decide +kernel
theorem dX6_stands_704 : decode cX6_stands 704 = .ok (.iload_n 3, 1) := by decide +kernel
theorem dX6_stands_705 : decode cX6_stands 705 = .ok (.iaload, 1) := by decide +kernel
theorem dX6_stands_706 : decode cX6_stands 706 = .ok (.aload_n 0, 1) := by decide +kernel
theorem dX6_stands_707 : decode cX6_stands 707 = .ok (.getfield 47, 3) := by decide +kernel
theorem dX6_stands_710 : decode cX6_stands 710 = .ok (.iload_n 1, 1) := by decide +kernel
theorem dX6_stands_711 : decode cX6_stands 711 = .ok (.iaload, 1) := by decide +kernel
theorem dX6_stands_712 : decode cX6_stands 712 = .ok (.iload 5, 2) := by decide +kernel
theorem dX6_stands_714 : decode cX6_stands 714 = .ok (.invokevirtual 241, 3) := by decide +kernel
theorem dX6_stands_717 : decode cX6_stands 717 = .ok (.ifCond .ne 7, 3) := by decide +kernel
theorem dX6_stands_720 : decode cX6_stands 720 = .ok (.iconst 1, 1) := by decide +kernel
theorem dX6_stands_721 : decode cX6_stands 721 = .ok (.goto 4, 3) := by decide +kernel
theorem dX6_stands_724 : decode cX6_stands 724 = .ok (.iconst 0, 1) := by decide +kernel
theorem dX6_stands_725 : decode cX6_stands 725 = .ok (.ireturn, 1) := by decide +kernel
theorem dX6_stands_726 : decode cX6_stands 726 = .ok (.aload_n 0, 1) := by decide +kernel
theorem dX6_stands_727 : decode cX6_stands 727 = .ok (.getfield 38, 3) := by decide +kernel
theorem dX6_stands_730 : decode cX6_stands 730 = .ok (.iload_n 1, 1) := by decide +kernel
theorem dX6_stands_731 : decode cX6_stands 731 = .ok (.iaload, 1) := by decide +kernel
theorem dX6_stands_732 : decode cX6_stands 732 = .ok (.bipush 6, 2) := by decide +kernel
theorem dX6_stands_734 : decode cX6_stands 734 = .ok (.if_icmp .ne 38, 3) := by decide +kernel
theorem dX6_stands_737 : decode cX6_stands 737 = .ok (.iload 4, 2) := by decide +kernel
theorem dX6_stands_739 : decode cX6_stands 739 = .ok (.iconst 3, 1) := by decide +kernel
theorem dX6_stands_740 : decode cX6_stands 740 = .ok (.if_icmp .ne 32, 3) := by decide +kernel
theorem dX6_stands_743 : decode cX6_stands 743 = .ok (.iconst 1, 1) := by decide +kernel
theorem dX6_stands_744 : decode cX6_stands 744 = .ok (.aload_n 0, 1) := by decide +kernel
theorem dX6_stands_745 : decode cX6_stands 745 = .ok (.getfield 47, 3) := by decide +kernel
theorem dX6_stands_748 : decode cX6_stands 748 = .ok (.iload_n 1, 1) := by decide +kernel
theorem dX6_stands_749 : decode cX6_stands 749 = .ok (.iaload, 1) := by decide +kernel
theorem dX6_stands_750 : decode cX6_stands 750 = .ok (.ishl, 1) := by decide +kernel
theorem dX6_stands_751 : decode cX6_stands 751 = .ok (.iconst 1, 1) := by decide +kernel
theorem dX6_stands_752 : decode cX6_stands 752 = .ok (.iload 5, 2) := by decide +kernel
theorem dX6_stands_754 : decode cX6_stands 754 = .ok (.ishl, 1) := by decide +kernel
theorem dX6_stands_755 : decode cX6_stands 755 = .ok (.ior, 1) := by decide +kernel
theorem dX6_stands_756 : decode cX6_stands 756 = .ok (.aload_n 0, 1) := by decide +kernel
theorem dX6_stands_757 : decode cX6_stands 757 = .ok (.getfield 50, 3) := by decide +kernel
theorem dX6_stands_760 : decode cX6_stands 760 = .ok (.iload_n 3, 1) := by decide +kernel
theorem dX6_stands_761 : decode cX6_stands 761 = .ok (.iaload, 1) := by decide +kernel
theorem dX6_stands_762 : decode cX6_stands 762 = .ok (.invokestatic 238, 3) := by decide +kernel
theorem dX6_stands_765 : decode cX6_stands 765 = .ok (.ifCond .eq 7, 3) := by decide +kernel
theorem dX6_stands_768 : decode cX6_stands 768 = .ok (.iconst 1, 1) := by decide +kernel
theorem dX6_stands_769 : decode cX6_stands 769 = .ok (.goto 4, 3) := by decide +kernel
theorem dX6_stands_772 : decode cX6_stands 772 = .ok (.iconst 0, 1) := by decide +kernel
theorem dX6_stands_773 : decode cX6_stands 773 = .ok (.ireturn, 1) := by decide +kernel
theorem dX6_stands_774 : decode cX6_stands 774 = .ok (.aload_n 0, 1) := by decide +kernel
theorem dX6_stands_775 : decode cX6_stands 775 = .ok (.getfield 38, 3) := by decide +kernel
theorem dX6_stands_778 : decode cX6_stands 778 = .ok (.iload_n 1, 1) := by decide +kernel
theorem dX6_stands_779 : decode cX6_stands 779 = .ok (.iaload, 1) := by decide +kernel
theorem dX6_stands_780 : decode cX6_stands 780 = .ok (.bipush 7, 2) := by decide +kernel
theorem dX6_stands_782 : decode cX6_stands 782 = .ok (.if_icmp .ne 14, 3) := by decide +kernel
theorem dX6_stands_785 : decode cX6_stands 785 = .ok (.iload 4, 2) := by decide +kernel
theorem dX6_stands_787 : decode cX6_stands 787 = .ok (.bipush 7, 2) := by decide +kernel
theorem dX6_stands_789 : decode cX6_stands 789 = .ok (.if_icmp .ne 7, 3) := by decide +kernel
theorem dX6_stands_792 : decode cX6_stands 792 = .ok (.iconst 1, 1) := by decide +kernel
theorem dX6_stands_793 : decode cX6_stands 793 = .ok (.goto 4, 3) := by decide +kernel
theorem dX6_stands_796 : decode cX6_stands 796 = .ok (.iconst 0, 1) := by decide +kernel
theorem dX6_stands_797 : decode cX6_stands 797 = .ok (.ireturn, 1) := by decide +kernel
theorem dX6_stands_798 : decode cX6_stands 798 = .ok (.aload_n 0, 1) := by decide +kernel
theorem dX6_stands_799 : decode cX6_stands 799 = .ok (.getfield 38, 3) := by decide +kernel
theorem dX6_stands_802 : decode cX6_stands 802 = .ok (.iload_n 1, 1) := by decide +kernel
theorem dX6_stands_803 : decode cX6_stands 803 = .ok (.iaload, 1) := by decide +kernel
theorem dX6_stands_804 : decode cX6_stands 804 = .ok (.bipush 8, 2) := by decide +kernel
theorem dX6_stands_806 : decode cX6_stands 806 = .ok (.if_icmp .ne 14, 3) := by decide +kernel
theorem dX6_stands_809 : decode cX6_stands 809 = .ok (.iload 4, 2) := by decide +kernel
theorem dX6_stands_811 : decode cX6_stands 811 = .ok (.bipush 8, 2) := by decide +kernel
theorem dX6_stands_813 : decode cX6_stands 813 = .ok (.if_icmp .ne 7, 3) := by decide +kernel
theorem dX6_stands_816 : decode cX6_stands 816 = .ok (.iconst 1, 1) := by decide +kernel
theorem dX6_stands_817 : decode cX6_stands 817 = .ok (.goto 4, 3) := by decide +kernel
theorem dX6_stands_820 : decode cX6_stands 820 = .ok (.iconst 0, 1) := by decide +kernel
theorem dX6_stands_821 : decode cX6_stands 821 = .ok (.ireturn, 1) := by decide +kernel
theorem dX6_stands_822 : decode cX6_stands 822 = .ok (.aload_n 0, 1) := by decide +kernel
theorem dX6_stands_823 : decode cX6_stands 823 = .ok (.getfield 38, 3) := by decide +kernel
theorem dX6_stands_826 : decode cX6_stands 826 = .ok (.iload_n 1, 1) := by decide +kernel
theorem dX6_stands_827 : decode cX6_stands 827 = .ok (.iaload, 1) := by decide +kernel
theorem dX6_stands_828 : decode cX6_stands 828 = .ok (.bipush 7, 2) := by decide +kernel
theorem dX6_stands_830 : decode cX6_stands 830 = .ok (.if_icmp .ne 45, 3) := by decide +kernel
theorem dX6_stands_833 : decode cX6_stands 833 = .ok (.iload 4, 2) := by decide +kernel
theorem dX6_stands_835 : decode cX6_stands 835 = .ok (.iconst 5, 1) := by decide +kernel
theorem dX6_stands_836 : decode cX6_stands 836 = .ok (.if_icmp .ne 39, 3) := by decide +kernel
theorem dX6_stands_839 : decode cX6_stands 839 = .ok (.aload_n 0, 1) := by decide +kernel
theorem dX6_stands_840 : decode cX6_stands 840 = .ok (.getfield 38, 3) := by decide +kernel
theorem dX6_stands_843 : decode cX6_stands 843 = .ok (.aload_n 0, 1) := by decide +kernel
theorem dX6_stands_844 : decode cX6_stands 844 = .ok (.getfield 41, 3) := by decide +kernel
theorem dX6_stands_847 : decode cX6_stands 847 = .ok (.iload_n 3, 1) := by decide +kernel
theorem dX6_stands_848 : decode cX6_stands 848 = .ok (.iaload, 1) := by decide +kernel
theorem dX6_stands_849 : decode cX6_stands 849 = .ok (.iaload, 1) := by decide +kernel
theorem dX6_stands_850 : decode cX6_stands 850 = .ok (.bipush 7, 2) := by decide +kernel
theorem dX6_stands_852 : decode cX6_stands 852 = .ok (.if_icmp .ne 19, 3) := by decide +kernel
theorem dX6_stands_855 : decode cX6_stands 855 = .ok (.aload_n 0, 1) := by decide +kernel
theorem dX6_stands_856 : decode cX6_stands 856 = .ok (.getfield 38, 3) := by decide +kernel
theorem dX6_stands_859 : decode cX6_stands 859 = .ok (.aload_n 0, 1) := by decide +kernel
theorem dX6_stands_860 : decode cX6_stands 860 = .ok (.getfield 44, 3) := by decide +kernel
theorem dX6_stands_863 : decode cX6_stands 863 = .ok (.iload_n 3, 1) := by decide +kernel
theorem dX6_stands_864 : decode cX6_stands 864 = .ok (.iaload, 1) := by decide +kernel
theorem dX6_stands_865 : decode cX6_stands 865 = .ok (.iaload, 1) := by decide +kernel
theorem dX6_stands_866 : decode cX6_stands 866 = .ok (.bipush 7, 2) := by decide +kernel
theorem dX6_stands_868 : decode cX6_stands 868 = .ok (.if_icmp .eq 7, 3) := by decide +kernel
theorem dX6_stands_871 : decode cX6_stands 871 = .ok (.iconst 1, 1) := by decide +kernel
theorem dX6_stands_872 : decode cX6_stands 872 = .ok (.goto 4, 3) := by decide +kernel
theorem dX6_stands_875 : decode cX6_stands 875 = .ok (.iconst 0, 1) := by decide +kernel
theorem dX6_stands_876 : decode cX6_stands 876 = .ok (.ireturn, 1) := by decide +kernel
theorem dX6_stands_877 : decode cX6_stands 877 = .ok (.aload_n 0, 1) := by decide +kernel
theorem dX6_stands_878 : decode cX6_stands 878 = .ok (.getfield 38, 3) := by decide +kernel
theorem dX6_stands_881 : decode cX6_stands 881 = .ok (.iload_n 1, 1) := by decide +kernel
theorem dX6_stands_882 : decode cX6_stands 882 = .ok (.iaload, 1) := by decide +kernel
theorem dX6_stands_883 : decode cX6_stands 883 = .ok (.bipush 8, 2) := by decide +kernel
theorem dX6_stands_885 : decode cX6_stands 885 = .ok (.if_icmp .ne 23, 3) := by decide +kernel
theorem dX6_stands_888 : decode cX6_stands 888 = .ok (.iload 4, 2) := by decide +kernel
theorem dX6_stands_890 : decode cX6_stands 890 = .ok (.iconst 2, 1) := by decide +kernel
theorem dX6_stands_891 : decode cX6_stands 891 = .ok (.if_icmp .ne 17, 3) := by decide +kernel
theorem dX6_stands_894 : decode cX6_stands 894 = .ok (.aload_n 0, 1) := by decide +kernel
theorem dX6_stands_895 : decode cX6_stands 895 = .ok (.getfield 31, 3) := by decide +kernel
theorem dX6_stands_898 : decode cX6_stands 898 = .ok (.iload 7, 2) := by decide +kernel
theorem dX6_stands_900 : decode cX6_stands 900 = .ok (.baload, 1) := by decide +kernel
theorem dX6_stands_901 : decode cX6_stands 901 = .ok (.ifCond .ne 7, 3) := by decide +kernel
theorem dX6_stands_904 : decode cX6_stands 904 = .ok (.iconst 1, 1) := by decide +kernel
theorem dX6_stands_905 : decode cX6_stands 905 = .ok (.goto 4, 3) := by decide +kernel
theorem dX6_stands_908 : decode cX6_stands 908 = .ok (.iconst 0, 1) := by decide +kernel
theorem dX6_stands_909 : decode cX6_stands 909 = .ok (.ireturn, 1) := by decide +kernel
theorem dX6_fits_0 : decode cX6_fits 0 = .ok (.aload_n 0, 1) := by decide +kernel
theorem dX6_fits_1 : decode cX6_fits 1 = .ok (.iload_n 1, 1) := by decide +kernel
theorem dX6_fits_2 : decode cX6_fits 2 = .ok (.invokevirtual 148, 3) := by decide +kernel
theorem dX6_fits_5 : decode cX6_fits 5 = .ok (.ifCond .eq 15, 3) := by decide +kernel
theorem dX6_fits_8 : decode cX6_fits 8 = .ok (.iload_n 2, 1) := by decide +kernel
theorem dX6_fits_9 : decode cX6_fits 9 = .ok (.i2l, 1) := by decide +kernel
theorem dX6_fits_10 : decode cX6_fits 10 = .ok (.lconst 0, 1) := by decide +kernel
theorem dX6_fits_11 : decode cX6_fits 11 = .ok (.ldc2_w 244, 3) := by decide +kernel
theorem dX6_fits_14 : decode cX6_fits 14 = .ok (.invokestatic 90, 3) := by decide +kernel
theorem dX6_fits_17 : decode cX6_fits 17 = .ok (.ifCond .ne 5, 3) := by decide +kernel
theorem dX6_fits_20 : decode cX6_fits 20 = .ok (.iconst (-1), 1) := by decide +kernel
theorem dX6_fits_21 : decode cX6_fits 21 = .ok (.ireturn, 1) := by decide +kernel
theorem dX6_fits_22 : decode cX6_fits 22 = .ok (.aload_n 0, 1) := by decide +kernel
theorem dX6_fits_23 : decode cX6_fits 23 = .ok (.invokevirtual 159, 3) := by decide +kernel
theorem dX6_fits_26 : decode cX6_fits 26 = .ok (.aload_n 0, 1) := by decide +kernel
theorem dX6_fits_27 : decode cX6_fits 27 = .ok (.iload_n 1, 1) := by decide +kernel
theorem dX6_fits_28 : decode cX6_fits 28 = .ok (.iload_n 2, 1) := by decide +kernel
theorem dX6_fits_29 : decode cX6_fits 29 = .ok (.invokevirtual 246, 3) := by decide +kernel
theorem dX6_fits_32 : decode cX6_fits 32 = .ok (.ifCond .eq 7, 3) := by decide +kernel
theorem dX6_fits_35 : decode cX6_fits 35 = .ok (.iconst 1, 1) := by decide +kernel
theorem dX6_fits_36 : decode cX6_fits 36 = .ok (.goto 4, 3) := by decide +kernel
theorem dX6_fits_39 : decode cX6_fits 39 = .ok (.iconst 0, 1) := by decide +kernel
theorem dX6_fits_40 : decode cX6_fits 40 = .ok (.ireturn, 1) := by decide +kernel
theorem dX6_news_0 : decode cX6_news 0 = .ok (.iload_n 0, 1) := by decide +kernel
theorem dX6_news_1 : decode cX6_news 1 = .ok (.iconst 4, 1) := by decide +kernel
theorem dX6_news_2 : decode cX6_news 2 = .ok (.if_icmp .eq 9, 3) := by decide +kernel
theorem dX6_news_5 : decode cX6_news 5 = .ok (.iload_n 0, 1) := by decide +kernel
theorem dX6_news_6 : decode cX6_news 6 = .ok (.bipush 11, 2) := by decide +kernel
theorem dX6_news_8 : decode cX6_news 8 = .ok (.if_icmp .ne 7, 3) := by decide +kernel
theorem dX6_news_11 : decode cX6_news 11 = .ok (.iconst 2, 1) := by decide +kernel
theorem dX6_news_12 : decode cX6_news 12 = .ok (.goto 52, 3) := by decide +kernel
theorem dX6_news_15 : decode cX6_news 15 = .ok (.iload_n 0, 1) := by decide +kernel
theorem dX6_news_16 : decode cX6_news 16 = .ok (.bipush 12, 2) := by decide +kernel
theorem dX6_news_18 : decode cX6_news 18 = .ok (.if_icmp .eq 9, 3) := by decide +kernel
theorem dX6_news_21 : decode cX6_news 21 = .ok (.iload_n 0, 1) := by decide +kernel
theorem dX6_news_22 : decode cX6_news 22 = .ok (.bipush 16, 2) := by decide +kernel
theorem dX6_news_24 : decode cX6_news 24 = .ok (.if_icmp .ne 7, 3) := by decide +kernel
theorem dX6_news_27 : decode cX6_news 27 = .ok (.iconst 3, 1) := by decide +kernel
theorem dX6_news_28 : decode cX6_news 28 = .ok (.goto 36, 3) := by decide +kernel
theorem dX6_news_31 : decode cX6_news 31 = .ok (.iload_n 0, 1) := by decide +kernel
theorem dX6_news_32 : decode cX6_news 32 = .ok (.i2l, 1) := by decide +kernel
theorem dX6_news_33 : decode cX6_news 33 = .ok (.ldc2_w 94, 3) := by decide +kernel
theorem dX6_news_36 : decode cX6_news 36 = .ok (.ldc2_w 249, 3) := by decide +kernel
theorem dX6_news_39 : decode cX6_news 39 = .ok (.invokestatic 90, 3) := by decide +kernel
theorem dX6_news_42 : decode cX6_news 42 = .ok (.ifCond .ne 17, 3) := by decide +kernel
theorem dX6_news_45 : decode cX6_news 45 = .ok (.iload_n 0, 1) := by decide +kernel
theorem dX6_news_46 : decode cX6_news 46 = .ok (.i2l, 1) := by decide +kernel
theorem dX6_news_47 : decode cX6_news 47 = .ok (.ldc2_w 251, 3) := by decide +kernel
theorem dX6_news_50 : decode cX6_news 50 = .ok (.ldc2_w 253, 3) := by decide +kernel
theorem dX6_news_53 : decode cX6_news 53 = .ok (.invokestatic 90, 3) := by decide +kernel
theorem dX6_news_56 : decode cX6_news 56 = .ok (.ifCond .eq 7, 3) := by decide +kernel
theorem dX6_news_59 : decode cX6_news 59 = .ok (.iconst 0, 1) := by decide +kernel
theorem dX6_news_60 : decode cX6_news 60 = .ok (.goto 4, 3) := by decide +kernel
theorem dX6_news_63 : decode cX6_news 63 = .ok (.iconst 1, 1) := by decide +kernel
theorem dX6_news_64 : decode cX6_news 64 = .ok (.ireturn, 1) := by decide +kernel
theorem dX6_hasRoom_0 : decode cX6_hasRoom 0 = .ok (.aload_n 0, 1) := by decide +kernel
theorem dX6_hasRoom_1 : decode cX6_hasRoom 1 = .ok (.getfield 120, 3) := by decide +kernel
theorem dX6_hasRoom_4 : decode cX6_hasRoom 4 = .ok (.iload_n 2, 1) := by decide +kernel
theorem dX6_hasRoom_5 : decode cX6_hasRoom 5 = .ok (.invokestatic 255, 3) := by decide +kernel
theorem dX6_hasRoom_8 : decode cX6_hasRoom 8 = .ok (.iadd, 1) := by decide +kernel
theorem dX6_hasRoom_9 : decode cX6_hasRoom 9 = .ok (.bipush 60, 2) := by decide +kernel
theorem dX6_hasRoom_11 : decode cX6_hasRoom 11 = .ok (.if_icmp .gt 7, 3) := by decide +kernel
theorem dX6_hasRoom_14 : decode cX6_hasRoom 14 = .ok (.iconst 1, 1) := by decide +kernel
theorem dX6_hasRoom_15 : decode cX6_hasRoom 15 = .ok (.goto 4, 3) := by decide +kernel
theorem dX6_hasRoom_18 : decode cX6_hasRoom 18 = .ok (.iconst 0, 1) := by decide +kernel
theorem dX6_hasRoom_19 : decode cX6_hasRoom 19 = .ok (.istore_n 3, 1) := by decide +kernel
theorem dX6_hasRoom_20 : decode cX6_hasRoom 20 = .ok (.iload_n 2, 1) := by decide +kernel
theorem dX6_hasRoom_21 : decode cX6_hasRoom 21 = .ok (.bipush 7, 2) := by decide +kernel
theorem dX6_hasRoom_23 : decode cX6_hasRoom 23 = .ok (.if_icmp .ne 48, 3) := by decide +kernel
theorem dX6_hasRoom_26 : decode cX6_hasRoom 26 = .ok (.aload_n 0, 1) := by decide +kernel
theorem dX6_hasRoom_27 : decode cX6_hasRoom 27 = .ok (.getfield 96, 3) := by decide +kernel
theorem dX6_hasRoom_30 : decode cX6_hasRoom 30 = .ok (.bipush 40, 2) := by decide +kernel
theorem dX6_hasRoom_32 : decode cX6_hasRoom 32 = .ok (.if_icmp .ge 35, 3) := by decide +kernel
theorem dX6_hasRoom_35 : decode cX6_hasRoom 35 = .ok (.aload_n 0, 1) := by decide +kernel
theorem dX6_hasRoom_36 : decode cX6_hasRoom 36 = .ok (.bipush 9, 2) := by decide +kernel
theorem dX6_hasRoom_38 : decode cX6_hasRoom 38 = .ok (.aload_n 0, 1) := by decide +kernel
theorem dX6_hasRoom_39 : decode cX6_hasRoom 39 = .ok (.getfield 50, 3) := by decide +kernel
theorem dX6_hasRoom_42 : decode cX6_hasRoom 42 = .ok (.aload_n 0, 1) := by decide +kernel
theorem dX6_hasRoom_43 : decode cX6_hasRoom 43 = .ok (.getfield 41, 3) := by decide +kernel
theorem dX6_hasRoom_46 : decode cX6_hasRoom 46 = .ok (.iload_n 1, 1) := by decide +kernel
theorem dX6_hasRoom_47 : decode cX6_hasRoom 47 = .ok (.iaload, 1) := by decide +kernel
theorem dX6_hasRoom_48 : decode cX6_hasRoom 48 = .ok (.iaload, 1) := by decide +kernel
theorem dX6_hasRoom_49 : decode cX6_hasRoom 49 = .ok (.aload_n 0, 1) := by decide +kernel
theorem dX6_hasRoom_50 : decode cX6_hasRoom 50 = .ok (.getfield 50, 3) := by decide +kernel
theorem dX6_hasRoom_53 : decode cX6_hasRoom 53 = .ok (.iload_n 1, 1) := by decide +kernel
theorem dX6_hasRoom_54 : decode cX6_hasRoom 54 = .ok (.iaload, 1) := by decide +kernel
theorem dX6_hasRoom_55 : decode cX6_hasRoom 55 = .ok (.invokevirtual 106, 3) := by decide +kernel
theorem dX6_hasRoom_58 : decode cX6_hasRoom 58 = .ok (.bipush 30, 2) := by decide +kernel
theorem dX6_hasRoom_60 : decode cX6_hasRoom 60 = .ok (.if_icmp .gt 7, 3) := by decide +kernel
theorem dX6_hasRoom_63 : decode cX6_hasRoom 63 = .ok (.iconst 1, 1) := by decide +kernel
theorem dX6_hasRoom_64 : decode cX6_hasRoom 64 = .ok (.goto 8, 3) := by decide +kernel
theorem dX6_hasRoom_67 : decode cX6_hasRoom 67 = .ok (.iconst 0, 1) := by decide +kernel
theorem dX6_hasRoom_68 : decode cX6_hasRoom 68 = .ok (.goto 4, 3) := by decide +kernel
theorem dX6_hasRoom_71 : decode cX6_hasRoom 71 = .ok (.iload_n 3, 1) := by decide +kernel
theorem dX6_hasRoom_72 : decode cX6_hasRoom 72 = .ok (.ireturn, 1) := by decide +kernel
theorem dX6_rewrites_0 : decode cX6_rewrites 0 = .ok (.aload_n 0, 1) := by decide +kernel
theorem dX6_rewrites_1 : decode cX6_rewrites 1 = .ok (.getfield 41, 3) := by decide +kernel
theorem dX6_rewrites_4 : decode cX6_rewrites 4 = .ok (.iload_n 1, 1) := by decide +kernel
theorem dX6_rewrites_5 : decode cX6_rewrites 5 = .ok (.iaload, 1) := by decide +kernel
theorem dX6_rewrites_6 : decode cX6_rewrites 6 = .ok (.istore_n 3, 1) := by decide +kernel
theorem dX6_rewrites_7 : decode cX6_rewrites 7 = .ok (.aload_n 0, 1) := by decide +kernel
theorem dX6_rewrites_8 : decode cX6_rewrites 8 = .ok (.getfield 41, 3) := by decide +kernel
theorem dX6_rewrites_11 : decode cX6_rewrites 11 = .ok (.iload_n 3, 1) := by decide +kernel
theorem dX6_rewrites_12 : decode cX6_rewrites 12 = .ok (.iaload, 1) := by decide +kernel
theorem dX6_rewrites_13 : decode cX6_rewrites 13 = .ok (.istore 4, 2) := by decide +kernel
theorem dX6_rewrites_15 : decode cX6_rewrites 15 = .ok (.aload_n 0, 1) := by decide +kernel
theorem dX6_rewrites_16 : decode cX6_rewrites 16 = .ok (.getfield 44, 3) := by decide +kernel
theorem dX6_rewrites_19 : decode cX6_rewrites 19 = .ok (.iload_n 3, 1) := by decide +kernel
theorem dX6_rewrites_20 : decode cX6_rewrites 20 = .ok (.iaload, 1) := by decide +kernel
theorem dX6_rewrites_21 : decode cX6_rewrites 21 = .ok (.istore 5, 2) := by decide +kernel
theorem dX6_rewrites_23 : decode cX6_rewrites 23 = .ok (.aload_n 0, 1) := by decide +kernel
theorem dX6_rewrites_24 : decode cX6_rewrites 24 = .ok (.getfield 47, 3) := by decide +kernel
theorem dX6_rewrites_27 : decode cX6_rewrites 27 = .ok (.iload_n 3, 1) := by decide +kernel
theorem dX6_rewrites_28 : decode cX6_rewrites 28 = .ok (.iaload, 1) := by decide +kernel
theorem dX6_rewrites_29 : decode cX6_rewrites 29 = .ok (.istore 6, 2) := by decide +kernel
theorem dX6_rewrites_31 : decode cX6_rewrites 31 = .ok (.aload_n 0, 1) := by decide +kernel
theorem dX6_rewrites_32 : decode cX6_rewrites 32 = .ok (.getfield 50, 3) := by decide +kernel
theorem dX6_rewrites_35 : decode cX6_rewrites 35 = .ok (.iload_n 3, 1) := by decide +kernel
theorem dX6_rewrites_36 : decode cX6_rewrites 36 = .ok (.iaload, 1) := by decide +kernel
theorem dX6_rewrites_37 : decode cX6_rewrites 37 = .ok (.istore 7, 2) := by decide +kernel
theorem dX6_rewrites_39 : decode cX6_rewrites 39 = .ok (.aload_n 0, 1) := by decide +kernel
theorem dX6_rewrites_40 : decode cX6_rewrites 40 = .ok (.getfield 50, 3) := by decide +kernel
theorem dX6_rewrites_43 : decode cX6_rewrites 43 = .ok (.iload_n 1, 1) := by decide +kernel
theorem dX6_rewrites_44 : decode cX6_rewrites 44 = .ok (.iaload, 1) := by decide +kernel
theorem dX6_rewrites_45 : decode cX6_rewrites 45 = .ok (.istore 8, 2) := by decide +kernel
theorem dX6_rewrites_47 : decode cX6_rewrites 47 = .ok (.aload_n 0, 1) := by decide +kernel
theorem dX6_rewrites_48 : decode cX6_rewrites 48 = .ok (.dup, 1) := by decide +kernel
theorem dX6_rewrites_49 : decode cX6_rewrites 49 = .ok (.getfield 258, 3) := by decide +kernel
theorem dX6_rewrites_52 : decode cX6_rewrites 52 = .ok (.iconst 1, 1) := by decide +kernel
theorem dX6_rewrites_53 : decode cX6_rewrites 53 = .ok (.iadd, 1) := by decide +kernel
theorem dX6_rewrites_54 : decode cX6_rewrites 54 = .ok (.putfield 258, 3) := by decide +kernel
theorem dX6_rewrites_57 : decode cX6_rewrites 57 = .ok (.iload_n 2, 1) := by decide +kernel
theorem dX6_rewrites_58 : decode cX6_rewrites 58 = .ok (.tableswitch 597 0 16 #[82, 111, 139, 169, 199, 240, 270, 298, 325, 341, 359, 374, 415, 483, 504, 519, 547], 82) := by decide +kernel
theorem dX6_rewrites_140 : decode cX6_rewrites 140 = .ok (.aload_n 0, 1) := by decide +kernel
theorem dX6_rewrites_141 : decode cX6_rewrites 141 = .ok (.iconst 1, 1) := by decide +kernel
theorem dX6_rewrites_142 : decode cX6_rewrites 142 = .ok (.iload 4, 2) := by decide +kernel
theorem dX6_rewrites_144 : decode cX6_rewrites 144 = .ok (.iconst 0, 1) := by decide +kernel
theorem dX6_rewrites_145 : decode cX6_rewrites 145 = .ok (.iconst 0, 1) := by decide +kernel
theorem dX6_rewrites_146 : decode cX6_rewrites 146 = .ok (.iload 8, 2) := by decide +kernel
theorem dX6_rewrites_148 : decode cX6_rewrites 148 = .ok (.invokevirtual 155, 3) := by decide +kernel
theorem dX6_rewrites_151 : decode cX6_rewrites 151 = .ok (.istore 9, 2) := by decide +kernel
theorem dX6_rewrites_153 : decode cX6_rewrites 153 = .ok (.aload_n 0, 1) := by decide +kernel
theorem dX6_rewrites_154 : decode cX6_rewrites 154 = .ok (.iload_n 1, 1) := by decide +kernel
theorem dX6_rewrites_155 : decode cX6_rewrites 155 = .ok (.iconst 2, 1) := by decide +kernel
theorem dX6_rewrites_156 : decode cX6_rewrites 156 = .ok (.iload 9, 2) := by decide +kernel
theorem dX6_rewrites_158 : decode cX6_rewrites 158 = .ok (.iconst 0, 1) := by decide +kernel
theorem dX6_rewrites_159 : decode cX6_rewrites 159 = .ok (.iload 6, 2) := by decide +kernel
theorem dX6_rewrites_161 : decode cX6_rewrites 161 = .ok (.iload 7, 2) := by decide +kernel
theorem dX6_rewrites_163 : decode cX6_rewrites 163 = .ok (.invokevirtual 136, 3) := by decide +kernel
theorem dX6_rewrites_166 : decode cX6_rewrites 166 = .ok (.goto 516, 3) := by decide +kernel
theorem dX6_rewrites_169 : decode cX6_rewrites 169 = .ok (.aload_n 0, 1) := by decide +kernel
theorem dX6_rewrites_170 : decode cX6_rewrites 170 = .ok (.iconst 1, 1) := by decide +kernel
theorem dX6_rewrites_171 : decode cX6_rewrites 171 = .ok (.iload 4, 2) := by decide +kernel
theorem dX6_rewrites_173 : decode cX6_rewrites 173 = .ok (.iconst 0, 1) := by decide +kernel
theorem dX6_rewrites_174 : decode cX6_rewrites 174 = .ok (.iconst 0, 1) := by decide +kernel
theorem dX6_rewrites_175 : decode cX6_rewrites 175 = .ok (.iload 8, 2) := by decide +kernel
theorem dX6_rewrites_177 : decode cX6_rewrites 177 = .ok (.invokevirtual 155, 3) := by decide +kernel
theorem dX6_rewrites_180 : decode cX6_rewrites 180 = .ok (.istore 9, 2) := by decide +kernel
theorem dX6_rewrites_182 : decode cX6_rewrites 182 = .ok (.aload_n 0, 1) := by decide +kernel
theorem dX6_rewrites_183 : decode cX6_rewrites 183 = .ok (.iload_n 1, 1) := by decide +kernel
theorem dX6_rewrites_184 : decode cX6_rewrites 184 = .ok (.iconst 3, 1) := by decide +kernel
theorem dX6_rewrites_185 : decode cX6_rewrites 185 = .ok (.iload 9, 2) := by decide +kernel
theorem dX6_rewrites_187 : decode cX6_rewrites 187 = .ok (.iconst 0, 1) := by decide +kernel
theorem dX6_rewrites_188 : decode cX6_rewrites 188 = .ok (.iconst 0, 1) := by decide +kernel
theorem dX6_rewrites_189 : decode cX6_rewrites 189 = .ok (.iload 7, 2) := by decide +kernel
theorem dX6_rewrites_191 : decode cX6_rewrites 191 = .ok (.invokevirtual 136, 3) := by decide +kernel
theorem dX6_rewrites_194 : decode cX6_rewrites 194 = .ok (.goto 488, 3) := by decide +kernel
theorem dX6_rewrites_197 : decode cX6_rewrites 197 = .ok (.aload_n 0, 1) := by decide +kernel
theorem dX6_rewrites_198 : decode cX6_rewrites 198 = .ok (.iconst 1, 1) := by decide +kernel
theorem dX6_rewrites_199 : decode cX6_rewrites 199 = .ok (.iload 4, 2) := by decide +kernel
theorem dX6_rewrites_201 : decode cX6_rewrites 201 = .ok (.iconst 0, 1) := by decide +kernel
theorem dX6_rewrites_202 : decode cX6_rewrites 202 = .ok (.iconst 0, 1) := by decide +kernel
theorem dX6_rewrites_203 : decode cX6_rewrites 203 = .ok (.iload 8, 2) := by decide +kernel
theorem dX6_rewrites_205 : decode cX6_rewrites 205 = .ok (.invokevirtual 155, 3) := by decide +kernel
theorem dX6_rewrites_208 : decode cX6_rewrites 208 = .ok (.istore 9, 2) := by decide +kernel
theorem dX6_rewrites_210 : decode cX6_rewrites 210 = .ok (.aload_n 0, 1) := by decide +kernel
theorem dX6_rewrites_211 : decode cX6_rewrites 211 = .ok (.iload_n 1, 1) := by decide +kernel
theorem dX6_rewrites_212 : decode cX6_rewrites 212 = .ok (.iconst 4, 1) := by decide +kernel
theorem dX6_rewrites_213 : decode cX6_rewrites 213 = .ok (.iload 9, 2) := by decide +kernel
theorem dX6_rewrites_215 : decode cX6_rewrites 215 = .ok (.iload 5, 2) := by decide +kernel
theorem dX6_rewrites_217 : decode cX6_rewrites 217 = .ok (.iload 6, 2) := by decide +kernel
theorem dX6_rewrites_219 : decode cX6_rewrites 219 = .ok (.iload 7, 2) := by decide +kernel
theorem dX6_rewrites_221 : decode cX6_rewrites 221 = .ok (.invokevirtual 136, 3) := by decide +kernel
theorem dX6_rewrites_224 : decode cX6_rewrites 224 = .ok (.goto 458, 3) := by decide +kernel
theorem dX6_rewrites_227 : decode cX6_rewrites 227 = .ok (.aload_n 0, 1) := by decide +kernel
theorem dX6_rewrites_228 : decode cX6_rewrites 228 = .ok (.iconst 1, 1) := by decide +kernel
theorem dX6_rewrites_229 : decode cX6_rewrites 229 = .ok (.iload 5, 2) := by decide +kernel
theorem dX6_rewrites_231 : decode cX6_rewrites 231 = .ok (.iconst 0, 1) := by decide +kernel
theorem dX6_rewrites_232 : decode cX6_rewrites 232 = .ok (.iconst 0, 1) := by decide +kernel
theorem dX6_rewrites_233 : decode cX6_rewrites 233 = .ok (.iload 8, 2) := by decide +kernel
theorem dX6_rewrites_235 : decode cX6_rewrites 235 = .ok (.invokevirtual 155, 3) := by decide +kernel
theorem dX6_rewrites_238 : decode cX6_rewrites 238 = .ok (.istore 9, 2) := by decide +kernel
theorem dX6_rewrites_240 : decode cX6_rewrites 240 = .ok (.aload_n 0, 1) := by decide +kernel
theorem dX6_rewrites_241 : decode cX6_rewrites 241 = .ok (.iload_n 1, 1) := by decide +kernel
theorem dX6_rewrites_242 : decode cX6_rewrites 242 = .ok (.iconst 4, 1) := by decide +kernel
theorem dX6_rewrites_243 : decode cX6_rewrites 243 = .ok (.iload 4, 2) := by decide +kernel
theorem dX6_rewrites_245 : decode cX6_rewrites 245 = .ok (.iload 9, 2) := by decide +kernel
theorem dX6_rewrites_247 : decode cX6_rewrites 247 = .ok (.iload 6, 2) := by decide +kernel
theorem dX6_rewrites_249 : decode cX6_rewrites 249 = .ok (.iload 7, 2) := by decide +kernel
theorem dX6_rewrites_251 : decode cX6_rewrites 251 = .ok (.invokevirtual 136, 3) := by decide +kernel
theorem dX6_rewrites_254 : decode cX6_rewrites 254 = .ok (.goto 428, 3) := by decide +kernel
theorem dX6_rewrites_257 : decode cX6_rewrites 257 = .ok (.aload_n 0, 1) := by decide +kernel
theorem dX6_rewrites_258 : decode cX6_rewrites 258 = .ok (.iconst 1, 1) := by decide +kernel
theorem dX6_rewrites_259 : decode cX6_rewrites 259 = .ok (.iload 4, 2) := by decide +kernel
theorem dX6_rewrites_261 : decode cX6_rewrites 261 = .ok (.iconst 0, 1) := by decide +kernel
theorem dX6_rewrites_262 : decode cX6_rewrites 262 = .ok (.iconst 0, 1) := by decide +kernel
theorem dX6_rewrites_263 : decode cX6_rewrites 263 = .ok (.iload 8, 2) := by decide +kernel
theorem dX6_rewrites_265 : decode cX6_rewrites 265 = .ok (.invokevirtual 155, 3) := by decide +kernel
theorem dX6_rewrites_268 : decode cX6_rewrites 268 = .ok (.istore 9, 2) := by decide +kernel
theorem dX6_rewrites_270 : decode cX6_rewrites 270 = .ok (.aload_n 0, 1) := by decide +kernel
theorem dX6_rewrites_271 : decode cX6_rewrites 271 = .ok (.iconst 1, 1) := by decide +kernel
theorem dX6_rewrites_272 : decode cX6_rewrites 272 = .ok (.iload 5, 2) := by decide +kernel
theorem dX6_rewrites_274 : decode cX6_rewrites 274 = .ok (.iconst 0, 1) := by decide +kernel
theorem dX6_rewrites_275 : decode cX6_rewrites 275 = .ok (.iconst 0, 1) := by decide +kernel
theorem dX6_rewrites_276 : decode cX6_rewrites 276 = .ok (.iload 8, 2) := by decide +kernel
theorem dX6_rewrites_278 : decode cX6_rewrites 278 = .ok (.invokevirtual 155, 3) := by decide +kernel
theorem dX6_rewrites_281 : decode cX6_rewrites 281 = .ok (.istore 10, 2) := by decide +kernel
theorem dX6_rewrites_283 : decode cX6_rewrites 283 = .ok (.aload_n 0, 1) := by decide +kernel
theorem dX6_rewrites_284 : decode cX6_rewrites 284 = .ok (.iload_n 1, 1) := by decide +kernel
theorem dX6_rewrites_285 : decode cX6_rewrites 285 = .ok (.iconst 5, 1) := by decide +kernel
theorem dX6_rewrites_286 : decode cX6_rewrites 286 = .ok (.iload 9, 2) := by decide +kernel
theorem dX6_rewrites_288 : decode cX6_rewrites 288 = .ok (.iload 10, 2) := by decide +kernel
theorem dX6_rewrites_290 : decode cX6_rewrites 290 = .ok (.iconst 0, 1) := by decide +kernel
theorem dX6_rewrites_291 : decode cX6_rewrites 291 = .ok (.iconst 0, 1) := by decide +kernel
theorem dX6_rewrites_292 : decode cX6_rewrites 292 = .ok (.invokevirtual 136, 3) := by decide +kernel
theorem dX6_rewrites_295 : decode cX6_rewrites 295 = .ok (.goto 387, 3) := by decide +kernel
theorem dX6_rewrites_298 : decode cX6_rewrites 298 = .ok (.aload_n 0, 1) := by decide +kernel
theorem dX6_rewrites_299 : decode cX6_rewrites 299 = .ok (.iconst 1, 1) := by decide +kernel
theorem dX6_rewrites_300 : decode cX6_rewrites 300 = .ok (.iload 4, 2) := by decide +kernel
theorem dX6_rewrites_302 : decode cX6_rewrites 302 = .ok (.iconst 0, 1) := by decide +kernel
theorem dX6_rewrites_303 : decode cX6_rewrites 303 = .ok (.iconst 0, 1) := by decide +kernel
theorem dX6_rewrites_304 : decode cX6_rewrites 304 = .ok (.iload 8, 2) := by decide +kernel
theorem dX6_rewrites_306 : decode cX6_rewrites 306 = .ok (.invokevirtual 155, 3) := by decide +kernel
theorem dX6_rewrites_309 : decode cX6_rewrites 309 = .ok (.istore 9, 2) := by decide +kernel
theorem dX6_rewrites_311 : decode cX6_rewrites 311 = .ok (.aload_n 0, 1) := by decide +kernel
theorem dX6_rewrites_312 : decode cX6_rewrites 312 = .ok (.iload_n 1, 1) := by decide +kernel
theorem dX6_rewrites_313 : decode cX6_rewrites 313 = .ok (.bipush 6, 2) := by decide +kernel
theorem dX6_rewrites_315 : decode cX6_rewrites 315 = .ok (.iload 9, 2) := by decide +kernel
theorem dX6_rewrites_317 : decode cX6_rewrites 317 = .ok (.iconst 0, 1) := by decide +kernel
theorem dX6_rewrites_318 : decode cX6_rewrites 318 = .ok (.iload 6, 2) := by decide +kernel
theorem dX6_rewrites_320 : decode cX6_rewrites 320 = .ok (.iload 7, 2) := by decide +kernel
theorem dX6_rewrites_322 : decode cX6_rewrites 322 = .ok (.invokevirtual 136, 3) := by decide +kernel
theorem dX6_rewrites_325 : decode cX6_rewrites 325 = .ok (.goto 357, 3) := by decide +kernel
theorem dX6_rewrites_328 : decode cX6_rewrites 328 = .ok (.aload_n 0, 1) := by decide +kernel
theorem dX6_rewrites_329 : decode cX6_rewrites 329 = .ok (.iconst 1, 1) := by decide +kernel
theorem dX6_rewrites_330 : decode cX6_rewrites 330 = .ok (.iload 4, 2) := by decide +kernel
theorem dX6_rewrites_332 : decode cX6_rewrites 332 = .ok (.iconst 0, 1) := by decide +kernel
theorem dX6_rewrites_333 : decode cX6_rewrites 333 = .ok (.iconst 0, 1) := by decide +kernel
theorem dX6_rewrites_334 : decode cX6_rewrites 334 = .ok (.iload 8, 2) := by decide +kernel
theorem dX6_rewrites_336 : decode cX6_rewrites 336 = .ok (.invokevirtual 155, 3) := by decide +kernel
theorem dX6_rewrites_339 : decode cX6_rewrites 339 = .ok (.istore 9, 2) := by decide +kernel
theorem dX6_rewrites_341 : decode cX6_rewrites 341 = .ok (.aload_n 0, 1) := by decide +kernel
theorem dX6_rewrites_342 : decode cX6_rewrites 342 = .ok (.iload_n 1, 1) := by decide +kernel
theorem dX6_rewrites_343 : decode cX6_rewrites 343 = .ok (.bipush 7, 2) := by decide +kernel
theorem dX6_rewrites_345 : decode cX6_rewrites 345 = .ok (.iload 9, 2) := by decide +kernel
theorem dX6_rewrites_347 : decode cX6_rewrites 347 = .ok (.iconst 0, 1) := by decide +kernel
theorem dX6_rewrites_348 : decode cX6_rewrites 348 = .ok (.iconst 0, 1) := by decide +kernel
theorem dX6_rewrites_349 : decode cX6_rewrites 349 = .ok (.iconst 0, 1) := by decide +kernel
theorem dX6_rewrites_350 : decode cX6_rewrites 350 = .ok (.invokevirtual 136, 3) := by decide +kernel
theorem dX6_rewrites_353 : decode cX6_rewrites 353 = .ok (.goto 329, 3) := by decide +kernel
theorem dX6_rewrites_356 : decode cX6_rewrites 356 = .ok (.aload_n 0, 1) := by decide +kernel
theorem dX6_rewrites_357 : decode cX6_rewrites 357 = .ok (.bipush 9, 2) := by decide +kernel
theorem dX6_rewrites_359 : decode cX6_rewrites 359 = .ok (.iload 7, 2) := by decide +kernel
theorem dX6_rewrites_361 : decode cX6_rewrites 361 = .ok (.iload 8, 2) := by decide +kernel
theorem dX6_rewrites_363 : decode cX6_rewrites 363 = .ok (.invokevirtual 117, 3) := by decide +kernel
theorem dX6_rewrites_366 : decode cX6_rewrites 366 = .ok (.istore 9, 2) := by decide +kernel
theorem dX6_rewrites_368 : decode cX6_rewrites 368 = .ok (.aload_n 0, 1) := by decide +kernel
theorem dX6_rewrites_369 : decode cX6_rewrites 369 = .ok (.iload_n 1, 1) := by decide +kernel
theorem dX6_rewrites_370 : decode cX6_rewrites 370 = .ok (.iconst 1, 1) := by decide +kernel
theorem dX6_rewrites_371 : decode cX6_rewrites 371 = .ok (.iload 4, 2) := by decide +kernel
theorem dX6_rewrites_373 : decode cX6_rewrites 373 = .ok (.iconst 0, 1) := by decide +kernel
theorem dX6_rewrites_374 : decode cX6_rewrites 374 = .ok (.iconst 0, 1) := by decide +kernel
theorem dX6_rewrites_375 : decode cX6_rewrites 375 = .ok (.iload 9, 2) := by decide +kernel
theorem dX6_rewrites_377 : decode cX6_rewrites 377 = .ok (.invokevirtual 136, 3) := by decide +kernel
theorem dX6_rewrites_380 : decode cX6_rewrites 380 = .ok (.goto 302, 3) := by decide +kernel
theorem dX6_rewrites_383 : decode cX6_rewrites 383 = .ok (.aload_n 0, 1) := by decide +kernel
theorem dX6_rewrites_384 : decode cX6_rewrites 384 = .ok (.iload_n 1, 1) := by decide +kernel
theorem dX6_rewrites_385 : decode cX6_rewrites 385 = .ok (.iconst 2, 1) := by decide +kernel
theorem dX6_rewrites_386 : decode cX6_rewrites 386 = .ok (.iload 4, 2) := by decide +kernel
theorem dX6_rewrites_388 : decode cX6_rewrites 388 = .ok (.iconst 0, 1) := by decide +kernel
theorem dX6_rewrites_389 : decode cX6_rewrites 389 = .ok (.iload 6, 2) := by decide +kernel
theorem dX6_rewrites_391 : decode cX6_rewrites 391 = .ok (.iload 8, 2) := by decide +kernel
theorem dX6_rewrites_393 : decode cX6_rewrites 393 = .ok (.invokevirtual 136, 3) := by decide +kernel
theorem dX6_rewrites_396 : decode cX6_rewrites 396 = .ok (.goto 286, 3) := by decide +kernel
theorem dX6_rewrites_399 : decode cX6_rewrites 399 = .ok (.aload_n 0, 1) := by decide +kernel
theorem dX6_rewrites_400 : decode cX6_rewrites 400 = .ok (.iload_n 1, 1) := by decide +kernel
theorem dX6_rewrites_401 : decode cX6_rewrites 401 = .ok (.iconst 3, 1) := by decide +kernel
theorem dX6_rewrites_402 : decode cX6_rewrites 402 = .ok (.iload 4, 2) := by decide +kernel
theorem dX6_rewrites_404 : decode cX6_rewrites 404 = .ok (.iconst 0, 1) := by decide +kernel
theorem dX6_rewrites_405 : decode cX6_rewrites 405 = .ok (.iconst 0, 1) := by decide +kernel
theorem dX6_rewrites_406 : decode cX6_rewrites 406 = .ok (.iload 7, 2) := by decide +kernel
theorem dX6_rewrites_408 : decode cX6_rewrites 408 = .ok (.iload 8, 2) := by decide +kernel
theorem dX6_rewrites_410 : decode cX6_rewrites 410 = .ok (.iand, 1) := by decide +kernel
theorem dX6_rewrites_411 : decode cX6_rewrites 411 = .ok (.invokevirtual 136, 3) := by decide +kernel
theorem dX6_rewrites_414 : decode cX6_rewrites 414 = .ok (.goto 268, 3) := by decide +kernel
theorem dX6_rewrites_417 : decode cX6_rewrites 417 = .ok (.aload_n 0, 1) := by decide +kernel
theorem dX6_rewrites_418 : decode cX6_rewrites 418 = .ok (.iload_n 1, 1) := by decide +kernel
theorem dX6_rewrites_419 : decode cX6_rewrites 419 = .ok (.iconst 3, 1) := by decide +kernel
theorem dX6_rewrites_420 : decode cX6_rewrites 420 = .ok (.iload 4, 2) := by decide +kernel
theorem dX6_rewrites_422 : decode cX6_rewrites 422 = .ok (.iconst 0, 1) := by decide +kernel
theorem dX6_rewrites_423 : decode cX6_rewrites 423 = .ok (.iconst 0, 1) := by decide +kernel
theorem dX6_rewrites_424 : decode cX6_rewrites 424 = .ok (.iload 8, 2) := by decide +kernel
theorem dX6_rewrites_426 : decode cX6_rewrites 426 = .ok (.invokevirtual 136, 3) := by decide +kernel
theorem dX6_rewrites_429 : decode cX6_rewrites 429 = .ok (.goto 253, 3) := by decide +kernel
theorem dX6_rewrites_432 : decode cX6_rewrites 432 = .ok (.aload_n 0, 1) := by decide +kernel
theorem dX6_rewrites_433 : decode cX6_rewrites 433 = .ok (.iconst 3, 1) := by decide +kernel
theorem dX6_rewrites_434 : decode cX6_rewrites 434 = .ok (.iload 4, 2) := by decide +kernel
theorem dX6_rewrites_436 : decode cX6_rewrites 436 = .ok (.iconst 0, 1) := by decide +kernel
theorem dX6_rewrites_437 : decode cX6_rewrites 437 = .ok (.iconst 0, 1) := by decide +kernel
theorem dX6_rewrites_438 : decode cX6_rewrites 438 = .ok (.iload 8, 2) := by decide +kernel
theorem dX6_rewrites_440 : decode cX6_rewrites 440 = .ok (.invokevirtual 155, 3) := by decide +kernel
theorem dX6_rewrites_443 : decode cX6_rewrites 443 = .ok (.istore 9, 2) := by decide +kernel
theorem dX6_rewrites_445 : decode cX6_rewrites 445 = .ok (.aload_n 0, 1) := by decide +kernel
theorem dX6_rewrites_446 : decode cX6_rewrites 446 = .ok (.iconst 3, 1) := by decide +kernel
theorem dX6_rewrites_447 : decode cX6_rewrites 447 = .ok (.iload 5, 2) := by decide +kernel
theorem dX6_rewrites_449 : decode cX6_rewrites 449 = .ok (.iconst 0, 1) := by decide +kernel
theorem dX6_rewrites_450 : decode cX6_rewrites 450 = .ok (.iconst 0, 1) := by decide +kernel
theorem dX6_rewrites_451 : decode cX6_rewrites 451 = .ok (.iload 8, 2) := by decide +kernel
theorem dX6_rewrites_453 : decode cX6_rewrites 453 = .ok (.invokevirtual 155, 3) := by decide +kernel
theorem dX6_rewrites_456 : decode cX6_rewrites 456 = .ok (.istore 10, 2) := by decide +kernel
theorem dX6_rewrites_458 : decode cX6_rewrites 458 = .ok (.aload_n 0, 1) := by decide +kernel
theorem dX6_rewrites_459 : decode cX6_rewrites 459 = .ok (.iload_n 1, 1) := by decide +kernel
theorem dX6_rewrites_460 : decode cX6_rewrites 460 = .ok (.iconst 5, 1) := by decide +kernel
theorem dX6_rewrites_461 : decode cX6_rewrites 461 = .ok (.iload 9, 2) := by decide +kernel
theorem dX6_rewrites_463 : decode cX6_rewrites 463 = .ok (.iload 10, 2) := by decide +kernel
theorem dX6_rewrites_465 : decode cX6_rewrites 465 = .ok (.iconst 0, 1) := by decide +kernel
theorem dX6_rewrites_466 : decode cX6_rewrites 466 = .ok (.iconst 0, 1) := by decide +kernel
theorem dX6_rewrites_467 : decode cX6_rewrites 467 = .ok (.invokevirtual 136, 3) := by decide +kernel
theorem dX6_rewrites_470 : decode cX6_rewrites 470 = .ok (.goto 212, 3) := by decide +kernel
theorem dX6_rewrites_473 : decode cX6_rewrites 473 = .ok (.aload_n 0, 1) := by decide +kernel
theorem dX6_rewrites_474 : decode cX6_rewrites 474 = .ok (.bipush 6, 2) := by decide +kernel
theorem dX6_rewrites_476 : decode cX6_rewrites 476 = .ok (.iload 4, 2) := by decide +kernel
theorem dX6_rewrites_478 : decode cX6_rewrites 478 = .ok (.iconst 0, 1) := by decide +kernel
theorem dX6_rewrites_479 : decode cX6_rewrites 479 = .ok (.aload_n 0, 1) := by decide +kernel
theorem dX6_rewrites_480 : decode cX6_rewrites 480 = .ok (.getfield 47, 3) := by decide +kernel
theorem dX6_rewrites_483 : decode cX6_rewrites 483 = .ok (.iload_n 1, 1) := by decide +kernel
theorem dX6_rewrites_484 : decode cX6_rewrites 484 = .ok (.iaload, 1) := by decide +kernel
theorem dX6_rewrites_485 : decode cX6_rewrites 485 = .ok (.iload 8, 2) := by decide +kernel
theorem dX6_rewrites_487 : decode cX6_rewrites 487 = .ok (.invokevirtual 155, 3) := by decide +kernel
theorem dX6_rewrites_490 : decode cX6_rewrites 490 = .ok (.istore 9, 2) := by decide +kernel
theorem dX6_rewrites_492 : decode cX6_rewrites 492 = .ok (.aload_n 0, 1) := by decide +kernel
theorem dX6_rewrites_493 : decode cX6_rewrites 493 = .ok (.bipush 6, 2) := by decide +kernel
theorem dX6_rewrites_495 : decode cX6_rewrites 495 = .ok (.iload 5, 2) := by decide +kernel
theorem dX6_rewrites_497 : decode cX6_rewrites 497 = .ok (.iconst 0, 1) := by decide +kernel
theorem dX6_rewrites_498 : decode cX6_rewrites 498 = .ok (.aload_n 0, 1) := by decide +kernel
theorem dX6_rewrites_499 : decode cX6_rewrites 499 = .ok (.getfield 47, 3) := by decide +kernel
theorem dX6_rewrites_502 : decode cX6_rewrites 502 = .ok (.iload_n 1, 1) := by decide +kernel
theorem dX6_rewrites_503 : decode cX6_rewrites 503 = .ok (.iaload, 1) := by decide +kernel
theorem dX6_rewrites_504 : decode cX6_rewrites 504 = .ok (.iload 8, 2) := by decide +kernel
theorem dX6_rewrites_506 : decode cX6_rewrites 506 = .ok (.invokevirtual 155, 3) := by decide +kernel
theorem dX6_rewrites_509 : decode cX6_rewrites 509 = .ok (.istore 10, 2) := by decide +kernel
theorem dX6_rewrites_511 : decode cX6_rewrites 511 = .ok (.aload_n 0, 1) := by decide +kernel
theorem dX6_rewrites_512 : decode cX6_rewrites 512 = .ok (.iload_n 1, 1) := by decide +kernel
theorem dX6_rewrites_513 : decode cX6_rewrites 513 = .ok (.bipush 6, 2) := by decide +kernel
theorem dX6_rewrites_515 : decode cX6_rewrites 515 = .ok (.aload_n 0, 1) := by decide +kernel
theorem dX6_rewrites_516 : decode cX6_rewrites 516 = .ok (.iconst 5, 1) := by decide +kernel
theorem dX6_rewrites_517 : decode cX6_rewrites 517 = .ok (.iload 9, 2) := by decide +kernel
theorem dX6_rewrites_519 : decode cX6_rewrites 519 = .ok (.iload 10, 2) := by decide +kernel
theorem dX6_rewrites_521 : decode cX6_rewrites 521 = .ok (.iconst 0, 1) := by decide +kernel
theorem dX6_rewrites_522 : decode cX6_rewrites 522 = .ok (.iconst 0, 1) := by decide +kernel
theorem dX6_rewrites_523 : decode cX6_rewrites 523 = .ok (.invokevirtual 155, 3) := by decide +kernel
theorem dX6_rewrites_526 : decode cX6_rewrites 526 = .ok (.iconst 0, 1) := by decide +kernel
theorem dX6_rewrites_527 : decode cX6_rewrites 527 = .ok (.aload_n 0, 1) := by decide +kernel
theorem dX6_rewrites_528 : decode cX6_rewrites 528 = .ok (.getfield 47, 3) := by decide +kernel
theorem dX6_rewrites_531 : decode cX6_rewrites 531 = .ok (.iload_n 1, 1) := by decide +kernel
theorem dX6_rewrites_532 : decode cX6_rewrites 532 = .ok (.iaload, 1) := by decide +kernel
theorem dX6_rewrites_533 : decode cX6_rewrites 533 = .ok (.iload 8, 2) := by decide +kernel
theorem dX6_rewrites_535 : decode cX6_rewrites 535 = .ok (.invokevirtual 136, 3) := by decide +kernel
theorem dX6_rewrites_538 : decode cX6_rewrites 538 = .ok (.goto 144, 3) := by decide +kernel
theorem dX6_rewrites_541 : decode cX6_rewrites 541 = .ok (.aload_n 0, 1) := by decide +kernel
theorem dX6_rewrites_542 : decode cX6_rewrites 542 = .ok (.iload_n 1, 1) := by decide +kernel
theorem dX6_rewrites_543 : decode cX6_rewrites 543 = .ok (.bipush 6, 2) := by decide +kernel
theorem dX6_rewrites_545 : decode cX6_rewrites 545 = .ok (.iload 4, 2) := by decide +kernel
theorem dX6_rewrites_547 : decode cX6_rewrites 547 = .ok (.iconst 0, 1) := by decide +kernel
theorem dX6_rewrites_548 : decode cX6_rewrites 548 = .ok (.aload_n 0, 1) := by decide +kernel
theorem dX6_rewrites_549 : decode cX6_rewrites 549 = .ok (.getfield 47, 3) := by decide +kernel
theorem dX6_rewrites_552 : decode cX6_rewrites 552 = .ok (.iload_n 1, 1) := by decide +kernel
theorem dX6_rewrites_553 : decode cX6_rewrites 553 = .ok (.iaload, 1) := by decide +kernel
theorem dX6_rewrites_554 : decode cX6_rewrites 554 = .ok (.iload 8, 2) := by decide +kernel
theorem dX6_rewrites_556 : decode cX6_rewrites 556 = .ok (.invokevirtual 136, 3) := by decide +kernel
theorem dX6_rewrites_559 : decode cX6_rewrites 559 = .ok (.goto 123, 3) := by decide +kernel
theorem dX6_rewrites_562 : decode cX6_rewrites 562 = .ok (.aload_n 0, 1) := by decide +kernel
theorem dX6_rewrites_563 : decode cX6_rewrites 563 = .ok (.iload_n 1, 1) := by decide +kernel
theorem dX6_rewrites_564 : decode cX6_rewrites 564 = .ok (.bipush 7, 2) := by decide +kernel
theorem dX6_rewrites_566 : decode cX6_rewrites 566 = .ok (.iload 4, 2) := by decide +kernel
theorem dX6_rewrites_568 : decode cX6_rewrites 568 = .ok (.iconst 0, 1) := by decide +kernel
theorem dX6_rewrites_569 : decode cX6_rewrites 569 = .ok (.iconst 0, 1) := by decide +kernel
theorem dX6_rewrites_570 : decode cX6_rewrites 570 = .ok (.iconst 0, 1) := by decide +kernel
theorem dX6_rewrites_571 : decode cX6_rewrites 571 = .ok (.invokevirtual 136, 3) := by decide +kernel
theorem dX6_rewrites_574 : decode cX6_rewrites 574 = .ok (.goto 108, 3) := by decide +kernel
theorem dX6_rewrites_577 : decode cX6_rewrites 577 = .ok (.aload_n 0, 1) := by decide +kernel
theorem dX6_rewrites_578 : decode cX6_rewrites 578 = .ok (.iload_n 1, 1) := by decide +kernel
theorem dX6_rewrites_579 : decode cX6_rewrites 579 = .ok (.bipush 8, 2) := by decide +kernel
theorem dX6_rewrites_581 : decode cX6_rewrites 581 = .ok (.iload 4, 2) := by decide +kernel
theorem dX6_rewrites_583 : decode cX6_rewrites 583 = .ok (.iconst 0, 1) := by decide +kernel
theorem dX6_rewrites_584 : decode cX6_rewrites 584 = .ok (.iconst 0, 1) := by decide +kernel
theorem dX6_rewrites_585 : decode cX6_rewrites 585 = .ok (.iload 7, 2) := by decide +kernel
theorem dX6_rewrites_587 : decode cX6_rewrites 587 = .ok (.iload 8, 2) := by decide +kernel
theorem dX6_rewrites_589 : decode cX6_rewrites 589 = .ok (.if_icmp .ge 8, 3) := by decide +kernel
theorem dX6_rewrites_592 : decode cX6_rewrites 592 = .ok (.iload 7, 2) := by decide +kernel
theorem dX6_rewrites_594 : decode cX6_rewrites 594 = .ok (.goto 5, 3) := by decide +kernel
theorem dX6_rewrites_597 : decode cX6_rewrites 597 = .ok (.iload 8, 2) := by decide +kernel
theorem dX6_rewrites_599 : decode cX6_rewrites 599 = .ok (.invokevirtual 136, 3) := by decide +kernel
theorem dX6_rewrites_602 : decode cX6_rewrites 602 = .ok (.goto 80, 3) := by decide +kernel
theorem dX6_rewrites_605 : decode cX6_rewrites 605 = .ok (.aload_n 0, 1) := by decide +kernel
theorem dX6_rewrites_606 : decode cX6_rewrites 606 = .ok (.bipush 7, 2) := by decide +kernel
theorem dX6_rewrites_608 : decode cX6_rewrites 608 = .ok (.iload 4, 2) := by decide +kernel
theorem dX6_rewrites_610 : decode cX6_rewrites 610 = .ok (.iconst 0, 1) := by decide +kernel
theorem dX6_rewrites_611 : decode cX6_rewrites 611 = .ok (.iconst 0, 1) := by decide +kernel
theorem dX6_rewrites_612 : decode cX6_rewrites 612 = .ok (.iconst 0, 1) := by decide +kernel
theorem dX6_rewrites_613 : decode cX6_rewrites 613 = .ok (.invokevirtual 155, 3) := by decide +kernel
theorem dX6_rewrites_616 : decode cX6_rewrites 616 = .ok (.istore 9, 2) := by decide +kernel
theorem dX6_rewrites_618 : decode cX6_rewrites 618 = .ok (.aload_n 0, 1) := by decide +kernel
theorem dX6_rewrites_619 : decode cX6_rewrites 619 = .ok (.bipush 7, 2) := by decide +kernel
theorem dX6_rewrites_621 : decode cX6_rewrites 621 = .ok (.iload 5, 2) := by decide +kernel
theorem dX6_rewrites_623 : decode cX6_rewrites 623 = .ok (.iconst 0, 1) := by decide +kernel
theorem dX6_rewrites_624 : decode cX6_rewrites 624 = .ok (.iconst 0, 1) := by decide +kernel
theorem dX6_rewrites_625 : decode cX6_rewrites 625 = .ok (.iconst 0, 1) := by decide +kernel
theorem dX6_rewrites_626 : decode cX6_rewrites 626 = .ok (.invokevirtual 155, 3) := by decide +kernel
theorem dX6_rewrites_629 : decode cX6_rewrites 629 = .ok (.istore 10, 2) := by decide +kernel
theorem dX6_rewrites_631 : decode cX6_rewrites 631 = .ok (.aload_n 0, 1) := by decide +kernel
theorem dX6_rewrites_632 : decode cX6_rewrites 632 = .ok (.iload_n 1, 1) := by decide +kernel
theorem dX6_rewrites_633 : decode cX6_rewrites 633 = .ok (.bipush 7, 2) := by decide +kernel
theorem dX6_rewrites_635 : decode cX6_rewrites 635 = .ok (.aload_n 0, 1) := by decide +kernel
theorem dX6_rewrites_636 : decode cX6_rewrites 636 = .ok (.iconst 5, 1) := by decide +kernel
theorem dX6_rewrites_637 : decode cX6_rewrites 637 = .ok (.iload 9, 2) := by decide +kernel
theorem dX6_rewrites_639 : decode cX6_rewrites 639 = .ok (.iload 10, 2) := by decide +kernel
theorem dX6_rewrites_641 : decode cX6_rewrites 641 = .ok (.iconst 0, 1) := by decide +kernel
theorem dX6_rewrites_642 : decode cX6_rewrites 642 = .ok (.iconst 0, 1) := by decide +kernel
theorem dX6_rewrites_643 : decode cX6_rewrites 643 = .ok (.invokevirtual 155, 3) := by decide +kernel
theorem dX6_rewrites_646 : decode cX6_rewrites 646 = .ok (.iconst 0, 1) := by decide +kernel
theorem dX6_rewrites_647 : decode cX6_rewrites 647 = .ok (.iconst 0, 1) := by decide +kernel
theorem dX6_rewrites_648 : decode cX6_rewrites 648 = .ok (.iconst 0, 1) := by decide +kernel
theorem dX6_rewrites_649 : decode cX6_rewrites 649 = .ok (.invokevirtual 136, 3) := by decide +kernel
theorem dX6_rewrites_652 : decode cX6_rewrites 652 = .ok (.goto 30, 3) := by decide +kernel
theorem dX6_rewrites_655 : decode cX6_rewrites 655 = .ok (.aload_n 0, 1) := by decide +kernel
theorem dX6_rewrites_656 : decode cX6_rewrites 656 = .ok (.bipush 8, 2) := by decide +kernel
theorem dX6_rewrites_658 : decode cX6_rewrites 658 = .ok (.iload 4, 2) := by decide +kernel
theorem dX6_rewrites_660 : decode cX6_rewrites 660 = .ok (.iconst 0, 1) := by decide +kernel
theorem dX6_rewrites_661 : decode cX6_rewrites 661 = .ok (.iconst 0, 1) := by decide +kernel
theorem dX6_rewrites_662 : decode cX6_rewrites 662 = .ok (.iload 8, 2) := by decide +kernel
theorem dX6_rewrites_664 : decode cX6_rewrites 664 = .ok (.invokevirtual 155, 3) := by decide +kernel
theorem dX6_rewrites_667 : decode cX6_rewrites 667 = .ok (.istore 9, 2) := by decide +kernel
theorem dX6_rewrites_669 : decode cX6_rewrites 669 = .ok (.aload_n 0, 1) := by decide +kernel
theorem dX6_rewrites_670 : decode cX6_rewrites 670 = .ok (.iload_n 1, 1) := by decide +kernel
theorem dX6_rewrites_671 : decode cX6_rewrites 671 = .ok (.iconst 2, 1) := by decide +kernel
theorem dX6_rewrites_672 : decode cX6_rewrites 672 = .ok (.iload 9, 2) := by decide +kernel
theorem dX6_rewrites_674 : decode cX6_rewrites 674 = .ok (.iconst 0, 1) := by decide +kernel
theorem dX6_rewrites_675 : decode cX6_rewrites 675 = .ok (.iload 6, 2) := by decide +kernel
theorem dX6_rewrites_677 : decode cX6_rewrites 677 = .ok (.iload 7, 2) := by decide +kernel
theorem dX6_rewrites_679 : decode cX6_rewrites 679 = .ok (.invokevirtual 136, 3) := by decide +kernel
theorem dX6_rewrites_682 : decode cX6_rewrites 682 = .ok (.return_, 1) := by decide +kernel
theorem dX6_rewrite_0 : decode cX6_rewrite 0 = .ok (.aload_n 0, 1) := by decide +kernel
theorem dX6_rewrite_1 : decode cX6_rewrite 1 = .ok (.iload_n 1, 1) := by decide +kernel
theorem dX6_rewrite_2 : decode cX6_rewrite 2 = .ok (.invokevirtual 148, 3) := by decide +kernel
theorem dX6_rewrite_5 : decode cX6_rewrite 5 = .ok (.ifCond .eq 15, 3) := by decide +kernel
theorem dX6_rewrite_8 : decode cX6_rewrite 8 = .ok (.iload_n 2, 1) := by decide +kernel
theorem dX6_rewrite_9 : decode cX6_rewrite 9 = .ok (.i2l, 1) := by decide +kernel
theorem dX6_rewrite_10 : decode cX6_rewrite 10 = .ok (.lconst 0, 1) := by decide +kernel
theorem dX6_rewrite_11 : decode cX6_rewrite 11 = .ok (.ldc2_w 244, 3) := by decide +kernel
theorem dX6_rewrite_14 : decode cX6_rewrite 14 = .ok (.invokestatic 90, 3) := by decide +kernel
theorem dX6_rewrite_17 : decode cX6_rewrite 17 = .ok (.ifCond .ne 5, 3) := by decide +kernel
theorem dX6_rewrite_20 : decode cX6_rewrite 20 = .ok (.iconst (-1), 1) := by decide +kernel
theorem dX6_rewrite_21 : decode cX6_rewrite 21 = .ok (.ireturn, 1) := by decide +kernel
theorem dX6_rewrite_22 : decode cX6_rewrite 22 = .ok (.aload_n 0, 1) := by decide +kernel
theorem dX6_rewrite_23 : decode cX6_rewrite 23 = .ok (.invokevirtual 159, 3) := by decide +kernel
theorem dX6_rewrite_26 : decode cX6_rewrite 26 = .ok (.aload_n 0, 1) := by decide +kernel
theorem dX6_rewrite_27 : decode cX6_rewrite 27 = .ok (.iload_n 1, 1) := by decide +kernel
theorem dX6_rewrite_28 : decode cX6_rewrite 28 = .ok (.iload_n 2, 1) := by decide +kernel
theorem dX6_rewrite_29 : decode cX6_rewrite 29 = .ok (.invokevirtual 246, 3) := by decide +kernel
theorem dX6_rewrite_32 : decode cX6_rewrite 32 = .ok (.ifCond .ne 6, 3) := by decide +kernel
theorem dX6_rewrite_35 : decode cX6_rewrite 35 = .ok (.bipush (-3), 2) := by decide +kernel
theorem dX6_rewrite_37 : decode cX6_rewrite 37 = .ok (.ireturn, 1) := by decide +kernel
theorem dX6_rewrite_38 : decode cX6_rewrite 38 = .ok (.aload_n 0, 1) := by decide +kernel
theorem dX6_rewrite_39 : decode cX6_rewrite 39 = .ok (.iload_n 1, 1) := by decide +kernel
theorem dX6_rewrite_40 : decode cX6_rewrite 40 = .ok (.iload_n 2, 1) := by decide +kernel
theorem dX6_rewrite_41 : decode cX6_rewrite 41 = .ok (.invokevirtual 261, 3) := by decide +kernel
theorem dX6_rewrite_44 : decode cX6_rewrite 44 = .ok (.ifCond .ne 6, 3) := by decide +kernel
theorem dX6_rewrite_47 : decode cX6_rewrite 47 = .ok (.bipush (-2), 2) := by decide +kernel
theorem dX6_rewrite_49 : decode cX6_rewrite 49 = .ok (.ireturn, 1) := by decide +kernel
theorem dX6_rewrite_50 : decode cX6_rewrite 50 = .ok (.aload_n 0, 1) := by decide +kernel
theorem dX6_rewrite_51 : decode cX6_rewrite 51 = .ok (.iload_n 1, 1) := by decide +kernel
theorem dX6_rewrite_52 : decode cX6_rewrite 52 = .ok (.iload_n 2, 1) := by decide +kernel
theorem dX6_rewrite_53 : decode cX6_rewrite 53 = .ok (.invokevirtual 264, 3) := by decide +kernel
theorem dX6_rewrite_56 : decode cX6_rewrite 56 = .ok (.aload_n 0, 1) := by decide +kernel
theorem dX6_rewrite_57 : decode cX6_rewrite 57 = .ok (.getfield 120, 3) := by decide +kernel
theorem dX6_rewrite_60 : decode cX6_rewrite 60 = .ok (.ireturn, 1) := by decide +kernel
theorem dX6_below_0 : decode cX6_below 0 = .ok (.lconst 1, 1) := by decide +kernel
theorem dX6_below_1 : decode cX6_below 1 = .ok (.iload_n 1, 1) := by decide +kernel
theorem dX6_below_2 : decode cX6_below 2 = .ok (.lshl, 1) := by decide +kernel
theorem dX6_below_3 : decode cX6_below 3 = .ok (.lstore_n 2, 1) := by decide +kernel
theorem dX6_below_4 : decode cX6_below 4 = .ok (.lconst 0, 1) := by decide +kernel
theorem dX6_below_5 : decode cX6_below 5 = .ok (.lstore 4, 2) := by decide +kernel
theorem dX6_below_7 : decode cX6_below 7 = .ok (.lload_n 2, 1) := by decide +kernel
theorem dX6_below_8 : decode cX6_below 8 = .ok (.lload 4, 2) := by decide +kernel
theorem dX6_below_10 : decode cX6_below 10 = .ok (.lcmp, 1) := by decide +kernel
theorem dX6_below_11 : decode cX6_below 11 = .ok (.ifCond .eq 89, 3) := by decide +kernel
theorem dX6_below_14 : decode cX6_below 14 = .ok (.lload_n 2, 1) := by decide +kernel
theorem dX6_below_15 : decode cX6_below 15 = .ok (.lstore 4, 2) := by decide +kernel
theorem dX6_below_17 : decode cX6_below 17 = .ok (.iconst 0, 1) := by decide +kernel
theorem dX6_below_18 : decode cX6_below 18 = .ok (.istore 6, 2) := by decide +kernel
theorem dX6_below_20 : decode cX6_below 20 = .ok (.iload 6, 2) := by decide +kernel
theorem dX6_below_22 : decode cX6_below 22 = .ok (.aload_n 0, 1) := by decide +kernel
theorem dX6_below_23 : decode cX6_below 23 = .ok (.getfield 120, 3) := by decide +kernel
theorem dX6_below_26 : decode cX6_below 26 = .ok (.if_icmp .ge 71, 3) := by decide +kernel
theorem dX6_below_29 : decode cX6_below 29 = .ok (.lload_n 2, 1) := by decide +kernel
theorem dX6_below_30 : decode cX6_below 30 = .ok (.iload 6, 2) := by decide +kernel
theorem dX6_below_32 : decode cX6_below 32 = .ok (.lshr, 1) := by decide +kernel
theorem dX6_below_33 : decode cX6_below 33 = .ok (.lconst 1, 1) := by decide +kernel
theorem dX6_below_34 : decode cX6_below 34 = .ok (.land, 1) := by decide +kernel
theorem dX6_below_35 : decode cX6_below 35 = .ok (.lconst 1, 1) := by decide +kernel
theorem dX6_below_36 : decode cX6_below 36 = .ok (.lcmp, 1) := by decide +kernel
theorem dX6_below_37 : decode cX6_below 37 = .ok (.ifCond .ne 54, 3) := by decide +kernel
theorem dX6_below_40 : decode cX6_below 40 = .ok (.aload_n 0, 1) := by decide +kernel
theorem dX6_below_41 : decode cX6_below 41 = .ok (.getfield 38, 3) := by decide +kernel
theorem dX6_below_44 : decode cX6_below 44 = .ok (.iload 6, 2) := by decide +kernel
theorem dX6_below_46 : decode cX6_below 46 = .ok (.iaload, 1) := by decide +kernel
theorem dX6_below_47 : decode cX6_below 47 = .ok (.ifCond .eq 44, 3) := by decide +kernel
theorem dX6_below_50 : decode cX6_below 50 = .ok (.lload_n 2, 1) := by decide +kernel
theorem dX6_below_51 : decode cX6_below 51 = .ok (.lconst 1, 1) := by decide +kernel
theorem dX6_below_52 : decode cX6_below 52 = .ok (.aload_n 0, 1) := by decide +kernel
theorem dX6_below_53 : decode cX6_below 53 = .ok (.getfield 41, 3) := by decide +kernel
theorem dX6_below_56 : decode cX6_below 56 = .ok (.iload 6, 2) := by decide +kernel
theorem dX6_below_58 : decode cX6_below 58 = .ok (.iaload, 1) := by decide +kernel
theorem dX6_below_59 : decode cX6_below 59 = .ok (.lshl, 1) := by decide +kernel
theorem dX6_below_60 : decode cX6_below 60 = .ok (.lor, 1) := by decide +kernel
theorem dX6_below_61 : decode cX6_below 61 = .ok (.lstore_n 2, 1) := by decide +kernel
theorem dX6_below_62 : decode cX6_below 62 = .ok (.aload_n 0, 1) := by decide +kernel
theorem dX6_below_63 : decode cX6_below 63 = .ok (.getfield 38, 3) := by decide +kernel
theorem dX6_below_66 : decode cX6_below 66 = .ok (.iload 6, 2) := by decide +kernel
theorem dX6_below_68 : decode cX6_below 68 = .ok (.iaload, 1) := by decide +kernel
theorem dX6_below_69 : decode cX6_below 69 = .ok (.invokestatic 129, 3) := by decide +kernel
theorem dX6_below_72 : decode cX6_below 72 = .ok (.ifCond .eq 17, 3) := by decide +kernel
theorem dX6_below_75 : decode cX6_below 75 = .ok (.lload_n 2, 1) := by decide +kernel
theorem dX6_below_76 : decode cX6_below 76 = .ok (.lconst 1, 1) := by decide +kernel
theorem dX6_below_77 : decode cX6_below 77 = .ok (.aload_n 0, 1) := by decide +kernel
theorem dX6_below_78 : decode cX6_below 78 = .ok (.getfield 44, 3) := by decide +kernel
theorem dX6_below_81 : decode cX6_below 81 = .ok (.iload 6, 2) := by decide +kernel
theorem dX6_below_83 : decode cX6_below 83 = .ok (.iaload, 1) := by decide +kernel
theorem dX6_below_84 : decode cX6_below 84 = .ok (.lshl, 1) := by decide +kernel
theorem dX6_below_85 : decode cX6_below 85 = .ok (.lor, 1) := by decide +kernel
theorem dX6_below_86 : decode cX6_below 86 = .ok (.goto 4, 3) := by decide +kernel
theorem dX6_below_89 : decode cX6_below 89 = .ok (.lload_n 2, 1) := by decide +kernel
theorem dX6_below_90 : decode cX6_below 90 = .ok (.lstore_n 2, 1) := by decide +kernel
theorem dX6_below_91 : decode cX6_below 91 = .ok (.iinc 6 1, 3) := by decide +kernel
theorem dX6_below_94 : decode cX6_below 94 = .ok (.goto (-74), 3) := by decide +kernel
theorem dX6_below_97 : decode cX6_below 97 = .ok (.goto (-90), 3) := by decide +kernel
theorem dX6_below_100 : decode cX6_below 100 = .ok (.lload_n 2, 1) := by decide +kernel
theorem dX6_below_101 : decode cX6_below 101 = .ok (.lreturn, 1) := by decide +kernel
theorem dX6_ruleFor_0 : decode cX6_ruleFor 0 = .ok (.iconst 0, 1) := by decide +kernel
theorem dX6_ruleFor_1 : decode cX6_ruleFor 1 = .ok (.istore_n 2, 1) := by decide +kernel
theorem dX6_ruleFor_2 : decode cX6_ruleFor 2 = .ok (.iload_n 2, 1) := by decide +kernel
theorem dX6_ruleFor_3 : decode cX6_ruleFor 3 = .ok (.bipush 18, 2) := by decide +kernel
theorem dX6_ruleFor_5 : decode cX6_ruleFor 5 = .ok (.if_icmp .ge 20, 3) := by decide +kernel
theorem dX6_ruleFor_8 : decode cX6_ruleFor 8 = .ok (.aload_n 0, 1) := by decide +kernel
theorem dX6_ruleFor_9 : decode cX6_ruleFor 9 = .ok (.iload_n 1, 1) := by decide +kernel
theorem dX6_ruleFor_10 : decode cX6_ruleFor 10 = .ok (.iload_n 2, 1) := by decide +kernel
theorem dX6_ruleFor_11 : decode cX6_ruleFor 11 = .ok (.invokevirtual 246, 3) := by decide +kernel
theorem dX6_ruleFor_14 : decode cX6_ruleFor 14 = .ok (.ifCond .eq 5, 3) := by decide +kernel
theorem dX6_ruleFor_17 : decode cX6_ruleFor 17 = .ok (.iload_n 2, 1) := by decide +kernel
theorem dX6_ruleFor_18 : decode cX6_ruleFor 18 = .ok (.ireturn, 1) := by decide +kernel
theorem dX6_ruleFor_19 : decode cX6_ruleFor 19 = .ok (.iinc 2 1, 3) := by decide +kernel
theorem dX6_ruleFor_22 : decode cX6_ruleFor 22 = .ok (.goto (-20), 3) := by decide +kernel
theorem dX6_ruleFor_25 : decode cX6_ruleFor 25 = .ok (.iconst (-1), 1) := by decide +kernel
theorem dX6_ruleFor_26 : decode cX6_ruleFor 26 = .ok (.ireturn, 1) := by decide +kernel
theorem dX6_sweep_0 : decode cX6_sweep 0 = .ok (.aload_n 0, 1) := by decide +kernel
theorem dX6_sweep_1 : decode cX6_sweep 1 = .ok (.iload_n 1, 1) := by decide +kernel
theorem dX6_sweep_2 : decode cX6_sweep 2 = .ok (.invokevirtual 148, 3) := by decide +kernel
theorem dX6_sweep_5 : decode cX6_sweep 5 = .ok (.ifCond .eq 15, 3) := by decide +kernel
theorem dX6_sweep_8 : decode cX6_sweep 8 = .ok (.iload_n 2, 1) := by decide +kernel
theorem dX6_sweep_9 : decode cX6_sweep 9 = .ok (.i2l, 1) := by decide +kernel
theorem dX6_sweep_10 : decode cX6_sweep 10 = .ok (.lconst 0, 1) := by decide +kernel
theorem dX6_sweep_11 : decode cX6_sweep 11 = .ok (.ldc2_w 127, 3) := by decide +kernel
theorem dX6_sweep_14 : decode cX6_sweep 14 = .ok (.invokestatic 90, 3) := by decide +kernel
theorem dX6_sweep_17 : decode cX6_sweep 17 = .ok (.ifCond .ne 5, 3) := by decide +kernel
theorem dX6_sweep_20 : decode cX6_sweep 20 = .ok (.iconst (-1), 1) := by decide +kernel
theorem dX6_sweep_21 : decode cX6_sweep 21 = .ok (.ireturn, 1) := by decide +kernel
theorem dX6_sweep_22 : decode cX6_sweep 22 = .ok (.iconst 0, 1) := by decide +kernel
theorem dX6_sweep_23 : decode cX6_sweep 23 = .ok (.istore_n 3, 1) := by decide +kernel
theorem dX6_sweep_24 : decode cX6_sweep 24 = .ok (.iconst 1, 1) := by decide +kernel
theorem dX6_sweep_25 : decode cX6_sweep 25 = .ok (.istore 4, 2) := by decide +kernel
theorem dX6_sweep_27 : decode cX6_sweep 27 = .ok (.iload 4, 2) := by decide +kernel
theorem dX6_sweep_29 : decode cX6_sweep 29 = .ok (.ifCond .eq 113, 3) := by decide +kernel
theorem dX6_sweep_32 : decode cX6_sweep 32 = .ok (.iload_n 3, 1) := by decide +kernel
theorem dX6_sweep_33 : decode cX6_sweep 33 = .ok (.iload_n 2, 1) := by decide +kernel
theorem dX6_sweep_34 : decode cX6_sweep 34 = .ok (.if_icmp .ge 108, 3) := by decide +kernel
theorem dX6_sweep_37 : decode cX6_sweep 37 = .ok (.aload_n 0, 1) := by decide +kernel
theorem dX6_sweep_38 : decode cX6_sweep 38 = .ok (.invokevirtual 159, 3) := by decide +kernel
theorem dX6_sweep_41 : decode cX6_sweep 41 = .ok (.aload_n 0, 1) := by decide +kernel
theorem dX6_sweep_42 : decode cX6_sweep 42 = .ok (.iload_n 1, 1) := by decide +kernel
theorem dX6_sweep_43 : decode cX6_sweep 43 = .ok (.invokevirtual 267, 3) := by decide +kernel
theorem dX6_sweep_46 : decode cX6_sweep 46 = .ok (.lstore 5, 2) := by decide +kernel
theorem dX6_sweep_48 : decode cX6_sweep 48 = .ok (.iconst 0, 1) := by decide +kernel
theorem dX6_sweep_49 : decode cX6_sweep 49 = .ok (.istore 7, 2) := by decide +kernel
theorem dX6_sweep_51 : decode cX6_sweep 51 = .ok (.iload 7, 2) := by decide +kernel
theorem dX6_sweep_53 : decode cX6_sweep 53 = .ok (.aload_n 0, 1) := by decide +kernel
theorem dX6_sweep_54 : decode cX6_sweep 54 = .ok (.getfield 120, 3) := by decide +kernel
theorem dX6_sweep_57 : decode cX6_sweep 57 = .ok (.if_icmp .ge 31, 3) := by decide +kernel
theorem dX6_sweep_60 : decode cX6_sweep 60 = .ok (.lload 5, 2) := by decide +kernel
theorem dX6_sweep_62 : decode cX6_sweep 62 = .ok (.iload 7, 2) := by decide +kernel
theorem dX6_sweep_64 : decode cX6_sweep 64 = .ok (.lshr, 1) := by decide +kernel
theorem dX6_sweep_65 : decode cX6_sweep 65 = .ok (.lconst 1, 1) := by decide +kernel
theorem dX6_sweep_66 : decode cX6_sweep 66 = .ok (.land, 1) := by decide +kernel
theorem dX6_sweep_67 : decode cX6_sweep 67 = .ok (.lconst 0, 1) := by decide +kernel
theorem dX6_sweep_68 : decode cX6_sweep 68 = .ok (.lcmp, 1) := by decide +kernel
theorem dX6_sweep_69 : decode cX6_sweep 69 = .ok (.ifCond .eq 13, 3) := by decide +kernel
theorem dX6_sweep_72 : decode cX6_sweep 72 = .ok (.aload_n 0, 1) := by decide +kernel
theorem dX6_sweep_73 : decode cX6_sweep 73 = .ok (.iload 7, 2) := by decide +kernel
theorem dX6_sweep_75 : decode cX6_sweep 75 = .ok (.invokevirtual 271, 3) := by decide +kernel
theorem dX6_sweep_78 : decode cX6_sweep 78 = .ok (.iconst (-1), 1) := by decide +kernel
theorem dX6_sweep_79 : decode cX6_sweep 79 = .ok (.if_icmp .ne 9, 3) := by decide +kernel
theorem dX6_sweep_82 : decode cX6_sweep 82 = .ok (.iinc 7 1, 3) := by decide +kernel
theorem dX6_sweep_85 : decode cX6_sweep 85 = .ok (.goto (-34), 3) := by decide +kernel
theorem dX6_sweep_88 : decode cX6_sweep 88 = .ok (.iload 7, 2) := by decide +kernel
theorem dX6_sweep_90 : decode cX6_sweep 90 = .ok (.aload_n 0, 1) := by decide +kernel
theorem dX6_sweep_91 : decode cX6_sweep 91 = .ok (.getfield 120, 3) := by decide +kernel
theorem dX6_sweep_94 : decode cX6_sweep 94 = .ok (.if_icmp .ge 22, 3) := by decide +kernel
theorem dX6_sweep_97 : decode cX6_sweep 97 = .ok (.aload_n 0, 1) := by decide +kernel
theorem dX6_sweep_98 : decode cX6_sweep 98 = .ok (.iload 7, 2) := by decide +kernel
theorem dX6_sweep_100 : decode cX6_sweep 100 = .ok (.aload_n 0, 1) := by decide +kernel
theorem dX6_sweep_101 : decode cX6_sweep 101 = .ok (.iload 7, 2) := by decide +kernel
theorem dX6_sweep_103 : decode cX6_sweep 103 = .ok (.invokevirtual 271, 3) := by decide +kernel
theorem dX6_sweep_106 : decode cX6_sweep 106 = .ok (.invokevirtual 261, 3) := by decide +kernel
theorem dX6_sweep_109 : decode cX6_sweep 109 = .ok (.ifCond .eq 7, 3) := by decide +kernel
theorem dX6_sweep_112 : decode cX6_sweep 112 = .ok (.iconst 1, 1) := by decide +kernel
theorem dX6_sweep_113 : decode cX6_sweep 113 = .ok (.goto 4, 3) := by decide +kernel
theorem dX6_sweep_116 : decode cX6_sweep 116 = .ok (.iconst 0, 1) := by decide +kernel
theorem dX6_sweep_117 : decode cX6_sweep 117 = .ok (.istore 4, 2) := by decide +kernel
theorem dX6_sweep_119 : decode cX6_sweep 119 = .ok (.iload 4, 2) := by decide +kernel
theorem dX6_sweep_121 : decode cX6_sweep 121 = .ok (.ifCond .eq 18, 3) := by decide +kernel
theorem dX6_sweep_124 : decode cX6_sweep 124 = .ok (.aload_n 0, 1) := by decide +kernel
theorem dX6_sweep_125 : decode cX6_sweep 125 = .ok (.iload 7, 2) := by decide +kernel
theorem dX6_sweep_127 : decode cX6_sweep 127 = .ok (.aload_n 0, 1) := by decide +kernel
theorem dX6_sweep_128 : decode cX6_sweep 128 = .ok (.iload 7, 2) := by decide +kernel
theorem dX6_sweep_130 : decode cX6_sweep 130 = .ok (.invokevirtual 271, 3) := by decide +kernel
theorem dX6_sweep_133 : decode cX6_sweep 133 = .ok (.invokevirtual 264, 3) := by decide +kernel
theorem dX6_sweep_136 : decode cX6_sweep 136 = .ok (.iinc 3 1, 3) := by decide +kernel
theorem dX6_sweep_139 : decode cX6_sweep 139 = .ok (.goto (-112), 3) := by decide +kernel
theorem dX6_sweep_142 : decode cX6_sweep 142 = .ok (.iload_n 3, 1) := by decide +kernel
theorem dX6_sweep_143 : decode cX6_sweep 143 = .ok (.ireturn, 1) := by decide +kernel
theorem dX6_count_0 : decode cX6_count 0 = .ok (.iload_n 1, 1) := by decide +kernel
theorem dX6_count_1 : decode cX6_count 1 = .ok (.tableswitch 74 0 3 #[31, 36, 41, 46], 31) := by decide +kernel
theorem dX6_count_32 : decode cX6_count 32 = .ok (.aload_n 0, 1) := by decide +kernel
theorem dX6_count_33 : decode cX6_count 33 = .ok (.getfield 96, 3) := by decide +kernel
theorem dX6_count_36 : decode cX6_count 36 = .ok (.ireturn, 1) := by decide +kernel
theorem dX6_count_37 : decode cX6_count 37 = .ok (.aload_n 0, 1) := by decide +kernel
theorem dX6_count_38 : decode cX6_count 38 = .ok (.getfield 120, 3) := by decide +kernel
theorem dX6_count_41 : decode cX6_count 41 = .ok (.ireturn, 1) := by decide +kernel
theorem dX6_count_42 : decode cX6_count 42 = .ok (.aload_n 0, 1) := by decide +kernel
theorem dX6_count_43 : decode cX6_count 43 = .ok (.getfield 258, 3) := by decide +kernel
theorem dX6_count_46 : decode cX6_count 46 = .ok (.ireturn, 1) := by decide +kernel
theorem dX6_count_47 : decode cX6_count 47 = .ok (.aload_n 0, 1) := by decide +kernel
theorem dX6_count_48 : decode cX6_count 48 = .ok (.getfield 7, 3) := by decide +kernel
theorem dX6_count_51 : decode cX6_count 51 = .ok (.iconst 0, 1) := by decide +kernel
theorem dX6_count_52 : decode cX6_count 52 = .ok (.iaload, 1) := by decide +kernel
theorem dX6_count_53 : decode cX6_count 53 = .ok (.aload_n 0, 1) := by decide +kernel
theorem dX6_count_54 : decode cX6_count 54 = .ok (.getfield 7, 3) := by decide +kernel
theorem dX6_count_57 : decode cX6_count 57 = .ok (.iconst 1, 1) := by decide +kernel
theorem dX6_count_58 : decode cX6_count 58 = .ok (.iaload, 1) := by decide +kernel
theorem dX6_count_59 : decode cX6_count 59 = .ok (.iadd, 1) := by decide +kernel
theorem dX6_count_60 : decode cX6_count 60 = .ok (.aload_n 0, 1) := by decide +kernel
theorem dX6_count_61 : decode cX6_count 61 = .ok (.getfield 7, 3) := by decide +kernel
theorem dX6_count_64 : decode cX6_count 64 = .ok (.iconst 2, 1) := by decide +kernel
theorem dX6_count_65 : decode cX6_count 65 = .ok (.iaload, 1) := by decide +kernel
theorem dX6_count_66 : decode cX6_count 66 = .ok (.iadd, 1) := by decide +kernel
theorem dX6_count_67 : decode cX6_count 67 = .ok (.aload_n 0, 1) := by decide +kernel
theorem dX6_count_68 : decode cX6_count 68 = .ok (.getfield 7, 3) := by decide +kernel
theorem dX6_count_71 : decode cX6_count 71 = .ok (.iconst 3, 1) := by decide +kernel
theorem dX6_count_72 : decode cX6_count 72 = .ok (.iaload, 1) := by decide +kernel
theorem dX6_count_73 : decode cX6_count 73 = .ok (.iadd, 1) := by decide +kernel
theorem dX6_count_74 : decode cX6_count 74 = .ok (.ireturn, 1) := by decide +kernel
theorem dX6_count_75 : decode cX6_count 75 = .ok (.iconst (-1), 1) := by decide +kernel
theorem dX6_count_76 : decode cX6_count 76 = .ok (.ireturn, 1) := by decide +kernel
end
section
/-! THE LAYER: a judgement over worlds (heap, frame and locals hidden), and a row an instruction over it -/
abbrev Kt : Type := va_G × ClassId × ClassId
def kT (k : Kt) : List (ClassId × FieldType) := [(k.2.1, .int), (k.2.2, .boolean)]
abbrev Zt : Type := Program × Launch × Env × Room × State × MethodId × Array Value × List Frame × Method × Code × Kt × (Nat → Prop) × Nat × (State → Prop)
def zp (z : Zt) : Program := z.1
def zl (z : Zt) : Launch := z.2.1
def ze (z : Zt) : Env := z.2.2.1
def zR (z : Zt) : Room := z.2.2.2.1
def zs (z : Zt) : State := z.2.2.2.2.1
def zm (z : Zt) : MethodId := z.2.2.2.2.2.1
def za (z : Zt) : Array Value := z.2.2.2.2.2.2.1
def zb (z : Zt) : List Frame := z.2.2.2.2.2.2.2.1
def zM (z : Zt) : Method := z.2.2.2.2.2.2.2.2.1
def zc (z : Zt) : Code := z.2.2.2.2.2.2.2.2.2.1
def zk (z : Zt) : Kt := z.2.2.2.2.2.2.2.2.2.2.1
def zA (z : Zt) : Nat → Prop := z.2.2.2.2.2.2.2.2.2.2.2.1
def zn (z : Zt) : Nat := z.2.2.2.2.2.2.2.2.2.2.2.2.1
def zQ (z : Zt) : State → Prop := z.2.2.2.2.2.2.2.2.2.2.2.2.2
abbrev Lv : Type := List (Nat × Value)
def WW (z : Zt) (cells slots : Nat) (w : va_W) (pc : Nat) (lv : Lv) (st : List Value) : Prop :=
  ∀ (H : Heap) (locs : List Loc) (ls : Array Slot), va_P (zk z).1 vwCl w H → va_D (zA z) w → va_S (zA z) (zs z).heap H locs → lv_has ls (zn z) lv →
    W (zp z) (zl z) (ze z) (zR z) (zs z) (zm z) (za z) (zb z) (zM z) (zc z) H locs cells slots (zQ z) (F0 (zm z) pc ls st)
/-- the three tables of the rules, in statics -/
def uT (j : Nat) : Int32 := ([1, 1, 1, 1, 1, 1, 1, 1, 2, 3, 3, 3, 6, 6, 7, 8, 7, 8] : List Int32).getD j 0
def lT (j : Nat) : Int32 := ([2, 3, 4, 4, 5, 6, 7, 1, 2, 3, 2, 5, 5, 3, 7, 8, 5, 2] : List Int32).getD j 0
def nT (j : Nat) : Int32 := ([1, 1, 1, 1, 2, 1, 1, 0, 0, 0, 0, 2, 3, 0, 0, 0, 3, 1] : List Int32).getD j 0
def SX1 (n : String) (f : Nat → Int32) (A : Nat → Prop) (U : State) (H : Heap) : Prop := ∃ t : Nat, va_Z RX2 n "[I" (.ref t) A U H ∧ va_T .int t 18 (fun j => .int (f j)) A U H
def SX (A : Nat → Prop) (U : State) (H : Heap) : Prop := SX1 "UPPER" uT A U H ∧ SX1 "LOWER" lT A U H ∧ SX1 "NEW_NODES" nT A U H
theorem SX1.to {n : String} {f : Nat → Int32} {A B : Nat → Prop} {s U : State} {H0 H : Heap} (h : SX1 n f A s H0) (hvm : s.vm.Alike U.vm) (hq : ∀ a : Nat, a < H0.size → ¬ A a → H[a]? = H0[a]?) (hAB : ∀ q, B q → A q) : SX1 n f B U H := by
  obtain ⟨t, h1, h2⟩ := h
  exact ⟨t, ((h1.kept hq).narrow hAB).moved hvm, ((h2.kept hq).narrow hAB).moved hvm⟩
theorem SX.to {A B : Nat → Prop} {s U : State} {H0 H : Heap} (h : SX A s H0) (hvm : s.vm.Alike U.vm) (hq : ∀ a : Nat, a < H0.size → ¬ A a → H[a]? = H0[a]?) (hAB : ∀ q, B q → A q) : SX B U H :=
  ⟨h.1.to hvm hq hAB, h.2.1.to hvm hq hAB, h.2.2.to hvm hq hAB⟩
/-- the links between nest mates -/
def NXl : List (String × Nat × MethodName) := [(RX5, 11, yX4_init), (RX5, 18, yX0_init), (RX0, 35, yX5_isMember), (RX1, 61, yX5_isMember), (RX1, 73, yX5_isSet), (RX3, 155, yX5_isIn), (RX2, 54, yX5_isIn), (RX2, 60, yX5_isWithin)]
def NX (U : State) : Prop := ∀ q ∈ NXl, va_Nw (.methodLinkNest q.1 q.2.1 q.2.2 RX5) U
theorem NX.to {s U : State} (h : NX s) (hW : s.WarmedH U.vm) : NX U := fun q hq => va_Nw.warmM hW (h q hq)
def EN (z : Zt) (cc : ByteArray) (own : String) : Prop :=
  (zp z).tables.exec = Jvm.exec ∧ (zc z).code = cc ∧ (zc z).maxLocals = zn z ∧ (zs z).vm.findClass own = some (zm z).cls ∧ (∀ w ∈ TB, w.before (za z) (zs z) = true) ∧ va_K (zk z).1 vwCl (kT (zk z)) (zs z) ∧
  (∀ q, (zs z).heap.size ≤ q → zA z q) ∧ SX (zA z) (zs z) (zs z).heap ∧ NX (zs z)
def rmL (d mc ms : Nat) : Room := { frames := d, cells := mc, slots := ms, locals := 40 * d }
def ctP (k : Kt) (av : List Value) (w : va_W) (sz : Nat) : Array Value → State → Prop := va_Pc av (fun U => U.heap.size = sz ∧ va_P k.1 vwCl w U.heap ∧ va_K k.1 vwCl (kT k) U ∧ va_D (fun _ => True) w ∧ SX (va_A w sz) U U.heap ∧ NX U)
def ctQ (k : Kt) (w : va_W) (P : Option Value → va_W → Prop) (sz : Nat) : Array Value → State → Outcome → State → Prop := fun _ st oc t => (∃ (v : Option Value) (w' : va_W), oc = .returned v ∧ P v w' ∧ va_P k.1 vwCl w' t.heap ∧ va_D (va_A w sz) w') ∧ va_F (va_A w sz) st t
/-- a method's contract: from the world w it returns, and answer and world are as P says -/
def CT (l : Launch) (k : Kt) (y : MethodName) (cc : ByteArray) (maxL : Nat) (ret : Option FieldType) (d : Nat) (av : List Value) (w : va_W) (P : Option Value → va_W → Prop) (mc ms : Nat) : Prop :=
  ∀ sz : Nat, Met l y (.code y cc maxL ret :: TB) (rmL d mc ms) (ctP k av w sz) (ctQ k w P sz) mc ms (va_A w sz)
def RT (z : Zt) (ret : Option FieldType) (d : Nat) (w0 : va_W) (P : Option Value → va_W → Prop) (mc ms : Nat) : Prop :=
  zR z = rmL d mc ms ∧ (zM z).sig.returnType = ret ∧ (zM z).locks = false ∧ zA z = va_A w0 (zs z).heap.size ∧ zQ z = MQ (zb z) (ctQ (zk z) w0 P (zs z).heap.size) (za z) (zs z) mc ms (va_A w0 (zs z).heap.size)
theorem ct_of {l : Launch} {k : Kt} {y : MethodName} {cc : ByteArray} {maxL : Nat} {ret : Option FieldType} {d : Nat} {av : List Value} {w : va_W} {P : Option Value → va_W → Prop} {mc ms : Nat} {own : String} {lv0 : Lv}
    (hy : plainName y.cls = true) (ho : y.cls = own) (hlen : (lg_sl av).length ≤ maxL) (hlv : lv_args 0 av = lv0)
    (h : ∀ z : Zt, l = zl z → k = zk z → zn z = maxL → (y.name = "<init>" → (zM z).name = "<init>") → EN z cc own → RT z ret d w P mc ms → WW z 0 0 w 0 lv0 []) : CT l k y cc maxL ret d av w P mc ms := by
  intro sz
  refine Met.ofW (cc := cc) (maxL := maxL) (ret := ret) hy rfl ?_
  intro p e s m args below meth c s₁ B hml hv
  obtain ⟨rfl, hsz, hP, hK, hD0, hX, hN⟩ := hv
  have hts := atoms_spec (ws := Cond.code y cc maxL ret :: TB) B.pre
  have hown : s.vm.findClass own = some m.cls := by rw [← ho]; exact findClass_of_methodNamed B.named
  subst hsz
  subst hlv
  have h1 := h (p, l, e, (headSpec (Cond.code y cc maxL ret :: TB) (rmL d mc ms)).room, s, m, av.toArray, below, meth, c, k, va_A w s.heap.size, maxL, MQ below (ctQ k w P s.heap.size) av.toArray s mc ms (va_A w s.heap.size)) rfl rfl rfl (fun hn => (name_of_methodNamed B.named B.method).1.trans hn)
    ⟨B.exec, B.bytes, hml, hown, fun w hw => hts w (List.mem_cons_of_mem _ hw), hK, fun q hq => Or.inr hq, hX, hN⟩ ⟨rfl, B.returns, B.notSynchronized, rfl, rfl⟩
  rw [lg_entry_eq]
  exact h1 s.heap [] _ hP hD0.self va_S.rf (lv_entry av hlen)
section ROWS
variable {z : Zt} {cc : ByteArray} {own : String} {cells slots : Nat} {w : va_W} {pc q : Nat} {lv : Lv} {rest : List Value}
theorem r_sub (ks : List Nat) {lv' : Lv} (h : lv_pick lv ks = lv') (k : WW z cells slots w pc lv' rest) : WW z cells slots w pc lv rest := fun H locs ls hP hD hS hl => k H locs ls hP hD hS (lv_sub hl ks h)
theorem r_widen {c2 s2 : Nat} (h1 : cells ≤ c2) (h2 : slots ≤ s2) (k : WW z c2 s2 w pc lv rest) : WW z cells slots w pc lv rest := fun H locs ls hP hD hS hl => W.widen h1 h2 (k H locs ls hP hD hS hl)
theorem r_w {w' : va_W} (e : w = w') (k : WW z cells slots w' pc lv rest) : WW z cells slots w pc lv rest := e ▸ k
theorem r_v {x y : Int32} (e : x = y) (k : WW z cells slots w pc lv (.int y :: rest)) : WW z cells slots w pc lv (.int x :: rest) := e ▸ k
theorem r_iconst (E : EN z cc own) {n : Int} {v : Int32} (hd : decode cc pc = .ok (.iconst n, 1)) (hv : Int32.ofInt n = v) (hq : pc + 1 = q) (k : WW z cells slots w q lv (.int v :: rest)) : WW z cells slots w pc lv rest := by
  subst hq; exact fun H locs ls hP hD hS hl => lv_iconst E.1 E.2.1 hd hv (k H locs ls hP hD hS hl)
theorem r_bipush (E : EN z cc own) {n : Int} {v : Int32} (hd : decode cc pc = .ok (.bipush n, 2)) (hv : (Int8.ofInt n).toInt32 = v) (hq : pc + 2 = q) (k : WW z cells slots w q lv (.int v :: rest)) : WW z cells slots w pc lv rest := by
  subst hq; exact fun H locs ls hP hD hS hl => lv_bipush E.1 E.2.1 hd hv (k H locs ls hP hD hS hl)
theorem r_sipush (E : EN z cc own) {n : Int} {v : Int32} (hd : decode cc pc = .ok (.sipush n, 3)) (hv : (Int16.ofInt n).toInt32 = v) (hq : pc + 3 = q) (k : WW z cells slots w q lv (.int v :: rest)) : WW z cells slots w pc lv rest := by
  subst hq; exact fun H locs ls hP hD hS hl => lv_sipush E.1 E.2.1 hd hv (k H locs ls hP hD hS hl)
theorem r_ldc (E : EN z cc own) {i : Nat} {v : Int32} (hc : Cond.constant own i v ∈ TB) (hd : decode cc pc = .ok (.ldc i, 2)) (hq : pc + 2 = q) (k : WW z cells slots w q lv (.int v :: rest)) : WW z cells slots w pc lv rest := by
  subst hq; exact fun H locs ls hP hD hS hl => lv_ldc E.1 E.2.1 E.2.2.2.1 (E.2.2.2.2.1 _ hc) hd (k H locs ls hP hD hS hl)
theorem r_ldc2 (E : EN z cc own) {i : Nat} {v : Int64} (hc : Cond.constantLong own i v ∈ TB) (hd : decode cc pc = .ok (.ldc2_w i, 3)) (hq : pc + 3 = q) (k : WW z cells slots w q lv (.long v :: rest)) : WW z cells slots w pc lv rest := by
  subst hq; exact fun H locs ls hP hD hS hl => lv_ldc2 E.1 E.2.1 E.2.2.2.1 (E.2.2.2.2.1 _ hc) hd (k H locs ls hP hD hS hl)
theorem r_lconst (E : EN z cc own) {n : Fin 2} {v : Int64} (hd : decode cc pc = .ok (.lconst n, 1)) (hv : Int64.ofNat (n : Nat) = v) (hq : pc + 1 = q) (k : WW z cells slots w q lv (.long v :: rest)) : WW z cells slots w pc lv rest := by
  subst hq; exact fun H locs ls hP hD hS hl => lv_lconst E.1 E.2.1 hd hv (k H locs ls hP hD hS hl)
theorem r_iload_n (E : EN z cc own) {j : Fin 4} (i : Nat) {n : Nat} {x : Int32} (hd : decode cc pc = .ok (.iload_n j, 1)) (hk : lv[i]? = some (n, .int x)) (hi : (j : Nat) = n) (hq : pc + 1 = q) (k : WW z cells slots w q lv (.int x :: rest)) : WW z cells slots w pc lv rest := by
  subst hq; exact fun H locs ls hP hD hS hl => lv_iload_n E.1 E.2.1 hd hi (lv_at hl i hk) (k H locs ls hP hD hS hl)
theorem r_iload (E : EN z cc own) (i : Nat) {n : Nat} {x : Int32} (hd : decode cc pc = .ok (.iload n, 2)) (hk : lv[i]? = some (n, .int x)) (hq : pc + 2 = q) (k : WW z cells slots w q lv (.int x :: rest)) : WW z cells slots w pc lv rest := by
  subst hq; exact fun H locs ls hP hD hS hl => lv_iload E.1 E.2.1 hd (lv_at hl i hk) (k H locs ls hP hD hS hl)
theorem r_lload_n (E : EN z cc own) {j : Fin 4} (i : Nat) {n : Nat} {x : Int64} (hd : decode cc pc = .ok (.lload_n j, 1)) (hk : lv[i]? = some (n, .long x)) (hi : (j : Nat) = n) (hq : pc + 1 = q) (k : WW z cells slots w q lv (.long x :: rest)) : WW z cells slots w pc lv rest := by
  subst hq; exact fun H locs ls hP hD hS hl => lv_lload_n E.1 E.2.1 hd hi (lv_at hl i hk) (k H locs ls hP hD hS hl)
theorem r_lload (E : EN z cc own) (i : Nat) {n : Nat} {x : Int64} (hd : decode cc pc = .ok (.lload n, 2)) (hk : lv[i]? = some (n, .long x)) (hq : pc + 2 = q) (k : WW z cells slots w q lv (.long x :: rest)) : WW z cells slots w pc lv rest := by
  subst hq; exact fun H locs ls hP hD hS hl => lv_lload E.1 E.2.1 hd (lv_at hl i hk) (k H locs ls hP hD hS hl)
theorem r_aload_n (E : EN z cc own) {j : Fin 4} (i : Nat) {n : Nat} {x : Nat} (hd : decode cc pc = .ok (.aload_n j, 1)) (hk : lv[i]? = some (n, .ref x)) (hi : (j : Nat) = n) (hq : pc + 1 = q) (k : WW z cells slots w q lv (.ref x :: rest)) : WW z cells slots w pc lv rest := by
  subst hq; exact fun H locs ls hP hD hS hl => lv_aload_n E.1 E.2.1 hd hi (lv_at hl i hk) (k H locs ls hP hD hS hl)
theorem r_istore_n (E : EN z cc own) {j : Fin 4} (ks : List Nat) {n : Nat} {x : Int32} {lv' : Lv} (hd : decode cc pc = .ok (.istore_n j, 1)) (hi : (j : Nat) = n) (hn : n < zn z) (hl' : lv_pick ((n, Value.int x) :: lv.filter (fun q => !(q.1 == n) && !(q.1 + 1 == n && q.2.category == 2))) ks = lv') (hq : pc + 1 = q) (k : WW z cells slots w q lv' rest) : WW z cells slots w pc lv (.int x :: rest) := by
  subst hq; exact fun H locs ls hP hD hS hl => lv_istore_n E.1 E.2.1 hd hi hl hn rfl (fun ls' h' => k H locs ls' hP hD hS (lv_sub h' ks hl'))
theorem r_istore (E : EN z cc own) (ks : List Nat) {n : Nat} {x : Int32} {lv' : Lv} (hd : decode cc pc = .ok (.istore n, 2)) (hn : n < zn z) (hl' : lv_pick ((n, Value.int x) :: lv.filter (fun q => !(q.1 == n) && !(q.1 + 1 == n && q.2.category == 2))) ks = lv') (hq : pc + 2 = q) (k : WW z cells slots w q lv' rest) : WW z cells slots w pc lv (.int x :: rest) := by
  subst hq; exact fun H locs ls hP hD hS hl => lv_istore E.1 E.2.1 hd hl hn rfl (fun ls' h' => k H locs ls' hP hD hS (lv_sub h' ks hl'))
theorem r_lstore_n (E : EN z cc own) {j : Fin 4} (ks : List Nat) {n : Nat} {x : Int64} {lv' : Lv} (hd : decode cc pc = .ok (.lstore_n j, 1)) (hi : (j : Nat) = n) (hn : n + 1 < zn z) (hl' : lv_pick ((n, Value.long x) :: lv.filter (fun q => !(q.1 == n) && (!(q.1 == n + 1) && !(q.1 + 1 == n && q.2.category == 2)))) ks = lv') (hq : pc + 1 = q) (k : WW z cells slots w q lv' rest) : WW z cells slots w pc lv (.long x :: rest) := by
  subst hq; exact fun H locs ls hP hD hS hl => lv_lstore_n E.1 E.2.1 hd hi hl hn rfl (fun ls' h' => k H locs ls' hP hD hS (lv_sub h' ks hl'))
theorem r_lstore (E : EN z cc own) (ks : List Nat) {n : Nat} {x : Int64} {lv' : Lv} (hd : decode cc pc = .ok (.lstore n, 2)) (hn : n + 1 < zn z) (hl' : lv_pick ((n, Value.long x) :: lv.filter (fun q => !(q.1 == n) && (!(q.1 == n + 1) && !(q.1 + 1 == n && q.2.category == 2)))) ks = lv') (hq : pc + 2 = q) (k : WW z cells slots w q lv' rest) : WW z cells slots w pc lv (.long x :: rest) := by
  subst hq; exact fun H locs ls hP hD hS hl => lv_lstore E.1 E.2.1 hd hl hn rfl (fun ls' h' => k H locs ls' hP hD hS (lv_sub h' ks hl'))
theorem r_astore_n (E : EN z cc own) {j : Fin 4} (ks : List Nat) {n : Nat} {x : Nat} {lv' : Lv} (hd : decode cc pc = .ok (.astore_n j, 1)) (hi : (j : Nat) = n) (hn : n < zn z) (hl' : lv_pick ((n, Value.ref x) :: lv.filter (fun q => !(q.1 == n) && !(q.1 + 1 == n && q.2.category == 2))) ks = lv') (hq : pc + 1 = q) (k : WW z cells slots w q lv' rest) : WW z cells slots w pc lv (.ref x :: rest) := by
  subst hq; exact fun H locs ls hP hD hS hl => lv_astore_n E.1 E.2.1 hd hi hl hn rfl (fun ls' h' => k H locs ls' hP hD hS (lv_sub h' ks hl'))
theorem r_iinc (E : EN z cc own) (i : Nat) (ks : List Nat) {n : Nat} {a : Int} {x v : Int32} {lv' : Lv} (hd : decode cc pc = .ok (.iinc n a, 3)) (hk : lv[i]? = some (n, .int x)) (hv : x + Int32.ofInt a = v) (hn : n < zn z) (hl' : lv_pick ((n, Value.int v) :: lv.filter (fun q => !(q.1 == n) && !(q.1 + 1 == n && q.2.category == 2))) ks = lv') (hq : pc + 3 = q) (k : WW z cells slots w q lv' rest) : WW z cells slots w pc lv rest := by
  subst hq; exact fun H locs ls hP hD hS hl => lv_iinc E.1 E.2.1 hd hl hk hv hn rfl (fun ls' h' => k H locs ls' hP hD hS (lv_sub h' ks hl'))
theorem r_iadd (E : EN z cc own) {x y : Int32} (hd : decode cc pc = .ok (.iadd, 1)) (hq : pc + 1 = q) (k : WW z cells slots w q lv (.int (x + y) :: rest)) : WW z cells slots w pc lv (.int y :: .int x :: rest) := by
  subst hq; exact fun H locs ls hP hD hS hl => lv_iadd E.1 E.2.1 hd (k H locs ls hP hD hS hl)
theorem r_isub (E : EN z cc own) {x y : Int32} (hd : decode cc pc = .ok (.isub, 1)) (hq : pc + 1 = q) (k : WW z cells slots w q lv (.int (x - y) :: rest)) : WW z cells slots w pc lv (.int y :: .int x :: rest) := by
  subst hq; exact fun H locs ls hP hD hS hl => lv_isub E.1 E.2.1 hd (k H locs ls hP hD hS hl)
theorem r_imul (E : EN z cc own) {x y : Int32} (hd : decode cc pc = .ok (.imul, 1)) (hq : pc + 1 = q) (k : WW z cells slots w q lv (.int (x * y) :: rest)) : WW z cells slots w pc lv (.int y :: .int x :: rest) := by
  subst hq; exact fun H locs ls hP hD hS hl => lv_imul E.1 E.2.1 hd (k H locs ls hP hD hS hl)
theorem r_iand (E : EN z cc own) {x y : Int32} (hd : decode cc pc = .ok (.iand, 1)) (hq : pc + 1 = q) (k : WW z cells slots w q lv (.int (x &&& y) :: rest)) : WW z cells slots w pc lv (.int y :: .int x :: rest) := by
  subst hq; exact fun H locs ls hP hD hS hl => lv_iand E.1 E.2.1 hd (k H locs ls hP hD hS hl)
theorem r_ior (E : EN z cc own) {x y : Int32} (hd : decode cc pc = .ok (.ior, 1)) (hq : pc + 1 = q) (k : WW z cells slots w q lv (.int (x ||| y) :: rest)) : WW z cells slots w pc lv (.int y :: .int x :: rest) := by
  subst hq; exact fun H locs ls hP hD hS hl => lv_ior E.1 E.2.1 hd (k H locs ls hP hD hS hl)
theorem r_ixor (E : EN z cc own) {x y : Int32} (hd : decode cc pc = .ok (.ixor, 1)) (hq : pc + 1 = q) (k : WW z cells slots w q lv (.int (x ^^^ y) :: rest)) : WW z cells slots w pc lv (.int y :: .int x :: rest) := by
  subst hq; exact fun H locs ls hP hD hS hl => lv_ixor E.1 E.2.1 hd (k H locs ls hP hD hS hl)
theorem r_ishl (E : EN z cc own) {x y : Int32} (hd : decode cc pc = .ok (.ishl, 1)) (hq : pc + 1 = q) (k : WW z cells slots w q lv (.int (x <<< (y &&& 31)) :: rest)) : WW z cells slots w pc lv (.int y :: .int x :: rest) := by
  subst hq; exact fun H locs ls hP hD hS hl => lv_ishl E.1 E.2.1 hd (k H locs ls hP hD hS hl)
theorem r_ishr (E : EN z cc own) {x y : Int32} (hd : decode cc pc = .ok (.ishr, 1)) (hq : pc + 1 = q) (k : WW z cells slots w q lv (.int (x >>> (y &&& 31)) :: rest)) : WW z cells slots w pc lv (.int y :: .int x :: rest) := by
  subst hq; exact fun H locs ls hP hD hS hl => lv_ishr E.1 E.2.1 hd (k H locs ls hP hD hS hl)
theorem r_idiv (E : EN z cc own) {x y : Int32} (hd : decode cc pc = .ok (.idiv, 1)) (hne : ¬ y = 0) (hq : pc + 1 = q) (k : WW z cells slots w q lv (.int (x / y) :: rest)) : WW z cells slots w pc lv (.int y :: .int x :: rest) := by
  subst hq; exact fun H locs ls hP hD hS hl => lv_idiv E.1 E.2.1 hd hne (k H locs ls hP hD hS hl)
theorem r_land (E : EN z cc own) {x y : Int64} (hd : decode cc pc = .ok (.land, 1)) (hq : pc + 1 = q) (k : WW z cells slots w q lv (.long (x &&& y) :: rest)) : WW z cells slots w pc lv (.long y :: .long x :: rest) := by
  subst hq; exact fun H locs ls hP hD hS hl => lv_land E.1 E.2.1 hd (k H locs ls hP hD hS hl)
theorem r_lor (E : EN z cc own) {x y : Int64} (hd : decode cc pc = .ok (.lor, 1)) (hq : pc + 1 = q) (k : WW z cells slots w q lv (.long (x ||| y) :: rest)) : WW z cells slots w pc lv (.long y :: .long x :: rest) := by
  subst hq; exact fun H locs ls hP hD hS hl => lv_lor E.1 E.2.1 hd (k H locs ls hP hD hS hl)
theorem r_ldiv (E : EN z cc own) {x y : Int64} (hd : decode cc pc = .ok (.ldiv, 1)) (hne : ¬ y = 0) (hq : pc + 1 = q) (k : WW z cells slots w q lv (.long (x / y) :: rest)) : WW z cells slots w pc lv (.long y :: .long x :: rest) := by
  subst hq; exact fun H locs ls hP hD hS hl => lv_ldiv E.1 E.2.1 hd hne (k H locs ls hP hD hS hl)
theorem r_lshl (E : EN z cc own) {x : Int64} {y : Int32} (hd : decode cc pc = .ok (.lshl, 1)) (hq : pc + 1 = q) (k : WW z cells slots w q lv (.long (x <<< (y.toInt64 &&& 63)) :: rest)) : WW z cells slots w pc lv (.int y :: .long x :: rest) := by
  subst hq; exact fun H locs ls hP hD hS hl => lv_lshl E.1 E.2.1 hd rfl (k H locs ls hP hD hS hl)
theorem r_lshr (E : EN z cc own) {x : Int64} {y : Int32} (hd : decode cc pc = .ok (.lshr, 1)) (hq : pc + 1 = q) (k : WW z cells slots w q lv (.long (x >>> (y.toInt64 &&& 63)) :: rest)) : WW z cells slots w pc lv (.int y :: .long x :: rest) := by
  subst hq; exact fun H locs ls hP hD hS hl => lv_lshr E.1 E.2.1 hd rfl (k H locs ls hP hD hS hl)
theorem r_i2l (E : EN z cc own) {x : Int32} (hd : decode cc pc = .ok (.i2l, 1)) (hq : pc + 1 = q) (k : WW z cells slots w q lv (.long x.toInt64 :: rest)) : WW z cells slots w pc lv (.int x :: rest) := by
  subst hq; exact fun H locs ls hP hD hS hl => lv_i2l E.1 E.2.1 hd rfl (k H locs ls hP hD hS hl)
theorem r_l2i (E : EN z cc own) {x : Int64} (hd : decode cc pc = .ok (.l2i, 1)) (hq : pc + 1 = q) (k : WW z cells slots w q lv (.int x.toInt32 :: rest)) : WW z cells slots w pc lv (.long x :: rest) := by
  subst hq; exact fun H locs ls hP hD hS hl => lv_l2i E.1 E.2.1 hd rfl (k H locs ls hP hD hS hl)
theorem r_lcmp (E : EN z cc own) {x y : Int64} (hd : decode cc pc = .ok (.lcmp, 1)) (hq : pc + 1 = q) (k : WW z cells slots w q lv (.int (lg_cmp x y) :: rest)) : WW z cells slots w pc lv (.long y :: .long x :: rest) := by
  subst hq; exact fun H locs ls hP hD hS hl => W.lcmp E.1 E.2.1 hd (k H locs ls hP hD hS hl)
theorem r_dup (E : EN z cc own) {v : Value} (hd : decode cc pc = .ok (.dup, 1)) (hv : v.category = 1) (hq : pc + 1 = q) (k : WW z cells slots w q lv (v :: v :: rest)) : WW z cells slots w pc lv (v :: rest) := by
  subst hq; exact fun H locs ls hP hD hS hl => lv_dup E.1 E.2.1 hd hv (k H locs ls hP hD hS hl)
theorem r_pop (E : EN z cc own) {v : Value} (hd : decode cc pc = .ok (.pop, 1)) (hv : v.category = 1) (hq : pc + 1 = q) (k : WW z cells slots w q lv rest) : WW z cells slots w pc lv (v :: rest) := by
  subst hq; exact fun H locs ls hP hD hS hl => lv_pop E.1 E.2.1 hd hv (k H locs ls hP hD hS hl)
theorem r_dup2 (E : EN z cc own) {u v : Value} (hd : decode cc pc = .ok (.dup2, 1)) (hu : u.category = 1) (hv : v.category = 1) (hq : pc + 1 = q) (k : WW z cells slots w q lv (u :: v :: u :: v :: rest)) : WW z cells slots w pc lv (u :: v :: rest) := by
  subst hq; exact fun H locs ls hP hD hS hl => lv_dup2_11 E.1 E.2.1 hd hu hv (k H locs ls hP hD hS hl)
theorem r_goto (E : EN z cc own) {off : Int} (tgt : Nat) (hd : decode cc pc = .ok (.goto off, 3)) (ht : (pc : Int) + off = (tgt : Int)) (k : WW z cells slots w tgt lv rest) : WW z cells slots w pc lv rest :=
  fun H locs ls hP hD hS hl => lv_goto E.1 E.2.1 hd ht (k H locs ls hP hD hS hl)
theorem r_if_eq (E : EN z cc own) {x : Int32} {off : Int} (tgt : Nat) (hd : decode cc pc = .ok (.ifCond .eq off, 3)) (ht : (pc : Int) + off = (tgt : Int)) (hq : pc + 3 = q) (kt : x = 0 → WW z cells slots w tgt lv rest) (kf : ¬ x = 0 → WW z cells slots w q lv rest) : WW z cells slots w pc lv (.int x :: rest) := by
  subst hq; exact fun H locs ls hP hD hS hl => lv_if_eq E.1 E.2.1 hd ht (fun c => kt c H locs ls hP hD hS hl) (fun c => kf c H locs ls hP hD hS hl)
theorem r_icmp_eq (E : EN z cc own) {x y : Int32} {off : Int} (tgt : Nat) (hd : decode cc pc = .ok (.if_icmp .eq off, 3)) (ht : (pc : Int) + off = (tgt : Int)) (hq : pc + 3 = q) (kt : x = y → WW z cells slots w tgt lv rest) (kf : ¬ x = y → WW z cells slots w q lv rest) : WW z cells slots w pc lv (.int y :: .int x :: rest) := by
  subst hq; exact fun H locs ls hP hD hS hl => lv_icmp_eq E.1 E.2.1 hd ht (fun c => kt c H locs ls hP hD hS hl) (fun c => kf c H locs ls hP hD hS hl)
theorem r_if_ne (E : EN z cc own) {x : Int32} {off : Int} (tgt : Nat) (hd : decode cc pc = .ok (.ifCond .ne off, 3)) (ht : (pc : Int) + off = (tgt : Int)) (hq : pc + 3 = q) (kt : ¬ x = 0 → WW z cells slots w tgt lv rest) (kf : x = 0 → WW z cells slots w q lv rest) : WW z cells slots w pc lv (.int x :: rest) := by
  subst hq; exact fun H locs ls hP hD hS hl => lv_if_ne E.1 E.2.1 hd ht (fun c => kt c H locs ls hP hD hS hl) (fun c => kf c H locs ls hP hD hS hl)
theorem r_icmp_ne (E : EN z cc own) {x y : Int32} {off : Int} (tgt : Nat) (hd : decode cc pc = .ok (.if_icmp .ne off, 3)) (ht : (pc : Int) + off = (tgt : Int)) (hq : pc + 3 = q) (kt : ¬ x = y → WW z cells slots w tgt lv rest) (kf : x = y → WW z cells slots w q lv rest) : WW z cells slots w pc lv (.int y :: .int x :: rest) := by
  subst hq; exact fun H locs ls hP hD hS hl => lv_icmp_ne E.1 E.2.1 hd ht (fun c => kt c H locs ls hP hD hS hl) (fun c => kf c H locs ls hP hD hS hl)
theorem r_if_lt (E : EN z cc own) {x : Int32} {off : Int} (tgt : Nat) (hd : decode cc pc = .ok (.ifCond .lt off, 3)) (ht : (pc : Int) + off = (tgt : Int)) (hq : pc + 3 = q) (kt : x < 0 → WW z cells slots w tgt lv rest) (kf : ¬ x < 0 → WW z cells slots w q lv rest) : WW z cells slots w pc lv (.int x :: rest) := by
  subst hq; exact fun H locs ls hP hD hS hl => lv_if_lt E.1 E.2.1 hd ht (fun c => kt c H locs ls hP hD hS hl) (fun c => kf c H locs ls hP hD hS hl)
theorem r_icmp_lt (E : EN z cc own) {x y : Int32} {off : Int} (tgt : Nat) (hd : decode cc pc = .ok (.if_icmp .lt off, 3)) (ht : (pc : Int) + off = (tgt : Int)) (hq : pc + 3 = q) (kt : x < y → WW z cells slots w tgt lv rest) (kf : ¬ x < y → WW z cells slots w q lv rest) : WW z cells slots w pc lv (.int y :: .int x :: rest) := by
  subst hq; exact fun H locs ls hP hD hS hl => lv_icmp_lt E.1 E.2.1 hd ht (fun c => kt c H locs ls hP hD hS hl) (fun c => kf c H locs ls hP hD hS hl)
theorem r_if_ge (E : EN z cc own) {x : Int32} {off : Int} (tgt : Nat) (hd : decode cc pc = .ok (.ifCond .ge off, 3)) (ht : (pc : Int) + off = (tgt : Int)) (hq : pc + 3 = q) (kt : 0 ≤ x → WW z cells slots w tgt lv rest) (kf : ¬ 0 ≤ x → WW z cells slots w q lv rest) : WW z cells slots w pc lv (.int x :: rest) := by
  subst hq; exact fun H locs ls hP hD hS hl => lv_if_ge E.1 E.2.1 hd ht (fun c => kt c H locs ls hP hD hS hl) (fun c => kf c H locs ls hP hD hS hl)
theorem r_icmp_ge (E : EN z cc own) {x y : Int32} {off : Int} (tgt : Nat) (hd : decode cc pc = .ok (.if_icmp .ge off, 3)) (ht : (pc : Int) + off = (tgt : Int)) (hq : pc + 3 = q) (kt : y ≤ x → WW z cells slots w tgt lv rest) (kf : ¬ y ≤ x → WW z cells slots w q lv rest) : WW z cells slots w pc lv (.int y :: .int x :: rest) := by
  subst hq; exact fun H locs ls hP hD hS hl => lv_icmp_ge E.1 E.2.1 hd ht (fun c => kt c H locs ls hP hD hS hl) (fun c => kf c H locs ls hP hD hS hl)
theorem r_if_gt (E : EN z cc own) {x : Int32} {off : Int} (tgt : Nat) (hd : decode cc pc = .ok (.ifCond .gt off, 3)) (ht : (pc : Int) + off = (tgt : Int)) (hq : pc + 3 = q) (kt : 0 < x → WW z cells slots w tgt lv rest) (kf : ¬ 0 < x → WW z cells slots w q lv rest) : WW z cells slots w pc lv (.int x :: rest) := by
  subst hq; exact fun H locs ls hP hD hS hl => lv_if_gt E.1 E.2.1 hd ht (fun c => kt c H locs ls hP hD hS hl) (fun c => kf c H locs ls hP hD hS hl)
theorem r_icmp_gt (E : EN z cc own) {x y : Int32} {off : Int} (tgt : Nat) (hd : decode cc pc = .ok (.if_icmp .gt off, 3)) (ht : (pc : Int) + off = (tgt : Int)) (hq : pc + 3 = q) (kt : y < x → WW z cells slots w tgt lv rest) (kf : ¬ y < x → WW z cells slots w q lv rest) : WW z cells slots w pc lv (.int y :: .int x :: rest) := by
  subst hq; exact fun H locs ls hP hD hS hl => lv_icmp_gt E.1 E.2.1 hd ht (fun c => kt c H locs ls hP hD hS hl) (fun c => kf c H locs ls hP hD hS hl)
theorem r_if_le (E : EN z cc own) {x : Int32} {off : Int} (tgt : Nat) (hd : decode cc pc = .ok (.ifCond .le off, 3)) (ht : (pc : Int) + off = (tgt : Int)) (hq : pc + 3 = q) (kt : x ≤ 0 → WW z cells slots w tgt lv rest) (kf : ¬ x ≤ 0 → WW z cells slots w q lv rest) : WW z cells slots w pc lv (.int x :: rest) := by
  subst hq; exact fun H locs ls hP hD hS hl => lv_if_le E.1 E.2.1 hd ht (fun c => kt c H locs ls hP hD hS hl) (fun c => kf c H locs ls hP hD hS hl)
theorem r_icmp_le (E : EN z cc own) {x y : Int32} {off : Int} (tgt : Nat) (hd : decode cc pc = .ok (.if_icmp .le off, 3)) (ht : (pc : Int) + off = (tgt : Int)) (hq : pc + 3 = q) (kt : x ≤ y → WW z cells slots w tgt lv rest) (kf : ¬ x ≤ y → WW z cells slots w q lv rest) : WW z cells slots w pc lv (.int y :: .int x :: rest) := by
  subst hq; exact fun H locs ls hP hD hS hl => lv_icmp_le E.1 E.2.1 hd ht (fun c => kt c H locs ls hP hD hS hl) (fun c => kf c H locs ls hP hD hS hl)
theorem r_tabIn (E : EN z cc own) {x : Int32} (c : Int32) (hx : x = c) {dflt lo hi : Int} {offs : Array Int} {len : Nat} {off : Int} (tgt : Nat) (hd : decode cc pc = .ok (.tableswitch dflt lo hi offs, len)) (h : ¬ c.toInt < lo ∧ ¬ hi < c.toInt) (ho : offs[(c.toInt - lo).toNat]? = some off) (ht : (pc : Int) + off = (tgt : Int)) (k : WW z cells slots w tgt lv rest) : WW z cells slots w pc lv (.int x :: rest) := by
  subst hx; exact fun H locs ls hP hD hS hl => lv_tableIn E.1 E.2.1 hd h.1 h.2 ho ht (k H locs ls hP hD hS hl)
theorem r_tabOut (E : EN z cc own) {x : Int32} {dflt lo hi : Int} {offs : Array Int} {len : Nat} (tgt : Nat) (hd : decode cc pc = .ok (.tableswitch dflt lo hi offs, len)) (h : x.toInt < lo ∨ hi < x.toInt) (ht : (pc : Int) + dflt = (tgt : Int)) (k : WW z cells slots w tgt lv rest) : WW z cells slots w pc lv (.int x :: rest) :=
  fun H locs ls hP hD hS hl => lv_tableOut E.1 E.2.1 hd h ht (k H locs ls hP hD hS hl)
theorem r_look (E : EN z cc own) {x : Int32} {dflt : Int} {ps : Array (Int × Int)} {len : Nat} {off : Int} (tgt : Nat) (hd : decode cc pc = .ok (.lookupswitch dflt ps, len)) (hp : (ps.toList.zip (ps.toList.drop 1)).all (fun (a, next) => a.1 < next.1) = true) (ho : Op.lookupswitch.offset ps.toList dflt x.toInt = off) (ht : (pc : Int) + off = (tgt : Int)) (k : WW z cells slots w tgt lv rest) : WW z cells slots w pc lv (.int x :: rest) :=
  fun H locs ls hP hD hS hl => lv_lookup E.1 E.2.1 hd hp ho ht (k H locs ls hP hD hS hl)
/-- a switch's number is one of its places, or outside -/
theorem sw_out {x : Int32} {lo hi : Int} (h : ∀ j : Nat, (j : Int) ≤ hi - lo → ¬ x = Int32.ofInt (lo + j)) : x.toInt < lo ∨ hi < x.toInt := by
  rcases Int.lt_or_le x.toInt lo with g | g
  · exact Or.inl g
  · rcases Int.lt_or_le hi x.toInt with g2 | g2
    · exact Or.inr g2
    · exfalso
      refine h (x.toInt - lo).toNat (by omega) ?_
      have e : lo + ((x.toInt - lo).toNat : Int) = x.toInt := by omega
      rw [e, Int32.ofInt_toInt]
/-- a field by its link -/
def FL (own : String) (idx ci j : Nat) (C : String) (T : u_T) (N : Nat) : Prop := (∀ w ∈ u_ws C T N, w ∈ TB) ∧ Cond.fieldLink own idx (T j).1 (T j).2.1 (T j).2.2.1 ∈ TB ∧ vwCl[ci]? = some (C, T, N) ∧ j < N
theorem r_get (E : EN z cc own) {idx ci j : Nat} {C : String} {T : u_T} {N : Nat} (fl : FL own idx ci j C T N) (q0 : Nat) {a : Nat} {fs : List Value} {v : Value} (he : w[q0]? = some (a, .inr (ci, fs))) (hv : fs[j]? = some v) (hd : decode cc pc = .ok (.getfield idx, 3)) (hq : pc + 3 = q) (k : WW z cells slots w q lv (v :: rest)) : WW z cells slots w pc lv (.ref a :: rest) := by
  subst hq; exact fun H locs ls hP hD hS hl => va_get E.1 E.2.1 E.2.2.2.2.1 fl.1 E.2.2.2.1 E.2.2.2.2.2.1 hP q0 he fl.2.2.1 j fl.2.2.2 (E.2.2.2.2.1 _ fl.2.1) (fun _ h9 => h9) hv hd (k H locs ls hP hD hS hl)
/-- a field that may be written -/
def FP (own : String) (idx ci j : Nat) (C : String) (T : u_T) (N : Nat) (ty : FieldType) : Prop := FL own idx ci j C T N ∧ (∃ ty0 : Nat → FieldType, ∀ k, k < N → parseFieldDescriptor (T k).2.2.1 = some (ty0 k)) ∧ (∀ a, a < N → ∀ b, b < N → a ≠ b → (T a).2.1 ≠ (T b).2.1) ∧ parseFieldDescriptor (T j).2.2.1 = some ty
theorem r_put (E : EN z cc own) {idx ci j : Nat} {C : String} {T : u_T} {N : Nat} {ty : FieldType} (fp : FP own idx ci j C T N ty) (hfin : (T j).2.2.2 = false) (q0 : Nat) {a : Nat} {fs : List Value} {v : Value} (he : w[q0]? = some (a, .inr (ci, fs))) (hn : narrow ty v = v) (hfit : fits ty v = true) (hl0 : j < fs.length) {w' : va_W} (hw : w.set q0 (a, .inr (ci, fs.set j v)) = w') (hd : decode cc pc = .ok (.putfield idx, 3)) (hq : pc + 3 = q) (k : WW z cells slots w' q lv rest) : WW z cells slots w pc lv (v :: .ref a :: rest) := by
  subst hq; subst hw
  obtain ⟨fl, ⟨ty0, hty⟩, hnm, hdp⟩ := fp
  exact fun H locs ls hP hD hS hl => va_put E.1 E.2.1 E.2.2.2.2.1 fl.1 ty0 hty hnm E.2.2.2.1 E.2.2.2.2.2.1 hP hD hS q0 he fl.2.2.1 j fl.2.2.2 (E.2.2.2.2.1 _ fl.2.1) (fun _ h9 => h9) hfin hdp hn hfit hl0 hd (fun H1 locs1 hP1 hD1 hS1 => k H1 locs1 ls hP1 hD1 hS1 hl)
theorem r_putF (E : EN z cc own) {idx ci j : Nat} {C : String} {T : u_T} {N : Nat} {ty : FieldType} (fp : FP own idx ci j C T N ty) (hfin : (T j).2.2.2 = true) (hin : (zM z).name = "<init>") (hdc : (T j).1 = own) (q0 : Nat) {a : Nat} {fs : List Value} {v : Value} (he : w[q0]? = some (a, .inr (ci, fs))) (hn : narrow ty v = v) (hfit : fits ty v = true) (hl0 : j < fs.length) {w' : va_W} (hw : w.set q0 (a, .inr (ci, fs.set j v)) = w') (hd : decode cc pc = .ok (.putfield idx, 3)) (hq : pc + 3 = q) (k : WW z cells slots w' q lv rest) : WW z cells slots w pc lv (v :: .ref a :: rest) := by
  subst hq; subst hw
  obtain ⟨fl, ⟨ty0, hty⟩, hnm, hdp⟩ := fp
  exact fun H locs ls hP hD hS hl => va_putF E.1 E.2.1 E.2.2.2.2.1 fl.1 ty0 hty hnm E.2.2.2.1 E.2.2.2.2.2.1 hP hD hS q0 he fl.2.2.1 j fl.2.2.2 (E.2.2.2.2.1 _ fl.2.1) (fun _ h9 => h9) hfin hin hdc hdp hn hfit hl0 hd (fun H1 locs1 hP1 hD1 hS1 => k H1 locs1 ls hP1 hD1 hS1 hl)
theorem r_iald (E : EN z cc own) (q0 : Nat) {a n : Nat} {f : Nat → Int32} (ha : w[q0]? = some (a, .inl ((zk z).2.1, n, .inl f))) {i : Int32} (hin : vp_in i n) (hd : decode cc pc = .ok (.iaload, 1)) (hq : pc + 1 = q) (k : WW z cells slots w q lv (.int (f i.toNatClampNeg) :: rest)) : WW z cells slots w pc lv (.int i :: .ref a :: rest) := by
  subst hq; exact fun H locs ls hP hD hS hl => va_iald E.1 E.2.1 E.2.2.2.2.2.1 hP q0 0 ha rfl hin hd (k H locs ls hP hD hS hl)
theorem r_zald (E : EN z cc own) (q0 : Nat) {a n : Nat} {f : Nat → Int32} (ha : w[q0]? = some (a, .inl ((zk z).2.2, n, .inl f))) {i : Int32} (hin : vp_in i n) (hd : decode cc pc = .ok (.baload, 1)) (hq : pc + 1 = q) (k : WW z cells slots w q lv (.int (f i.toNatClampNeg) :: rest)) : WW z cells slots w pc lv (.int i :: .ref a :: rest) := by
  subst hq; exact fun H locs ls hP hD hS hl => va_zald E.1 E.2.1 E.2.2.2.2.2.1 hP q0 1 ha rfl hin hd (k H locs ls hP hD hS hl)
theorem r_iast (E : EN z cc own) (q0 : Nat) {a n : Nat} {f : Nat → Int32} (ha : w[q0]? = some (a, .inl ((zk z).2.1, n, .inl f))) {i x : Int32} (hin : vp_in i n) {w' : va_W} (hw : w.set q0 (a, .inl ((zk z).2.1, n, .inl (upd f i.toNatClampNeg x))) = w') (hd : decode cc pc = .ok (.iastore, 1)) (hq : pc + 1 = q) (k : WW z cells slots w' q lv rest) : WW z cells slots w pc lv (.int x :: .int i :: .ref a :: rest) := by
  subst hq; subst hw; exact fun H locs ls hP hD hS hl => va_iast E.1 E.2.1 E.2.2.2.2.2.1 hP hD hS q0 0 ha rfl hin hd (fun H1 locs1 hP1 hD1 hS1 => k H1 locs1 ls hP1 hD1 hS1 hl)
theorem r_zast (E : EN z cc own) (q0 : Nat) {a n : Nat} {f : Nat → Int32} (ha : w[q0]? = some (a, .inl ((zk z).2.2, n, .inl f))) {i x x' : Int32} (hin : vp_in i n) (hx : vp_nar .boolean x = x') {w' : va_W} (hw : w.set q0 (a, .inl ((zk z).2.2, n, .inl (upd f i.toNatClampNeg x'))) = w') (hd : decode cc pc = .ok (.bastore, 1)) (hq : pc + 1 = q) (k : WW z cells slots w' q lv rest) : WW z cells slots w pc lv (.int x :: .int i :: .ref a :: rest) := by
  subst hq; subst hx; subst hw; exact fun H locs ls hP hD hS hl => va_zast E.1 E.2.1 E.2.2.2.2.2.1 hP hD hS q0 1 ha rfl hin hd (fun H1 locs1 hP1 hD1 hS1 => k H1 locs1 ls hP1 hD1 hS1 hl)
theorem r_alen (E : EN z cc own) (q0 : Nat) {a n : Nat} {f : Nat → Int32} (ha : w[q0]? = some (a, .inl ((zk z).2.1, n, .inl f))) (hd : decode cc pc = .ok (.arraylength, 1)) (hq : pc + 1 = q) (k : WW z cells slots w q lv (.int (nI n) :: rest)) : WW z cells slots w pc lv (.ref a :: rest) := by
  subst hq; exact fun H locs ls hP hD hS hl => va_alen E.1 E.2.1 E.2.2.2.2.2.1 hP q0 0 ha rfl rfl hd (k H locs ls hP hD hS hl)
theorem r_gets (E : EN z cc own) {n : String} {f : Nat → Int32} {idx : Nat} (h : SX1 n f (zA z) (zs z) (zs z).heap) (hL : Cond.fieldLink own idx RX2 n "[I" ∈ TB) (hd : decode cc pc = .ok (.getstatic idx, 3)) (hq : pc + 3 = q) (k : ∀ t : Nat, va_T .int t 18 (fun j => .int (f j)) (zA z) (zs z) (zs z).heap → WW z cells slots w q lv (.ref t :: rest)) : WW z cells slots w pc lv rest := by
  subst hq
  obtain ⟨t, h1, h2⟩ := h
  exact fun H locs ls hP hD hS hl => va_gets E.1 E.2.1 h1 hS E.2.2.2.1 (E.2.2.2.2.1 _ hL) (fun _ h9 => h9) hd (k t h2 H locs ls hP hD hS hl)
theorem r_ti (E : EN z cc own) {f : Nat → Int32} {t : Nat} (hT : va_T .int t 18 (fun j => .int (f j)) (zA z) (zs z) (zs z).heap) {i : Int32} (hin : vp_in i 18) (hd : decode cc pc = .ok (.iaload, 1)) (hq : pc + 1 = q) (k : WW z cells slots w q lv (.int (f i.toNatClampNeg) :: rest)) : WW z cells slots w pc lv (.int i :: .ref t :: rest) := by
  subst hq; exact fun H locs ls hP hD hS hl => va_ti E.1 E.2.1 hT hS hin rfl hd (k H locs ls hP hD hS hl)
/-- what a room has left for calls: d levels, so many cells and slots -/
def RR (z : Zt) (d mc ms : Nat) : Prop := d ≤ (zR z).frames ∧ 40 * d ≤ (zR z).locals ∧ mc ≤ (zR z).cells ∧ ms ≤ (zR z).slots
theorem RT.rr {ret : Option FieldType} {d mc ms : Nat} {w0 : va_W} {P : Option Value → va_W → Prop} (T : RT z ret d w0 P mc ms) : RR z d mc ms := by
  unfold RR; rw [T.1]; exact ⟨Nat.le_refl _, Nat.le_refl _, Nat.le_refl _, Nat.le_refl _⟩
theorem r_min (E : EN z cc own) {d mc ms idx : Nat} (hR : RR z (d + 1) mc ms) (hL : Cond.methodLink own idx Lib.Math.min.name ∈ TB) (hs : Cond.static Lib.Math.min.name ∈ TB) (hi : Cond.initialized "java/lang/Math" ∈ TB) (hcd : Cond.code Lib.Math.min.name Lib.Math.min.code 2 (some .int) ∈ TB) (hcat : (rest.map fun v => v.category).sum ≤ 8) (hc : cells ≤ mc) (hsl : slots ≤ ms) {x y : Int32} (hd : decode cc pc = .ok (.invokestatic idx, 3)) (hq : pc + 3 = q) (k : WW z cells slots w q lv (.int (if y < x then y else x) :: rest)) : WW z cells slots w pc lv (.int y :: .int x :: rest) := by
  subst hq; exact fun H locs ls hP hD hS hl => va_mmin E.1 E.2.1 (E.2.2.1.trans hl.1.symm) E.2.2.2.1 (E.2.2.2.2.1 _ hL) (E.2.2.2.2.1 _ hs) (E.2.2.2.2.1 _ hi) (E.2.2.2.2.1 _ hcd) (by have := hR.1; omega) (by have := hR.2.1; omega) (Nat.le_trans hc hR.2.2.1) (Nat.le_trans hsl hR.2.2.2) hd (k H locs ls hP hD hS hl)
/-- a world w0 is the cells w and the cells wr -/
def Fr (w0 w wr : va_W) : Prop := (∀ q ∈ w, q ∈ w0) ∧ (∀ q ∈ wr, q ∈ w0) ∧ ∀ A : Nat → Prop, va_D A w0 → va_D A w ∧ va_D A wr ∧ ∀ (i j : Nat) (x y : Nat × va_E), wr[i]? = some x → w[j]? = some y → x.1 ≠ y.1
theorem Fr.all : Fr w w [] := by
  refine ⟨fun _ h => h, fun q h => absurd h List.not_mem_nil, fun A h => ⟨h, ⟨fun i j p q h => ?_, fun k q h => ?_⟩, fun i j x y h => ?_⟩⟩ <;> simp at h
theorem Fr.right {a b : va_W} : Fr (a ++ b) b a := by
  refine ⟨fun _ h => List.mem_append_right _ h, fun _ h => List.mem_append_left _ h, fun A h => ⟨⟨fun i j p q hi hj e => ?_, fun k q hk => ?_⟩, ⟨fun i j p q hi hj e => ?_, fun k q hk => ?_⟩, fun i j x y hx hy e => ?_⟩⟩
  · have := h.1 (a.length + i) (a.length + j) p q (by rw [List.getElem?_append_right (by omega)]; simpa using hi) (by rw [List.getElem?_append_right (by omega)]; simpa using hj) e
    omega
  · exact h.2 (a.length + k) q (by rw [List.getElem?_append_right (by omega)]; simpa using hk)
  · exact h.1 i j p q (by rw [List.getElem?_append_left (List.getElem?_eq_some_iff.mp hi).1]; exact hi) (by rw [List.getElem?_append_left (List.getElem?_eq_some_iff.mp hj).1]; exact hj) e
  · exact h.2 k q (by rw [List.getElem?_append_left (List.getElem?_eq_some_iff.mp hk).1]; exact hk)
  · have hl := (List.getElem?_eq_some_iff.mp hx).1
    have := h.1 i (a.length + j) x y (by rw [List.getElem?_append_left hl]; exact hx) (by rw [List.getElem?_append_right (by omega)]; simpa using hy) e
    omega
theorem Fr.left {a b : va_W} : Fr (a ++ b) a b := by
  obtain ⟨h1, h2, h3⟩ := Fr.right (a := a) (b := b)
  exact ⟨h2, h1, fun A h => ⟨(h3 A h).2.1, (h3 A h).1, fun i j x y hx hy e => (h3 A h).2.2 j i y x hy hx e.symm⟩⟩
theorem Fr.P {w0 wc wr : va_W} (h : Fr w0 wc wr) {D : va_G} {H : Heap} (hP : va_P D vwCl w0 H) : va_P D vwCl wc H ∧ va_P D vwCl wr H := by
  refine ⟨fun k q hk => ?_, fun k q hk => ?_⟩
  · obtain ⟨i, hi⟩ := List.getElem?_of_mem (h.1 q (List.mem_of_getElem? hk))
    exact hP i q hi
  · obtain ⟨i, hi⟩ := List.getElem?_of_mem (h.2.1 q (List.mem_of_getElem? hk))
    exact hP i q hi
theorem core_call (E : EN z cc own) {w0 wc wr : va_W} (hFr : Fr w0 wc wr) {P : Option Value → va_W → Prop} {mc ms : Nat} {ls : Array Slot} {st0 : List Value} {a : Array Value} {H : Heap} {locs : List Loc}
    (hP : va_P (zk z).1 vwCl w0 H) (hD : va_D (zA z) w0) (hS : va_S (zA z) (zs z).heap H locs) (hl : lv_has ls (zn z) lv)
    (hr : va_Run (zp z) (zl z) (ze z) (zR z) (zs z) (zm z) (za z) (zb z) (zM z) (zc z) H locs cells slots mc ms (F0 (zm z) pc ls st0) rest (ctQ (zk z) wc P H.size a) (va_A wc H.size))
    (k : ∀ (v : Option Value) (w' : va_W), P v w' → WW z (cells + mc) (slots + ms) (wr ++ w') (pc + 3) lv (v.toList ++ rest)) :
    W (zp z) (zl z) (ze z) (zR z) (zs z) (zm z) (za z) (zb z) (zM z) (zc z) H locs cells slots (zQ z) (F0 (zm z) pc ls st0) := by
  intro T hT X
  obtain ⟨v, st₀, t, T', L, h0, X', hL, e1, e2, ⟨⟨v', w', hv, hp, hP1, hD1⟩, hz, hk⟩, st⟩ := hr T hT X
  cases hv
  rw [h0] at hz hk
  obtain ⟨hDc, hDr, hap⟩ := hFr.2.2 _ hD
  obtain ⟨hPc, hPr⟩ := hFr.P hP
  have hF : ∀ q, va_A wc H.size q → zA z q := by
    intro q h
    rcases h with ⟨i, e, h⟩ | h
    · exact hDc.2 i (q, e) h
    · exact E.2.2.2.2.2.2.1 q (Nat.le_trans hS.1 h)
  have apart : ∀ (i : Nat) (q : Nat × va_E), wr[i]? = some q → q.1 < H.size ∧ ¬ va_A wc H.size q.1 := by
    intro i q hq
    have hlt := (hPr i q hq).lt
    refine ⟨hlt, fun h => ?_⟩
    rcases h with ⟨j, e, h⟩ | h
    · exact hap i j q (q.1, e) hq h rfl
    · omega
  have hP2 : va_P (zk z).1 vwCl (wr ++ w') T'.heap := by
    rw [e1]
    exact va_P.app (fun i q hq => (hPr i q hq).kept (hk q.1 (apart i q hq).1 (apart i q hq).2)) hP1
  have hD2 : va_D (zA z) (wr ++ w') := va_D.app hDr (hD1.weaken (fun i q _ h => hF q.1 h)) (fun i j x y hx hy hxy => (apart i x hx).2 (by rw [hxy]; exact hD1.2 j y hy))
  have hS2 : va_S (zA z) (zs z).heap T'.heap (locs ++ L) := ⟨Nat.le_trans hS.1 (by rw [e1]; exact hz), fun q h1 h2 => by rw [e1, hk q (Nat.lt_of_lt_of_le h1 hS.1) (fun y => h2 (hF q y))]; exact hS.2.1 q h1 h2, fun q hq => by
      rcases List.mem_append.mp hq with h | h
      · exact hS.2.2 q h
      · exact hF _ (hL q h)⟩
  obtain ⟨t2, a1, b1⟩ := k v w' hp T'.heap (locs ++ L) ls hP2 hD2 hS2 hl T' rfl X'
  exact ⟨t2, st t2 a1, b1⟩
theorem ctP_blind {k : Kt} {av : List Value} {wc : va_W} {sz : Nat} : FrameBlind (ctP k av wc sz) := by
  intro a U g mk hh
  obtain ⟨h0, h1, h2, h3, h4, h5, h6⟩ := hh
  exact ⟨h0, h1, h2, va_K.moved (u := U) (U := U.calling g mk a) (Vm.Alike.refl U.vm) h3, h4, h5.to (U := U.calling g mk a) (Vm.Alike.refl U.vm) (fun _ _ _ => rfl) (fun _ h => h), fun q hq => va_Nw.same rfl rfl (h6 q hq)⟩
theorem ctP_at (E : EN z cc own) {w0 wc wr : va_W} (hFr : Fr w0 wc wr) {av : List Value} {H : Heap} {locs : List Loc} (hP : va_P (zk z).1 vwCl w0 H) (hD : va_D (zA z) w0) (hS : va_S (zA z) (zs z).heap H locs) :
    ∀ U : State, U.heap = H → (zs z).WarmedH U.vm → ctP (zk z) av wc H.size av.toArray U := by
  intro U hU hW
  obtain ⟨hDc, hDr, hap⟩ := hFr.2.2 _ hD
  have hF : ∀ q, va_A wc H.size q → zA z q := by
    intro q h
    rcases h with ⟨i, e, h⟩ | h
    · exact hDc.2 i (q, e) h
    · exact E.2.2.2.2.2.2.1 q (Nat.le_trans hS.1 h)
  exact ⟨rfl, by rw [hU], by rw [hU]; exact (hFr.P hP).1, va_K.moved hW.alike E.2.2.2.2.2.1, hDc.weaken (fun _ _ _ _ => trivial), by rw [hU]; exact E.2.2.2.2.2.2.2.1.to hW.alike (fun a h1 h2 => hS.2.1 a h1 h2) hF, E.2.2.2.2.2.2.2.2.to hW⟩
theorem good_cons {y : MethodName} {bytes : ByteArray} {maxL : Nat} {ret : Option FieldType} (h : Cond.code y bytes maxL ret ∈ TB) : GoodIn TB (.code y bytes maxL ret :: TB) := fun w hw => (List.mem_cons.mp hw).elim (fun e => by rw [e]; exact TB_good _ h) (TB_good w)
def CV (own C : String) (idx : Nat) (y : MethodName) (bytes : ByteArray) (maxL : Nat) (ret : Option FieldType) (n : Nat) : Prop := (∀ w ∈ [Cond.methodLink own idx y, Cond.instanceMethod y, Cond.selects C y y, Cond.initialized C, Cond.code y bytes maxL ret], w ∈ TB) ∧ (y.cls = C ∧ y.cls ≠ "java/lang/invoke/MethodHandle" ∧ y.cls ≠ "java/lang/invoke/VarHandle" ∧ (parseMethodDescriptor y.desc).map (fun d => d.parameters.length) = some n) ∧ maxL ≤ 20
def CS (own : String) (idx : Nat) (y : MethodName) (bytes : ByteArray) (maxL : Nat) (ret : Option FieldType) (n : Nat) : Prop := (∀ w ∈ [Cond.methodLink own idx y, Cond.static y, Cond.initialized y.cls, Cond.code y bytes maxL ret], w ∈ TB) ∧ (y.cls ≠ "java/lang/invoke/MethodHandle" ∧ y.cls ≠ "java/lang/invoke/VarHandle" ∧ (parseMethodDescriptor y.desc).map (fun d => d.parameters.length) = some n) ∧ maxL ≤ 20
def CSN (own : String) (idx : Nat) (y : MethodName) (bytes : ByteArray) (maxL : Nat) (ret : Option FieldType) (n : Nat) : Prop := (∀ w ∈ [Cond.static y, Cond.initialized y.cls, Cond.code y bytes maxL ret], w ∈ TB) ∧ (y.cls ≠ "java/lang/invoke/MethodHandle" ∧ y.cls ≠ "java/lang/invoke/VarHandle" ∧ (parseMethodDescriptor y.desc).map (fun d => d.parameters.length) = some n) ∧ maxL ≤ 20 ∧ (own, idx, y) ∈ NXl
theorem rV (E : EN z cc own) {C : String} {idx maxL n d d' mc ms mx sx : Nat} {y : MethodName} {bytes : ByteArray} {ret : Option FieldType} (cw : CV own C idx y bytes maxL ret n) (hR : RR z d mx sx) {w0 wr : va_W} (hFr : Fr w0 w wr) (q0 : Nat) {ci b : Nat} {fs : List Value} {T : u_T} {N : Nat} (he : w[q0]? = some (b, .inr (ci, fs))) (hc : vwCl[ci]? = some (C, T, N)) (As : List Value) {P : Option Value → va_W → Prop} (hC : CT (zl z) (zk z) y bytes maxL ret d' (.ref b :: As) w P mc ms)
    (hdl : d' < d) (hn : As.length = n) {st : List Value} (hst : st = As.reverse ++ .ref b :: rest) (hcat : (rest.map fun v => v.category).sum ≤ 8) (hf : cells + mc ≤ mx ∧ slots + ms ≤ sx) (hd : decode cc pc = .ok (.invokevirtual idx, 3)) (k : ∀ (v : Option Value) (w' : va_W), P v w' → WW z (cells + mc) (slots + ms) (wr ++ w') (pc + 3) lv (v.toList ++ rest)) : WW z cells slots w0 pc lv st := by
  intro H locs ls hP hD hS hl
  obtain ⟨hw, hdd, hmx⟩ := cw
  refine core_call E hFr hP hD hS hl (va_runV (As := As) (rest := rest) ⟨E.1, E.2.1, E.2.2.1, E.2.2.2.1, E.2.2.2.2.1⟩ (hC H.size) (cwV n E.2.2.2.2.1 (fun x hx => ?_) rfl rfl rfl hdd ⟨?_, ?_⟩) ⟨ctP_blind, va_recv E.2.2.2.2.2.1 (hFr.P hP).1 hc he, ctP_at E hFr hP hD hS⟩ rfl hn hl.1 hst (lv_room hcat) hd ⟨Nat.le_trans hf.1 hR.2.2.1, Nat.le_trans hf.2 hR.2.2.2⟩) k
  · rcases List.mem_append.mp hx with h | h
    · refine TB_good x (hw x ?_)
      simp only [List.mem_cons, List.not_mem_nil, or_false] at h ⊢
      rcases h with h | h | h | h <;> simp [h]
    · exact good_cons (hw _ (by simp)) x h
  · show d' + 1 ≤ _
    have := hR.1; omega
  · show 8 + (maxL + 11) + 40 * d' ≤ _
    have := hR.2.1; omega
theorem rS (E : EN z cc own) {idx maxL n d d' mc ms mx sx : Nat} {y : MethodName} {bytes : ByteArray} {ret : Option FieldType} (cw : CS own idx y bytes maxL ret n) (hR : RR z d mx sx) {w0 wr : va_W} (hFr : Fr w0 w wr) (As : List Value) {P : Option Value → va_W → Prop} (hC : CT (zl z) (zk z) y bytes maxL ret d' As w P mc ms)
    (hdl : d' < d) (hn : As.length = n) {st : List Value} (hst : st = As.reverse ++ rest) (hcat : (rest.map fun v => v.category).sum ≤ 8) (hf : cells + mc ≤ mx ∧ slots + ms ≤ sx) (hd : decode cc pc = .ok (.invokestatic idx, 3)) (k : ∀ (v : Option Value) (w' : va_W), P v w' → WW z (cells + mc) (slots + ms) (wr ++ w') (pc + 3) lv (v.toList ++ rest)) : WW z cells slots w0 pc lv st := by
  intro H locs ls hP hD hS hl
  obtain ⟨hw, hdd, hmx⟩ := cw
  refine core_call E hFr hP hD hS hl (va_runS (As := As) (rest := rest) ⟨E.1, E.2.1, E.2.2.1, E.2.2.2.1, E.2.2.2.2.1⟩ (hC H.size) (va_cwS n E.2.2.2.2.1 (fun x hx => ?_) rfl rfl rfl hdd ⟨?_, ?_⟩) ⟨ctP_blind, ctP_at E hFr hP hD hS⟩ rfl hn hl.1 hst (lv_room hcat) hd ⟨Nat.le_trans hf.1 hR.2.2.1, Nat.le_trans hf.2 hR.2.2.2⟩) k
  · rcases List.mem_append.mp hx with h | h
    · refine TB_good x (hw x ?_)
      simp only [List.mem_cons, List.not_mem_nil, or_false] at h ⊢
      rcases h with h | h | h <;> simp [h]
    · exact good_cons (hw _ (by simp)) x h
  · show d' + 1 ≤ _
    have := hR.1; omega
  · show 8 + (maxL + 11) + 40 * d' ≤ _
    have := hR.2.1; omega
theorem rSN (E : EN z cc own) {idx maxL n d d' mc ms mx sx : Nat} {y : MethodName} {bytes : ByteArray} {ret : Option FieldType} (cw : CSN own idx y bytes maxL ret n) (hR : RR z d mx sx) {w0 wr : va_W} (hFr : Fr w0 w wr) (As : List Value) {P : Option Value → va_W → Prop} (hC : CT (zl z) (zk z) y bytes maxL ret d' As w P mc ms)
    (hdl : d' < d) (hn : As.length = n) {st : List Value} (hst : st = As.reverse ++ rest) (hcat : (rest.map fun v => v.category).sum ≤ 8) (hf : cells + mc ≤ mx ∧ slots + ms ≤ sx) (hd : decode cc pc = .ok (.invokestatic idx, 3)) (k : ∀ (v : Option Value) (w' : va_W), P v w' → WW z (cells + mc) (slots + ms) (wr ++ w') (pc + 3) lv (v.toList ++ rest)) : WW z cells slots w0 pc lv st := by
  intro H locs ls hP hD hS hl
  obtain ⟨hw, hdd, hmx, hN⟩ := cw
  refine core_call E hFr hP hD hS hl (va_runSN (As := As) (rest := rest) (host := RX5) ⟨E.1, E.2.1, E.2.2.1, E.2.2.2.1, E.2.2.2.2.1⟩ (hC H.size) ⟨va_cnB n E.2.2.2.2.1 (good_cons (hw _ (by simp))) rfl rfl rfl (E.2.2.2.2.2.2.2.2 _ hN) (E.2.2.2.2.1 _ (hw _ (by simp))) hdd ⟨?_, ?_⟩, E.2.2.2.2.1 _ (hw _ (by simp)), trivial⟩ ⟨ctP_blind, ctP_at E hFr hP hD hS⟩ rfl hn hl.1 hst (lv_room hcat) hd ⟨Nat.le_trans hf.1 hR.2.2.1, Nat.le_trans hf.2 hR.2.2.2⟩) k
  · show d' + 1 ≤ _
    have := hR.1; omega
  · show 8 + (maxL + 11) + 40 * d' ≤ _
    have := hR.2.1; omega
/-- answers that are told whole -/
def eqI (R : Int32) (W' : va_W) : Option Value → va_W → Prop := fun v w => v = some (.int R) ∧ w = W'
def eqV (W' : va_W) : Option Value → va_W → Prop := fun v w => v = none ∧ w = W'
theorem eqI.k {R : Int32} {W' wr : va_W} (hq : pc + 3 = q) (k : WW z cells slots (wr ++ W') q lv (.int R :: rest)) : ∀ (v : Option Value) (w' : va_W), eqI R W' v w' → WW z (cells + 0) (slots + 0) (wr ++ w') (pc + 3) lv (v.toList ++ rest) := by
  subst hq; rintro _ _ ⟨rfl, rfl⟩; exact k
theorem eqV.k {W' wr : va_W} (hq : pc + 3 = q) (k : WW z cells slots (wr ++ W') q lv rest) : ∀ (v : Option Value) (w' : va_W), eqV W' v w' → WW z (cells + 0) (slots + 0) (wr ++ w') (pc + 3) lv (v.toList ++ rest) := by
  subst hq; rintro _ _ ⟨rfl, rfl⟩; exact k
theorem r_iret (E : EN z cc own) {d mc ms : Nat} {w0 : va_W} {P : Option Value → va_W → Prop} (T : RT z (some .int) d w0 P mc ms) {v : Int32} (hd : decode cc pc = .ok (.ireturn, 1)) (hp : P (some (.int v)) w) : WW z mc ms w pc lv [.int v] := by
  intro H locs ls hP hD hS hl
  rw [T.2.2.2.2]
  exact W.iret E.1 E.2.1 T.2.1 (fun t ht hW => ⟨⟨_, w, rfl, hp, by rw [ht]; exact hP, by rw [← T.2.2.2.1]; exact hD⟩, by rw [← T.2.2.2.1]; exact hS.F ht⟩) (by rw [← T.2.2.2.1]; exact hS.2.2) hd T.2.2.1
theorem r_zret (E : EN z cc own) {d mc ms : Nat} {w0 : va_W} {P : Option Value → va_W → Prop} (T : RT z (some .boolean) d w0 P mc ms) {v : Int32} (hv : v = 0 ∨ v = 1) (hd : decode cc pc = .ok (.ireturn, 1)) (hp : P (some (.int v)) w) : WW z mc ms w pc lv [.int v] := by
  intro H locs ls hP hD hS hl
  rw [T.2.2.2.2]
  exact W.zret E.1 E.2.1 T.2.1 (by rcases hv with rfl | rfl <;> rfl) (fun t ht hW => ⟨⟨_, w, rfl, hp, by rw [ht]; exact hP, by rw [← T.2.2.2.1]; exact hD⟩, by rw [← T.2.2.2.1]; exact hS.F ht⟩) (by rw [← T.2.2.2.1]; exact hS.2.2) hd T.2.2.1
theorem r_lret (E : EN z cc own) {d mc ms : Nat} {w0 : va_W} {P : Option Value → va_W → Prop} (T : RT z (some .long) d w0 P mc ms) {v : Int64} (hd : decode cc pc = .ok (.lreturn, 1)) (hp : P (some (.long v)) w) : WW z mc ms w pc lv [.long v] := by
  intro H locs ls hP hD hS hl
  rw [T.2.2.2.2]
  exact W.lret E.1 E.2.1 T.2.1 (fun t ht hW => ⟨⟨_, w, rfl, hp, by rw [ht]; exact hP, by rw [← T.2.2.2.1]; exact hD⟩, by rw [← T.2.2.2.1]; exact hS.F ht⟩) (by rw [← T.2.2.2.1]; exact hS.2.2) hd T.2.2.1
theorem r_vret (E : EN z cc own) {d mc ms : Nat} {w0 : va_W} {P : Option Value → va_W → Prop} (T : RT z none d w0 P mc ms) (hd : decode cc pc = .ok (.return_, 1)) (hp : P none w) : WW z mc ms w pc lv [] := by
  intro H locs ls hP hD hS hl
  rw [T.2.2.2.2]
  exact W.vret E.1 E.2.1 T.2.1 (fun t ht hW => ⟨⟨_, w, rfl, hp, by rw [ht]; exact hP, by rw [← T.2.2.2.1]; exact hD⟩, by rw [← T.2.2.2.1]; exact hS.F ht⟩) (by rw [← T.2.2.2.1]; exact hS.2.2) hd T.2.2.1
end ROWS
end
section
set_option maxRecDepth 100000 in
theorem m0 : Cond.selects RX0 yX0_sizeOf yX0_sizeOf ∈ TB := TB_mem 0 (by rfl) (by rfl)
set_option maxRecDepth 100000 in
theorem m1 : Cond.selects RX0 yX0_readsOf yX0_readsOf ∈ TB := TB_mem 1 (by rfl) (by rfl)
set_option maxRecDepth 100000 in
theorem m2 : Cond.selects RX0 yX0_failsOf yX0_failsOf ∈ TB := TB_mem 2 (by rfl) (by rfl)
set_option maxRecDepth 100000 in
theorem m3 : Cond.selects RX1 yX1_isValue yX1_isValue ∈ TB := TB_mem 3 (by rfl) (by rfl)
set_option maxRecDepth 100000 in
theorem m4 : Cond.selects RX1 yX1_failsOf yX1_failsOf ∈ TB := TB_mem 4 (by rfl) (by rfl)
set_option maxRecDepth 100000 in
theorem m5 : Cond.selects RX1 yX1_leftBelow yX1_leftBelow ∈ TB := TB_mem 5 (by rfl) (by rfl)
set_option maxRecDepth 100000 in
theorem m6 : Cond.selects RX1 yX1_rightBelow yX1_rightBelow ∈ TB := TB_mem 6 (by rfl) (by rfl)
set_option maxRecDepth 100000 in
theorem m7 : Cond.selects RX3 yX3_work yX3_work ∈ TB := TB_mem 7 (by rfl) (by rfl)
set_option maxRecDepth 100000 in
theorem m8 : Cond.selects RX3 yX3_giveSource yX3_giveSource ∈ TB := TB_mem 8 (by rfl) (by rfl)
set_option maxRecDepth 100000 in
theorem m9 : Cond.selects RX3 yX3_addEmpty yX3_addEmpty ∈ TB := TB_mem 9 (by rfl) (by rfl)
set_option maxRecDepth 100000 in
theorem m10 : Cond.selects RX3 yX3_giveFiltered yX3_giveFiltered ∈ TB := TB_mem 10 (by rfl) (by rfl)
set_option maxRecDepth 100000 in
theorem m11 : Cond.selects RX3 yX3_valueOf yX3_valueOf ∈ TB := TB_mem 11 (by rfl) (by rfl)
set_option maxRecDepth 100000 in
theorem m12 : Cond.selects RX3 yX3_valueOfParts yX3_valueOfParts ∈ TB := TB_mem 12 (by rfl) (by rfl)
set_option maxRecDepth 100000 in
theorem m13 : Cond.selects RX3 yX3_itemAt yX3_itemAt ∈ TB := TB_mem 13 (by rfl) (by rfl)
set_option maxRecDepth 100000 in
theorem m14 : Cond.selects RX3 yX3_valueOfPair yX3_valueOfPair ∈ TB := TB_mem 14 (by rfl) (by rfl)
set_option maxRecDepth 100000 in
theorem m15 : Cond.selects RX3 yX3_addCopy yX3_addCopy ∈ TB := TB_mem 15 (by rfl) (by rfl)
set_option maxRecDepth 100000 in
theorem m16 : Cond.selects RX3 yX3_giveSet yX3_giveSet ∈ TB := TB_mem 16 (by rfl) (by rfl)
set_option maxRecDepth 100000 in
theorem m17 : Cond.selects RX3 yX3_giveKept yX3_giveKept ∈ TB := TB_mem 17 (by rfl) (by rfl)
set_option maxRecDepth 100000 in
theorem m18 : Cond.selects RX3 yX3_copyMembers yX3_copyMembers ∈ TB := TB_mem 18 (by rfl) (by rfl)
set_option maxRecDepth 100000 in
theorem m19 : Cond.selects RX3 yX3_giveJoined yX3_giveJoined ∈ TB := TB_mem 19 (by rfl) (by rfl)
set_option maxRecDepth 100000 in
theorem m20 : Cond.selects RX3 yX3_giveFirst yX3_giveFirst ∈ TB := TB_mem 20 (by rfl) (by rfl)
set_option maxRecDepth 100000 in
theorem m21 : Cond.selects RX3 yX3_giveFolded yX3_giveFolded ∈ TB := TB_mem 21 (by rfl) (by rfl)
set_option maxRecDepth 100000 in
theorem m22 : Cond.selects RX3 yX3_findMember yX3_findMember ∈ TB := TB_mem 22 (by rfl) (by rfl)
set_option maxRecDepth 100000 in
theorem m23 : Cond.selects RX3 yX3_giveOnce yX3_giveOnce ∈ TB := TB_mem 23 (by rfl) (by rfl)
set_option maxRecDepth 100000 in
theorem m24 : Cond.selects RX3 yX3_hasLike yX3_hasLike ∈ TB := TB_mem 24 (by rfl) (by rfl)
set_option maxRecDepth 100000 in
theorem m25 : Cond.selects RX3 yX3_isLike yX3_isLike ∈ TB := TB_mem 25 (by rfl) (by rfl)
set_option maxRecDepth 100000 in
theorem m26 : Cond.selects RX2 yX2_suitsFilter yX2_suitsFilter ∈ TB := TB_mem 26 (by rfl) (by rfl)
set_option maxRecDepth 100000 in
theorem m27 : Cond.selects RX2 yX2_suitsOther yX2_suitsOther ∈ TB := TB_mem 27 (by rfl) (by rfl)
set_option maxRecDepth 100000 in
theorem m28 : Cond.selects RX2 yX2_isLikeJob yX2_isLikeJob ∈ TB := TB_mem 28 (by rfl) (by rfl)
set_option maxRecDepth 100000 in
theorem m29 : Cond.selects RX2 yX2_addLike yX2_addLike ∈ TB := TB_mem 29 (by rfl) (by rfl)
set_option maxRecDepth 100000 in
theorem m30 : Cond.selects RX2 yX2_exchange yX2_exchange ∈ TB := TB_mem 30 (by rfl) (by rfl)
set_option maxRecDepth 100000 in
theorem m31 : Cond.selects RX2 yX2_skip yX2_skip ∈ TB := TB_mem 31 (by rfl) (by rfl)
set_option maxRecDepth 100000 in
theorem m32 : Cond.selects RX2 yX2_workAbove yX2_workAbove ∈ TB := TB_mem 32 (by rfl) (by rfl)
set_option maxRecDepth 100000 in
theorem m33 : Cond.selects RX6 yX6_isFormula yX6_isFormula ∈ TB := TB_mem 33 (by rfl) (by rfl)
set_option maxRecDepth 100000 in
theorem m34 : Cond.selects RX6 yX6_sizeOf yX6_sizeOf ∈ TB := TB_mem 34 (by rfl) (by rfl)
set_option maxRecDepth 100000 in
theorem m35 : Cond.selects RX6 yX6_tell yX6_tell ∈ TB := TB_mem 35 (by rfl) (by rfl)
set_option maxRecDepth 100000 in
theorem m36 : Cond.selects RX6 yX6_isNode yX6_isNode ∈ TB := TB_mem 36 (by rfl) (by rfl)
set_option maxRecDepth 100000 in
theorem m37 : Cond.selects RX6 yX6_isRight yX6_isRight ∈ TB := TB_mem 37 (by rfl) (by rfl)
set_option maxRecDepth 100000 in
theorem m38 : Cond.selects RX6 yX6_lay yX6_lay ∈ TB := TB_mem 38 (by rfl) (by rfl)
set_option maxRecDepth 100000 in
theorem m39 : Cond.selects RX6 yX6_put yX6_put ∈ TB := TB_mem 39 (by rfl) (by rfl)
set_option maxRecDepth 100000 in
theorem m40 : Cond.selects RX6 yX6_look yX6_look ∈ TB := TB_mem 40 (by rfl) (by rfl)
set_option maxRecDepth 100000 in
theorem m41 : Cond.selects RX6 yX6_bound yX6_bound ∈ TB := TB_mem 41 (by rfl) (by rfl)
set_option maxRecDepth 100000 in
theorem m42 : Cond.selects RX6 yX6_does yX6_does ∈ TB := TB_mem 42 (by rfl) (by rfl)
set_option maxRecDepth 100000 in
theorem m43 : Cond.selects RX6 yX6_takes yX6_takes ∈ TB := TB_mem 43 (by rfl) (by rfl)
set_option maxRecDepth 100000 in
theorem m44 : Cond.selects RX6 yX6_work yX6_work ∈ TB := TB_mem 44 (by rfl) (by rfl)
set_option maxRecDepth 100000 in
theorem m45 : Cond.selects RX6 yX6_begins yX6_begins ∈ TB := TB_mem 45 (by rfl) (by rfl)
set_option maxRecDepth 100000 in
theorem m46 : Cond.selects RX6 yX6_goesOn yX6_goesOn ∈ TB := TB_mem 46 (by rfl) (by rfl)
set_option maxRecDepth 100000 in
theorem m47 : Cond.selects RX6 yX6_gives yX6_gives ∈ TB := TB_mem 47 (by rfl) (by rfl)
set_option maxRecDepth 100000 in
theorem m48 : Cond.selects RX6 yX6_asks yX6_asks ∈ TB := TB_mem 48 (by rfl) (by rfl)
set_option maxRecDepth 100000 in
theorem m49 : Cond.selects RX6 yX6_single yX6_single ∈ TB := TB_mem 49 (by rfl) (by rfl)
set_option maxRecDepth 100000 in
theorem m50 : Cond.selects RX6 yX6_both yX6_both ∈ TB := TB_mem 50 (by rfl) (by rfl)
set_option maxRecDepth 100000 in
theorem m51 : Cond.selects RX6 yX6_add yX6_add ∈ TB := TB_mem 51 (by rfl) (by rfl)
set_option maxRecDepth 100000 in
theorem m52 : Cond.selects RX6 yX6_copy yX6_copy ∈ TB := TB_mem 52 (by rfl) (by rfl)
set_option maxRecDepth 100000 in
theorem m53 : Cond.selects RX6 yX6_joins yX6_joins ∈ TB := TB_mem 53 (by rfl) (by rfl)
set_option maxRecDepth 100000 in
theorem m54 : Cond.selects RX6 yX6_folds yX6_folds ∈ TB := TB_mem 54 (by rfl) (by rfl)
set_option maxRecDepth 100000 in
theorem m55 : Cond.selects RX6 yX6_has yX6_has ∈ TB := TB_mem 55 (by rfl) (by rfl)
set_option maxRecDepth 100000 in
theorem m56 : Cond.selects RX6 yX6_stands yX6_stands ∈ TB := TB_mem 56 (by rfl) (by rfl)
set_option maxRecDepth 100000 in
theorem m57 : Cond.selects RX6 yX6_isFold yX6_isFold ∈ TB := TB_mem 57 (by rfl) (by rfl)
set_option maxRecDepth 100000 in
theorem m58 : Cond.selects RX6 yX6_hasRoom yX6_hasRoom ∈ TB := TB_mem 58 (by rfl) (by rfl)
set_option maxRecDepth 100000 in
theorem m59 : Cond.selects RX6 yX6_rewrites yX6_rewrites ∈ TB := TB_mem 59 (by rfl) (by rfl)
set_option maxRecDepth 100000 in
theorem m60 : Cond.selects RX6 yX6_below yX6_below ∈ TB := TB_mem 60 (by rfl) (by rfl)
set_option maxRecDepth 100000 in
theorem m61 : Cond.selects RX6 yX6_ruleFor yX6_ruleFor ∈ TB := TB_mem 61 (by rfl) (by rfl)
set_option maxRecDepth 100000 in
theorem m63 : Cond.initialized RX5 ∈ TB := TB_mem 63 (by rfl) (by rfl)
set_option maxRecDepth 100000 in
theorem m64 : Cond.initialized RX4 ∈ TB := TB_mem 64 (by rfl) (by rfl)
set_option maxRecDepth 100000 in
theorem m65 : Cond.initialized RX0 ∈ TB := TB_mem 65 (by rfl) (by rfl)
set_option maxRecDepth 100000 in
theorem m66 : Cond.initialized RX1 ∈ TB := TB_mem 66 (by rfl) (by rfl)
set_option maxRecDepth 100000 in
theorem m67 : Cond.initialized RX3 ∈ TB := TB_mem 67 (by rfl) (by rfl)
set_option maxRecDepth 100000 in
theorem m68 : Cond.initialized RX2 ∈ TB := TB_mem 68 (by rfl) (by rfl)
set_option maxRecDepth 100000 in
theorem m69 : Cond.initialized RX6 ∈ TB := TB_mem 69 (by rfl) (by rfl)
set_option maxRecDepth 100000 in
theorem m70 : Cond.initialized "java/lang/Math" ∈ TB := TB_mem 70 (by rfl) (by rfl)
set_option maxRecDepth 100000 in
theorem m71 : Cond.initialized RJ7 ∈ TB := TB_mem 71 (by rfl) (by rfl)
set_option maxRecDepth 100000 in
theorem m72 : Cond.initialized "java/lang/System" ∈ TB := TB_mem 72 (by rfl) (by rfl)
set_option maxRecDepth 100000 in
theorem m87 : Cond.fieldLink RX4 11 (TX4 0).1 (TX4 0).2.1 (TX4 0).2.2.1 ∈ TB := TB_mem 87 (by rfl) (by rfl)
set_option maxRecDepth 100000 in
theorem m88 : Cond.fieldLink RX3 119 (TX4 0).1 (TX4 0).2.1 (TX4 0).2.2.1 ∈ TB := TB_mem 88 (by rfl) (by rfl)
set_option maxRecDepth 100000 in
theorem m89 : Cond.fieldLink RX4 15 (TX4 1).1 (TX4 1).2.1 (TX4 1).2.2.1 ∈ TB := TB_mem 89 (by rfl) (by rfl)
set_option maxRecDepth 100000 in
theorem m90 : Cond.fieldLink RX3 110 (TX4 1).1 (TX4 1).2.1 (TX4 1).2.2.1 ∈ TB := TB_mem 90 (by rfl) (by rfl)
set_option maxRecDepth 100000 in
theorem m91 : Cond.fieldLink RX4 18 (TX4 2).1 (TX4 2).2.1 (TX4 2).2.2.1 ∈ TB := TB_mem 91 (by rfl) (by rfl)
set_option maxRecDepth 100000 in
theorem m92 : Cond.fieldLink RX5 65 (TX4 2).1 (TX4 2).2.1 (TX4 2).2.2.1 ∈ TB := TB_mem 92 (by rfl) (by rfl)
set_option maxRecDepth 100000 in
theorem m93 : Cond.fieldLink RX3 188 (TX4 2).1 (TX4 2).2.1 (TX4 2).2.2.1 ∈ TB := TB_mem 93 (by rfl) (by rfl)
set_option maxRecDepth 100000 in
theorem m108 : Cond.fieldLink RX0 11 (TX0 0).1 (TX0 0).2.1 (TX0 0).2.2.1 ∈ TB := TB_mem 108 (by rfl) (by rfl)
set_option maxRecDepth 100000 in
theorem m109 : Cond.fieldLink RX3 170 (TX0 0).1 (TX0 0).2.1 (TX0 0).2.2.1 ∈ TB := TB_mem 109 (by rfl) (by rfl)
set_option maxRecDepth 100000 in
theorem m110 : Cond.fieldLink RX0 15 (TX0 1).1 (TX0 1).2.1 (TX0 1).2.2.1 ∈ TB := TB_mem 110 (by rfl) (by rfl)
set_option maxRecDepth 100000 in
theorem m111 : Cond.fieldLink RX3 165 (TX0 1).1 (TX0 1).2.1 (TX0 1).2.2.1 ∈ TB := TB_mem 111 (by rfl) (by rfl)
set_option maxRecDepth 100000 in
theorem m112 : Cond.fieldLink RX0 18 (TX0 2).1 (TX0 2).2.1 (TX0 2).2.2.1 ∈ TB := TB_mem 112 (by rfl) (by rfl)
set_option maxRecDepth 100000 in
theorem m113 : Cond.fieldLink RX3 171 (TX0 2).1 (TX0 2).2.1 (TX0 2).2.2.1 ∈ TB := TB_mem 113 (by rfl) (by rfl)
set_option maxRecDepth 100000 in
theorem m114 : Cond.fieldLink RX0 21 (TX0 3).1 (TX0 3).2.1 (TX0 3).2.2.1 ∈ TB := TB_mem 114 (by rfl) (by rfl)
set_option maxRecDepth 100000 in
theorem m115 : Cond.fieldLink RX0 24 (TX0 4).1 (TX0 4).2.1 (TX0 4).2.2.1 ∈ TB := TB_mem 115 (by rfl) (by rfl)
set_option maxRecDepth 100000 in
theorem m116 : Cond.fieldLink RX2 42 (TX0 4).1 (TX0 4).2.1 (TX0 4).2.2.1 ∈ TB := TB_mem 116 (by rfl) (by rfl)
set_option maxRecDepth 100000 in
theorem m117 : Cond.fieldLink RX5 77 (TX0 4).1 (TX0 4).2.1 (TX0 4).2.2.1 ∈ TB := TB_mem 117 (by rfl) (by rfl)
set_option maxRecDepth 100000 in
theorem m118 : Cond.fieldLink RX0 27 (TX0 5).1 (TX0 5).2.1 (TX0 5).2.2.1 ∈ TB := TB_mem 118 (by rfl) (by rfl)
set_option maxRecDepth 100000 in
theorem m119 : Cond.fieldLink RX2 47 (TX0 5).1 (TX0 5).2.1 (TX0 5).2.2.1 ∈ TB := TB_mem 119 (by rfl) (by rfl)
set_option maxRecDepth 100000 in
theorem m120 : Cond.fieldLink RX5 80 (TX0 5).1 (TX0 5).2.1 (TX0 5).2.2.1 ∈ TB := TB_mem 120 (by rfl) (by rfl)
set_option maxRecDepth 100000 in
theorem m121 : Cond.fieldLink RX1 85 (TX0 5).1 (TX0 5).2.1 (TX0 5).2.2.1 ∈ TB := TB_mem 121 (by rfl) (by rfl)
set_option maxRecDepth 100000 in
theorem m122 : Cond.fieldLink RX0 31 (TX0 6).1 (TX0 6).2.1 (TX0 6).2.2.1 ∈ TB := TB_mem 122 (by rfl) (by rfl)
set_option maxRecDepth 100000 in
theorem m123 : Cond.fieldLink RX5 163 (TX0 6).1 (TX0 6).2.1 (TX0 6).2.2.1 ∈ TB := TB_mem 123 (by rfl) (by rfl)
set_option maxRecDepth 100000 in
theorem m146 : Cond.fieldLink RX1 41 (TX1 0).1 (TX1 0).2.1 (TX1 0).2.2.1 ∈ TB := TB_mem 146 (by rfl) (by rfl)
set_option maxRecDepth 100000 in
theorem m147 : Cond.fieldLink RX1 9 (TX1 1).1 (TX1 1).2.1 (TX1 1).2.2.1 ∈ TB := TB_mem 147 (by rfl) (by rfl)
set_option maxRecDepth 100000 in
theorem m148 : Cond.fieldLink RX2 17 (TX1 1).1 (TX1 1).2.1 (TX1 1).2.2.1 ∈ TB := TB_mem 148 (by rfl) (by rfl)
set_option maxRecDepth 100000 in
theorem m149 : Cond.fieldLink RX3 71 (TX1 1).1 (TX1 1).2.1 (TX1 1).2.2.1 ∈ TB := TB_mem 149 (by rfl) (by rfl)
set_option maxRecDepth 100000 in
theorem m150 : Cond.fieldLink RX5 101 (TX1 1).1 (TX1 1).2.1 (TX1 1).2.2.1 ∈ TB := TB_mem 150 (by rfl) (by rfl)
set_option maxRecDepth 100000 in
theorem m151 : Cond.fieldLink RX1 13 (TX1 2).1 (TX1 2).2.1 (TX1 2).2.2.1 ∈ TB := TB_mem 151 (by rfl) (by rfl)
set_option maxRecDepth 100000 in
theorem m152 : Cond.fieldLink RX2 26 (TX1 2).1 (TX1 2).2.1 (TX1 2).2.2.1 ∈ TB := TB_mem 152 (by rfl) (by rfl)
set_option maxRecDepth 100000 in
theorem m153 : Cond.fieldLink RX3 68 (TX1 2).1 (TX1 2).2.1 (TX1 2).2.2.1 ∈ TB := TB_mem 153 (by rfl) (by rfl)
set_option maxRecDepth 100000 in
theorem m154 : Cond.fieldLink RX5 104 (TX1 2).1 (TX1 2).2.1 (TX1 2).2.2.1 ∈ TB := TB_mem 154 (by rfl) (by rfl)
set_option maxRecDepth 100000 in
theorem m155 : Cond.fieldLink RX1 16 (TX1 3).1 (TX1 3).2.1 (TX1 3).2.2.1 ∈ TB := TB_mem 155 (by rfl) (by rfl)
set_option maxRecDepth 100000 in
theorem m156 : Cond.fieldLink RX3 94 (TX1 3).1 (TX1 3).2.1 (TX1 3).2.2.1 ∈ TB := TB_mem 156 (by rfl) (by rfl)
set_option maxRecDepth 100000 in
theorem m157 : Cond.fieldLink RX2 64 (TX1 3).1 (TX1 3).2.1 (TX1 3).2.2.1 ∈ TB := TB_mem 157 (by rfl) (by rfl)
set_option maxRecDepth 100000 in
theorem m158 : Cond.fieldLink RX5 107 (TX1 3).1 (TX1 3).2.1 (TX1 3).2.2.1 ∈ TB := TB_mem 158 (by rfl) (by rfl)
set_option maxRecDepth 100000 in
theorem m159 : Cond.fieldLink RX1 19 (TX1 4).1 (TX1 4).2.1 (TX1 4).2.2.1 ∈ TB := TB_mem 159 (by rfl) (by rfl)
set_option maxRecDepth 100000 in
theorem m160 : Cond.fieldLink RX2 51 (TX1 4).1 (TX1 4).2.1 (TX1 4).2.2.1 ∈ TB := TB_mem 160 (by rfl) (by rfl)
set_option maxRecDepth 100000 in
theorem m161 : Cond.fieldLink RX3 84 (TX1 4).1 (TX1 4).2.1 (TX1 4).2.2.1 ∈ TB := TB_mem 161 (by rfl) (by rfl)
set_option maxRecDepth 100000 in
theorem m162 : Cond.fieldLink RX5 110 (TX1 4).1 (TX1 4).2.1 (TX1 4).2.2.1 ∈ TB := TB_mem 162 (by rfl) (by rfl)
set_option maxRecDepth 100000 in
theorem m163 : Cond.fieldLink RX1 22 (TX1 5).1 (TX1 5).2.1 (TX1 5).2.2.1 ∈ TB := TB_mem 163 (by rfl) (by rfl)
set_option maxRecDepth 100000 in
theorem m164 : Cond.fieldLink RX2 32 (TX1 5).1 (TX1 5).2.1 (TX1 5).2.2.1 ∈ TB := TB_mem 164 (by rfl) (by rfl)
set_option maxRecDepth 100000 in
theorem m165 : Cond.fieldLink RX3 77 (TX1 5).1 (TX1 5).2.1 (TX1 5).2.2.1 ∈ TB := TB_mem 165 (by rfl) (by rfl)
set_option maxRecDepth 100000 in
theorem m166 : Cond.fieldLink RX5 113 (TX1 5).1 (TX1 5).2.1 (TX1 5).2.2.1 ∈ TB := TB_mem 166 (by rfl) (by rfl)
set_option maxRecDepth 100000 in
theorem m167 : Cond.fieldLink RX1 25 (TX1 6).1 (TX1 6).2.1 (TX1 6).2.2.1 ∈ TB := TB_mem 167 (by rfl) (by rfl)
set_option maxRecDepth 100000 in
theorem m168 : Cond.fieldLink RX5 116 (TX1 6).1 (TX1 6).2.1 (TX1 6).2.2.1 ∈ TB := TB_mem 168 (by rfl) (by rfl)
set_option maxRecDepth 100000 in
theorem m169 : Cond.fieldLink RX1 28 (TX1 7).1 (TX1 7).2.1 (TX1 7).2.2.1 ∈ TB := TB_mem 169 (by rfl) (by rfl)
set_option maxRecDepth 100000 in
theorem m170 : Cond.fieldLink RX2 63 (TX1 7).1 (TX1 7).2.1 (TX1 7).2.2.1 ∈ TB := TB_mem 170 (by rfl) (by rfl)
set_option maxRecDepth 100000 in
theorem m171 : Cond.fieldLink RX5 119 (TX1 7).1 (TX1 7).2.1 (TX1 7).2.2.1 ∈ TB := TB_mem 171 (by rfl) (by rfl)
set_option maxRecDepth 100000 in
theorem m172 : Cond.fieldLink RX1 45 (TX1 8).1 (TX1 8).2.1 (TX1 8).2.2.1 ∈ TB := TB_mem 172 (by rfl) (by rfl)
set_option maxRecDepth 100000 in
theorem m173 : Cond.fieldLink RX2 118 (TX1 8).1 (TX1 8).2.1 (TX1 8).2.2.1 ∈ TB := TB_mem 173 (by rfl) (by rfl)
set_option maxRecDepth 100000 in
theorem m174 : Cond.fieldLink RX5 154 (TX1 8).1 (TX1 8).2.1 (TX1 8).2.2.1 ∈ TB := TB_mem 174 (by rfl) (by rfl)
set_option maxRecDepth 100000 in
theorem m175 : Cond.fieldLink RX1 32 (TX1 9).1 (TX1 9).2.1 (TX1 9).2.2.1 ∈ TB := TB_mem 175 (by rfl) (by rfl)
set_option maxRecDepth 100000 in
theorem m176 : Cond.fieldLink RX3 55 (TX1 9).1 (TX1 9).2.1 (TX1 9).2.2.1 ∈ TB := TB_mem 176 (by rfl) (by rfl)
set_option maxRecDepth 100000 in
theorem m177 : Cond.fieldLink RX1 35 (TX1 10).1 (TX1 10).2.1 (TX1 10).2.2.1 ∈ TB := TB_mem 177 (by rfl) (by rfl)
set_option maxRecDepth 100000 in
theorem m178 : Cond.fieldLink RX1 38 (TX1 11).1 (TX1 11).2.1 (TX1 11).2.2.1 ∈ TB := TB_mem 178 (by rfl) (by rfl)
set_option maxRecDepth 100000 in
theorem m210 : Cond.fieldLink RX3 27 (TX3 0).1 (TX3 0).2.1 (TX3 0).2.2.1 ∈ TB := TB_mem 210 (by rfl) (by rfl)
set_option maxRecDepth 100000 in
theorem m211 : Cond.fieldLink RX3 31 (TX3 1).1 (TX3 1).2.1 (TX3 1).2.2.1 ∈ TB := TB_mem 211 (by rfl) (by rfl)
set_option maxRecDepth 100000 in
theorem m212 : Cond.fieldLink RX3 35 (TX3 2).1 (TX3 2).2.1 (TX3 2).2.2.1 ∈ TB := TB_mem 212 (by rfl) (by rfl)
set_option maxRecDepth 100000 in
theorem m213 : Cond.fieldLink RX3 13 (TX3 3).1 (TX3 3).2.1 (TX3 3).2.2.1 ∈ TB := TB_mem 213 (by rfl) (by rfl)
set_option maxRecDepth 100000 in
theorem m214 : Cond.fieldLink RX3 39 (TX3 4).1 (TX3 4).2.1 (TX3 4).2.2.1 ∈ TB := TB_mem 214 (by rfl) (by rfl)
set_option maxRecDepth 100000 in
theorem m215 : Cond.fieldLink RX3 17 (TX3 5).1 (TX3 5).2.1 (TX3 5).2.2.1 ∈ TB := TB_mem 215 (by rfl) (by rfl)
set_option maxRecDepth 100000 in
theorem m216 : Cond.fieldLink RX3 20 (TX3 6).1 (TX3 6).2.1 (TX3 6).2.2.1 ∈ TB := TB_mem 216 (by rfl) (by rfl)
set_option maxRecDepth 100000 in
theorem m217 : Cond.fieldLink RX3 62 (TX3 7).1 (TX3 7).2.1 (TX3 7).2.2.1 ∈ TB := TB_mem 217 (by rfl) (by rfl)
set_option maxRecDepth 100000 in
theorem m218 : Cond.fieldLink RX3 65 (TX3 8).1 (TX3 8).2.1 (TX3 8).2.2.1 ∈ TB := TB_mem 218 (by rfl) (by rfl)
set_option maxRecDepth 100000 in
theorem m219 : Cond.fieldLink RX3 42 (TX3 9).1 (TX3 9).2.1 (TX3 9).2.2.1 ∈ TB := TB_mem 219 (by rfl) (by rfl)
set_option maxRecDepth 100000 in
theorem m220 : Cond.fieldLink RX5 130 (TX3 9).1 (TX3 9).2.1 (TX3 9).2.2.1 ∈ TB := TB_mem 220 (by rfl) (by rfl)
set_option maxRecDepth 100000 in
theorem m221 : Cond.fieldLink RX3 45 (TX3 10).1 (TX3 10).2.1 (TX3 10).2.2.1 ∈ TB := TB_mem 221 (by rfl) (by rfl)
set_option maxRecDepth 100000 in
theorem m222 : Cond.fieldLink RX5 134 (TX3 10).1 (TX3 10).2.1 (TX3 10).2.2.1 ∈ TB := TB_mem 222 (by rfl) (by rfl)
set_option maxRecDepth 100000 in
theorem m223 : Cond.fieldLink RX3 48 (TX3 11).1 (TX3 11).2.1 (TX3 11).2.2.1 ∈ TB := TB_mem 223 (by rfl) (by rfl)
set_option maxRecDepth 100000 in
theorem m224 : Cond.fieldLink RX5 137 (TX3 11).1 (TX3 11).2.1 (TX3 11).2.2.1 ∈ TB := TB_mem 224 (by rfl) (by rfl)
set_option maxRecDepth 100000 in
theorem m225 : Cond.fieldLink RX3 23 (TX3 12).1 (TX3 12).2.1 (TX3 12).2.2.1 ∈ TB := TB_mem 225 (by rfl) (by rfl)
set_option maxRecDepth 100000 in
theorem m226 : Cond.fieldLink RX5 140 (TX3 12).1 (TX3 12).2.1 (TX3 12).2.2.1 ∈ TB := TB_mem 226 (by rfl) (by rfl)
set_option maxRecDepth 100000 in
theorem m260 : Cond.fieldLink RX2 7 (TX2 0).1 (TX2 0).2.1 (TX2 0).2.2.1 ∈ TB := TB_mem 260 (by rfl) (by rfl)
set_option maxRecDepth 100000 in
theorem m261 : Cond.fieldLink RX2 13 (TX2 1).1 (TX2 1).2.1 (TX2 1).2.2.1 ∈ TB := TB_mem 261 (by rfl) (by rfl)
set_option maxRecDepth 100000 in
theorem m262 : Cond.fieldLink RX2 79 (TX2 2).1 (TX2 2).2.1 (TX2 2).2.2.1 ∈ TB := TB_mem 262 (by rfl) (by rfl)
set_option maxRecDepth 100000 in
theorem m263 : Cond.fieldLink RX5 164 (TX2 2).1 (TX2 2).2.1 (TX2 2).2.2.1 ∈ TB := TB_mem 263 (by rfl) (by rfl)
set_option maxRecDepth 100000 in
theorem m271 : Cond.fieldLink RX5 12 (TX5 0).1 (TX5 0).2.1 (TX5 0).2.2.1 ∈ TB := TB_mem 271 (by rfl) (by rfl)
set_option maxRecDepth 100000 in
theorem m272 : Cond.fieldLink RX5 19 (TX5 1).1 (TX5 1).2.1 (TX5 1).2.2.1 ∈ TB := TB_mem 272 (by rfl) (by rfl)
set_option maxRecDepth 100000 in
theorem m273 : Cond.fieldLink RX5 28 (TX5 2).1 (TX5 2).2.1 (TX5 2).2.2.1 ∈ TB := TB_mem 273 (by rfl) (by rfl)
set_option maxRecDepth 100000 in
theorem m274 : Cond.fieldLink RX5 37 (TX5 3).1 (TX5 3).2.1 (TX5 3).2.2.1 ∈ TB := TB_mem 274 (by rfl) (by rfl)
set_option maxRecDepth 100000 in
theorem m275 : Cond.fieldLink RX5 46 (TX5 4).1 (TX5 4).2.1 (TX5 4).2.2.1 ∈ TB := TB_mem 275 (by rfl) (by rfl)
set_option maxRecDepth 100000 in
theorem m287 : Cond.methodLink RL 13 yX5_row ∈ TB := TB_mem 287 (by rfl) (by rfl)
set_option maxRecDepth 100000 in
theorem m288 : Cond.instanceMethod yX5_row ∈ TB := TB_mem 288 (by rfl) (by rfl)
set_option maxRecDepth 100000 in
theorem m289 : Cond.selects RX5 yX5_row yX5_row ∈ TB := TB_mem 289 (by rfl) (by rfl)
set_option maxRecDepth 100000 in
theorem m290 : Cond.code yX5_row cX5_row 5 (some .int) ∈ TB := TB_mem 290 (by rfl) (by rfl)
set_option maxRecDepth 100000 in
theorem m291 : Cond.methodLink RX5 50 yX4_has ∈ TB := TB_mem 291 (by rfl) (by rfl)
set_option maxRecDepth 100000 in
theorem m292 : Cond.instanceMethod yX4_has ∈ TB := TB_mem 292 (by rfl) (by rfl)
set_option maxRecDepth 100000 in
theorem m293 : Cond.selects RX4 yX4_has yX4_has ∈ TB := TB_mem 293 (by rfl) (by rfl)
set_option maxRecDepth 100000 in
theorem m294 : Cond.code yX4_has cX4_has 2 (some .boolean) ∈ TB := TB_mem 294 (by rfl) (by rfl)
set_option maxRecDepth 100000 in
theorem m295 : Cond.methodLink RX5 54 yX4_add ∈ TB := TB_mem 295 (by rfl) (by rfl)
set_option maxRecDepth 100000 in
theorem m296 : Cond.instanceMethod yX4_add ∈ TB := TB_mem 296 (by rfl) (by rfl)
set_option maxRecDepth 100000 in
theorem m297 : Cond.selects RX4 yX4_add yX4_add ∈ TB := TB_mem 297 (by rfl) (by rfl)
set_option maxRecDepth 100000 in
theorem m298 : Cond.code yX4_add cX4_add 6 (some .int) ∈ TB := TB_mem 298 (by rfl) (by rfl)
set_option maxRecDepth 100000 in
theorem m299 : Cond.methodLink RX4 21 yX4_cellOf ∈ TB := TB_mem 299 (by rfl) (by rfl)
set_option maxRecDepth 100000 in
theorem m300 : Cond.instanceMethod yX4_cellOf ∈ TB := TB_mem 300 (by rfl) (by rfl)
set_option maxRecDepth 100000 in
theorem m301 : Cond.selects RX4 yX4_cellOf yX4_cellOf ∈ TB := TB_mem 301 (by rfl) (by rfl)
set_option maxRecDepth 100000 in
theorem m302 : Cond.code yX4_cellOf cX4_cellOf 3 (some .int) ∈ TB := TB_mem 302 (by rfl) (by rfl)
set_option maxRecDepth 100000 in
theorem m303 : Cond.methodLink RL 18 yX5_clear ∈ TB := TB_mem 303 (by rfl) (by rfl)
set_option maxRecDepth 100000 in
theorem m304 : Cond.instanceMethod yX5_clear ∈ TB := TB_mem 304 (by rfl) (by rfl)
set_option maxRecDepth 100000 in
theorem m305 : Cond.selects RX5 yX5_clear yX5_clear ∈ TB := TB_mem 305 (by rfl) (by rfl)
set_option maxRecDepth 100000 in
theorem m306 : Cond.code yX5_clear cX5_clear 2 (some .int) ∈ TB := TB_mem 306 (by rfl) (by rfl)
set_option maxRecDepth 100000 in
theorem m307 : Cond.methodLink RX5 58 yX4_empty ∈ TB := TB_mem 307 (by rfl) (by rfl)
set_option maxRecDepth 100000 in
theorem m308 : Cond.instanceMethod yX4_empty ∈ TB := TB_mem 308 (by rfl) (by rfl)
set_option maxRecDepth 100000 in
theorem m309 : Cond.selects RX4 yX4_empty yX4_empty ∈ TB := TB_mem 309 (by rfl) (by rfl)
set_option maxRecDepth 100000 in
theorem m310 : Cond.code yX4_empty cX4_empty 3 (some .int) ∈ TB := TB_mem 310 (by rfl) (by rfl)
set_option maxRecDepth 100000 in
theorem m311 : Cond.methodLink RL 23 yX5_table ∈ TB := TB_mem 311 (by rfl) (by rfl)
set_option maxRecDepth 100000 in
theorem m312 : Cond.instanceMethod yX5_table ∈ TB := TB_mem 312 (by rfl) (by rfl)
set_option maxRecDepth 100000 in
theorem m313 : Cond.selects RX5 yX5_table yX5_table ∈ TB := TB_mem 313 (by rfl) (by rfl)
set_option maxRecDepth 100000 in
theorem m314 : Cond.code yX5_table cX5_table 3 (some .int) ∈ TB := TB_mem 314 (by rfl) (by rfl)
set_option maxRecDepth 100000 in
theorem m315 : Cond.methodLink RX5 62 yX4_hasItem ∈ TB := TB_mem 315 (by rfl) (by rfl)
set_option maxRecDepth 100000 in
theorem m316 : Cond.instanceMethod yX4_hasItem ∈ TB := TB_mem 316 (by rfl) (by rfl)
set_option maxRecDepth 100000 in
theorem m317 : Cond.selects RX4 yX4_hasItem yX4_hasItem ∈ TB := TB_mem 317 (by rfl) (by rfl)
set_option maxRecDepth 100000 in
theorem m318 : Cond.code yX4_hasItem cX4_hasItem 2 (some .boolean) ∈ TB := TB_mem 318 (by rfl) (by rfl)
set_option maxRecDepth 100000 in
theorem m319 : Cond.methodLink RL 28 yX5_formula ∈ TB := TB_mem 319 (by rfl) (by rfl)
set_option maxRecDepth 100000 in
theorem m320 : Cond.instanceMethod yX5_formula ∈ TB := TB_mem 320 (by rfl) (by rfl)
set_option maxRecDepth 100000 in
theorem m321 : Cond.selects RX5 yX5_formula yX5_formula ∈ TB := TB_mem 321 (by rfl) (by rfl)
set_option maxRecDepth 100000 in
theorem m322 : Cond.code yX5_formula cX5_formula 4 (some .int) ∈ TB := TB_mem 322 (by rfl) (by rfl)
set_option maxRecDepth 100000 in
theorem m323 : Cond.methodLink RX5 69 yX0_isAsTold ∈ TB := TB_mem 323 (by rfl) (by rfl)
set_option maxRecDepth 100000 in
theorem m324 : Cond.instanceMethod yX0_isAsTold ∈ TB := TB_mem 324 (by rfl) (by rfl)
set_option maxRecDepth 100000 in
theorem m325 : Cond.selects RX0 yX0_isAsTold yX0_isAsTold ∈ TB := TB_mem 325 (by rfl) (by rfl)
set_option maxRecDepth 100000 in
theorem m326 : Cond.code yX0_isAsTold cX0_isAsTold 4 (some .boolean) ∈ TB := TB_mem 326 (by rfl) (by rfl)
set_option maxRecDepth 100000 in
theorem m328 : Cond.static yX5_isMember ∈ TB := TB_mem 328 (by rfl) (by rfl)
set_option maxRecDepth 100000 in
theorem m329 : Cond.code yX5_isMember cX5_isMember 1 (some .boolean) ∈ TB := TB_mem 329 (by rfl) (by rfl)
set_option maxRecDepth 100000 in
theorem m330 : Cond.methodLink RX0 39 yX0_takesFirst ∈ TB := TB_mem 330 (by rfl) (by rfl)
set_option maxRecDepth 100000 in
theorem m331 : Cond.static yX0_takesFirst ∈ TB := TB_mem 331 (by rfl) (by rfl)
set_option maxRecDepth 100000 in
theorem m332 : Cond.code yX0_takesFirst cX0_takesFirst 1 (some .boolean) ∈ TB := TB_mem 332 (by rfl) (by rfl)
set_option maxRecDepth 100000 in
theorem m333 : Cond.methodLink RX0 42 yX0_has ∈ TB := TB_mem 333 (by rfl) (by rfl)
set_option maxRecDepth 100000 in
theorem m334 : Cond.instanceMethod yX0_has ∈ TB := TB_mem 334 (by rfl) (by rfl)
set_option maxRecDepth 100000 in
theorem m335 : Cond.selects RX0 yX0_has yX0_has ∈ TB := TB_mem 335 (by rfl) (by rfl)
set_option maxRecDepth 100000 in
theorem m336 : Cond.code yX0_has cX0_has 2 (some .boolean) ∈ TB := TB_mem 336 (by rfl) (by rfl)
set_option maxRecDepth 100000 in
theorem m337 : Cond.methodLink RX0 45 yX0_takesSecond ∈ TB := TB_mem 337 (by rfl) (by rfl)
set_option maxRecDepth 100000 in
theorem m338 : Cond.static yX0_takesSecond ∈ TB := TB_mem 338 (by rfl) (by rfl)
set_option maxRecDepth 100000 in
theorem m339 : Cond.code yX0_takesSecond cX0_takesSecond 1 (some .boolean) ∈ TB := TB_mem 339 (by rfl) (by rfl)
set_option maxRecDepth 100000 in
theorem m340 : Cond.methodLink RX5 73 yX0_add ∈ TB := TB_mem 340 (by rfl) (by rfl)
set_option maxRecDepth 100000 in
theorem m341 : Cond.instanceMethod yX0_add ∈ TB := TB_mem 341 (by rfl) (by rfl)
set_option maxRecDepth 100000 in
theorem m342 : Cond.selects RX0 yX0_add yX0_add ∈ TB := TB_mem 342 (by rfl) (by rfl)
set_option maxRecDepth 100000 in
theorem m343 : Cond.code yX0_add cX0_add 5 (some .int) ∈ TB := TB_mem 343 (by rfl) (by rfl)
set_option maxRecDepth 100000 in
theorem m344 : Cond.methodLink RX0 52 yX0_hasRoom ∈ TB := TB_mem 344 (by rfl) (by rfl)
set_option maxRecDepth 100000 in
theorem m345 : Cond.instanceMethod yX0_hasRoom ∈ TB := TB_mem 345 (by rfl) (by rfl)
set_option maxRecDepth 100000 in
theorem m346 : Cond.selects RX0 yX0_hasRoom yX0_hasRoom ∈ TB := TB_mem 346 (by rfl) (by rfl)
set_option maxRecDepth 100000 in
theorem m347 : Cond.code yX0_hasRoom cX0_hasRoom 4 (some .boolean) ∈ TB := TB_mem 347 (by rfl) (by rfl)
set_option maxRecDepth 100000 in
theorem m348 : Cond.methodLink RX0 48 yX0_sizeOf ∈ TB := TB_mem 348 (by rfl) (by rfl)
set_option maxRecDepth 100000 in
theorem m350 : Cond.instanceMethod yX0_sizeOf ∈ TB := TB_mem 350 (by rfl) (by rfl)
set_option maxRecDepth 100000 in
theorem m351 : Cond.code yX0_sizeOf cX0_sizeOf 4 (some .int) ∈ TB := TB_mem 351 (by rfl) (by rfl)
set_option maxRecDepth 100000 in
theorem m352 : Cond.methodLink RX0 56 yX0_readsOf ∈ TB := TB_mem 352 (by rfl) (by rfl)
set_option maxRecDepth 100000 in
theorem m354 : Cond.instanceMethod yX0_readsOf ∈ TB := TB_mem 354 (by rfl) (by rfl)
set_option maxRecDepth 100000 in
theorem m355 : Cond.code yX0_readsOf cX0_readsOf 4 (some .int) ∈ TB := TB_mem 355 (by rfl) (by rfl)
set_option maxRecDepth 100000 in
theorem m356 : Cond.methodLink RX0 59 yX0_failsOf ∈ TB := TB_mem 356 (by rfl) (by rfl)
set_option maxRecDepth 100000 in
theorem m358 : Cond.instanceMethod yX0_failsOf ∈ TB := TB_mem 358 (by rfl) (by rfl)
set_option maxRecDepth 100000 in
theorem m359 : Cond.code yX0_failsOf cX0_failsOf 4 (some .boolean) ∈ TB := TB_mem 359 (by rfl) (by rfl)
set_option maxRecDepth 100000 in
theorem m360 : Cond.methodLink RL 33 yX5_formulaOf ∈ TB := TB_mem 360 (by rfl) (by rfl)
set_option maxRecDepth 100000 in
theorem m361 : Cond.instanceMethod yX5_formulaOf ∈ TB := TB_mem 361 (by rfl) (by rfl)
set_option maxRecDepth 100000 in
theorem m362 : Cond.selects RX5 yX5_formulaOf yX5_formulaOf ∈ TB := TB_mem 362 (by rfl) (by rfl)
set_option maxRecDepth 100000 in
theorem m363 : Cond.code yX5_formulaOf cX5_formulaOf 3 (some .int) ∈ TB := TB_mem 363 (by rfl) (by rfl)
set_option maxRecDepth 100000 in
theorem m364 : Cond.methodLink RX5 76 yX0_has ∈ TB := TB_mem 364 (by rfl) (by rfl)
set_option maxRecDepth 100000 in
theorem m365 : Cond.methodLink RX5 84 yX5_asNumber ∈ TB := TB_mem 365 (by rfl) (by rfl)
set_option maxRecDepth 100000 in
theorem m366 : Cond.static yX5_asNumber ∈ TB := TB_mem 366 (by rfl) (by rfl)
set_option maxRecDepth 100000 in
theorem m367 : Cond.code yX5_asNumber cX5_asNumber 1 (some .int) ∈ TB := TB_mem 367 (by rfl) (by rfl)
set_option maxRecDepth 100000 in
theorem m368 : Cond.methodLink RL 37 yX5_node ∈ TB := TB_mem 368 (by rfl) (by rfl)
set_option maxRecDepth 100000 in
theorem m369 : Cond.instanceMethod yX5_node ∈ TB := TB_mem 369 (by rfl) (by rfl)
set_option maxRecDepth 100000 in
theorem m370 : Cond.selects RX5 yX5_node yX5_node ∈ TB := TB_mem 370 (by rfl) (by rfl)
set_option maxRecDepth 100000 in
theorem m371 : Cond.code yX5_node cX5_node 6 (some .int) ∈ TB := TB_mem 371 (by rfl) (by rfl)
set_option maxRecDepth 100000 in
theorem m372 : Cond.methodLink RX5 88 yX1_isAsTold ∈ TB := TB_mem 372 (by rfl) (by rfl)
set_option maxRecDepth 100000 in
theorem m373 : Cond.instanceMethod yX1_isAsTold ∈ TB := TB_mem 373 (by rfl) (by rfl)
set_option maxRecDepth 100000 in
theorem m374 : Cond.selects RX1 yX1_isAsTold yX1_isAsTold ∈ TB := TB_mem 374 (by rfl) (by rfl)
set_option maxRecDepth 100000 in
theorem m375 : Cond.code yX1_isAsTold cX1_isAsTold 6 (some .boolean) ∈ TB := TB_mem 375 (by rfl) (by rfl)
set_option maxRecDepth 100000 in
theorem m376 : Cond.methodLink RX1 51 yX1_has ∈ TB := TB_mem 376 (by rfl) (by rfl)
end
section
set_option maxRecDepth 100000 in
theorem m377 : Cond.instanceMethod yX1_has ∈ TB := TB_mem 377 (by rfl) (by rfl)
set_option maxRecDepth 100000 in
theorem m378 : Cond.selects RX1 yX1_has yX1_has ∈ TB := TB_mem 378 (by rfl) (by rfl)
set_option maxRecDepth 100000 in
theorem m379 : Cond.code yX1_has cX1_has 2 (some .boolean) ∈ TB := TB_mem 379 (by rfl) (by rfl)
set_option maxRecDepth 100000 in
theorem m380 : Cond.methodLink RX1 55 yX1_takesRight ∈ TB := TB_mem 380 (by rfl) (by rfl)
set_option maxRecDepth 100000 in
theorem m381 : Cond.static yX1_takesRight ∈ TB := TB_mem 381 (by rfl) (by rfl)
set_option maxRecDepth 100000 in
theorem m382 : Cond.code yX1_takesRight cX1_takesRight 1 (some .boolean) ∈ TB := TB_mem 382 (by rfl) (by rfl)
set_option maxRecDepth 100000 in
theorem m383 : Cond.methodLink RX1 58 yX1_takesMember ∈ TB := TB_mem 383 (by rfl) (by rfl)
set_option maxRecDepth 100000 in
theorem m384 : Cond.static yX1_takesMember ∈ TB := TB_mem 384 (by rfl) (by rfl)
set_option maxRecDepth 100000 in
theorem m385 : Cond.code yX1_takesMember cX1_takesMember 1 (some .boolean) ∈ TB := TB_mem 385 (by rfl) (by rfl)
set_option maxRecDepth 100000 in
theorem m387 : Cond.methodLink RX1 66 yX1_isValue ∈ TB := TB_mem 387 (by rfl) (by rfl)
set_option maxRecDepth 100000 in
theorem m389 : Cond.instanceMethod yX1_isValue ∈ TB := TB_mem 389 (by rfl) (by rfl)
set_option maxRecDepth 100000 in
theorem m390 : Cond.code yX1_isValue cX1_isValue 4 (some .boolean) ∈ TB := TB_mem 390 (by rfl) (by rfl)
set_option maxRecDepth 100000 in
theorem m391 : Cond.methodLink RX1 70 yX0_has ∈ TB := TB_mem 391 (by rfl) (by rfl)
set_option maxRecDepth 100000 in
theorem m393 : Cond.static yX5_isSet ∈ TB := TB_mem 393 (by rfl) (by rfl)
set_option maxRecDepth 100000 in
theorem m394 : Cond.code yX5_isSet cX5_isSet 1 (some .boolean) ∈ TB := TB_mem 394 (by rfl) (by rfl)
set_option maxRecDepth 100000 in
theorem m395 : Cond.methodLink RX5 91 yX1_hasRoom ∈ TB := TB_mem 395 (by rfl) (by rfl)
set_option maxRecDepth 100000 in
theorem m396 : Cond.instanceMethod yX1_hasRoom ∈ TB := TB_mem 396 (by rfl) (by rfl)
set_option maxRecDepth 100000 in
theorem m397 : Cond.selects RX1 yX1_hasRoom yX1_hasRoom ∈ TB := TB_mem 397 (by rfl) (by rfl)
set_option maxRecDepth 100000 in
theorem m398 : Cond.code yX1_hasRoom cX1_hasRoom 2 (some .boolean) ∈ TB := TB_mem 398 (by rfl) (by rfl)
set_option maxRecDepth 100000 in
theorem m399 : Cond.methodLink RX5 94 yX1_boundOf ∈ TB := TB_mem 399 (by rfl) (by rfl)
set_option maxRecDepth 100000 in
theorem m400 : Cond.instanceMethod yX1_boundOf ∈ TB := TB_mem 400 (by rfl) (by rfl)
set_option maxRecDepth 100000 in
theorem m401 : Cond.selects RX1 yX1_boundOf yX1_boundOf ∈ TB := TB_mem 401 (by rfl) (by rfl)
set_option maxRecDepth 100000 in
theorem m402 : Cond.code yX1_boundOf cX1_boundOf 5 (some .int) ∈ TB := TB_mem 402 (by rfl) (by rfl)
set_option maxRecDepth 100000 in
theorem m403 : Cond.methodLink RX1 76 Lib.Math.min.name ∈ TB := TB_mem 403 (by rfl) (by rfl)
set_option maxRecDepth 100000 in
theorem m404 : Cond.static Lib.Math.min.name ∈ TB := TB_mem 404 (by rfl) (by rfl)
set_option maxRecDepth 100000 in
theorem m405 : Cond.code Lib.Math.min.name Lib.Math.min.code 2 (some .int) ∈ TB := TB_mem 405 (by rfl) (by rfl)
set_option maxRecDepth 100000 in
theorem m406 : Cond.methodLink RX5 97 yX1_add ∈ TB := TB_mem 406 (by rfl) (by rfl)
set_option maxRecDepth 100000 in
theorem m407 : Cond.instanceMethod yX1_add ∈ TB := TB_mem 407 (by rfl) (by rfl)
set_option maxRecDepth 100000 in
theorem m408 : Cond.selects RX1 yX1_add yX1_add ∈ TB := TB_mem 408 (by rfl) (by rfl)
set_option maxRecDepth 100000 in
theorem m409 : Cond.code yX1_add cX1_add 7 (some .int) ∈ TB := TB_mem 409 (by rfl) (by rfl)
set_option maxRecDepth 100000 in
theorem m410 : Cond.methodLink RX1 86 yX1_write ∈ TB := TB_mem 410 (by rfl) (by rfl)
set_option maxRecDepth 100000 in
theorem m411 : Cond.instanceMethod yX1_write ∈ TB := TB_mem 411 (by rfl) (by rfl)
set_option maxRecDepth 100000 in
theorem m412 : Cond.selects RX1 yX1_write yX1_write ∈ TB := TB_mem 412 (by rfl) (by rfl)
set_option maxRecDepth 100000 in
theorem m413 : Cond.code yX1_write cX1_write 7 none ∈ TB := TB_mem 413 (by rfl) (by rfl)
set_option maxRecDepth 100000 in
theorem m414 : Cond.methodLink RX1 90 yX1_boundOf ∈ TB := TB_mem 414 (by rfl) (by rfl)
set_option maxRecDepth 100000 in
theorem m415 : Cond.methodLink RX1 94 yX1_failsOf ∈ TB := TB_mem 415 (by rfl) (by rfl)
set_option maxRecDepth 100000 in
theorem m417 : Cond.instanceMethod yX1_failsOf ∈ TB := TB_mem 417 (by rfl) (by rfl)
set_option maxRecDepth 100000 in
theorem m418 : Cond.code yX1_failsOf cX1_failsOf 5 (some .boolean) ∈ TB := TB_mem 418 (by rfl) (by rfl)
set_option maxRecDepth 100000 in
theorem m419 : Cond.methodLink RX1 82 yX1_takesFormula ∈ TB := TB_mem 419 (by rfl) (by rfl)
set_option maxRecDepth 100000 in
theorem m420 : Cond.static yX1_takesFormula ∈ TB := TB_mem 420 (by rfl) (by rfl)
set_option maxRecDepth 100000 in
theorem m421 : Cond.code yX1_takesFormula cX1_takesFormula 1 (some .boolean) ∈ TB := TB_mem 421 (by rfl) (by rfl)
set_option maxRecDepth 100000 in
theorem m422 : Cond.methodLink RX1 98 yX1_takesValue ∈ TB := TB_mem 422 (by rfl) (by rfl)
set_option maxRecDepth 100000 in
theorem m423 : Cond.static yX1_takesValue ∈ TB := TB_mem 423 (by rfl) (by rfl)
set_option maxRecDepth 100000 in
theorem m424 : Cond.code yX1_takesValue cX1_takesValue 1 (some .boolean) ∈ TB := TB_mem 424 (by rfl) (by rfl)
set_option maxRecDepth 100000 in
theorem m425 : Cond.methodLink RL 42 yX5_told ∈ TB := TB_mem 425 (by rfl) (by rfl)
set_option maxRecDepth 100000 in
theorem m426 : Cond.instanceMethod yX5_told ∈ TB := TB_mem 426 (by rfl) (by rfl)
set_option maxRecDepth 100000 in
theorem m427 : Cond.selects RX5 yX5_told yX5_told ∈ TB := TB_mem 427 (by rfl) (by rfl)
set_option maxRecDepth 100000 in
theorem m428 : Cond.code yX5_told cX5_told 3 (some .int) ∈ TB := TB_mem 428 (by rfl) (by rfl)
set_option maxRecDepth 100000 in
theorem m429 : Cond.methodLink RX5 100 yX1_has ∈ TB := TB_mem 429 (by rfl) (by rfl)
set_option maxRecDepth 100000 in
theorem m430 : Cond.methodLink RL 46 yX5_run ∈ TB := TB_mem 430 (by rfl) (by rfl)
set_option maxRecDepth 100000 in
theorem m431 : Cond.instanceMethod yX5_run ∈ TB := TB_mem 431 (by rfl) (by rfl)
set_option maxRecDepth 100000 in
theorem m432 : Cond.selects RX5 yX5_run yX5_run ∈ TB := TB_mem 432 (by rfl) (by rfl)
set_option maxRecDepth 100000 in
theorem m433 : Cond.code yX5_run cX5_run 2 (some .int) ∈ TB := TB_mem 433 (by rfl) (by rfl)
set_option maxRecDepth 100000 in
theorem m434 : Cond.methodLink RX5 120 yX3_give ∈ TB := TB_mem 434 (by rfl) (by rfl)
set_option maxRecDepth 100000 in
theorem m435 : Cond.instanceMethod yX3_give ∈ TB := TB_mem 435 (by rfl) (by rfl)
set_option maxRecDepth 100000 in
theorem m436 : Cond.selects RX3 yX3_give yX3_give ∈ TB := TB_mem 436 (by rfl) (by rfl)
set_option maxRecDepth 100000 in
theorem m437 : Cond.code yX3_give cX3_give 5 (some .int) ∈ TB := TB_mem 437 (by rfl) (by rfl)
set_option maxRecDepth 100000 in
theorem m438 : Cond.methodLink RX3 51 yX1_listFrom ∈ TB := TB_mem 438 (by rfl) (by rfl)
set_option maxRecDepth 100000 in
theorem m439 : Cond.instanceMethod yX1_listFrom ∈ TB := TB_mem 439 (by rfl) (by rfl)
set_option maxRecDepth 100000 in
theorem m440 : Cond.selects RX1 yX1_listFrom yX1_listFrom ∈ TB := TB_mem 440 (by rfl) (by rfl)
set_option maxRecDepth 100000 in
theorem m441 : Cond.code yX1_listFrom cX1_listFrom 7 (some .int) ∈ TB := TB_mem 441 (by rfl) (by rfl)
set_option maxRecDepth 100000 in
theorem m442 : Cond.methodLink RX1 101 yJ7_fill_53178 ∈ TB := TB_mem 442 (by rfl) (by rfl)
set_option maxRecDepth 100000 in
theorem m443 : Cond.static yJ7_fill_53178 ∈ TB := TB_mem 443 (by rfl) (by rfl)
set_option maxRecDepth 100000 in
theorem m444 : Cond.code yJ7_fill_53178 cJ7_fill_53178 4 none ∈ TB := TB_mem 444 (by rfl) (by rfl)
set_option maxRecDepth 100000 in
theorem m445 : Cond.methodLink RX1 107 yX1_leftBelow ∈ TB := TB_mem 445 (by rfl) (by rfl)
set_option maxRecDepth 100000 in
theorem m447 : Cond.instanceMethod yX1_leftBelow ∈ TB := TB_mem 447 (by rfl) (by rfl)
set_option maxRecDepth 100000 in
theorem m448 : Cond.code yX1_leftBelow cX1_leftBelow 2 (some .int) ∈ TB := TB_mem 448 (by rfl) (by rfl)
set_option maxRecDepth 100000 in
theorem m449 : Cond.methodLink RX1 111 yX1_rightBelow ∈ TB := TB_mem 449 (by rfl) (by rfl)
set_option maxRecDepth 100000 in
theorem m451 : Cond.instanceMethod yX1_rightBelow ∈ TB := TB_mem 451 (by rfl) (by rfl)
set_option maxRecDepth 100000 in
theorem m452 : Cond.code yX1_rightBelow cX1_rightBelow 2 (some .int) ∈ TB := TB_mem 452 (by rfl) (by rfl)
set_option maxRecDepth 100000 in
theorem m453 : Cond.methodLink RX3 58 yX3_work ∈ TB := TB_mem 453 (by rfl) (by rfl)
set_option maxRecDepth 100000 in
theorem m455 : Cond.instanceMethod yX3_work ∈ TB := TB_mem 455 (by rfl) (by rfl)
set_option maxRecDepth 100000 in
theorem m456 : Cond.code yX3_work cX3_work 3 none ∈ TB := TB_mem 456 (by rfl) (by rfl)
set_option maxRecDepth 100000 in
theorem m457 : Cond.methodLink RX3 74 yX3_giveSource ∈ TB := TB_mem 457 (by rfl) (by rfl)
set_option maxRecDepth 100000 in
theorem m459 : Cond.instanceMethod yX3_giveSource ∈ TB := TB_mem 459 (by rfl) (by rfl)
set_option maxRecDepth 100000 in
theorem m460 : Cond.code yX3_giveSource cX3_giveSource 4 none ∈ TB := TB_mem 460 (by rfl) (by rfl)
set_option maxRecDepth 100000 in
theorem m461 : Cond.methodLink RX3 115 yX3_addEmpty ∈ TB := TB_mem 461 (by rfl) (by rfl)
set_option maxRecDepth 100000 in
theorem m463 : Cond.instanceMethod yX3_addEmpty ∈ TB := TB_mem 463 (by rfl) (by rfl)
set_option maxRecDepth 100000 in
theorem m464 : Cond.code yX3_addEmpty cX3_addEmpty 3 (some .int) ∈ TB := TB_mem 464 (by rfl) (by rfl)
set_option maxRecDepth 100000 in
theorem m465 : Cond.constant RX3 158 (36000) ∈ TB := TB_mem 465 (by rfl) (by rfl)
set_option maxRecDepth 100000 in
theorem m466 : Cond.methodLink RX3 147 Lib.Math.min.name ∈ TB := TB_mem 466 (by rfl) (by rfl)
set_option maxRecDepth 100000 in
theorem m467 : Cond.methodLink RX3 159 yJ7_copyOf_59c91 ∈ TB := TB_mem 467 (by rfl) (by rfl)
set_option maxRecDepth 100000 in
theorem m468 : Cond.static yJ7_copyOf_59c91 ∈ TB := TB_mem 468 (by rfl) (by rfl)
set_option maxRecDepth 100000 in
theorem m469 : Cond.code yJ7_copyOf_59c91 cJ7_copyOf_59c91 3 (some (.array .int)) ∈ TB := TB_mem 469 (by rfl) (by rfl)
set_option maxRecDepth 100000 in
theorem m477 : Cond.methodLink RJ7 304 Lib.Math.min.name ∈ TB := TB_mem 477 (by rfl) (by rfl)
set_option maxRecDepth 100000 in
theorem m478 : Cond.methodLink RJ7 150 arraycopyName ∈ TB := TB_mem 478 (by rfl) (by rfl)
set_option maxRecDepth 100000 in
theorem m479 : Cond.static arraycopyName ∈ TB := TB_mem 479 (by rfl) (by rfl)
set_option maxRecDepth 100000 in
theorem m480 : Cond.native arraycopyName ∈ TB := TB_mem 480 (by rfl) (by rfl)
set_option maxRecDepth 100000 in
theorem m481 : Cond.methodLink RX3 120 yX4_cellOf ∈ TB := TB_mem 481 (by rfl) (by rfl)
set_option maxRecDepth 100000 in
theorem m482 : Cond.methodLink RX3 124 arraycopyName ∈ TB := TB_mem 482 (by rfl) (by rfl)
set_option maxRecDepth 100000 in
theorem m483 : Cond.methodLink RX3 80 yX3_giveFiltered ∈ TB := TB_mem 483 (by rfl) (by rfl)
set_option maxRecDepth 100000 in
theorem m485 : Cond.instanceMethod yX3_giveFiltered ∈ TB := TB_mem 485 (by rfl) (by rfl)
set_option maxRecDepth 100000 in
theorem m486 : Cond.code yX3_giveFiltered cX3_giveFiltered 5 none ∈ TB := TB_mem 486 (by rfl) (by rfl)
set_option maxRecDepth 100000 in
theorem m487 : Cond.methodLink RX3 130 yX3_valueOf ∈ TB := TB_mem 487 (by rfl) (by rfl)
set_option maxRecDepth 100000 in
theorem m489 : Cond.instanceMethod yX3_valueOf ∈ TB := TB_mem 489 (by rfl) (by rfl)
set_option maxRecDepth 100000 in
theorem m490 : Cond.code yX3_valueOf cX3_valueOf 4 (some .int) ∈ TB := TB_mem 490 (by rfl) (by rfl)
set_option maxRecDepth 100000 in
theorem m491 : Cond.methodLink RX3 174 yX3_valueOfParts ∈ TB := TB_mem 491 (by rfl) (by rfl)
set_option maxRecDepth 100000 in
theorem m493 : Cond.instanceMethod yX3_valueOfParts ∈ TB := TB_mem 493 (by rfl) (by rfl)
set_option maxRecDepth 100000 in
theorem m494 : Cond.code yX3_valueOfParts cX3_valueOfParts 7 (some .int) ∈ TB := TB_mem 494 (by rfl) (by rfl)
set_option maxRecDepth 100000 in
theorem m495 : Cond.methodLink RX3 178 yX3_itemAt ∈ TB := TB_mem 495 (by rfl) (by rfl)
set_option maxRecDepth 100000 in
theorem m497 : Cond.instanceMethod yX3_itemAt ∈ TB := TB_mem 497 (by rfl) (by rfl)
set_option maxRecDepth 100000 in
theorem m498 : Cond.code yX3_itemAt cX3_itemAt 2 (some .int) ∈ TB := TB_mem 498 (by rfl) (by rfl)
set_option maxRecDepth 100000 in
theorem m499 : Cond.methodLink RX3 184 yX4_hasItem ∈ TB := TB_mem 499 (by rfl) (by rfl)
set_option maxRecDepth 100000 in
theorem m500 : Cond.methodLink RX3 181 yX3_valueOfPair ∈ TB := TB_mem 500 (by rfl) (by rfl)
set_option maxRecDepth 100000 in
theorem m502 : Cond.instanceMethod yX3_valueOfPair ∈ TB := TB_mem 502 (by rfl) (by rfl)
set_option maxRecDepth 100000 in
theorem m503 : Cond.code yX3_valueOfPair cX3_valueOfPair 4 (some .int) ∈ TB := TB_mem 503 (by rfl) (by rfl)
set_option maxRecDepth 100000 in
theorem m504 : Cond.methodLink RX3 133 yX3_addCopy ∈ TB := TB_mem 504 (by rfl) (by rfl)
set_option maxRecDepth 100000 in
theorem m506 : Cond.instanceMethod yX3_addCopy ∈ TB := TB_mem 506 (by rfl) (by rfl)
set_option maxRecDepth 100000 in
theorem m507 : Cond.code yX3_addCopy cX3_addCopy 3 (some .int) ∈ TB := TB_mem 507 (by rfl) (by rfl)
set_option maxRecDepth 100000 in
theorem m508 : Cond.methodLink RX3 87 yX3_giveSet ∈ TB := TB_mem 508 (by rfl) (by rfl)
set_option maxRecDepth 100000 in
theorem m510 : Cond.instanceMethod yX3_giveSet ∈ TB := TB_mem 510 (by rfl) (by rfl)
set_option maxRecDepth 100000 in
theorem m511 : Cond.code yX3_giveSet cX3_giveSet 7 none ∈ TB := TB_mem 511 (by rfl) (by rfl)
set_option maxRecDepth 100000 in
theorem m512 : Cond.methodLink RX3 91 yX3_giveKept ∈ TB := TB_mem 512 (by rfl) (by rfl)
set_option maxRecDepth 100000 in
theorem m514 : Cond.instanceMethod yX3_giveKept ∈ TB := TB_mem 514 (by rfl) (by rfl)
set_option maxRecDepth 100000 in
theorem m515 : Cond.code yX3_giveKept cX3_giveKept 5 none ∈ TB := TB_mem 515 (by rfl) (by rfl)
set_option maxRecDepth 100000 in
theorem m516 : Cond.methodLink RX3 136 yX3_copyMembers ∈ TB := TB_mem 516 (by rfl) (by rfl)
set_option maxRecDepth 100000 in
theorem m518 : Cond.instanceMethod yX3_copyMembers ∈ TB := TB_mem 518 (by rfl) (by rfl)
set_option maxRecDepth 100000 in
theorem m519 : Cond.code yX3_copyMembers cX3_copyMembers 5 none ∈ TB := TB_mem 519 (by rfl) (by rfl)
set_option maxRecDepth 100000 in
theorem m521 : Cond.static yX5_isIn ∈ TB := TB_mem 521 (by rfl) (by rfl)
set_option maxRecDepth 100000 in
theorem m522 : Cond.code yX5_isIn cX5_isIn 2 (some .boolean) ∈ TB := TB_mem 522 (by rfl) (by rfl)
set_option maxRecDepth 100000 in
theorem m523 : Cond.methodLink RX3 97 yX3_giveJoined ∈ TB := TB_mem 523 (by rfl) (by rfl)
set_option maxRecDepth 100000 in
theorem m525 : Cond.instanceMethod yX3_giveJoined ∈ TB := TB_mem 525 (by rfl) (by rfl)
set_option maxRecDepth 100000 in
theorem m526 : Cond.code yX3_giveJoined cX3_giveJoined 8 none ∈ TB := TB_mem 526 (by rfl) (by rfl)
set_option maxRecDepth 100000 in
theorem m527 : Cond.methodLink RX3 101 yX3_giveFirst ∈ TB := TB_mem 527 (by rfl) (by rfl)
set_option maxRecDepth 100000 in
theorem m529 : Cond.instanceMethod yX3_giveFirst ∈ TB := TB_mem 529 (by rfl) (by rfl)
set_option maxRecDepth 100000 in
theorem m530 : Cond.code yX3_giveFirst cX3_giveFirst 5 none ∈ TB := TB_mem 530 (by rfl) (by rfl)
set_option maxRecDepth 100000 in
theorem m531 : Cond.methodLink RX3 104 yX3_giveFolded ∈ TB := TB_mem 531 (by rfl) (by rfl)
set_option maxRecDepth 100000 in
theorem m533 : Cond.instanceMethod yX3_giveFolded ∈ TB := TB_mem 533 (by rfl) (by rfl)
set_option maxRecDepth 100000 in
theorem m534 : Cond.code yX3_giveFolded cX3_giveFolded 7 none ∈ TB := TB_mem 534 (by rfl) (by rfl)
set_option maxRecDepth 100000 in
theorem m535 : Cond.methodLink RX3 139 yX3_findMember ∈ TB := TB_mem 535 (by rfl) (by rfl)
set_option maxRecDepth 100000 in
theorem m537 : Cond.instanceMethod yX3_findMember ∈ TB := TB_mem 537 (by rfl) (by rfl)
set_option maxRecDepth 100000 in
theorem m538 : Cond.code yX3_findMember cX3_findMember 5 (some .int) ∈ TB := TB_mem 538 (by rfl) (by rfl)
set_option maxRecDepth 100000 in
theorem m539 : Cond.methodLink RX3 107 yX3_giveOnce ∈ TB := TB_mem 539 (by rfl) (by rfl)
set_option maxRecDepth 100000 in
theorem m541 : Cond.instanceMethod yX3_giveOnce ∈ TB := TB_mem 541 (by rfl) (by rfl)
set_option maxRecDepth 100000 in
theorem m542 : Cond.code yX3_giveOnce cX3_giveOnce 4 none ∈ TB := TB_mem 542 (by rfl) (by rfl)
set_option maxRecDepth 100000 in
theorem m543 : Cond.methodLink RX3 143 yX3_hasLike ∈ TB := TB_mem 543 (by rfl) (by rfl)
set_option maxRecDepth 100000 in
theorem m545 : Cond.instanceMethod yX3_hasLike ∈ TB := TB_mem 545 (by rfl) (by rfl)
set_option maxRecDepth 100000 in
theorem m546 : Cond.code yX3_hasLike cX3_hasLike 4 (some .boolean) ∈ TB := TB_mem 546 (by rfl) (by rfl)
set_option maxRecDepth 100000 in
theorem m547 : Cond.methodLink RX3 152 yX3_isLike ∈ TB := TB_mem 547 (by rfl) (by rfl)
set_option maxRecDepth 100000 in
theorem m549 : Cond.instanceMethod yX3_isLike ∈ TB := TB_mem 549 (by rfl) (by rfl)
set_option maxRecDepth 100000 in
theorem m550 : Cond.code yX3_isLike cX3_isLike 4 (some .boolean) ∈ TB := TB_mem 550 (by rfl) (by rfl)
set_option maxRecDepth 100000 in
theorem m551 : Cond.methodLink RL 50 yX5_member ∈ TB := TB_mem 551 (by rfl) (by rfl)
set_option maxRecDepth 100000 in
theorem m552 : Cond.instanceMethod yX5_member ∈ TB := TB_mem 552 (by rfl) (by rfl)
set_option maxRecDepth 100000 in
theorem m553 : Cond.selects RX5 yX5_member yX5_member ∈ TB := TB_mem 553 (by rfl) (by rfl)
set_option maxRecDepth 100000 in
theorem m554 : Cond.code yX5_member cX5_member 3 (some .int) ∈ TB := TB_mem 554 (by rfl) (by rfl)
set_option maxRecDepth 100000 in
theorem m555 : Cond.methodLink RX5 123 yX5_isMember ∈ TB := TB_mem 555 (by rfl) (by rfl)
set_option maxRecDepth 100000 in
theorem m556 : Cond.methodLink RX5 126 yX3_given ∈ TB := TB_mem 556 (by rfl) (by rfl)
set_option maxRecDepth 100000 in
theorem m557 : Cond.instanceMethod yX3_given ∈ TB := TB_mem 557 (by rfl) (by rfl)
set_option maxRecDepth 100000 in
theorem m558 : Cond.selects RX3 yX3_given yX3_given ∈ TB := TB_mem 558 (by rfl) (by rfl)
set_option maxRecDepth 100000 in
theorem m559 : Cond.code yX3_given cX3_given 3 (some .int) ∈ TB := TB_mem 559 (by rfl) (by rfl)
set_option maxRecDepth 100000 in
theorem m560 : Cond.methodLink RL 54 yX5_worked ∈ TB := TB_mem 560 (by rfl) (by rfl)
set_option maxRecDepth 100000 in
theorem m561 : Cond.instanceMethod yX5_worked ∈ TB := TB_mem 561 (by rfl) (by rfl)
set_option maxRecDepth 100000 in
theorem m562 : Cond.selects RX5 yX5_worked yX5_worked ∈ TB := TB_mem 562 (by rfl) (by rfl)
set_option maxRecDepth 100000 in
theorem m563 : Cond.code yX5_worked cX5_worked 2 (some .int) ∈ TB := TB_mem 563 (by rfl) (by rfl)
set_option maxRecDepth 100000 in
theorem m564 : Cond.methodLink RL 58 yX5_fits ∈ TB := TB_mem 564 (by rfl) (by rfl)
set_option maxRecDepth 100000 in
theorem m565 : Cond.instanceMethod yX5_fits ∈ TB := TB_mem 565 (by rfl) (by rfl)
set_option maxRecDepth 100000 in
theorem m566 : Cond.selects RX5 yX5_fits yX5_fits ∈ TB := TB_mem 566 (by rfl) (by rfl)
set_option maxRecDepth 100000 in
theorem m567 : Cond.code yX5_fits cX5_fits 3 (some .int) ∈ TB := TB_mem 567 (by rfl) (by rfl)
set_option maxRecDepth 100000 in
theorem m568 : Cond.methodLink RX5 143 yX2_has ∈ TB := TB_mem 568 (by rfl) (by rfl)
set_option maxRecDepth 100000 in
theorem m569 : Cond.instanceMethod yX2_has ∈ TB := TB_mem 569 (by rfl) (by rfl)
set_option maxRecDepth 100000 in
theorem m570 : Cond.selects RX2 yX2_has yX2_has ∈ TB := TB_mem 570 (by rfl) (by rfl)
set_option maxRecDepth 100000 in
theorem m571 : Cond.code yX2_has cX2_has 2 (some .boolean) ∈ TB := TB_mem 571 (by rfl) (by rfl)
set_option maxRecDepth 100000 in
theorem m572 : Cond.methodLink RX5 144 yX2_suits ∈ TB := TB_mem 572 (by rfl) (by rfl)
set_option maxRecDepth 100000 in
theorem m573 : Cond.instanceMethod yX2_suits ∈ TB := TB_mem 573 (by rfl) (by rfl)
set_option maxRecDepth 100000 in
theorem m574 : Cond.selects RX2 yX2_suits yX2_suits ∈ TB := TB_mem 574 (by rfl) (by rfl)
set_option maxRecDepth 100000 in
theorem m575 : Cond.code yX2_suits cX2_suits 4 (some .boolean) ∈ TB := TB_mem 575 (by rfl) (by rfl)
set_option maxRecDepth 100000 in
theorem m576 : Cond.fieldLink RX2 23 RX2 "UPPER" "[I" ∈ TB := TB_mem 576 (by rfl) (by rfl)
set_option maxRecDepth 100000 in
theorem m578 : Cond.fieldLink RX2 29 RX2 "LOWER" "[I" ∈ TB := TB_mem 578 (by rfl) (by rfl)
set_option maxRecDepth 100000 in
theorem m580 : Cond.methodLink RX2 35 yX2_suitsFilter ∈ TB := TB_mem 580 (by rfl) (by rfl)
set_option maxRecDepth 100000 in
theorem m582 : Cond.instanceMethod yX2_suitsFilter ∈ TB := TB_mem 582 (by rfl) (by rfl)
set_option maxRecDepth 100000 in
theorem m583 : Cond.code yX2_suitsFilter cX2_suitsFilter 8 (some .boolean) ∈ TB := TB_mem 583 (by rfl) (by rfl)
set_option maxRecDepth 100000 in
theorem m586 : Cond.static yX5_isWithin ∈ TB := TB_mem 586 (by rfl) (by rfl)
set_option maxRecDepth 100000 in
theorem m587 : Cond.code yX5_isWithin cX5_isWithin 2 (some .boolean) ∈ TB := TB_mem 587 (by rfl) (by rfl)
set_option maxRecDepth 100000 in
theorem m588 : Cond.methodLink RX2 39 yX2_suitsOther ∈ TB := TB_mem 588 (by rfl) (by rfl)
set_option maxRecDepth 100000 in
theorem m590 : Cond.instanceMethod yX2_suitsOther ∈ TB := TB_mem 590 (by rfl) (by rfl)
set_option maxRecDepth 100000 in
theorem m591 : Cond.code yX2_suitsOther cX2_suitsOther 8 (some .boolean) ∈ TB := TB_mem 591 (by rfl) (by rfl)
set_option maxRecDepth 100000 in
theorem m592 : Cond.methodLink RX2 67 yX2_isLikeJob ∈ TB := TB_mem 592 (by rfl) (by rfl)
set_option maxRecDepth 100000 in
theorem m594 : Cond.instanceMethod yX2_isLikeJob ∈ TB := TB_mem 594 (by rfl) (by rfl)
set_option maxRecDepth 100000 in
theorem m595 : Cond.code yX2_isLikeJob cX2_isLikeJob 3 (some .boolean) ∈ TB := TB_mem 595 (by rfl) (by rfl)
set_option maxRecDepth 100000 in
theorem m596 : Cond.methodLink RL 62 yX5_rewrite ∈ TB := TB_mem 596 (by rfl) (by rfl)
set_option maxRecDepth 100000 in
theorem m597 : Cond.instanceMethod yX5_rewrite ∈ TB := TB_mem 597 (by rfl) (by rfl)
set_option maxRecDepth 100000 in
theorem m598 : Cond.selects RX5 yX5_rewrite yX5_rewrite ∈ TB := TB_mem 598 (by rfl) (by rfl)
set_option maxRecDepth 100000 in
theorem m599 : Cond.code yX5_rewrite cX5_rewrite 3 (some .int) ∈ TB := TB_mem 599 (by rfl) (by rfl)
set_option maxRecDepth 100000 in
theorem m600 : Cond.methodLink RX5 148 yX2_hasRoom ∈ TB := TB_mem 600 (by rfl) (by rfl)
set_option maxRecDepth 100000 in
theorem m601 : Cond.instanceMethod yX2_hasRoom ∈ TB := TB_mem 601 (by rfl) (by rfl)
set_option maxRecDepth 100000 in
theorem m602 : Cond.selects RX2 yX2_hasRoom yX2_hasRoom ∈ TB := TB_mem 602 (by rfl) (by rfl)
set_option maxRecDepth 100000 in
theorem m603 : Cond.code yX2_hasRoom cX2_hasRoom 3 (some .boolean) ∈ TB := TB_mem 603 (by rfl) (by rfl)
set_option maxRecDepth 100000 in
theorem m604 : Cond.methodLink RX2 70 yX0_hasRoom ∈ TB := TB_mem 604 (by rfl) (by rfl)
set_option maxRecDepth 100000 in
theorem m605 : Cond.fieldLink RX2 73 RX2 "NEW_NODES" "[I" ∈ TB := TB_mem 605 (by rfl) (by rfl)
set_option maxRecDepth 100000 in
theorem m607 : Cond.methodLink RX2 76 yX1_hasRoom ∈ TB := TB_mem 607 (by rfl) (by rfl)
set_option maxRecDepth 100000 in
theorem m608 : Cond.methodLink RX5 150 yX2_apply ∈ TB := TB_mem 608 (by rfl) (by rfl)
set_option maxRecDepth 100000 in
theorem m609 : Cond.instanceMethod yX2_apply ∈ TB := TB_mem 609 (by rfl) (by rfl)
set_option maxRecDepth 100000 in
theorem m610 : Cond.selects RX2 yX2_apply yX2_apply ∈ TB := TB_mem 610 (by rfl) (by rfl)
set_option maxRecDepth 100000 in
theorem m611 : Cond.code yX2_apply cX2_apply 4 none ∈ TB := TB_mem 611 (by rfl) (by rfl)
set_option maxRecDepth 100000 in
theorem m612 : Cond.methodLink RX2 83 yX2_addLike ∈ TB := TB_mem 612 (by rfl) (by rfl)
set_option maxRecDepth 100000 in
theorem m614 : Cond.instanceMethod yX2_addLike ∈ TB := TB_mem 614 (by rfl) (by rfl)
set_option maxRecDepth 100000 in
theorem m615 : Cond.code yX2_addLike cX2_addLike 3 (some .int) ∈ TB := TB_mem 615 (by rfl) (by rfl)
set_option maxRecDepth 100000 in
theorem m616 : Cond.methodLink RX2 111 yX1_add ∈ TB := TB_mem 616 (by rfl) (by rfl)
set_option maxRecDepth 100000 in
theorem m617 : Cond.methodLink RX2 87 yX2_exchange ∈ TB := TB_mem 617 (by rfl) (by rfl)
set_option maxRecDepth 100000 in
theorem m619 : Cond.instanceMethod yX2_exchange ∈ TB := TB_mem 619 (by rfl) (by rfl)
set_option maxRecDepth 100000 in
theorem m620 : Cond.code yX2_exchange cX2_exchange 5 none ∈ TB := TB_mem 620 (by rfl) (by rfl)
set_option maxRecDepth 100000 in
theorem m621 : Cond.methodLink RX2 107 yX1_write ∈ TB := TB_mem 621 (by rfl) (by rfl)
set_option maxRecDepth 100000 in
theorem m622 : Cond.methodLink RX2 91 yX0_add ∈ TB := TB_mem 622 (by rfl) (by rfl)
set_option maxRecDepth 100000 in
theorem m623 : Cond.methodLink RX2 95 yX2_skip ∈ TB := TB_mem 623 (by rfl) (by rfl)
set_option maxRecDepth 100000 in
theorem m625 : Cond.instanceMethod yX2_skip ∈ TB := TB_mem 625 (by rfl) (by rfl)
set_option maxRecDepth 100000 in
theorem m626 : Cond.code yX2_skip cX2_skip 4 none ∈ TB := TB_mem 626 (by rfl) (by rfl)
set_option maxRecDepth 100000 in
theorem m627 : Cond.methodLink RX2 99 Lib.Math.min.name ∈ TB := TB_mem 627 (by rfl) (by rfl)
set_option maxRecDepth 100000 in
theorem m628 : Cond.methodLink RX2 104 yX2_workAbove ∈ TB := TB_mem 628 (by rfl) (by rfl)
set_option maxRecDepth 100000 in
theorem m630 : Cond.instanceMethod yX2_workAbove ∈ TB := TB_mem 630 (by rfl) (by rfl)
set_option maxRecDepth 100000 in
theorem m631 : Cond.code yX2_workAbove cX2_workAbove 5 none ∈ TB := TB_mem 631 (by rfl) (by rfl)
set_option maxRecDepth 100000 in
theorem m632 : Cond.methodLink RL 66 yX5_sweep ∈ TB := TB_mem 632 (by rfl) (by rfl)
set_option maxRecDepth 100000 in
theorem m633 : Cond.instanceMethod yX5_sweep ∈ TB := TB_mem 633 (by rfl) (by rfl)
set_option maxRecDepth 100000 in
theorem m634 : Cond.selects RX5 yX5_sweep yX5_sweep ∈ TB := TB_mem 634 (by rfl) (by rfl)
set_option maxRecDepth 100000 in
theorem m635 : Cond.code yX5_sweep cX5_sweep 6 (some .int) ∈ TB := TB_mem 635 (by rfl) (by rfl)
set_option maxRecDepth 100000 in
theorem m636 : Cond.methodLink RX5 157 yX2_leastNode ∈ TB := TB_mem 636 (by rfl) (by rfl)
set_option maxRecDepth 100000 in
theorem m637 : Cond.instanceMethod yX2_leastNode ∈ TB := TB_mem 637 (by rfl) (by rfl)
set_option maxRecDepth 100000 in
theorem m638 : Cond.selects RX2 yX2_leastNode yX2_leastNode ∈ TB := TB_mem 638 (by rfl) (by rfl)
set_option maxRecDepth 100000 in
theorem m639 : Cond.code yX2_leastNode cX2_leastNode 3 (some .int) ∈ TB := TB_mem 639 (by rfl) (by rfl)
set_option maxRecDepth 100000 in
theorem m640 : Cond.methodLink RX2 114 yX1_listFrom ∈ TB := TB_mem 640 (by rfl) (by rfl)
set_option maxRecDepth 100000 in
theorem m641 : Cond.methodLink RX2 121 yX1_isListed ∈ TB := TB_mem 641 (by rfl) (by rfl)
set_option maxRecDepth 100000 in
theorem m642 : Cond.instanceMethod yX1_isListed ∈ TB := TB_mem 642 (by rfl) (by rfl)
set_option maxRecDepth 100000 in
theorem m643 : Cond.selects RX1 yX1_isListed yX1_isListed ∈ TB := TB_mem 643 (by rfl) (by rfl)
set_option maxRecDepth 100000 in
theorem m644 : Cond.code yX1_isListed cX1_isListed 2 (some .boolean) ∈ TB := TB_mem 644 (by rfl) (by rfl)
set_option maxRecDepth 100000 in
theorem m645 : Cond.methodLink RX2 124 yX2_leastRule ∈ TB := TB_mem 645 (by rfl) (by rfl)
set_option maxRecDepth 100000 in
theorem m646 : Cond.instanceMethod yX2_leastRule ∈ TB := TB_mem 646 (by rfl) (by rfl)
set_option maxRecDepth 100000 in
theorem m647 : Cond.selects RX2 yX2_leastRule yX2_leastRule ∈ TB := TB_mem 647 (by rfl) (by rfl)
set_option maxRecDepth 100000 in
theorem m648 : Cond.code yX2_leastRule cX2_leastRule 3 (some .int) ∈ TB := TB_mem 648 (by rfl) (by rfl)
set_option maxRecDepth 100000 in
theorem m649 : Cond.methodLink RX2 127 yX2_suits ∈ TB := TB_mem 649 (by rfl) (by rfl)
set_option maxRecDepth 100000 in
theorem m650 : Cond.methodLink RX5 160 yX2_leastRule ∈ TB := TB_mem 650 (by rfl) (by rfl)
set_option maxRecDepth 100000 in
theorem m651 : Cond.methodLink RL 70 yX5_count ∈ TB := TB_mem 651 (by rfl) (by rfl)
set_option maxRecDepth 100000 in
theorem m652 : Cond.instanceMethod yX5_count ∈ TB := TB_mem 652 (by rfl) (by rfl)
set_option maxRecDepth 100000 in
theorem m653 : Cond.selects RX5 yX5_count yX5_count ∈ TB := TB_mem 653 (by rfl) (by rfl)
set_option maxRecDepth 100000 in
theorem m654 : Cond.code yX5_count cX5_count 2 (some .int) ∈ TB := TB_mem 654 (by rfl) (by rfl)
set_option maxRecDepth 100000 in
theorem m655 : Cond.methodLink RX5 167 yX4_total ∈ TB := TB_mem 655 (by rfl) (by rfl)
set_option maxRecDepth 100000 in
theorem m656 : Cond.instanceMethod yX4_total ∈ TB := TB_mem 656 (by rfl) (by rfl)
set_option maxRecDepth 100000 in
theorem m657 : Cond.selects RX4 yX4_total yX4_total ∈ TB := TB_mem 657 (by rfl) (by rfl)
set_option maxRecDepth 100000 in
theorem m658 : Cond.code yX4_total cX4_total 6 (some .int) ∈ TB := TB_mem 658 (by rfl) (by rfl)
set_option maxRecDepth 100000 in
theorem m665 : Cond.constant RX6 68 (36000) ∈ TB := TB_mem 665 (by rfl) (by rfl)
set_option maxRecDepth 100000 in
theorem m666 : Cond.fieldLink RX6 7 (TX6 0).1 (TX6 0).2.1 (TX6 0).2.2.1 ∈ TB := TB_mem 666 (by rfl) (by rfl)
set_option maxRecDepth 100000 in
theorem m667 : Cond.fieldLink RX6 13 (TX6 1).1 (TX6 1).2.1 (TX6 1).2.2.1 ∈ TB := TB_mem 667 (by rfl) (by rfl)
end
section
set_option maxRecDepth 100000 in
theorem m668 : Cond.fieldLink RX6 16 (TX6 2).1 (TX6 2).2.1 (TX6 2).2.2.1 ∈ TB := TB_mem 668 (by rfl) (by rfl)
set_option maxRecDepth 100000 in
theorem m669 : Cond.fieldLink RX6 96 (TX6 3).1 (TX6 3).2.1 (TX6 3).2.2.1 ∈ TB := TB_mem 669 (by rfl) (by rfl)
set_option maxRecDepth 100000 in
theorem m670 : Cond.fieldLink RX6 19 (TX6 4).1 (TX6 4).2.1 (TX6 4).2.2.1 ∈ TB := TB_mem 670 (by rfl) (by rfl)
set_option maxRecDepth 100000 in
theorem m671 : Cond.fieldLink RX6 22 (TX6 5).1 (TX6 5).2.1 (TX6 5).2.2.1 ∈ TB := TB_mem 671 (by rfl) (by rfl)
set_option maxRecDepth 100000 in
theorem m672 : Cond.fieldLink RX6 25 (TX6 6).1 (TX6 6).2.1 (TX6 6).2.2.1 ∈ TB := TB_mem 672 (by rfl) (by rfl)
set_option maxRecDepth 100000 in
theorem m673 : Cond.fieldLink RX6 28 (TX6 7).1 (TX6 7).2.1 (TX6 7).2.2.1 ∈ TB := TB_mem 673 (by rfl) (by rfl)
set_option maxRecDepth 100000 in
theorem m674 : Cond.fieldLink RX6 31 (TX6 8).1 (TX6 8).2.1 (TX6 8).2.2.1 ∈ TB := TB_mem 674 (by rfl) (by rfl)
set_option maxRecDepth 100000 in
theorem m675 : Cond.fieldLink RX6 35 (TX6 9).1 (TX6 9).2.1 (TX6 9).2.2.1 ∈ TB := TB_mem 675 (by rfl) (by rfl)
set_option maxRecDepth 100000 in
theorem m676 : Cond.fieldLink RX6 120 (TX6 10).1 (TX6 10).2.1 (TX6 10).2.2.1 ∈ TB := TB_mem 676 (by rfl) (by rfl)
set_option maxRecDepth 100000 in
theorem m677 : Cond.fieldLink RX6 38 (TX6 11).1 (TX6 11).2.1 (TX6 11).2.2.1 ∈ TB := TB_mem 677 (by rfl) (by rfl)
set_option maxRecDepth 100000 in
theorem m678 : Cond.fieldLink RX6 41 (TX6 12).1 (TX6 12).2.1 (TX6 12).2.2.1 ∈ TB := TB_mem 678 (by rfl) (by rfl)
set_option maxRecDepth 100000 in
theorem m679 : Cond.fieldLink RX6 44 (TX6 13).1 (TX6 13).2.1 (TX6 13).2.2.1 ∈ TB := TB_mem 679 (by rfl) (by rfl)
set_option maxRecDepth 100000 in
theorem m680 : Cond.fieldLink RX6 47 (TX6 14).1 (TX6 14).2.1 (TX6 14).2.2.1 ∈ TB := TB_mem 680 (by rfl) (by rfl)
set_option maxRecDepth 100000 in
theorem m681 : Cond.fieldLink RX6 50 (TX6 15).1 (TX6 15).2.1 (TX6 15).2.2.1 ∈ TB := TB_mem 681 (by rfl) (by rfl)
set_option maxRecDepth 100000 in
theorem m682 : Cond.fieldLink RX6 258 (TX6 16).1 (TX6 16).2.1 (TX6 16).2.2.1 ∈ TB := TB_mem 682 (by rfl) (by rfl)
set_option maxRecDepth 100000 in
theorem m683 : Cond.fieldLink RX6 53 (TX6 17).1 (TX6 17).2.1 (TX6 17).2.2.1 ∈ TB := TB_mem 683 (by rfl) (by rfl)
set_option maxRecDepth 100000 in
theorem m684 : Cond.fieldLink RX6 56 (TX6 18).1 (TX6 18).2.1 (TX6 18).2.2.1 ∈ TB := TB_mem 684 (by rfl) (by rfl)
set_option maxRecDepth 100000 in
theorem m685 : Cond.fieldLink RX6 59 (TX6 19).1 (TX6 19).2.1 (TX6 19).2.2.1 ∈ TB := TB_mem 685 (by rfl) (by rfl)
set_option maxRecDepth 100000 in
theorem m686 : Cond.fieldLink RX6 62 (TX6 20).1 (TX6 20).2.1 (TX6 20).2.2.1 ∈ TB := TB_mem 686 (by rfl) (by rfl)
set_option maxRecDepth 100000 in
theorem m687 : Cond.fieldLink RX6 164 (TX6 21).1 (TX6 21).2.1 (TX6 21).2.2.1 ∈ TB := TB_mem 687 (by rfl) (by rfl)
set_option maxRecDepth 100000 in
theorem m688 : Cond.fieldLink RX6 174 (TX6 22).1 (TX6 22).2.1 (TX6 22).2.2.1 ∈ TB := TB_mem 688 (by rfl) (by rfl)
set_option maxRecDepth 100000 in
theorem m689 : Cond.fieldLink RX6 190 (TX6 23).1 (TX6 23).2.1 (TX6 23).2.2.1 ∈ TB := TB_mem 689 (by rfl) (by rfl)
set_option maxRecDepth 100000 in
theorem m690 : Cond.fieldLink RX6 167 (TX6 24).1 (TX6 24).2.1 (TX6 24).2.2.1 ∈ TB := TB_mem 690 (by rfl) (by rfl)
set_option maxRecDepth 100000 in
theorem m691 : Cond.fieldLink RX6 65 (TX6 25).1 (TX6 25).2.1 (TX6 25).2.2.1 ∈ TB := TB_mem 691 (by rfl) (by rfl)
set_option maxRecDepth 100000 in
theorem m692 : Cond.fieldLink RX6 69 (TX6 26).1 (TX6 26).2.1 (TX6 26).2.2.1 ∈ TB := TB_mem 692 (by rfl) (by rfl)
set_option maxRecDepth 100000 in
theorem m693 : Cond.fieldLink RX6 72 (TX6 27).1 (TX6 27).2.1 (TX6 27).2.2.1 ∈ TB := TB_mem 693 (by rfl) (by rfl)
set_option maxRecDepth 100000 in
theorem m694 : Cond.fieldLink RX6 75 (TX6 28).1 (TX6 28).2.1 (TX6 28).2.2.1 ∈ TB := TB_mem 694 (by rfl) (by rfl)
set_option maxRecDepth 100000 in
theorem m695 : Cond.fieldLink RX6 78 (TX6 29).1 (TX6 29).2.1 (TX6 29).2.2.1 ∈ TB := TB_mem 695 (by rfl) (by rfl)
set_option maxRecDepth 100000 in
theorem m696 : Cond.fieldLink RX6 81 (TX6 30).1 (TX6 30).2.1 (TX6 30).2.2.1 ∈ TB := TB_mem 696 (by rfl) (by rfl)
set_option maxRecDepth 100000 in
theorem m697 : Cond.fieldLink RX6 235 (TX6 31).1 (TX6 31).2.1 (TX6 31).2.2.1 ∈ TB := TB_mem 697 (by rfl) (by rfl)
set_option maxRecDepth 100000 in
theorem m698 : Cond.fieldLink RX6 226 (TX6 32).1 (TX6 32).2.1 (TX6 32).2.2.1 ∈ TB := TB_mem 698 (by rfl) (by rfl)
set_option maxRecDepth 100000 in
theorem m699 : Cond.fieldLink RX6 229 (TX6 33).1 (TX6 33).2.1 (TX6 33).2.2.1 ∈ TB := TB_mem 699 (by rfl) (by rfl)
set_option maxRecDepth 100000 in
theorem m700 : Cond.fieldLink RX6 232 (TX6 34).1 (TX6 34).2.1 (TX6 34).2.2.1 ∈ TB := TB_mem 700 (by rfl) (by rfl)
set_option maxRecDepth 100000 in
theorem m701 : Cond.fieldLink RX6 84 (TX6 35).1 (TX6 35).2.1 (TX6 35).2.2.1 ∈ TB := TB_mem 701 (by rfl) (by rfl)
set_option maxRecDepth 100000 in
theorem m775 : Cond.methodLink RL 17 yX6_row ∈ TB := TB_mem 775 (by rfl) (by rfl)
set_option maxRecDepth 100000 in
theorem m776 : Cond.instanceMethod yX6_row ∈ TB := TB_mem 776 (by rfl) (by rfl)
set_option maxRecDepth 100000 in
theorem m777 : Cond.selects RX6 yX6_row yX6_row ∈ TB := TB_mem 777 (by rfl) (by rfl)
set_option maxRecDepth 100000 in
theorem m778 : Cond.code yX6_row cX6_row 6 (some .int) ∈ TB := TB_mem 778 (by rfl) (by rfl)
set_option maxRecDepth 100000 in
theorem m779 : Cond.constantLong RX6 88 (3) ∈ TB := TB_mem 779 (by rfl) (by rfl)
set_option maxRecDepth 100000 in
theorem m780 : Cond.methodLink RX6 90 yX6_in ∈ TB := TB_mem 780 (by rfl) (by rfl)
set_option maxRecDepth 100000 in
theorem m781 : Cond.static yX6_in ∈ TB := TB_mem 781 (by rfl) (by rfl)
set_option maxRecDepth 100000 in
theorem m782 : Cond.code yX6_in cX6_in 6 (some .boolean) ∈ TB := TB_mem 782 (by rfl) (by rfl)
set_option maxRecDepth 100000 in
theorem m783 : Cond.methodLink RL 22 yX6_clear ∈ TB := TB_mem 783 (by rfl) (by rfl)
set_option maxRecDepth 100000 in
theorem m784 : Cond.instanceMethod yX6_clear ∈ TB := TB_mem 784 (by rfl) (by rfl)
set_option maxRecDepth 100000 in
theorem m785 : Cond.selects RX6 yX6_clear yX6_clear ∈ TB := TB_mem 785 (by rfl) (by rfl)
set_option maxRecDepth 100000 in
theorem m786 : Cond.code yX6_clear cX6_clear 3 (some .int) ∈ TB := TB_mem 786 (by rfl) (by rfl)
set_option maxRecDepth 100000 in
theorem m787 : Cond.methodLink RL 27 yX6_table ∈ TB := TB_mem 787 (by rfl) (by rfl)
set_option maxRecDepth 100000 in
theorem m788 : Cond.instanceMethod yX6_table ∈ TB := TB_mem 788 (by rfl) (by rfl)
set_option maxRecDepth 100000 in
theorem m789 : Cond.selects RX6 yX6_table yX6_table ∈ TB := TB_mem 789 (by rfl) (by rfl)
set_option maxRecDepth 100000 in
theorem m790 : Cond.code yX6_table cX6_table 3 (some .int) ∈ TB := TB_mem 790 (by rfl) (by rfl)
set_option maxRecDepth 100000 in
theorem m791 : Cond.constantLong RX6 94 (7) ∈ TB := TB_mem 791 (by rfl) (by rfl)
set_option maxRecDepth 100000 in
theorem m792 : Cond.methodLink RL 32 yX6_formula ∈ TB := TB_mem 792 (by rfl) (by rfl)
set_option maxRecDepth 100000 in
theorem m793 : Cond.instanceMethod yX6_formula ∈ TB := TB_mem 793 (by rfl) (by rfl)
set_option maxRecDepth 100000 in
theorem m794 : Cond.selects RX6 yX6_formula yX6_formula ∈ TB := TB_mem 794 (by rfl) (by rfl)
set_option maxRecDepth 100000 in
theorem m795 : Cond.code yX6_formula cX6_formula 4 (some .int) ∈ TB := TB_mem 795 (by rfl) (by rfl)
set_option maxRecDepth 100000 in
theorem m796 : Cond.constantLong RX6 110 (11) ∈ TB := TB_mem 796 (by rfl) (by rfl)
set_option maxRecDepth 100000 in
theorem m797 : Cond.constantLong RX6 112 (5) ∈ TB := TB_mem 797 (by rfl) (by rfl)
set_option maxRecDepth 100000 in
theorem m798 : Cond.methodLink RX6 99 yX6_hasOne ∈ TB := TB_mem 798 (by rfl) (by rfl)
set_option maxRecDepth 100000 in
theorem m799 : Cond.static yX6_hasOne ∈ TB := TB_mem 799 (by rfl) (by rfl)
set_option maxRecDepth 100000 in
theorem m800 : Cond.code yX6_hasOne cX6_hasOne 1 (some .boolean) ∈ TB := TB_mem 800 (by rfl) (by rfl)
set_option maxRecDepth 100000 in
theorem m801 : Cond.methodLink RX6 114 yX6_isFormula ∈ TB := TB_mem 801 (by rfl) (by rfl)
set_option maxRecDepth 100000 in
theorem m803 : Cond.instanceMethod yX6_isFormula ∈ TB := TB_mem 803 (by rfl) (by rfl)
set_option maxRecDepth 100000 in
theorem m804 : Cond.code yX6_isFormula cX6_isFormula 2 (some .boolean) ∈ TB := TB_mem 804 (by rfl) (by rfl)
set_option maxRecDepth 100000 in
theorem m805 : Cond.methodLink RX6 103 yX6_hasTwo ∈ TB := TB_mem 805 (by rfl) (by rfl)
set_option maxRecDepth 100000 in
theorem m806 : Cond.static yX6_hasTwo ∈ TB := TB_mem 806 (by rfl) (by rfl)
set_option maxRecDepth 100000 in
theorem m807 : Cond.code yX6_hasTwo cX6_hasTwo 1 (some .boolean) ∈ TB := TB_mem 807 (by rfl) (by rfl)
set_option maxRecDepth 100000 in
theorem m808 : Cond.methodLink RX6 106 yX6_sizeOf ∈ TB := TB_mem 808 (by rfl) (by rfl)
set_option maxRecDepth 100000 in
theorem m810 : Cond.instanceMethod yX6_sizeOf ∈ TB := TB_mem 810 (by rfl) (by rfl)
set_option maxRecDepth 100000 in
theorem m811 : Cond.code yX6_sizeOf cX6_sizeOf 4 (some .int) ∈ TB := TB_mem 811 (by rfl) (by rfl)
set_option maxRecDepth 100000 in
theorem m812 : Cond.methodLink RX6 117 yX6_tell ∈ TB := TB_mem 812 (by rfl) (by rfl)
set_option maxRecDepth 100000 in
theorem m814 : Cond.instanceMethod yX6_tell ∈ TB := TB_mem 814 (by rfl) (by rfl)
set_option maxRecDepth 100000 in
theorem m815 : Cond.code yX6_tell cX6_tell 5 (some .int) ∈ TB := TB_mem 815 (by rfl) (by rfl)
set_option maxRecDepth 100000 in
theorem m816 : Cond.methodLink RL 36 yX6_formulaOf ∈ TB := TB_mem 816 (by rfl) (by rfl)
set_option maxRecDepth 100000 in
theorem m817 : Cond.instanceMethod yX6_formulaOf ∈ TB := TB_mem 817 (by rfl) (by rfl)
set_option maxRecDepth 100000 in
theorem m818 : Cond.selects RX6 yX6_formulaOf yX6_formulaOf ∈ TB := TB_mem 818 (by rfl) (by rfl)
set_option maxRecDepth 100000 in
theorem m819 : Cond.code yX6_formulaOf cX6_formulaOf 3 (some .int) ∈ TB := TB_mem 819 (by rfl) (by rfl)
set_option maxRecDepth 100000 in
theorem m820 : Cond.methodLink RL 41 yX6_node ∈ TB := TB_mem 820 (by rfl) (by rfl)
set_option maxRecDepth 100000 in
theorem m821 : Cond.instanceMethod yX6_node ∈ TB := TB_mem 821 (by rfl) (by rfl)
set_option maxRecDepth 100000 in
theorem m822 : Cond.selects RX6 yX6_node yX6_node ∈ TB := TB_mem 822 (by rfl) (by rfl)
set_option maxRecDepth 100000 in
theorem m823 : Cond.code yX6_node cX6_node 7 (some .int) ∈ TB := TB_mem 823 (by rfl) (by rfl)
set_option maxRecDepth 100000 in
theorem m824 : Cond.constantLong RX6 146 (8) ∈ TB := TB_mem 824 (by rfl) (by rfl)
set_option maxRecDepth 100000 in
theorem m825 : Cond.methodLink RX6 148 yX6_isNode ∈ TB := TB_mem 825 (by rfl) (by rfl)
set_option maxRecDepth 100000 in
theorem m827 : Cond.instanceMethod yX6_isNode ∈ TB := TB_mem 827 (by rfl) (by rfl)
set_option maxRecDepth 100000 in
theorem m828 : Cond.code yX6_isNode cX6_isNode 2 (some .boolean) ∈ TB := TB_mem 828 (by rfl) (by rfl)
set_option maxRecDepth 100000 in
theorem m829 : Cond.methodLink RX6 129 yX6_isTwo ∈ TB := TB_mem 829 (by rfl) (by rfl)
set_option maxRecDepth 100000 in
theorem m830 : Cond.static yX6_isTwo ∈ TB := TB_mem 830 (by rfl) (by rfl)
set_option maxRecDepth 100000 in
theorem m831 : Cond.code yX6_isTwo cX6_isTwo 1 (some .boolean) ∈ TB := TB_mem 831 (by rfl) (by rfl)
set_option maxRecDepth 100000 in
theorem m832 : Cond.methodLink RX6 140 yX6_hasMember ∈ TB := TB_mem 832 (by rfl) (by rfl)
set_option maxRecDepth 100000 in
theorem m833 : Cond.static yX6_hasMember ∈ TB := TB_mem 833 (by rfl) (by rfl)
set_option maxRecDepth 100000 in
theorem m834 : Cond.code yX6_hasMember cX6_hasMember 1 (some .boolean) ∈ TB := TB_mem 834 (by rfl) (by rfl)
set_option maxRecDepth 100000 in
theorem m835 : Cond.methodLink RX6 151 yX6_isRight ∈ TB := TB_mem 835 (by rfl) (by rfl)
set_option maxRecDepth 100000 in
theorem m837 : Cond.instanceMethod yX6_isRight ∈ TB := TB_mem 837 (by rfl) (by rfl)
set_option maxRecDepth 100000 in
theorem m838 : Cond.code yX6_isRight cX6_isRight 4 (some .boolean) ∈ TB := TB_mem 838 (by rfl) (by rfl)
set_option maxRecDepth 100000 in
theorem m839 : Cond.constantLong RX6 125 (63) ∈ TB := TB_mem 839 (by rfl) (by rfl)
set_option maxRecDepth 100000 in
theorem m840 : Cond.constantLong RX6 127 (100) ∈ TB := TB_mem 840 (by rfl) (by rfl)
set_option maxRecDepth 100000 in
theorem m841 : Cond.methodLink RX6 155 yX6_lay ∈ TB := TB_mem 841 (by rfl) (by rfl)
set_option maxRecDepth 100000 in
theorem m843 : Cond.instanceMethod yX6_lay ∈ TB := TB_mem 843 (by rfl) (by rfl)
set_option maxRecDepth 100000 in
theorem m844 : Cond.code yX6_lay cX6_lay 7 (some .int) ∈ TB := TB_mem 844 (by rfl) (by rfl)
set_option maxRecDepth 100000 in
theorem m845 : Cond.methodLink RX6 136 yX6_put ∈ TB := TB_mem 845 (by rfl) (by rfl)
set_option maxRecDepth 100000 in
theorem m847 : Cond.instanceMethod yX6_put ∈ TB := TB_mem 847 (by rfl) (by rfl)
set_option maxRecDepth 100000 in
theorem m848 : Cond.code yX6_put cX6_put 7 none ∈ TB := TB_mem 848 (by rfl) (by rfl)
set_option maxRecDepth 100000 in
theorem m849 : Cond.methodLink RX6 143 yX6_hasNumber ∈ TB := TB_mem 849 (by rfl) (by rfl)
set_option maxRecDepth 100000 in
theorem m850 : Cond.static yX6_hasNumber ∈ TB := TB_mem 850 (by rfl) (by rfl)
set_option maxRecDepth 100000 in
theorem m851 : Cond.code yX6_hasNumber cX6_hasNumber 1 (some .boolean) ∈ TB := TB_mem 851 (by rfl) (by rfl)
set_option maxRecDepth 100000 in
theorem m852 : Cond.constantLong RX6 123 (4) ∈ TB := TB_mem 852 (by rfl) (by rfl)
set_option maxRecDepth 100000 in
theorem m853 : Cond.methodLink RX6 159 yX6_look ∈ TB := TB_mem 853 (by rfl) (by rfl)
set_option maxRecDepth 100000 in
theorem m855 : Cond.instanceMethod yX6_look ∈ TB := TB_mem 855 (by rfl) (by rfl)
set_option maxRecDepth 100000 in
theorem m856 : Cond.code yX6_look cX6_look 5 none ∈ TB := TB_mem 856 (by rfl) (by rfl)
set_option maxRecDepth 100000 in
theorem m857 : Cond.methodLink RX6 132 yX6_bound ∈ TB := TB_mem 857 (by rfl) (by rfl)
set_option maxRecDepth 100000 in
theorem m859 : Cond.instanceMethod yX6_bound ∈ TB := TB_mem 859 (by rfl) (by rfl)
set_option maxRecDepth 100000 in
theorem m860 : Cond.code yX6_bound cX6_bound 4 (some .int) ∈ TB := TB_mem 860 (by rfl) (by rfl)
set_option maxRecDepth 100000 in
theorem m861 : Cond.methodLink RL 45 yX6_told ∈ TB := TB_mem 861 (by rfl) (by rfl)
set_option maxRecDepth 100000 in
theorem m862 : Cond.instanceMethod yX6_told ∈ TB := TB_mem 862 (by rfl) (by rfl)
set_option maxRecDepth 100000 in
theorem m863 : Cond.selects RX6 yX6_told yX6_told ∈ TB := TB_mem 863 (by rfl) (by rfl)
set_option maxRecDepth 100000 in
theorem m864 : Cond.code yX6_told cX6_told 3 (some .int) ∈ TB := TB_mem 864 (by rfl) (by rfl)
set_option maxRecDepth 100000 in
theorem m865 : Cond.constantLong RX6 162 (6) ∈ TB := TB_mem 865 (by rfl) (by rfl)
set_option maxRecDepth 100000 in
theorem m866 : Cond.methodLink RL 49 yX6_run ∈ TB := TB_mem 866 (by rfl) (by rfl)
set_option maxRecDepth 100000 in
theorem m867 : Cond.instanceMethod yX6_run ∈ TB := TB_mem 867 (by rfl) (by rfl)
set_option maxRecDepth 100000 in
theorem m868 : Cond.selects RX6 yX6_run yX6_run ∈ TB := TB_mem 868 (by rfl) (by rfl)
set_option maxRecDepth 100000 in
theorem m869 : Cond.code yX6_run cX6_run 6 (some .int) ∈ TB := TB_mem 869 (by rfl) (by rfl)
set_option maxRecDepth 100000 in
theorem m870 : Cond.methodLink RX6 223 yX6_does ∈ TB := TB_mem 870 (by rfl) (by rfl)
set_option maxRecDepth 100000 in
theorem m872 : Cond.instanceMethod yX6_does ∈ TB := TB_mem 872 (by rfl) (by rfl)
set_option maxRecDepth 100000 in
theorem m873 : Cond.code yX6_does cX6_does 5 none ∈ TB := TB_mem 873 (by rfl) (by rfl)
set_option maxRecDepth 100000 in
theorem m874 : Cond.methodLink RX6 196 yX6_place ∈ TB := TB_mem 874 (by rfl) (by rfl)
set_option maxRecDepth 100000 in
theorem m875 : Cond.static yX6_place ∈ TB := TB_mem 875 (by rfl) (by rfl)
set_option maxRecDepth 100000 in
theorem m876 : Cond.code yX6_place cX6_place 2 (some .int) ∈ TB := TB_mem 876 (by rfl) (by rfl)
set_option maxRecDepth 100000 in
theorem m877 : Cond.methodLink RX6 203 yX6_takes ∈ TB := TB_mem 877 (by rfl) (by rfl)
set_option maxRecDepth 100000 in
theorem m879 : Cond.instanceMethod yX6_takes ∈ TB := TB_mem 879 (by rfl) (by rfl)
set_option maxRecDepth 100000 in
theorem m880 : Cond.code yX6_takes cX6_takes 5 none ∈ TB := TB_mem 880 (by rfl) (by rfl)
set_option maxRecDepth 100000 in
theorem m881 : Cond.methodLink RX6 210 yX6_work ∈ TB := TB_mem 881 (by rfl) (by rfl)
set_option maxRecDepth 100000 in
theorem m883 : Cond.instanceMethod yX6_work ∈ TB := TB_mem 883 (by rfl) (by rfl)
set_option maxRecDepth 100000 in
theorem m884 : Cond.code yX6_work cX6_work 3 none ∈ TB := TB_mem 884 (by rfl) (by rfl)
set_option maxRecDepth 100000 in
theorem m885 : Cond.methodLink RX6 170 yX6_begins ∈ TB := TB_mem 885 (by rfl) (by rfl)
set_option maxRecDepth 100000 in
theorem m887 : Cond.instanceMethod yX6_begins ∈ TB := TB_mem 887 (by rfl) (by rfl)
set_option maxRecDepth 100000 in
theorem m888 : Cond.code yX6_begins cX6_begins 2 none ∈ TB := TB_mem 888 (by rfl) (by rfl)
set_option maxRecDepth 100000 in
theorem m889 : Cond.methodLink RX6 193 yX6_goesOn ∈ TB := TB_mem 889 (by rfl) (by rfl)
set_option maxRecDepth 100000 in
theorem m891 : Cond.instanceMethod yX6_goesOn ∈ TB := TB_mem 891 (by rfl) (by rfl)
set_option maxRecDepth 100000 in
theorem m892 : Cond.code yX6_goesOn cX6_goesOn 5 none ∈ TB := TB_mem 892 (by rfl) (by rfl)
set_option maxRecDepth 100000 in
theorem m893 : Cond.methodLink RX6 177 yX6_gives ∈ TB := TB_mem 893 (by rfl) (by rfl)
set_option maxRecDepth 100000 in
theorem m895 : Cond.instanceMethod yX6_gives ∈ TB := TB_mem 895 (by rfl) (by rfl)
set_option maxRecDepth 100000 in
theorem m896 : Cond.code yX6_gives cX6_gives 2 none ∈ TB := TB_mem 896 (by rfl) (by rfl)
set_option maxRecDepth 100000 in
theorem m897 : Cond.methodLink RX6 180 yX6_asks ∈ TB := TB_mem 897 (by rfl) (by rfl)
set_option maxRecDepth 100000 in
theorem m899 : Cond.instanceMethod yX6_asks ∈ TB := TB_mem 899 (by rfl) (by rfl)
set_option maxRecDepth 100000 in
theorem m900 : Cond.code yX6_asks cX6_asks 2 none ∈ TB := TB_mem 900 (by rfl) (by rfl)
set_option maxRecDepth 100000 in
theorem m901 : Cond.methodLink RX6 183 yX6_single ∈ TB := TB_mem 901 (by rfl) (by rfl)
set_option maxRecDepth 100000 in
theorem m903 : Cond.instanceMethod yX6_single ∈ TB := TB_mem 903 (by rfl) (by rfl)
set_option maxRecDepth 100000 in
theorem m904 : Cond.code yX6_single cX6_single 2 none ∈ TB := TB_mem 904 (by rfl) (by rfl)
set_option maxRecDepth 100000 in
theorem m905 : Cond.methodLink RX6 186 yX6_both ∈ TB := TB_mem 905 (by rfl) (by rfl)
set_option maxRecDepth 100000 in
theorem m907 : Cond.instanceMethod yX6_both ∈ TB := TB_mem 907 (by rfl) (by rfl)
set_option maxRecDepth 100000 in
theorem m908 : Cond.code yX6_both cX6_both 4 none ∈ TB := TB_mem 908 (by rfl) (by rfl)
set_option maxRecDepth 100000 in
theorem m909 : Cond.methodLink RX6 206 yX6_add ∈ TB := TB_mem 909 (by rfl) (by rfl)
set_option maxRecDepth 100000 in
theorem m911 : Cond.instanceMethod yX6_add ∈ TB := TB_mem 911 (by rfl) (by rfl)
set_option maxRecDepth 100000 in
theorem m912 : Cond.code yX6_add cX6_add 4 none ∈ TB := TB_mem 912 (by rfl) (by rfl)
set_option maxRecDepth 100000 in
theorem m913 : Cond.methodLink RX6 200 yX6_copy ∈ TB := TB_mem 913 (by rfl) (by rfl)
set_option maxRecDepth 100000 in
theorem m915 : Cond.instanceMethod yX6_copy ∈ TB := TB_mem 915 (by rfl) (by rfl)
set_option maxRecDepth 100000 in
theorem m916 : Cond.code yX6_copy cX6_copy 4 (some .int) ∈ TB := TB_mem 916 (by rfl) (by rfl)
set_option maxRecDepth 100000 in
theorem m917 : Cond.methodLink RX6 213 yX6_joins ∈ TB := TB_mem 917 (by rfl) (by rfl)
set_option maxRecDepth 100000 in
theorem m919 : Cond.instanceMethod yX6_joins ∈ TB := TB_mem 919 (by rfl) (by rfl)
set_option maxRecDepth 100000 in
theorem m920 : Cond.code yX6_joins cX6_joins 8 none ∈ TB := TB_mem 920 (by rfl) (by rfl)
set_option maxRecDepth 100000 in
theorem m921 : Cond.methodLink RX6 216 yX6_folds ∈ TB := TB_mem 921 (by rfl) (by rfl)
set_option maxRecDepth 100000 in
theorem m923 : Cond.instanceMethod yX6_folds ∈ TB := TB_mem 923 (by rfl) (by rfl)
set_option maxRecDepth 100000 in
theorem m924 : Cond.code yX6_folds cX6_folds 6 none ∈ TB := TB_mem 924 (by rfl) (by rfl)
set_option maxRecDepth 100000 in
theorem m925 : Cond.methodLink RX6 219 yX6_has ∈ TB := TB_mem 925 (by rfl) (by rfl)
set_option maxRecDepth 100000 in
theorem m927 : Cond.instanceMethod yX6_has ∈ TB := TB_mem 927 (by rfl) (by rfl)
set_option maxRecDepth 100000 in
theorem m928 : Cond.code yX6_has cX6_has 6 (some .boolean) ∈ TB := TB_mem 928 (by rfl) (by rfl)
set_option maxRecDepth 100000 in
theorem m929 : Cond.methodLink RL 53 yX6_member ∈ TB := TB_mem 929 (by rfl) (by rfl)
set_option maxRecDepth 100000 in
theorem m930 : Cond.instanceMethod yX6_member ∈ TB := TB_mem 930 (by rfl) (by rfl)
set_option maxRecDepth 100000 in
theorem m931 : Cond.selects RX6 yX6_member yX6_member ∈ TB := TB_mem 931 (by rfl) (by rfl)
set_option maxRecDepth 100000 in
theorem m932 : Cond.code yX6_member cX6_member 3 (some .int) ∈ TB := TB_mem 932 (by rfl) (by rfl)
set_option maxRecDepth 100000 in
theorem m933 : Cond.methodLink RL 57 yX6_worked ∈ TB := TB_mem 933 (by rfl) (by rfl)
set_option maxRecDepth 100000 in
theorem m934 : Cond.instanceMethod yX6_worked ∈ TB := TB_mem 934 (by rfl) (by rfl)
set_option maxRecDepth 100000 in
theorem m935 : Cond.selects RX6 yX6_worked yX6_worked ∈ TB := TB_mem 935 (by rfl) (by rfl)
set_option maxRecDepth 100000 in
theorem m936 : Cond.code yX6_worked cX6_worked 2 (some .int) ∈ TB := TB_mem 936 (by rfl) (by rfl)
set_option maxRecDepth 100000 in
theorem m937 : Cond.methodLink RL 61 yX6_fits ∈ TB := TB_mem 937 (by rfl) (by rfl)
set_option maxRecDepth 100000 in
theorem m938 : Cond.instanceMethod yX6_fits ∈ TB := TB_mem 938 (by rfl) (by rfl)
set_option maxRecDepth 100000 in
theorem m939 : Cond.selects RX6 yX6_fits yX6_fits ∈ TB := TB_mem 939 (by rfl) (by rfl)
set_option maxRecDepth 100000 in
theorem m940 : Cond.code yX6_fits cX6_fits 3 (some .int) ∈ TB := TB_mem 940 (by rfl) (by rfl)
set_option maxRecDepth 100000 in
theorem m941 : Cond.constantLong RX6 244 (17) ∈ TB := TB_mem 941 (by rfl) (by rfl)
set_option maxRecDepth 100000 in
theorem m942 : Cond.methodLink RX6 246 yX6_stands ∈ TB := TB_mem 942 (by rfl) (by rfl)
set_option maxRecDepth 100000 in
theorem m944 : Cond.instanceMethod yX6_stands ∈ TB := TB_mem 944 (by rfl) (by rfl)
set_option maxRecDepth 100000 in
theorem m946 : Cond.methodLink RX6 238 yX6_isOf ∈ TB := TB_mem 946 (by rfl) (by rfl)
set_option maxRecDepth 100000 in
theorem m947 : Cond.static yX6_isOf ∈ TB := TB_mem 947 (by rfl) (by rfl)
set_option maxRecDepth 100000 in
theorem m948 : Cond.code yX6_isOf cX6_isOf 2 (some .boolean) ∈ TB := TB_mem 948 (by rfl) (by rfl)
set_option maxRecDepth 100000 in
theorem m949 : Cond.methodLink RX6 241 yX6_isFold ∈ TB := TB_mem 949 (by rfl) (by rfl)
set_option maxRecDepth 100000 in
theorem m951 : Cond.instanceMethod yX6_isFold ∈ TB := TB_mem 951 (by rfl) (by rfl)
set_option maxRecDepth 100000 in
theorem m952 : Cond.code yX6_isFold cX6_isFold 4 (some .boolean) ∈ TB := TB_mem 952 (by rfl) (by rfl)
set_option maxRecDepth 100000 in
theorem m953 : Cond.methodLink RL 65 yX6_rewrite ∈ TB := TB_mem 953 (by rfl) (by rfl)
set_option maxRecDepth 100000 in
theorem m954 : Cond.instanceMethod yX6_rewrite ∈ TB := TB_mem 954 (by rfl) (by rfl)
set_option maxRecDepth 100000 in
theorem m955 : Cond.selects RX6 yX6_rewrite yX6_rewrite ∈ TB := TB_mem 955 (by rfl) (by rfl)
set_option maxRecDepth 100000 in
theorem m956 : Cond.code yX6_rewrite cX6_rewrite 3 (some .int) ∈ TB := TB_mem 956 (by rfl) (by rfl)
set_option maxRecDepth 100000 in
theorem m957 : Cond.methodLink RX6 261 yX6_hasRoom ∈ TB := TB_mem 957 (by rfl) (by rfl)
set_option maxRecDepth 100000 in
theorem m959 : Cond.instanceMethod yX6_hasRoom ∈ TB := TB_mem 959 (by rfl) (by rfl)
set_option maxRecDepth 100000 in
theorem m960 : Cond.code yX6_hasRoom cX6_hasRoom 4 (some .boolean) ∈ TB := TB_mem 960 (by rfl) (by rfl)
set_option maxRecDepth 100000 in
theorem m961 : Cond.methodLink RX6 255 yX6_news ∈ TB := TB_mem 961 (by rfl) (by rfl)
set_option maxRecDepth 100000 in
theorem m962 : Cond.static yX6_news ∈ TB := TB_mem 962 (by rfl) (by rfl)
set_option maxRecDepth 100000 in
theorem m963 : Cond.code yX6_news cX6_news 1 (some .int) ∈ TB := TB_mem 963 (by rfl) (by rfl)
set_option maxRecDepth 100000 in
theorem m964 : Cond.constantLong RX6 249 (10) ∈ TB := TB_mem 964 (by rfl) (by rfl)
set_option maxRecDepth 100000 in
theorem m965 : Cond.constantLong RX6 251 (13) ∈ TB := TB_mem 965 (by rfl) (by rfl)
set_option maxRecDepth 100000 in
theorem m966 : Cond.constantLong RX6 253 (15) ∈ TB := TB_mem 966 (by rfl) (by rfl)
set_option maxRecDepth 100000 in
theorem m967 : Cond.methodLink RX6 264 yX6_rewrites ∈ TB := TB_mem 967 (by rfl) (by rfl)
set_option maxRecDepth 100000 in
theorem m969 : Cond.instanceMethod yX6_rewrites ∈ TB := TB_mem 969 (by rfl) (by rfl)
set_option maxRecDepth 100000 in
theorem m971 : Cond.methodLink RL 69 yX6_sweep ∈ TB := TB_mem 971 (by rfl) (by rfl)
set_option maxRecDepth 100000 in
theorem m972 : Cond.instanceMethod yX6_sweep ∈ TB := TB_mem 972 (by rfl) (by rfl)
set_option maxRecDepth 100000 in
theorem m973 : Cond.selects RX6 yX6_sweep yX6_sweep ∈ TB := TB_mem 973 (by rfl) (by rfl)
set_option maxRecDepth 100000 in
theorem m974 : Cond.code yX6_sweep cX6_sweep 8 (some .int) ∈ TB := TB_mem 974 (by rfl) (by rfl)
set_option maxRecDepth 100000 in
theorem m975 : Cond.methodLink RX6 267 yX6_below ∈ TB := TB_mem 975 (by rfl) (by rfl)
set_option maxRecDepth 100000 in
theorem m977 : Cond.instanceMethod yX6_below ∈ TB := TB_mem 977 (by rfl) (by rfl)
set_option maxRecDepth 100000 in
theorem m978 : Cond.code yX6_below cX6_below 7 (some .long) ∈ TB := TB_mem 978 (by rfl) (by rfl)
set_option maxRecDepth 100000 in
theorem m979 : Cond.methodLink RX6 271 yX6_ruleFor ∈ TB := TB_mem 979 (by rfl) (by rfl)
set_option maxRecDepth 100000 in
theorem m981 : Cond.instanceMethod yX6_ruleFor ∈ TB := TB_mem 981 (by rfl) (by rfl)
set_option maxRecDepth 100000 in
theorem m982 : Cond.code yX6_ruleFor cX6_ruleFor 3 (some .int) ∈ TB := TB_mem 982 (by rfl) (by rfl)
set_option maxRecDepth 100000 in
theorem m983 : Cond.methodLink RL 73 yX6_count ∈ TB := TB_mem 983 (by rfl) (by rfl)
set_option maxRecDepth 100000 in
theorem m984 : Cond.instanceMethod yX6_count ∈ TB := TB_mem 984 (by rfl) (by rfl)
set_option maxRecDepth 100000 in
theorem m985 : Cond.selects RX6 yX6_count yX6_count ∈ TB := TB_mem 985 (by rfl) (by rfl)
set_option maxRecDepth 100000 in
theorem m986 : Cond.code yX6_count cX6_count 2 (some .int) ∈ TB := TB_mem 986 (by rfl) (by rfl)
end
section
set_option maxRecDepth 100000 in
theorem m945 : Cond.code yX6_stands cX6_stands 9 (some .boolean) ∈ TB := TB_mem 945 (by rfl) (by rfl)
set_option maxRecDepth 100000 in
theorem m970 : Cond.code yX6_rewrites cX6_rewrites 11 none ∈ TB := TB_mem 970 (by rfl) (by rfl)
end
section
theorem uX0 : ∀ w ∈ u_ws RX0 TX0 7, w ∈ TB := fun w hw => List.mem_filter.mpr (by
  have h : (u_ws RX0 TX0 7).all (fun w => decide (w ∈ lw_tbl) && goodWord w) = true := by decide +kernel
  have h1 := List.all_eq_true.mp h w hw
  rw [Bool.and_eq_true, decide_eq_true_eq] at h1
  exact h1)
theorem uX1 : ∀ w ∈ u_ws RX1 TX1 12, w ∈ TB := fun w hw => List.mem_filter.mpr (by
  have h : (u_ws RX1 TX1 12).all (fun w => decide (w ∈ lw_tbl) && goodWord w) = true := by decide +kernel
  have h1 := List.all_eq_true.mp h w hw
  rw [Bool.and_eq_true, decide_eq_true_eq] at h1
  exact h1)
theorem uX2 : ∀ w ∈ u_ws RX2 TX2 3, w ∈ TB := fun w hw => List.mem_filter.mpr (by
  have h : (u_ws RX2 TX2 3).all (fun w => decide (w ∈ lw_tbl) && goodWord w) = true := by decide +kernel
  have h1 := List.all_eq_true.mp h w hw
  rw [Bool.and_eq_true, decide_eq_true_eq] at h1
  exact h1)
theorem uX3 : ∀ w ∈ u_ws RX3 TX3 13, w ∈ TB := fun w hw => List.mem_filter.mpr (by
  have h : (u_ws RX3 TX3 13).all (fun w => decide (w ∈ lw_tbl) && goodWord w) = true := by decide +kernel
  have h1 := List.all_eq_true.mp h w hw
  rw [Bool.and_eq_true, decide_eq_true_eq] at h1
  exact h1)
theorem uX4 : ∀ w ∈ u_ws RX4 TX4 3, w ∈ TB := fun w hw => List.mem_filter.mpr (by
  have h : (u_ws RX4 TX4 3).all (fun w => decide (w ∈ lw_tbl) && goodWord w) = true := by decide +kernel
  have h1 := List.all_eq_true.mp h w hw
  rw [Bool.and_eq_true, decide_eq_true_eq] at h1
  exact h1)
theorem uX5 : ∀ w ∈ u_ws RX5 TX5 5, w ∈ TB := fun w hw => List.mem_filter.mpr (by
  have h : (u_ws RX5 TX5 5).all (fun w => decide (w ∈ lw_tbl) && goodWord w) = true := by decide +kernel
  have h1 := List.all_eq_true.mp h w hw
  rw [Bool.and_eq_true, decide_eq_true_eq] at h1
  exact h1)
theorem uX6 : ∀ w ∈ u_ws RX6 TX6 36, w ∈ TB := fun w hw => List.mem_filter.mpr (by
  have h : (u_ws RX6 TX6 36).all (fun w => decide (w ∈ lw_tbl) && goodWord w) = true := by decide +kernel
  have h1 := List.all_eq_true.mp h w hw
  rw [Bool.and_eq_true, decide_eq_true_eq] at h1
  exact h1)
theorem acJ7_150 : Cond.methodLink RJ7 150 arraycopyName ∈ TB := m478
theorem mnJ7_304 : Cond.methodLink RJ7 304 Lib.Math.min.name ∈ TB := m477
-- class L 7 PlanRules
-- ctor L 9 method X5_init
-- class L 10 PlanRulesModel
-- ctor L 12 method X6_init
theorem cvL_13 : CV RL RX5 13 yX5_row cX5_row 5 (some .int) 4 := by
  refine ⟨?_, by decide +kernel, by decide⟩
  intro w hw
  simp only [List.mem_cons, List.not_mem_nil, or_false] at hw
  rcases hw with rfl | rfl | rfl | rfl | rfl
  · exact m287
  · exact m288
  · exact m289
  · exact m63
  · exact m290
theorem cvL_17 : CV RL RX6 17 yX6_row cX6_row 6 (some .int) 4 := by
  refine ⟨?_, by decide +kernel, by decide⟩
  intro w hw
  simp only [List.mem_cons, List.not_mem_nil, or_false] at hw
  rcases hw with rfl | rfl | rfl | rfl | rfl
  · exact m775
  · exact m776
  · exact m777
  · exact m69
  · exact m778
theorem cvL_18 : CV RL RX5 18 yX5_clear cX5_clear 2 (some .int) 1 := by
  refine ⟨?_, by decide +kernel, by decide⟩
  intro w hw
  simp only [List.mem_cons, List.not_mem_nil, or_false] at hw
  rcases hw with rfl | rfl | rfl | rfl | rfl
  · exact m303
  · exact m304
  · exact m305
  · exact m63
  · exact m306
theorem cvL_22 : CV RL RX6 22 yX6_clear cX6_clear 3 (some .int) 1 := by
  refine ⟨?_, by decide +kernel, by decide⟩
  intro w hw
  simp only [List.mem_cons, List.not_mem_nil, or_false] at hw
  rcases hw with rfl | rfl | rfl | rfl | rfl
  · exact m783
  · exact m784
  · exact m785
  · exact m69
  · exact m786
theorem cvL_23 : CV RL RX5 23 yX5_table cX5_table 3 (some .int) 2 := by
  refine ⟨?_, by decide +kernel, by decide⟩
  intro w hw
  simp only [List.mem_cons, List.not_mem_nil, or_false] at hw
  rcases hw with rfl | rfl | rfl | rfl | rfl
  · exact m311
  · exact m312
  · exact m313
  · exact m63
  · exact m314
theorem cvL_27 : CV RL RX6 27 yX6_table cX6_table 3 (some .int) 2 := by
  refine ⟨?_, by decide +kernel, by decide⟩
  intro w hw
  simp only [List.mem_cons, List.not_mem_nil, or_false] at hw
  rcases hw with rfl | rfl | rfl | rfl | rfl
  · exact m787
  · exact m788
  · exact m789
  · exact m69
  · exact m790
theorem cvL_28 : CV RL RX5 28 yX5_formula cX5_formula 4 (some .int) 3 := by
  refine ⟨?_, by decide +kernel, by decide⟩
  intro w hw
  simp only [List.mem_cons, List.not_mem_nil, or_false] at hw
  rcases hw with rfl | rfl | rfl | rfl | rfl
  · exact m319
  · exact m320
  · exact m321
  · exact m63
  · exact m322
theorem cvL_32 : CV RL RX6 32 yX6_formula cX6_formula 4 (some .int) 3 := by
  refine ⟨?_, by decide +kernel, by decide⟩
  intro w hw
  simp only [List.mem_cons, List.not_mem_nil, or_false] at hw
  rcases hw with rfl | rfl | rfl | rfl | rfl
  · exact m792
  · exact m793
  · exact m794
  · exact m69
  · exact m795
theorem cvL_33 : CV RL RX5 33 yX5_formulaOf cX5_formulaOf 3 (some .int) 2 := by
  refine ⟨?_, by decide +kernel, by decide⟩
  intro w hw
  simp only [List.mem_cons, List.not_mem_nil, or_false] at hw
  rcases hw with rfl | rfl | rfl | rfl | rfl
  · exact m360
  · exact m361
  · exact m362
  · exact m63
  · exact m363
theorem cvL_36 : CV RL RX6 36 yX6_formulaOf cX6_formulaOf 3 (some .int) 2 := by
  refine ⟨?_, by decide +kernel, by decide⟩
  intro w hw
  simp only [List.mem_cons, List.not_mem_nil, or_false] at hw
  rcases hw with rfl | rfl | rfl | rfl | rfl
  · exact m816
  · exact m817
  · exact m818
  · exact m69
  · exact m819
theorem cvL_37 : CV RL RX5 37 yX5_node cX5_node 6 (some .int) 5 := by
  refine ⟨?_, by decide +kernel, by decide⟩
  intro w hw
  simp only [List.mem_cons, List.not_mem_nil, or_false] at hw
  rcases hw with rfl | rfl | rfl | rfl | rfl
  · exact m368
  · exact m369
  · exact m370
  · exact m63
  · exact m371
theorem cvL_41 : CV RL RX6 41 yX6_node cX6_node 7 (some .int) 5 := by
  refine ⟨?_, by decide +kernel, by decide⟩
  intro w hw
  simp only [List.mem_cons, List.not_mem_nil, or_false] at hw
  rcases hw with rfl | rfl | rfl | rfl | rfl
  · exact m820
  · exact m821
  · exact m822
  · exact m69
  · exact m823
theorem cvL_42 : CV RL RX5 42 yX5_told cX5_told 3 (some .int) 2 := by
  refine ⟨?_, by decide +kernel, by decide⟩
  intro w hw
  simp only [List.mem_cons, List.not_mem_nil, or_false] at hw
  rcases hw with rfl | rfl | rfl | rfl | rfl
  · exact m425
  · exact m426
  · exact m427
  · exact m63
  · exact m428
theorem cvL_45 : CV RL RX6 45 yX6_told cX6_told 3 (some .int) 2 := by
  refine ⟨?_, by decide +kernel, by decide⟩
  intro w hw
  simp only [List.mem_cons, List.not_mem_nil, or_false] at hw
  rcases hw with rfl | rfl | rfl | rfl | rfl
  · exact m861
  · exact m862
  · exact m863
  · exact m69
  · exact m864
theorem cvL_46 : CV RL RX5 46 yX5_run cX5_run 2 (some .int) 1 := by
  refine ⟨?_, by decide +kernel, by decide⟩
  intro w hw
  simp only [List.mem_cons, List.not_mem_nil, or_false] at hw
  rcases hw with rfl | rfl | rfl | rfl | rfl
  · exact m430
  · exact m431
  · exact m432
  · exact m63
  · exact m433
theorem cvL_49 : CV RL RX6 49 yX6_run cX6_run 6 (some .int) 1 := by
  refine ⟨?_, by decide +kernel, by decide⟩
  intro w hw
  simp only [List.mem_cons, List.not_mem_nil, or_false] at hw
  rcases hw with rfl | rfl | rfl | rfl | rfl
  · exact m866
  · exact m867
  · exact m868
  · exact m69
  · exact m869
theorem cvL_50 : CV RL RX5 50 yX5_member cX5_member 3 (some .int) 2 := by
  refine ⟨?_, by decide +kernel, by decide⟩
  intro w hw
  simp only [List.mem_cons, List.not_mem_nil, or_false] at hw
  rcases hw with rfl | rfl | rfl | rfl | rfl
  · exact m551
  · exact m552
  · exact m553
  · exact m63
  · exact m554
theorem cvL_53 : CV RL RX6 53 yX6_member cX6_member 3 (some .int) 2 := by
  refine ⟨?_, by decide +kernel, by decide⟩
  intro w hw
  simp only [List.mem_cons, List.not_mem_nil, or_false] at hw
  rcases hw with rfl | rfl | rfl | rfl | rfl
  · exact m929
  · exact m930
  · exact m931
  · exact m69
  · exact m932
theorem cvL_54 : CV RL RX5 54 yX5_worked cX5_worked 2 (some .int) 1 := by
  refine ⟨?_, by decide +kernel, by decide⟩
  intro w hw
  simp only [List.mem_cons, List.not_mem_nil, or_false] at hw
  rcases hw with rfl | rfl | rfl | rfl | rfl
  · exact m560
  · exact m561
  · exact m562
  · exact m63
  · exact m563
theorem cvL_57 : CV RL RX6 57 yX6_worked cX6_worked 2 (some .int) 1 := by
  refine ⟨?_, by decide +kernel, by decide⟩
  intro w hw
  simp only [List.mem_cons, List.not_mem_nil, or_false] at hw
  rcases hw with rfl | rfl | rfl | rfl | rfl
  · exact m933
  · exact m934
  · exact m935
  · exact m69
  · exact m936
theorem cvL_58 : CV RL RX5 58 yX5_fits cX5_fits 3 (some .int) 2 := by
  refine ⟨?_, by decide +kernel, by decide⟩
  intro w hw
  simp only [List.mem_cons, List.not_mem_nil, or_false] at hw
  rcases hw with rfl | rfl | rfl | rfl | rfl
  · exact m564
  · exact m565
  · exact m566
  · exact m63
  · exact m567
theorem cvL_61 : CV RL RX6 61 yX6_fits cX6_fits 3 (some .int) 2 := by
  refine ⟨?_, by decide +kernel, by decide⟩
  intro w hw
  simp only [List.mem_cons, List.not_mem_nil, or_false] at hw
  rcases hw with rfl | rfl | rfl | rfl | rfl
  · exact m937
  · exact m938
  · exact m939
  · exact m69
  · exact m940
theorem cvL_62 : CV RL RX5 62 yX5_rewrite cX5_rewrite 3 (some .int) 2 := by
  refine ⟨?_, by decide +kernel, by decide⟩
  intro w hw
  simp only [List.mem_cons, List.not_mem_nil, or_false] at hw
  rcases hw with rfl | rfl | rfl | rfl | rfl
  · exact m596
  · exact m597
  · exact m598
  · exact m63
  · exact m599
theorem cvL_65 : CV RL RX6 65 yX6_rewrite cX6_rewrite 3 (some .int) 2 := by
  refine ⟨?_, by decide +kernel, by decide⟩
  intro w hw
  simp only [List.mem_cons, List.not_mem_nil, or_false] at hw
  rcases hw with rfl | rfl | rfl | rfl | rfl
  · exact m953
  · exact m954
  · exact m955
  · exact m69
  · exact m956
theorem cvL_66 : CV RL RX5 66 yX5_sweep cX5_sweep 6 (some .int) 2 := by
  refine ⟨?_, by decide +kernel, by decide⟩
  intro w hw
  simp only [List.mem_cons, List.not_mem_nil, or_false] at hw
  rcases hw with rfl | rfl | rfl | rfl | rfl
  · exact m632
  · exact m633
  · exact m634
  · exact m63
  · exact m635
theorem cvL_69 : CV RL RX6 69 yX6_sweep cX6_sweep 8 (some .int) 2 := by
  refine ⟨?_, by decide +kernel, by decide⟩
  intro w hw
  simp only [List.mem_cons, List.not_mem_nil, or_false] at hw
  rcases hw with rfl | rfl | rfl | rfl | rfl
  · exact m971
  · exact m972
  · exact m973
  · exact m69
  · exact m974
theorem cvL_70 : CV RL RX5 70 yX5_count cX5_count 2 (some .int) 1 := by
  refine ⟨?_, by decide +kernel, by decide⟩
  intro w hw
  simp only [List.mem_cons, List.not_mem_nil, or_false] at hw
  rcases hw with rfl | rfl | rfl | rfl | rfl
  · exact m651
  · exact m652
  · exact m653
  · exact m63
  · exact m654
theorem cvL_73 : CV RL RX6 73 yX6_count cX6_count 2 (some .int) 1 := by
  refine ⟨?_, by decide +kernel, by decide⟩
  intro w hw
  simp only [List.mem_cons, List.not_mem_nil, or_false] at hw
  rcases hw with rfl | rfl | rfl | rfl | rfl
  · exact m983
  · exact m984
  · exact m985
  · exact m69
  · exact m986
theorem fX0_11 : FL RX0 11 0 0 RX0 TX0 7 := ⟨uX0, m108, rfl, by decide⟩
theorem pX0_11 : FP RX0 11 0 0 RX0 TX0 7 (.array .int) := ⟨fX0_11, ⟨tyX0, tyX0_ok⟩, nmX0, by decide +kernel⟩
theorem fX0_15 : FL RX0 15 0 1 RX0 TX0 7 := ⟨uX0, m110, rfl, by decide⟩
theorem pX0_15 : FP RX0 15 0 1 RX0 TX0 7 (.array .int) := ⟨fX0_15, ⟨tyX0, tyX0_ok⟩, nmX0, by decide +kernel⟩
theorem fX0_18 : FL RX0 18 0 2 RX0 TX0 7 := ⟨uX0, m112, rfl, by decide⟩
theorem pX0_18 : FP RX0 18 0 2 RX0 TX0 7 (.array .int) := ⟨fX0_18, ⟨tyX0, tyX0_ok⟩, nmX0, by decide +kernel⟩
theorem fX0_21 : FL RX0 21 0 3 RX0 TX0 7 := ⟨uX0, m114, rfl, by decide⟩
theorem pX0_21 : FP RX0 21 0 3 RX0 TX0 7 (.array .int) := ⟨fX0_21, ⟨tyX0, tyX0_ok⟩, nmX0, by decide +kernel⟩
theorem fX0_24 : FL RX0 24 0 4 RX0 TX0 7 := ⟨uX0, m115, rfl, by decide⟩
theorem pX0_24 : FP RX0 24 0 4 RX0 TX0 7 (.array .int) := ⟨fX0_24, ⟨tyX0, tyX0_ok⟩, nmX0, by decide +kernel⟩
theorem fX0_27 : FL RX0 27 0 5 RX0 TX0 7 := ⟨uX0, m118, rfl, by decide⟩
theorem pX0_27 : FP RX0 27 0 5 RX0 TX0 7 (.array .boolean) := ⟨fX0_27, ⟨tyX0, tyX0_ok⟩, nmX0, by decide +kernel⟩
theorem fX0_31 : FL RX0 31 0 6 RX0 TX0 7 := ⟨uX0, m122, rfl, by decide⟩
theorem pX0_31 : FP RX0 31 0 6 RX0 TX0 7 .int := ⟨fX0_31, ⟨tyX0, tyX0_ok⟩, nmX0, by decide +kernel⟩
theorem cnX0_35 : CSN RX0 35 yX5_isMember cX5_isMember 1 (some .boolean) 1 := by
  refine ⟨?_, by decide +kernel, by decide, by decide +kernel⟩
  intro w hw
  simp only [List.mem_cons, List.not_mem_nil, or_false] at hw
  rcases hw with rfl | rfl | rfl
  · exact m328
  · exact m63
  · exact m329
theorem csX0_39 : CS RX0 39 yX0_takesFirst cX0_takesFirst 1 (some .boolean) 1 := by
  refine ⟨?_, by decide +kernel, by decide⟩
  intro w hw
  simp only [List.mem_cons, List.not_mem_nil, or_false] at hw
  rcases hw with rfl | rfl | rfl | rfl
  · exact m330
  · exact m331
  · exact m65
  · exact m332
theorem cvX0_42 : CV RX0 RX0 42 yX0_has cX0_has 2 (some .boolean) 1 := by
  refine ⟨?_, by decide +kernel, by decide⟩
  intro w hw
  simp only [List.mem_cons, List.not_mem_nil, or_false] at hw
  rcases hw with rfl | rfl | rfl | rfl | rfl
  · exact m333
  · exact m334
  · exact m335
  · exact m65
  · exact m336
theorem csX0_45 : CS RX0 45 yX0_takesSecond cX0_takesSecond 1 (some .boolean) 1 := by
  refine ⟨?_, by decide +kernel, by decide⟩
  intro w hw
  simp only [List.mem_cons, List.not_mem_nil, or_false] at hw
  rcases hw with rfl | rfl | rfl | rfl
  · exact m337
  · exact m338
  · exact m65
  · exact m339
theorem cvX0_48 : CV RX0 RX0 48 yX0_sizeOf cX0_sizeOf 4 (some .int) 3 := by
  refine ⟨?_, by decide +kernel, by decide⟩
  intro w hw
  simp only [List.mem_cons, List.not_mem_nil, or_false] at hw
  rcases hw with rfl | rfl | rfl | rfl | rfl
  · exact m348
  · exact m350
  · exact m0
  · exact m65
  · exact m351
theorem cvX0_52 : CV RX0 RX0 52 yX0_hasRoom cX0_hasRoom 4 (some .boolean) 3 := by
  refine ⟨?_, by decide +kernel, by decide⟩
  intro w hw
  simp only [List.mem_cons, List.not_mem_nil, or_false] at hw
  rcases hw with rfl | rfl | rfl | rfl | rfl
  · exact m344
  · exact m345
  · exact m346
  · exact m65
  · exact m347
theorem cvX0_56 : CV RX0 RX0 56 yX0_readsOf cX0_readsOf 4 (some .int) 3 := by
  refine ⟨?_, by decide +kernel, by decide⟩
  intro w hw
  simp only [List.mem_cons, List.not_mem_nil, or_false] at hw
  rcases hw with rfl | rfl | rfl | rfl | rfl
  · exact m352
  · exact m354
  · exact m1
  · exact m65
  · exact m355
theorem cvX0_59 : CV RX0 RX0 59 yX0_failsOf cX0_failsOf 4 (some .boolean) 3 := by
  refine ⟨?_, by decide +kernel, by decide⟩
  intro w hw
  simp only [List.mem_cons, List.not_mem_nil, or_false] at hw
  rcases hw with rfl | rfl | rfl | rfl | rfl
  · exact m356
  · exact m358
  · exact m2
  · exact m65
  · exact m359
theorem fX1_9 : FL RX1 9 1 1 RX1 TX1 12 := ⟨uX1, m147, rfl, by decide⟩
theorem pX1_9 : FP RX1 9 1 1 RX1 TX1 12 (.array .int) := ⟨fX1_9, ⟨tyX1, tyX1_ok⟩, nmX1, by decide +kernel⟩
theorem fX1_13 : FL RX1 13 1 2 RX1 TX1 12 := ⟨uX1, m151, rfl, by decide⟩
theorem pX1_13 : FP RX1 13 1 2 RX1 TX1 12 (.array .int) := ⟨fX1_13, ⟨tyX1, tyX1_ok⟩, nmX1, by decide +kernel⟩
theorem fX1_16 : FL RX1 16 1 3 RX1 TX1 12 := ⟨uX1, m155, rfl, by decide⟩
theorem pX1_16 : FP RX1 16 1 3 RX1 TX1 12 (.array .int) := ⟨fX1_16, ⟨tyX1, tyX1_ok⟩, nmX1, by decide +kernel⟩
theorem fX1_19 : FL RX1 19 1 4 RX1 TX1 12 := ⟨uX1, m159, rfl, by decide⟩
theorem pX1_19 : FP RX1 19 1 4 RX1 TX1 12 (.array .int) := ⟨fX1_19, ⟨tyX1, tyX1_ok⟩, nmX1, by decide +kernel⟩
theorem fX1_22 : FL RX1 22 1 5 RX1 TX1 12 := ⟨uX1, m163, rfl, by decide⟩
theorem pX1_22 : FP RX1 22 1 5 RX1 TX1 12 (.array .int) := ⟨fX1_22, ⟨tyX1, tyX1_ok⟩, nmX1, by decide +kernel⟩
theorem fX1_25 : FL RX1 25 1 6 RX1 TX1 12 := ⟨uX1, m167, rfl, by decide⟩
theorem pX1_25 : FP RX1 25 1 6 RX1 TX1 12 (.array .int) := ⟨fX1_25, ⟨tyX1, tyX1_ok⟩, nmX1, by decide +kernel⟩
theorem fX1_28 : FL RX1 28 1 7 RX1 TX1 12 := ⟨uX1, m169, rfl, by decide⟩
theorem pX1_28 : FP RX1 28 1 7 RX1 TX1 12 (.array .boolean) := ⟨fX1_28, ⟨tyX1, tyX1_ok⟩, nmX1, by decide +kernel⟩
theorem fX1_32 : FL RX1 32 1 9 RX1 TX1 12 := ⟨uX1, m175, rfl, by decide⟩
theorem pX1_32 : FP RX1 32 1 9 RX1 TX1 12 (.array .int) := ⟨fX1_32, ⟨tyX1, tyX1_ok⟩, nmX1, by decide +kernel⟩
theorem fX1_35 : FL RX1 35 1 10 RX1 TX1 12 := ⟨uX1, m177, rfl, by decide⟩
theorem pX1_35 : FP RX1 35 1 10 RX1 TX1 12 (.array .int) := ⟨fX1_35, ⟨tyX1, tyX1_ok⟩, nmX1, by decide +kernel⟩
theorem fX1_38 : FL RX1 38 1 11 RX1 TX1 12 := ⟨uX1, m178, rfl, by decide⟩
theorem pX1_38 : FP RX1 38 1 11 RX1 TX1 12 (.array .int) := ⟨fX1_38, ⟨tyX1, tyX1_ok⟩, nmX1, by decide +kernel⟩
theorem fX1_41 : FL RX1 41 1 0 RX1 TX1 12 := ⟨uX1, m146, rfl, by decide⟩
theorem pX1_41 : FP RX1 41 1 0 RX1 TX1 12 (.object "PlanRules$Formulas") := ⟨fX1_41, ⟨tyX1, tyX1_ok⟩, nmX1, by decide +kernel⟩
theorem fX1_45 : FL RX1 45 1 8 RX1 TX1 12 := ⟨uX1, m172, rfl, by decide⟩
theorem pX1_45 : FP RX1 45 1 8 RX1 TX1 12 .int := ⟨fX1_45, ⟨tyX1, tyX1_ok⟩, nmX1, by decide +kernel⟩
theorem cvX1_51 : CV RX1 RX1 51 yX1_has cX1_has 2 (some .boolean) 1 := by
  refine ⟨?_, by decide +kernel, by decide⟩
  intro w hw
  simp only [List.mem_cons, List.not_mem_nil, or_false] at hw
  rcases hw with rfl | rfl | rfl | rfl | rfl
  · exact m376
  · exact m377
  · exact m378
  · exact m66
  · exact m379
theorem csX1_55 : CS RX1 55 yX1_takesRight cX1_takesRight 1 (some .boolean) 1 := by
  refine ⟨?_, by decide +kernel, by decide⟩
  intro w hw
  simp only [List.mem_cons, List.not_mem_nil, or_false] at hw
  rcases hw with rfl | rfl | rfl | rfl
  · exact m380
  · exact m381
  · exact m66
  · exact m382
theorem csX1_58 : CS RX1 58 yX1_takesMember cX1_takesMember 1 (some .boolean) 1 := by
  refine ⟨?_, by decide +kernel, by decide⟩
  intro w hw
  simp only [List.mem_cons, List.not_mem_nil, or_false] at hw
  rcases hw with rfl | rfl | rfl | rfl
  · exact m383
  · exact m384
  · exact m66
  · exact m385
theorem cnX1_61 : CSN RX1 61 yX5_isMember cX5_isMember 1 (some .boolean) 1 := by
  refine ⟨?_, by decide +kernel, by decide, by decide +kernel⟩
  intro w hw
  simp only [List.mem_cons, List.not_mem_nil, or_false] at hw
  rcases hw with rfl | rfl | rfl
  · exact m328
  · exact m63
  · exact m329
theorem cvX1_66 : CV RX1 RX1 66 yX1_isValue cX1_isValue 4 (some .boolean) 3 := by
  refine ⟨?_, by decide +kernel, by decide⟩
  intro w hw
  simp only [List.mem_cons, List.not_mem_nil, or_false] at hw
  rcases hw with rfl | rfl | rfl | rfl | rfl
  · exact m387
  · exact m389
  · exact m3
  · exact m66
  · exact m390
theorem cvX1_70 : CV RX1 RX0 70 yX0_has cX0_has 2 (some .boolean) 1 := by
  refine ⟨?_, by decide +kernel, by decide⟩
  intro w hw
  simp only [List.mem_cons, List.not_mem_nil, or_false] at hw
  rcases hw with rfl | rfl | rfl | rfl | rfl
  · exact m391
  · exact m334
  · exact m335
  · exact m65
  · exact m336
theorem cnX1_73 : CSN RX1 73 yX5_isSet cX5_isSet 1 (some .boolean) 1 := by
  refine ⟨?_, by decide +kernel, by decide, by decide +kernel⟩
  intro w hw
  simp only [List.mem_cons, List.not_mem_nil, or_false] at hw
  rcases hw with rfl | rfl | rfl
  · exact m393
  · exact m63
  · exact m394
theorem mnX1_76 : Cond.methodLink RX1 76 Lib.Math.min.name ∈ TB := m403
theorem csX1_82 : CS RX1 82 yX1_takesFormula cX1_takesFormula 1 (some .boolean) 1 := by
  refine ⟨?_, by decide +kernel, by decide⟩
  intro w hw
  simp only [List.mem_cons, List.not_mem_nil, or_false] at hw
  rcases hw with rfl | rfl | rfl | rfl
  · exact m419
  · exact m420
  · exact m66
  · exact m421
theorem fX1_85 : FL RX1 85 0 5 RX0 TX0 7 := ⟨uX0, m121, rfl, by decide⟩
theorem cvX1_86 : CV RX1 RX1 86 yX1_write cX1_write 7 none 6 := by
  refine ⟨?_, by decide +kernel, by decide⟩
  intro w hw
  simp only [List.mem_cons, List.not_mem_nil, or_false] at hw
  rcases hw with rfl | rfl | rfl | rfl | rfl
  · exact m410
  · exact m411
  · exact m412
  · exact m66
  · exact m413
theorem cvX1_90 : CV RX1 RX1 90 yX1_boundOf cX1_boundOf 5 (some .int) 4 := by
  refine ⟨?_, by decide +kernel, by decide⟩
  intro w hw
  simp only [List.mem_cons, List.not_mem_nil, or_false] at hw
  rcases hw with rfl | rfl | rfl | rfl | rfl
  · exact m414
  · exact m400
  · exact m401
  · exact m66
  · exact m402
theorem cvX1_94 : CV RX1 RX1 94 yX1_failsOf cX1_failsOf 5 (some .boolean) 4 := by
  refine ⟨?_, by decide +kernel, by decide⟩
  intro w hw
  simp only [List.mem_cons, List.not_mem_nil, or_false] at hw
  rcases hw with rfl | rfl | rfl | rfl | rfl
  · exact m415
  · exact m417
  · exact m4
  · exact m66
  · exact m418
theorem csX1_98 : CS RX1 98 yX1_takesValue cX1_takesValue 1 (some .boolean) 1 := by
  refine ⟨?_, by decide +kernel, by decide⟩
  intro w hw
  simp only [List.mem_cons, List.not_mem_nil, or_false] at hw
  rcases hw with rfl | rfl | rfl | rfl
  · exact m422
  · exact m423
  · exact m66
  · exact m424
theorem csX1_101 : CS RX1 101 yJ7_fill_53178 cJ7_fill_53178 4 none 2 := by
  refine ⟨?_, by decide +kernel, by decide⟩
  intro w hw
  simp only [List.mem_cons, List.not_mem_nil, or_false] at hw
  rcases hw with rfl | rfl | rfl | rfl
  · exact m442
  · exact m443
  · exact m71
  · exact m444
theorem cvX1_107 : CV RX1 RX1 107 yX1_leftBelow cX1_leftBelow 2 (some .int) 1 := by
  refine ⟨?_, by decide +kernel, by decide⟩
  intro w hw
  simp only [List.mem_cons, List.not_mem_nil, or_false] at hw
  rcases hw with rfl | rfl | rfl | rfl | rfl
  · exact m445
  · exact m447
  · exact m5
  · exact m66
  · exact m448
theorem cvX1_111 : CV RX1 RX1 111 yX1_rightBelow cX1_rightBelow 2 (some .int) 1 := by
  refine ⟨?_, by decide +kernel, by decide⟩
  intro w hw
  simp only [List.mem_cons, List.not_mem_nil, or_false] at hw
  rcases hw with rfl | rfl | rfl | rfl | rfl
  · exact m449
  · exact m451
  · exact m6
  · exact m66
  · exact m452
theorem fX2_7 : FL RX2 7 2 0 RX2 TX2 3 := ⟨uX2, m260, rfl, by decide⟩
theorem pX2_7 : FP RX2 7 2 0 RX2 TX2 3 (.object "PlanRules$Formulas") := ⟨fX2_7, ⟨tyX2, tyX2_ok⟩, nmX2, by decide +kernel⟩
theorem fX2_13 : FL RX2 13 2 1 RX2 TX2 3 := ⟨uX2, m261, rfl, by decide⟩
theorem pX2_13 : FP RX2 13 2 1 RX2 TX2 3 (.object "PlanRules$Nodes") := ⟨fX2_13, ⟨tyX2, tyX2_ok⟩, nmX2, by decide +kernel⟩
theorem fX2_17 : FL RX2 17 1 1 RX1 TX1 12 := ⟨uX1, m148, rfl, by decide⟩
theorem sX2_23 : Cond.fieldLink RX2 23 RX2 "UPPER" "[I" ∈ TB := m576
theorem fX2_26 : FL RX2 26 1 2 RX1 TX1 12 := ⟨uX1, m152, rfl, by decide⟩
theorem sX2_29 : Cond.fieldLink RX2 29 RX2 "LOWER" "[I" ∈ TB := m578
theorem fX2_32 : FL RX2 32 1 5 RX1 TX1 12 := ⟨uX1, m164, rfl, by decide⟩
theorem cvX2_35 : CV RX2 RX2 35 yX2_suitsFilter cX2_suitsFilter 8 (some .boolean) 3 := by
  refine ⟨?_, by decide +kernel, by decide⟩
  intro w hw
  simp only [List.mem_cons, List.not_mem_nil, or_false] at hw
  rcases hw with rfl | rfl | rfl | rfl | rfl
  · exact m580
  · exact m582
  · exact m26
  · exact m68
  · exact m583
theorem cvX2_39 : CV RX2 RX2 39 yX2_suitsOther cX2_suitsOther 8 (some .boolean) 3 := by
  refine ⟨?_, by decide +kernel, by decide⟩
  intro w hw
  simp only [List.mem_cons, List.not_mem_nil, or_false] at hw
  rcases hw with rfl | rfl | rfl | rfl | rfl
  · exact m588
  · exact m590
  · exact m27
  · exact m68
  · exact m591
theorem fX2_42 : FL RX2 42 0 4 RX0 TX0 7 := ⟨uX0, m116, rfl, by decide⟩
theorem fX2_47 : FL RX2 47 0 5 RX0 TX0 7 := ⟨uX0, m119, rfl, by decide⟩
theorem fX2_51 : FL RX2 51 1 4 RX1 TX1 12 := ⟨uX1, m160, rfl, by decide⟩
theorem cnX2_54 : CSN RX2 54 yX5_isIn cX5_isIn 2 (some .boolean) 2 := by
  refine ⟨?_, by decide +kernel, by decide, by decide +kernel⟩
  intro w hw
  simp only [List.mem_cons, List.not_mem_nil, or_false] at hw
  rcases hw with rfl | rfl | rfl
  · exact m521
  · exact m63
  · exact m522
theorem cnX2_60 : CSN RX2 60 yX5_isWithin cX5_isWithin 2 (some .boolean) 2 := by
  refine ⟨?_, by decide +kernel, by decide, by decide +kernel⟩
  intro w hw
  simp only [List.mem_cons, List.not_mem_nil, or_false] at hw
  rcases hw with rfl | rfl | rfl
  · exact m586
  · exact m63
  · exact m587
theorem fX2_63 : FL RX2 63 1 7 RX1 TX1 12 := ⟨uX1, m170, rfl, by decide⟩
theorem fX2_64 : FL RX2 64 1 3 RX1 TX1 12 := ⟨uX1, m157, rfl, by decide⟩
theorem cvX2_67 : CV RX2 RX2 67 yX2_isLikeJob cX2_isLikeJob 3 (some .boolean) 2 := by
  refine ⟨?_, by decide +kernel, by decide⟩
  intro w hw
  simp only [List.mem_cons, List.not_mem_nil, or_false] at hw
  rcases hw with rfl | rfl | rfl | rfl | rfl
  · exact m592
  · exact m594
  · exact m28
  · exact m68
  · exact m595
theorem cvX2_70 : CV RX2 RX0 70 yX0_hasRoom cX0_hasRoom 4 (some .boolean) 3 := by
  refine ⟨?_, by decide +kernel, by decide⟩
  intro w hw
  simp only [List.mem_cons, List.not_mem_nil, or_false] at hw
  rcases hw with rfl | rfl | rfl | rfl | rfl
  · exact m604
  · exact m345
  · exact m346
  · exact m65
  · exact m347
theorem sX2_73 : Cond.fieldLink RX2 73 RX2 "NEW_NODES" "[I" ∈ TB := m605
theorem cvX2_76 : CV RX2 RX1 76 yX1_hasRoom cX1_hasRoom 2 (some .boolean) 1 := by
  refine ⟨?_, by decide +kernel, by decide⟩
  intro w hw
  simp only [List.mem_cons, List.not_mem_nil, or_false] at hw
  rcases hw with rfl | rfl | rfl | rfl | rfl
  · exact m607
  · exact m396
  · exact m397
  · exact m66
  · exact m398
theorem fX2_79 : FL RX2 79 2 2 RX2 TX2 3 := ⟨uX2, m262, rfl, by decide⟩
theorem pX2_79 : FP RX2 79 2 2 RX2 TX2 3 .int := ⟨fX2_79, ⟨tyX2, tyX2_ok⟩, nmX2, by decide +kernel⟩
theorem cvX2_83 : CV RX2 RX2 83 yX2_addLike cX2_addLike 3 (some .int) 2 := by
  refine ⟨?_, by decide +kernel, by decide⟩
  intro w hw
  simp only [List.mem_cons, List.not_mem_nil, or_false] at hw
  rcases hw with rfl | rfl | rfl | rfl | rfl
  · exact m612
  · exact m614
  · exact m29
  · exact m68
  · exact m615
theorem cvX2_87 : CV RX2 RX2 87 yX2_exchange cX2_exchange 5 none 4 := by
  refine ⟨?_, by decide +kernel, by decide⟩
  intro w hw
  simp only [List.mem_cons, List.not_mem_nil, or_false] at hw
  rcases hw with rfl | rfl | rfl | rfl | rfl
  · exact m617
  · exact m619
  · exact m30
  · exact m68
  · exact m620
theorem cvX2_91 : CV RX2 RX0 91 yX0_add cX0_add 5 (some .int) 3 := by
  refine ⟨?_, by decide +kernel, by decide⟩
  intro w hw
  simp only [List.mem_cons, List.not_mem_nil, or_false] at hw
  rcases hw with rfl | rfl | rfl | rfl | rfl
  · exact m622
  · exact m341
  · exact m342
  · exact m65
  · exact m343
theorem cvX2_95 : CV RX2 RX2 95 yX2_skip cX2_skip 4 none 3 := by
  refine ⟨?_, by decide +kernel, by decide⟩
  intro w hw
  simp only [List.mem_cons, List.not_mem_nil, or_false] at hw
  rcases hw with rfl | rfl | rfl | rfl | rfl
  · exact m623
  · exact m625
  · exact m31
  · exact m68
  · exact m626
theorem mnX2_99 : Cond.methodLink RX2 99 Lib.Math.min.name ∈ TB := m627
theorem cvX2_104 : CV RX2 RX2 104 yX2_workAbove cX2_workAbove 5 none 3 := by
  refine ⟨?_, by decide +kernel, by decide⟩
  intro w hw
  simp only [List.mem_cons, List.not_mem_nil, or_false] at hw
  rcases hw with rfl | rfl | rfl | rfl | rfl
  · exact m628
  · exact m630
  · exact m32
  · exact m68
  · exact m631
theorem cvX2_107 : CV RX2 RX1 107 yX1_write cX1_write 7 none 6 := by
  refine ⟨?_, by decide +kernel, by decide⟩
  intro w hw
  simp only [List.mem_cons, List.not_mem_nil, or_false] at hw
  rcases hw with rfl | rfl | rfl | rfl | rfl
  · exact m621
  · exact m411
  · exact m412
  · exact m66
  · exact m413
theorem cvX2_111 : CV RX2 RX1 111 yX1_add cX1_add 7 (some .int) 5 := by
  refine ⟨?_, by decide +kernel, by decide⟩
  intro w hw
  simp only [List.mem_cons, List.not_mem_nil, or_false] at hw
  rcases hw with rfl | rfl | rfl | rfl | rfl
  · exact m616
  · exact m407
  · exact m408
  · exact m66
  · exact m409
theorem cvX2_114 : CV RX2 RX1 114 yX1_listFrom cX1_listFrom 7 (some .int) 1 := by
  refine ⟨?_, by decide +kernel, by decide⟩
  intro w hw
  simp only [List.mem_cons, List.not_mem_nil, or_false] at hw
  rcases hw with rfl | rfl | rfl | rfl | rfl
  · exact m640
  · exact m439
  · exact m440
  · exact m66
  · exact m441
theorem fX2_118 : FL RX2 118 1 8 RX1 TX1 12 := ⟨uX1, m173, rfl, by decide⟩
theorem cvX2_121 : CV RX2 RX1 121 yX1_isListed cX1_isListed 2 (some .boolean) 1 := by
  refine ⟨?_, by decide +kernel, by decide⟩
  intro w hw
  simp only [List.mem_cons, List.not_mem_nil, or_false] at hw
  rcases hw with rfl | rfl | rfl | rfl | rfl
  · exact m641
  · exact m642
  · exact m643
  · exact m66
  · exact m644
theorem cvX2_124 : CV RX2 RX2 124 yX2_leastRule cX2_leastRule 3 (some .int) 1 := by
  refine ⟨?_, by decide +kernel, by decide⟩
  intro w hw
  simp only [List.mem_cons, List.not_mem_nil, or_false] at hw
  rcases hw with rfl | rfl | rfl | rfl | rfl
  · exact m645
  · exact m646
  · exact m647
  · exact m68
  · exact m648
theorem cvX2_127 : CV RX2 RX2 127 yX2_suits cX2_suits 4 (some .boolean) 2 := by
  refine ⟨?_, by decide +kernel, by decide⟩
  intro w hw
  simp only [List.mem_cons, List.not_mem_nil, or_false] at hw
  rcases hw with rfl | rfl | rfl | rfl | rfl
  · exact m649
  · exact m573
  · exact m574
  · exact m68
  · exact m575
theorem fX3_13 : FL RX3 13 3 3 RX3 TX3 13 := ⟨uX3, m213, rfl, by decide⟩
theorem pX3_13 : FP RX3 13 3 3 RX3 TX3 13 (.array .int) := ⟨fX3_13, ⟨tyX3, tyX3_ok⟩, nmX3, by decide +kernel⟩
theorem fX3_17 : FL RX3 17 3 5 RX3 TX3 13 := ⟨uX3, m215, rfl, by decide⟩
theorem pX3_17 : FP RX3 17 3 5 RX3 TX3 13 (.array .int) := ⟨fX3_17, ⟨tyX3, tyX3_ok⟩, nmX3, by decide +kernel⟩
theorem fX3_20 : FL RX3 20 3 6 RX3 TX3 13 := ⟨uX3, m216, rfl, by decide⟩
theorem pX3_20 : FP RX3 20 3 6 RX3 TX3 13 (.array .int) := ⟨fX3_20, ⟨tyX3, tyX3_ok⟩, nmX3, by decide +kernel⟩
theorem fX3_23 : FL RX3 23 3 12 RX3 TX3 13 := ⟨uX3, m225, rfl, by decide⟩
theorem pX3_23 : FP RX3 23 3 12 RX3 TX3 13 .int := ⟨fX3_23, ⟨tyX3, tyX3_ok⟩, nmX3, by decide +kernel⟩
theorem fX3_27 : FL RX3 27 3 0 RX3 TX3 13 := ⟨uX3, m210, rfl, by decide⟩
theorem pX3_27 : FP RX3 27 3 0 RX3 TX3 13 (.object "PlanRules$Sources") := ⟨fX3_27, ⟨tyX3, tyX3_ok⟩, nmX3, by decide +kernel⟩
theorem fX3_31 : FL RX3 31 3 1 RX3 TX3 13 := ⟨uX3, m211, rfl, by decide⟩
theorem pX3_31 : FP RX3 31 3 1 RX3 TX3 13 (.object "PlanRules$Formulas") := ⟨fX3_31, ⟨tyX3, tyX3_ok⟩, nmX3, by decide +kernel⟩
theorem fX3_35 : FL RX3 35 3 2 RX3 TX3 13 := ⟨uX3, m212, rfl, by decide⟩
theorem pX3_35 : FP RX3 35 3 2 RX3 TX3 13 (.object "PlanRules$Nodes") := ⟨fX3_35, ⟨tyX3, tyX3_ok⟩, nmX3, by decide +kernel⟩
theorem fX3_39 : FL RX3 39 3 4 RX3 TX3 13 := ⟨uX3, m214, rfl, by decide⟩
theorem pX3_39 : FP RX3 39 3 4 RX3 TX3 13 .int := ⟨fX3_39, ⟨tyX3, tyX3_ok⟩, nmX3, by decide +kernel⟩
theorem fX3_42 : FL RX3 42 3 9 RX3 TX3 13 := ⟨uX3, m219, rfl, by decide⟩
theorem pX3_42 : FP RX3 42 3 9 RX3 TX3 13 .int := ⟨fX3_42, ⟨tyX3, tyX3_ok⟩, nmX3, by decide +kernel⟩
theorem fX3_45 : FL RX3 45 3 10 RX3 TX3 13 := ⟨uX3, m221, rfl, by decide⟩
theorem pX3_45 : FP RX3 45 3 10 RX3 TX3 13 .int := ⟨fX3_45, ⟨tyX3, tyX3_ok⟩, nmX3, by decide +kernel⟩
theorem fX3_48 : FL RX3 48 3 11 RX3 TX3 13 := ⟨uX3, m223, rfl, by decide⟩
theorem pX3_48 : FP RX3 48 3 11 RX3 TX3 13 .int := ⟨fX3_48, ⟨tyX3, tyX3_ok⟩, nmX3, by decide +kernel⟩
theorem cvX3_51 : CV RX3 RX1 51 yX1_listFrom cX1_listFrom 7 (some .int) 1 := by
  refine ⟨?_, by decide +kernel, by decide⟩
  intro w hw
  simp only [List.mem_cons, List.not_mem_nil, or_false] at hw
  rcases hw with rfl | rfl | rfl | rfl | rfl
  · exact m438
  · exact m439
  · exact m440
  · exact m66
  · exact m441
theorem fX3_55 : FL RX3 55 1 9 RX1 TX1 12 := ⟨uX1, m176, rfl, by decide⟩
theorem cvX3_58 : CV RX3 RX3 58 yX3_work cX3_work 3 none 1 := by
  refine ⟨?_, by decide +kernel, by decide⟩
  intro w hw
  simp only [List.mem_cons, List.not_mem_nil, or_false] at hw
  rcases hw with rfl | rfl | rfl | rfl | rfl
  · exact m453
  · exact m455
  · exact m7
  · exact m67
  · exact m456
theorem fX3_62 : FL RX3 62 3 7 RX3 TX3 13 := ⟨uX3, m217, rfl, by decide⟩
theorem pX3_62 : FP RX3 62 3 7 RX3 TX3 13 .int := ⟨fX3_62, ⟨tyX3, tyX3_ok⟩, nmX3, by decide +kernel⟩
theorem fX3_65 : FL RX3 65 3 8 RX3 TX3 13 := ⟨uX3, m218, rfl, by decide⟩
theorem pX3_65 : FP RX3 65 3 8 RX3 TX3 13 .int := ⟨fX3_65, ⟨tyX3, tyX3_ok⟩, nmX3, by decide +kernel⟩
theorem fX3_68 : FL RX3 68 1 2 RX1 TX1 12 := ⟨uX1, m153, rfl, by decide⟩
theorem fX3_71 : FL RX3 71 1 1 RX1 TX1 12 := ⟨uX1, m149, rfl, by decide⟩
theorem cvX3_74 : CV RX3 RX3 74 yX3_giveSource cX3_giveSource 4 none 1 := by
  refine ⟨?_, by decide +kernel, by decide⟩
  intro w hw
  simp only [List.mem_cons, List.not_mem_nil, or_false] at hw
  rcases hw with rfl | rfl | rfl | rfl | rfl
  · exact m457
  · exact m459
  · exact m8
  · exact m67
  · exact m460
theorem fX3_77 : FL RX3 77 1 5 RX1 TX1 12 := ⟨uX1, m165, rfl, by decide⟩
theorem cvX3_80 : CV RX3 RX3 80 yX3_giveFiltered cX3_giveFiltered 5 none 2 := by
  refine ⟨?_, by decide +kernel, by decide⟩
  intro w hw
  simp only [List.mem_cons, List.not_mem_nil, or_false] at hw
  rcases hw with rfl | rfl | rfl | rfl | rfl
  · exact m483
  · exact m485
  · exact m10
  · exact m67
  · exact m486
theorem fX3_84 : FL RX3 84 1 4 RX1 TX1 12 := ⟨uX1, m161, rfl, by decide⟩
theorem cvX3_87 : CV RX3 RX3 87 yX3_giveSet cX3_giveSet 7 none 3 := by
  refine ⟨?_, by decide +kernel, by decide⟩
  intro w hw
  simp only [List.mem_cons, List.not_mem_nil, or_false] at hw
  rcases hw with rfl | rfl | rfl | rfl | rfl
  · exact m508
  · exact m510
  · exact m16
  · exact m67
  · exact m511
theorem cvX3_91 : CV RX3 RX3 91 yX3_giveKept cX3_giveKept 5 none 2 := by
  refine ⟨?_, by decide +kernel, by decide⟩
  intro w hw
  simp only [List.mem_cons, List.not_mem_nil, or_false] at hw
  rcases hw with rfl | rfl | rfl | rfl | rfl
  · exact m512
  · exact m514
  · exact m17
  · exact m67
  · exact m515
theorem fX3_94 : FL RX3 94 1 3 RX1 TX1 12 := ⟨uX1, m156, rfl, by decide⟩
theorem cvX3_97 : CV RX3 RX3 97 yX3_giveJoined cX3_giveJoined 8 none 4 := by
  refine ⟨?_, by decide +kernel, by decide⟩
  intro w hw
  simp only [List.mem_cons, List.not_mem_nil, or_false] at hw
  rcases hw with rfl | rfl | rfl | rfl | rfl
  · exact m523
  · exact m525
  · exact m19
  · exact m67
  · exact m526
theorem cvX3_101 : CV RX3 RX3 101 yX3_giveFirst cX3_giveFirst 5 none 2 := by
  refine ⟨?_, by decide +kernel, by decide⟩
  intro w hw
  simp only [List.mem_cons, List.not_mem_nil, or_false] at hw
  rcases hw with rfl | rfl | rfl | rfl | rfl
  · exact m527
  · exact m529
  · exact m20
  · exact m67
  · exact m530
theorem cvX3_104 : CV RX3 RX3 104 yX3_giveFolded cX3_giveFolded 7 none 3 := by
  refine ⟨?_, by decide +kernel, by decide⟩
  intro w hw
  simp only [List.mem_cons, List.not_mem_nil, or_false] at hw
  rcases hw with rfl | rfl | rfl | rfl | rfl
  · exact m531
  · exact m533
  · exact m21
  · exact m67
  · exact m534
theorem cvX3_107 : CV RX3 RX3 107 yX3_giveOnce cX3_giveOnce 4 none 1 := by
  refine ⟨?_, by decide +kernel, by decide⟩
  intro w hw
  simp only [List.mem_cons, List.not_mem_nil, or_false] at hw
  rcases hw with rfl | rfl | rfl | rfl | rfl
  · exact m539
  · exact m541
  · exact m23
  · exact m67
  · exact m542
theorem fX3_110 : FL RX3 110 4 1 RX4 TX4 3 := ⟨uX4, m90, rfl, by decide⟩
theorem cvX3_115 : CV RX3 RX3 115 yX3_addEmpty cX3_addEmpty 3 (some .int) 0 := by
  refine ⟨?_, by decide +kernel, by decide⟩
  intro w hw
  simp only [List.mem_cons, List.not_mem_nil, or_false] at hw
  rcases hw with rfl | rfl | rfl | rfl | rfl
  · exact m461
  · exact m463
  · exact m9
  · exact m67
  · exact m464
theorem fX3_119 : FL RX3 119 4 0 RX4 TX4 3 := ⟨uX4, m88, rfl, by decide⟩
theorem cvX3_120 : CV RX3 RX4 120 yX4_cellOf cX4_cellOf 3 (some .int) 2 := by
  refine ⟨?_, by decide +kernel, by decide⟩
  intro w hw
  simp only [List.mem_cons, List.not_mem_nil, or_false] at hw
  rcases hw with rfl | rfl | rfl | rfl | rfl
  · exact m481
  · exact m300
  · exact m301
  · exact m64
  · exact m302
theorem acX3_124 : Cond.methodLink RX3 124 arraycopyName ∈ TB := m482
theorem cvX3_130 : CV RX3 RX3 130 yX3_valueOf cX3_valueOf 4 (some .int) 2 := by
  refine ⟨?_, by decide +kernel, by decide⟩
  intro w hw
  simp only [List.mem_cons, List.not_mem_nil, or_false] at hw
  rcases hw with rfl | rfl | rfl | rfl | rfl
  · exact m487
  · exact m489
  · exact m11
  · exact m67
  · exact m490
theorem cvX3_133 : CV RX3 RX3 133 yX3_addCopy cX3_addCopy 3 (some .int) 1 := by
  refine ⟨?_, by decide +kernel, by decide⟩
  intro w hw
  simp only [List.mem_cons, List.not_mem_nil, or_false] at hw
  rcases hw with rfl | rfl | rfl | rfl | rfl
  · exact m504
  · exact m506
  · exact m15
  · exact m67
  · exact m507
theorem cvX3_136 : CV RX3 RX3 136 yX3_copyMembers cX3_copyMembers 5 none 3 := by
  refine ⟨?_, by decide +kernel, by decide⟩
  intro w hw
  simp only [List.mem_cons, List.not_mem_nil, or_false] at hw
  rcases hw with rfl | rfl | rfl | rfl | rfl
  · exact m516
  · exact m518
  · exact m18
  · exact m67
  · exact m519
theorem cvX3_139 : CV RX3 RX3 139 yX3_findMember cX3_findMember 5 (some .int) 3 := by
  refine ⟨?_, by decide +kernel, by decide⟩
  intro w hw
  simp only [List.mem_cons, List.not_mem_nil, or_false] at hw
  rcases hw with rfl | rfl | rfl | rfl | rfl
  · exact m535
  · exact m537
  · exact m22
  · exact m67
  · exact m538
theorem cvX3_143 : CV RX3 RX3 143 yX3_hasLike cX3_hasLike 4 (some .boolean) 2 := by
  refine ⟨?_, by decide +kernel, by decide⟩
  intro w hw
  simp only [List.mem_cons, List.not_mem_nil, or_false] at hw
  rcases hw with rfl | rfl | rfl | rfl | rfl
  · exact m543
  · exact m545
  · exact m24
  · exact m67
  · exact m546
theorem mnX3_147 : Cond.methodLink RX3 147 Lib.Math.min.name ∈ TB := m466
theorem cvX3_152 : CV RX3 RX3 152 yX3_isLike cX3_isLike 4 (some .boolean) 2 := by
  refine ⟨?_, by decide +kernel, by decide⟩
  intro w hw
  simp only [List.mem_cons, List.not_mem_nil, or_false] at hw
  rcases hw with rfl | rfl | rfl | rfl | rfl
  · exact m547
  · exact m549
  · exact m25
  · exact m67
  · exact m550
theorem cnX3_155 : CSN RX3 155 yX5_isIn cX5_isIn 2 (some .boolean) 2 := by
  refine ⟨?_, by decide +kernel, by decide, by decide +kernel⟩
  intro w hw
  simp only [List.mem_cons, List.not_mem_nil, or_false] at hw
  rcases hw with rfl | rfl | rfl
  · exact m521
  · exact m63
  · exact m522
theorem kX3_158 : Cond.constant RX3 158 (36000) ∈ TB := m465
theorem csX3_159 : CS RX3 159 yJ7_copyOf_59c91 cJ7_copyOf_59c91 3 (some (.array .int)) 2 := by
  refine ⟨?_, by decide +kernel, by decide⟩
  intro w hw
  simp only [List.mem_cons, List.not_mem_nil, or_false] at hw
  rcases hw with rfl | rfl | rfl | rfl
  · exact m467
  · exact m468
  · exact m71
  · exact m469
theorem fX3_165 : FL RX3 165 0 1 RX0 TX0 7 := ⟨uX0, m111, rfl, by decide⟩
theorem fX3_170 : FL RX3 170 0 0 RX0 TX0 7 := ⟨uX0, m109, rfl, by decide⟩
theorem fX3_171 : FL RX3 171 0 2 RX0 TX0 7 := ⟨uX0, m113, rfl, by decide⟩
theorem cvX3_174 : CV RX3 RX3 174 yX3_valueOfParts cX3_valueOfParts 7 (some .int) 4 := by
  refine ⟨?_, by decide +kernel, by decide⟩
  intro w hw
  simp only [List.mem_cons, List.not_mem_nil, or_false] at hw
  rcases hw with rfl | rfl | rfl | rfl | rfl
  · exact m491
  · exact m493
  · exact m12
  · exact m67
  · exact m494
theorem cvX3_178 : CV RX3 RX3 178 yX3_itemAt cX3_itemAt 2 (some .int) 1 := by
  refine ⟨?_, by decide +kernel, by decide⟩
  intro w hw
  simp only [List.mem_cons, List.not_mem_nil, or_false] at hw
  rcases hw with rfl | rfl | rfl | rfl | rfl
  · exact m495
  · exact m497
  · exact m13
  · exact m67
  · exact m498
theorem cvX3_181 : CV RX3 RX3 181 yX3_valueOfPair cX3_valueOfPair 4 (some .int) 3 := by
  refine ⟨?_, by decide +kernel, by decide⟩
  intro w hw
  simp only [List.mem_cons, List.not_mem_nil, or_false] at hw
  rcases hw with rfl | rfl | rfl | rfl | rfl
  · exact m500
  · exact m502
  · exact m14
  · exact m67
  · exact m503
theorem cvX3_184 : CV RX3 RX4 184 yX4_hasItem cX4_hasItem 2 (some .boolean) 1 := by
  refine ⟨?_, by decide +kernel, by decide⟩
  intro w hw
  simp only [List.mem_cons, List.not_mem_nil, or_false] at hw
  rcases hw with rfl | rfl | rfl | rfl | rfl
  · exact m499
  · exact m316
  · exact m317
  · exact m64
  · exact m318
theorem fX3_188 : FL RX3 188 4 2 RX4 TX4 3 := ⟨uX4, m93, rfl, by decide⟩
theorem fX4_11 : FL RX4 11 4 0 RX4 TX4 3 := ⟨uX4, m87, rfl, by decide⟩
theorem pX4_11 : FP RX4 11 4 0 RX4 TX4 3 (.array .int) := ⟨fX4_11, ⟨tyX4, tyX4_ok⟩, nmX4, by decide +kernel⟩
theorem fX4_15 : FL RX4 15 4 1 RX4 TX4 3 := ⟨uX4, m89, rfl, by decide⟩
theorem pX4_15 : FP RX4 15 4 1 RX4 TX4 3 (.array .int) := ⟨fX4_15, ⟨tyX4, tyX4_ok⟩, nmX4, by decide +kernel⟩
theorem fX4_18 : FL RX4 18 4 2 RX4 TX4 3 := ⟨uX4, m91, rfl, by decide⟩
theorem pX4_18 : FP RX4 18 4 2 RX4 TX4 3 (.array .int) := ⟨fX4_18, ⟨tyX4, tyX4_ok⟩, nmX4, by decide +kernel⟩
theorem cvX4_21 : CV RX4 RX4 21 yX4_cellOf cX4_cellOf 3 (some .int) 2 := by
  refine ⟨?_, by decide +kernel, by decide⟩
  intro w hw
  simp only [List.mem_cons, List.not_mem_nil, or_false] at hw
  rcases hw with rfl | rfl | rfl | rfl | rfl
  · exact m299
  · exact m300
  · exact m301
  · exact m64
  · exact m302
-- class X5 9 PlanRules$Sources
-- ctor X5 11 nest X4_init
theorem fX5_12 : FL RX5 12 5 0 RX5 TX5 5 := ⟨uX5, m271, rfl, by decide⟩
theorem pX5_12 : FP RX5 12 5 0 RX5 TX5 5 (.object "PlanRules$Sources") := ⟨fX5_12, ⟨tyX5, tyX5_ok⟩, nmX5, by decide +kernel⟩
-- class X5 16 PlanRules$Formulas
-- ctor X5 18 nest X0_init
theorem fX5_19 : FL RX5 19 5 1 RX5 TX5 5 := ⟨uX5, m272, rfl, by decide⟩
theorem pX5_19 : FP RX5 19 5 1 RX5 TX5 5 (.object "PlanRules$Formulas") := ⟨fX5_19, ⟨tyX5, tyX5_ok⟩, nmX5, by decide +kernel⟩
-- class X5 23 PlanRules$Nodes
-- ctor X5 25 method X1_init
theorem fX5_28 : FL RX5 28 5 2 RX5 TX5 5 := ⟨uX5, m273, rfl, by decide⟩
theorem pX5_28 : FP RX5 28 5 2 RX5 TX5 5 (.object "PlanRules$Nodes") := ⟨fX5_28, ⟨tyX5, tyX5_ok⟩, nmX5, by decide +kernel⟩
-- class X5 32 PlanRules$Runner
-- ctor X5 34 method X3_init
theorem fX5_37 : FL RX5 37 5 3 RX5 TX5 5 := ⟨uX5, m274, rfl, by decide⟩
theorem pX5_37 : FP RX5 37 5 3 RX5 TX5 5 (.object "PlanRules$Runner") := ⟨fX5_37, ⟨tyX5, tyX5_ok⟩, nmX5, by decide +kernel⟩
-- class X5 41 PlanRules$Rules
-- ctor X5 43 method X2_init
theorem fX5_46 : FL RX5 46 5 4 RX5 TX5 5 := ⟨uX5, m275, rfl, by decide⟩
theorem pX5_46 : FP RX5 46 5 4 RX5 TX5 5 (.object "PlanRules$Rules") := ⟨fX5_46, ⟨tyX5, tyX5_ok⟩, nmX5, by decide +kernel⟩
theorem cvX5_50 : CV RX5 RX4 50 yX4_has cX4_has 2 (some .boolean) 1 := by
  refine ⟨?_, by decide +kernel, by decide⟩
  intro w hw
  simp only [List.mem_cons, List.not_mem_nil, or_false] at hw
  rcases hw with rfl | rfl | rfl | rfl | rfl
  · exact m291
  · exact m292
  · exact m293
  · exact m64
  · exact m294
theorem cvX5_54 : CV RX5 RX4 54 yX4_add cX4_add 6 (some .int) 4 := by
  refine ⟨?_, by decide +kernel, by decide⟩
  intro w hw
  simp only [List.mem_cons, List.not_mem_nil, or_false] at hw
  rcases hw with rfl | rfl | rfl | rfl | rfl
  · exact m295
  · exact m296
  · exact m297
  · exact m64
  · exact m298
theorem cvX5_58 : CV RX5 RX4 58 yX4_empty cX4_empty 3 (some .int) 1 := by
  refine ⟨?_, by decide +kernel, by decide⟩
  intro w hw
  simp only [List.mem_cons, List.not_mem_nil, or_false] at hw
  rcases hw with rfl | rfl | rfl | rfl | rfl
  · exact m307
  · exact m308
  · exact m309
  · exact m64
  · exact m310
theorem cvX5_62 : CV RX5 RX4 62 yX4_hasItem cX4_hasItem 2 (some .boolean) 1 := by
  refine ⟨?_, by decide +kernel, by decide⟩
  intro w hw
  simp only [List.mem_cons, List.not_mem_nil, or_false] at hw
  rcases hw with rfl | rfl | rfl | rfl | rfl
  · exact m315
  · exact m316
  · exact m317
  · exact m64
  · exact m318
theorem fX5_65 : FL RX5 65 4 2 RX4 TX4 3 := ⟨uX4, m92, rfl, by decide⟩
theorem cvX5_69 : CV RX5 RX0 69 yX0_isAsTold cX0_isAsTold 4 (some .boolean) 3 := by
  refine ⟨?_, by decide +kernel, by decide⟩
  intro w hw
  simp only [List.mem_cons, List.not_mem_nil, or_false] at hw
  rcases hw with rfl | rfl | rfl | rfl | rfl
  · exact m323
  · exact m324
  · exact m325
  · exact m65
  · exact m326
theorem cvX5_73 : CV RX5 RX0 73 yX0_add cX0_add 5 (some .int) 3 := by
  refine ⟨?_, by decide +kernel, by decide⟩
  intro w hw
  simp only [List.mem_cons, List.not_mem_nil, or_false] at hw
  rcases hw with rfl | rfl | rfl | rfl | rfl
  · exact m340
  · exact m341
  · exact m342
  · exact m65
  · exact m343
theorem cvX5_76 : CV RX5 RX0 76 yX0_has cX0_has 2 (some .boolean) 1 := by
  refine ⟨?_, by decide +kernel, by decide⟩
  intro w hw
  simp only [List.mem_cons, List.not_mem_nil, or_false] at hw
  rcases hw with rfl | rfl | rfl | rfl | rfl
  · exact m364
  · exact m334
  · exact m335
  · exact m65
  · exact m336
theorem fX5_77 : FL RX5 77 0 4 RX0 TX0 7 := ⟨uX0, m117, rfl, by decide⟩
theorem fX5_80 : FL RX5 80 0 5 RX0 TX0 7 := ⟨uX0, m120, rfl, by decide⟩
theorem csX5_84 : CS RX5 84 yX5_asNumber cX5_asNumber 1 (some .int) 1 := by
  refine ⟨?_, by decide +kernel, by decide⟩
  intro w hw
  simp only [List.mem_cons, List.not_mem_nil, or_false] at hw
  rcases hw with rfl | rfl | rfl | rfl
  · exact m365
  · exact m366
  · exact m63
  · exact m367
theorem cvX5_88 : CV RX5 RX1 88 yX1_isAsTold cX1_isAsTold 6 (some .boolean) 5 := by
  refine ⟨?_, by decide +kernel, by decide⟩
  intro w hw
  simp only [List.mem_cons, List.not_mem_nil, or_false] at hw
  rcases hw with rfl | rfl | rfl | rfl | rfl
  · exact m372
  · exact m373
  · exact m374
  · exact m66
  · exact m375
theorem cvX5_91 : CV RX5 RX1 91 yX1_hasRoom cX1_hasRoom 2 (some .boolean) 1 := by
  refine ⟨?_, by decide +kernel, by decide⟩
  intro w hw
  simp only [List.mem_cons, List.not_mem_nil, or_false] at hw
  rcases hw with rfl | rfl | rfl | rfl | rfl
  · exact m395
  · exact m396
  · exact m397
  · exact m66
  · exact m398
theorem cvX5_94 : CV RX5 RX1 94 yX1_boundOf cX1_boundOf 5 (some .int) 4 := by
  refine ⟨?_, by decide +kernel, by decide⟩
  intro w hw
  simp only [List.mem_cons, List.not_mem_nil, or_false] at hw
  rcases hw with rfl | rfl | rfl | rfl | rfl
  · exact m399
  · exact m400
  · exact m401
  · exact m66
  · exact m402
theorem cvX5_97 : CV RX5 RX1 97 yX1_add cX1_add 7 (some .int) 5 := by
  refine ⟨?_, by decide +kernel, by decide⟩
  intro w hw
  simp only [List.mem_cons, List.not_mem_nil, or_false] at hw
  rcases hw with rfl | rfl | rfl | rfl | rfl
  · exact m406
  · exact m407
  · exact m408
  · exact m66
  · exact m409
theorem cvX5_100 : CV RX5 RX1 100 yX1_has cX1_has 2 (some .boolean) 1 := by
  refine ⟨?_, by decide +kernel, by decide⟩
  intro w hw
  simp only [List.mem_cons, List.not_mem_nil, or_false] at hw
  rcases hw with rfl | rfl | rfl | rfl | rfl
  · exact m429
  · exact m377
  · exact m378
  · exact m66
  · exact m379
theorem fX5_101 : FL RX5 101 1 1 RX1 TX1 12 := ⟨uX1, m150, rfl, by decide⟩
theorem fX5_104 : FL RX5 104 1 2 RX1 TX1 12 := ⟨uX1, m154, rfl, by decide⟩
theorem fX5_107 : FL RX5 107 1 3 RX1 TX1 12 := ⟨uX1, m158, rfl, by decide⟩
theorem fX5_110 : FL RX5 110 1 4 RX1 TX1 12 := ⟨uX1, m162, rfl, by decide⟩
theorem fX5_113 : FL RX5 113 1 5 RX1 TX1 12 := ⟨uX1, m166, rfl, by decide⟩
theorem fX5_116 : FL RX5 116 1 6 RX1 TX1 12 := ⟨uX1, m168, rfl, by decide⟩
theorem fX5_119 : FL RX5 119 1 7 RX1 TX1 12 := ⟨uX1, m171, rfl, by decide⟩
theorem cvX5_120 : CV RX5 RX3 120 yX3_give cX3_give 5 (some .int) 1 := by
  refine ⟨?_, by decide +kernel, by decide⟩
  intro w hw
  simp only [List.mem_cons, List.not_mem_nil, or_false] at hw
  rcases hw with rfl | rfl | rfl | rfl | rfl
  · exact m434
  · exact m435
  · exact m436
  · exact m67
  · exact m437
theorem csX5_123 : CS RX5 123 yX5_isMember cX5_isMember 1 (some .boolean) 1 := by
  refine ⟨?_, by decide +kernel, by decide⟩
  intro w hw
  simp only [List.mem_cons, List.not_mem_nil, or_false] at hw
  rcases hw with rfl | rfl | rfl | rfl
  · exact m555
  · exact m328
  · exact m63
  · exact m329
theorem cvX5_126 : CV RX5 RX3 126 yX3_given cX3_given 3 (some .int) 2 := by
  refine ⟨?_, by decide +kernel, by decide⟩
  intro w hw
  simp only [List.mem_cons, List.not_mem_nil, or_false] at hw
  rcases hw with rfl | rfl | rfl | rfl | rfl
  · exact m556
  · exact m557
  · exact m558
  · exact m67
  · exact m559
theorem fX5_130 : FL RX5 130 3 9 RX3 TX3 13 := ⟨uX3, m220, rfl, by decide⟩
theorem fX5_134 : FL RX5 134 3 10 RX3 TX3 13 := ⟨uX3, m222, rfl, by decide⟩
theorem fX5_137 : FL RX5 137 3 11 RX3 TX3 13 := ⟨uX3, m224, rfl, by decide⟩
theorem fX5_140 : FL RX5 140 3 12 RX3 TX3 13 := ⟨uX3, m226, rfl, by decide⟩
theorem cvX5_143 : CV RX5 RX2 143 yX2_has cX2_has 2 (some .boolean) 1 := by
  refine ⟨?_, by decide +kernel, by decide⟩
  intro w hw
  simp only [List.mem_cons, List.not_mem_nil, or_false] at hw
  rcases hw with rfl | rfl | rfl | rfl | rfl
  · exact m568
  · exact m569
  · exact m570
  · exact m68
  · exact m571
theorem cvX5_144 : CV RX5 RX2 144 yX2_suits cX2_suits 4 (some .boolean) 2 := by
  refine ⟨?_, by decide +kernel, by decide⟩
  intro w hw
  simp only [List.mem_cons, List.not_mem_nil, or_false] at hw
  rcases hw with rfl | rfl | rfl | rfl | rfl
  · exact m572
  · exact m573
  · exact m574
  · exact m68
  · exact m575
theorem cvX5_148 : CV RX5 RX2 148 yX2_hasRoom cX2_hasRoom 3 (some .boolean) 2 := by
  refine ⟨?_, by decide +kernel, by decide⟩
  intro w hw
  simp only [List.mem_cons, List.not_mem_nil, or_false] at hw
  rcases hw with rfl | rfl | rfl | rfl | rfl
  · exact m600
  · exact m601
  · exact m602
  · exact m68
  · exact m603
theorem cvX5_150 : CV RX5 RX2 150 yX2_apply cX2_apply 4 none 2 := by
  refine ⟨?_, by decide +kernel, by decide⟩
  intro w hw
  simp only [List.mem_cons, List.not_mem_nil, or_false] at hw
  rcases hw with rfl | rfl | rfl | rfl | rfl
  · exact m608
  · exact m609
  · exact m610
  · exact m68
  · exact m611
theorem fX5_154 : FL RX5 154 1 8 RX1 TX1 12 := ⟨uX1, m174, rfl, by decide⟩
theorem cvX5_157 : CV RX5 RX2 157 yX2_leastNode cX2_leastNode 3 (some .int) 1 := by
  refine ⟨?_, by decide +kernel, by decide⟩
  intro w hw
  simp only [List.mem_cons, List.not_mem_nil, or_false] at hw
  rcases hw with rfl | rfl | rfl | rfl | rfl
  · exact m636
  · exact m637
  · exact m638
  · exact m68
  · exact m639
theorem cvX5_160 : CV RX5 RX2 160 yX2_leastRule cX2_leastRule 3 (some .int) 1 := by
  refine ⟨?_, by decide +kernel, by decide⟩
  intro w hw
  simp only [List.mem_cons, List.not_mem_nil, or_false] at hw
  rcases hw with rfl | rfl | rfl | rfl | rfl
  · exact m650
  · exact m646
  · exact m647
  · exact m68
  · exact m648
theorem fX5_163 : FL RX5 163 0 6 RX0 TX0 7 := ⟨uX0, m123, rfl, by decide⟩
theorem fX5_164 : FL RX5 164 2 2 RX2 TX2 3 := ⟨uX2, m263, rfl, by decide⟩
theorem cvX5_167 : CV RX5 RX4 167 yX4_total cX4_total 6 (some .int) 0 := by
  refine ⟨?_, by decide +kernel, by decide⟩
  intro w hw
  simp only [List.mem_cons, List.not_mem_nil, or_false] at hw
  rcases hw with rfl | rfl | rfl | rfl | rfl
  · exact m655
  · exact m656
  · exact m657
  · exact m64
  · exact m658
theorem fX6_7 : FL RX6 7 6 0 RX6 TX6 36 := ⟨uX6, m666, rfl, by decide⟩
theorem pX6_7 : FP RX6 7 6 0 RX6 TX6 36 (.array .int) := ⟨fX6_7, ⟨tyX6, tyX6_ok⟩, nmX6, by decide +kernel⟩
theorem fX6_13 : FL RX6 13 6 1 RX6 TX6 36 := ⟨uX6, m667, rfl, by decide⟩
theorem pX6_13 : FP RX6 13 6 1 RX6 TX6 36 (.array .int) := ⟨fX6_13, ⟨tyX6, tyX6_ok⟩, nmX6, by decide +kernel⟩
theorem fX6_16 : FL RX6 16 6 2 RX6 TX6 36 := ⟨uX6, m668, rfl, by decide⟩
theorem pX6_16 : FP RX6 16 6 2 RX6 TX6 36 (.array .int) := ⟨fX6_16, ⟨tyX6, tyX6_ok⟩, nmX6, by decide +kernel⟩
theorem fX6_19 : FL RX6 19 6 4 RX6 TX6 36 := ⟨uX6, m670, rfl, by decide⟩
theorem pX6_19 : FP RX6 19 6 4 RX6 TX6 36 (.array .int) := ⟨fX6_19, ⟨tyX6, tyX6_ok⟩, nmX6, by decide +kernel⟩
theorem fX6_22 : FL RX6 22 6 5 RX6 TX6 36 := ⟨uX6, m671, rfl, by decide⟩
theorem pX6_22 : FP RX6 22 6 5 RX6 TX6 36 (.array .int) := ⟨fX6_22, ⟨tyX6, tyX6_ok⟩, nmX6, by decide +kernel⟩
theorem fX6_25 : FL RX6 25 6 6 RX6 TX6 36 := ⟨uX6, m672, rfl, by decide⟩
theorem pX6_25 : FP RX6 25 6 6 RX6 TX6 36 (.array .int) := ⟨fX6_25, ⟨tyX6, tyX6_ok⟩, nmX6, by decide +kernel⟩
theorem fX6_28 : FL RX6 28 6 7 RX6 TX6 36 := ⟨uX6, m673, rfl, by decide⟩
theorem pX6_28 : FP RX6 28 6 7 RX6 TX6 36 (.array .int) := ⟨fX6_28, ⟨tyX6, tyX6_ok⟩, nmX6, by decide +kernel⟩
theorem fX6_31 : FL RX6 31 6 8 RX6 TX6 36 := ⟨uX6, m674, rfl, by decide⟩
theorem pX6_31 : FP RX6 31 6 8 RX6 TX6 36 (.array .boolean) := ⟨fX6_31, ⟨tyX6, tyX6_ok⟩, nmX6, by decide +kernel⟩
theorem fX6_35 : FL RX6 35 6 9 RX6 TX6 36 := ⟨uX6, m675, rfl, by decide⟩
theorem pX6_35 : FP RX6 35 6 9 RX6 TX6 36 (.array .int) := ⟨fX6_35, ⟨tyX6, tyX6_ok⟩, nmX6, by decide +kernel⟩
theorem fX6_38 : FL RX6 38 6 11 RX6 TX6 36 := ⟨uX6, m677, rfl, by decide⟩
theorem pX6_38 : FP RX6 38 6 11 RX6 TX6 36 (.array .int) := ⟨fX6_38, ⟨tyX6, tyX6_ok⟩, nmX6, by decide +kernel⟩
theorem fX6_41 : FL RX6 41 6 12 RX6 TX6 36 := ⟨uX6, m678, rfl, by decide⟩
theorem pX6_41 : FP RX6 41 6 12 RX6 TX6 36 (.array .int) := ⟨fX6_41, ⟨tyX6, tyX6_ok⟩, nmX6, by decide +kernel⟩
theorem fX6_44 : FL RX6 44 6 13 RX6 TX6 36 := ⟨uX6, m679, rfl, by decide⟩
theorem pX6_44 : FP RX6 44 6 13 RX6 TX6 36 (.array .int) := ⟨fX6_44, ⟨tyX6, tyX6_ok⟩, nmX6, by decide +kernel⟩
theorem fX6_47 : FL RX6 47 6 14 RX6 TX6 36 := ⟨uX6, m680, rfl, by decide⟩
theorem pX6_47 : FP RX6 47 6 14 RX6 TX6 36 (.array .int) := ⟨fX6_47, ⟨tyX6, tyX6_ok⟩, nmX6, by decide +kernel⟩
theorem fX6_50 : FL RX6 50 6 15 RX6 TX6 36 := ⟨uX6, m681, rfl, by decide⟩
theorem pX6_50 : FP RX6 50 6 15 RX6 TX6 36 (.array .int) := ⟨fX6_50, ⟨tyX6, tyX6_ok⟩, nmX6, by decide +kernel⟩
theorem fX6_53 : FL RX6 53 6 17 RX6 TX6 36 := ⟨uX6, m683, rfl, by decide⟩
theorem pX6_53 : FP RX6 53 6 17 RX6 TX6 36 (.array .int) := ⟨fX6_53, ⟨tyX6, tyX6_ok⟩, nmX6, by decide +kernel⟩
theorem fX6_56 : FL RX6 56 6 18 RX6 TX6 36 := ⟨uX6, m684, rfl, by decide⟩
theorem pX6_56 : FP RX6 56 6 18 RX6 TX6 36 (.array .boolean) := ⟨fX6_56, ⟨tyX6, tyX6_ok⟩, nmX6, by decide +kernel⟩
theorem fX6_59 : FL RX6 59 6 19 RX6 TX6 36 := ⟨uX6, m685, rfl, by decide⟩
theorem pX6_59 : FP RX6 59 6 19 RX6 TX6 36 (.array .int) := ⟨fX6_59, ⟨tyX6, tyX6_ok⟩, nmX6, by decide +kernel⟩
theorem fX6_62 : FL RX6 62 6 20 RX6 TX6 36 := ⟨uX6, m686, rfl, by decide⟩
theorem pX6_62 : FP RX6 62 6 20 RX6 TX6 36 (.array .int) := ⟨fX6_62, ⟨tyX6, tyX6_ok⟩, nmX6, by decide +kernel⟩
theorem fX6_65 : FL RX6 65 6 25 RX6 TX6 36 := ⟨uX6, m691, rfl, by decide⟩
theorem pX6_65 : FP RX6 65 6 25 RX6 TX6 36 (.array .int) := ⟨fX6_65, ⟨tyX6, tyX6_ok⟩, nmX6, by decide +kernel⟩
theorem kX6_68 : Cond.constant RX6 68 (36000) ∈ TB := m665
theorem fX6_69 : FL RX6 69 6 26 RX6 TX6 36 := ⟨uX6, m692, rfl, by decide⟩
theorem pX6_69 : FP RX6 69 6 26 RX6 TX6 36 (.array .int) := ⟨fX6_69, ⟨tyX6, tyX6_ok⟩, nmX6, by decide +kernel⟩
theorem fX6_72 : FL RX6 72 6 27 RX6 TX6 36 := ⟨uX6, m693, rfl, by decide⟩
theorem pX6_72 : FP RX6 72 6 27 RX6 TX6 36 (.array .int) := ⟨fX6_72, ⟨tyX6, tyX6_ok⟩, nmX6, by decide +kernel⟩
theorem fX6_75 : FL RX6 75 6 28 RX6 TX6 36 := ⟨uX6, m694, rfl, by decide⟩
theorem pX6_75 : FP RX6 75 6 28 RX6 TX6 36 (.array .boolean) := ⟨fX6_75, ⟨tyX6, tyX6_ok⟩, nmX6, by decide +kernel⟩
theorem fX6_78 : FL RX6 78 6 29 RX6 TX6 36 := ⟨uX6, m695, rfl, by decide⟩
theorem pX6_78 : FP RX6 78 6 29 RX6 TX6 36 (.array .int) := ⟨fX6_78, ⟨tyX6, tyX6_ok⟩, nmX6, by decide +kernel⟩
theorem fX6_81 : FL RX6 81 6 30 RX6 TX6 36 := ⟨uX6, m696, rfl, by decide⟩
theorem pX6_81 : FP RX6 81 6 30 RX6 TX6 36 (.array .int) := ⟨fX6_81, ⟨tyX6, tyX6_ok⟩, nmX6, by decide +kernel⟩
theorem fX6_84 : FL RX6 84 6 35 RX6 TX6 36 := ⟨uX6, m701, rfl, by decide⟩
theorem pX6_84 : FP RX6 84 6 35 RX6 TX6 36 .int := ⟨fX6_84, ⟨tyX6, tyX6_ok⟩, nmX6, by decide +kernel⟩
theorem kX6_88 : Cond.constantLong RX6 88 (3) ∈ TB := m779
theorem csX6_90 : CS RX6 90 yX6_in cX6_in 6 (some .boolean) 3 := by
  refine ⟨?_, by decide +kernel, by decide⟩
  intro w hw
  simp only [List.mem_cons, List.not_mem_nil, or_false] at hw
  rcases hw with rfl | rfl | rfl | rfl
  · exact m780
  · exact m781
  · exact m69
  · exact m782
theorem kX6_94 : Cond.constantLong RX6 94 (7) ∈ TB := m791
theorem fX6_96 : FL RX6 96 6 3 RX6 TX6 36 := ⟨uX6, m669, rfl, by decide⟩
theorem pX6_96 : FP RX6 96 6 3 RX6 TX6 36 .int := ⟨fX6_96, ⟨tyX6, tyX6_ok⟩, nmX6, by decide +kernel⟩
theorem csX6_99 : CS RX6 99 yX6_hasOne cX6_hasOne 1 (some .boolean) 1 := by
  refine ⟨?_, by decide +kernel, by decide⟩
  intro w hw
  simp only [List.mem_cons, List.not_mem_nil, or_false] at hw
  rcases hw with rfl | rfl | rfl | rfl
  · exact m798
  · exact m799
  · exact m69
  · exact m800
theorem csX6_103 : CS RX6 103 yX6_hasTwo cX6_hasTwo 1 (some .boolean) 1 := by
  refine ⟨?_, by decide +kernel, by decide⟩
  intro w hw
  simp only [List.mem_cons, List.not_mem_nil, or_false] at hw
  rcases hw with rfl | rfl | rfl | rfl
  · exact m805
  · exact m806
  · exact m69
  · exact m807
theorem cvX6_106 : CV RX6 RX6 106 yX6_sizeOf cX6_sizeOf 4 (some .int) 3 := by
  refine ⟨?_, by decide +kernel, by decide⟩
  intro w hw
  simp only [List.mem_cons, List.not_mem_nil, or_false] at hw
  rcases hw with rfl | rfl | rfl | rfl | rfl
  · exact m808
  · exact m810
  · exact m34
  · exact m69
  · exact m811
theorem kX6_110 : Cond.constantLong RX6 110 (11) ∈ TB := m796
theorem kX6_112 : Cond.constantLong RX6 112 (5) ∈ TB := m797
theorem cvX6_114 : CV RX6 RX6 114 yX6_isFormula cX6_isFormula 2 (some .boolean) 1 := by
  refine ⟨?_, by decide +kernel, by decide⟩
  intro w hw
  simp only [List.mem_cons, List.not_mem_nil, or_false] at hw
  rcases hw with rfl | rfl | rfl | rfl | rfl
  · exact m801
  · exact m803
  · exact m33
  · exact m69
  · exact m804
theorem cvX6_117 : CV RX6 RX6 117 yX6_tell cX6_tell 5 (some .int) 3 := by
  refine ⟨?_, by decide +kernel, by decide⟩
  intro w hw
  simp only [List.mem_cons, List.not_mem_nil, or_false] at hw
  rcases hw with rfl | rfl | rfl | rfl | rfl
  · exact m812
  · exact m814
  · exact m35
  · exact m69
  · exact m815
theorem fX6_120 : FL RX6 120 6 10 RX6 TX6 36 := ⟨uX6, m676, rfl, by decide⟩
theorem pX6_120 : FP RX6 120 6 10 RX6 TX6 36 .int := ⟨fX6_120, ⟨tyX6, tyX6_ok⟩, nmX6, by decide +kernel⟩
theorem kX6_123 : Cond.constantLong RX6 123 (4) ∈ TB := m852
theorem kX6_125 : Cond.constantLong RX6 125 (63) ∈ TB := m839
theorem kX6_127 : Cond.constantLong RX6 127 (100) ∈ TB := m840
theorem csX6_129 : CS RX6 129 yX6_isTwo cX6_isTwo 1 (some .boolean) 1 := by
  refine ⟨?_, by decide +kernel, by decide⟩
  intro w hw
  simp only [List.mem_cons, List.not_mem_nil, or_false] at hw
  rcases hw with rfl | rfl | rfl | rfl
  · exact m829
  · exact m830
  · exact m69
  · exact m831
theorem cvX6_132 : CV RX6 RX6 132 yX6_bound cX6_bound 4 (some .int) 1 := by
  refine ⟨?_, by decide +kernel, by decide⟩
  intro w hw
  simp only [List.mem_cons, List.not_mem_nil, or_false] at hw
  rcases hw with rfl | rfl | rfl | rfl | rfl
  · exact m857
  · exact m859
  · exact m41
  · exact m69
  · exact m860
theorem cvX6_136 : CV RX6 RX6 136 yX6_put cX6_put 7 none 6 := by
  refine ⟨?_, by decide +kernel, by decide⟩
  intro w hw
  simp only [List.mem_cons, List.not_mem_nil, or_false] at hw
  rcases hw with rfl | rfl | rfl | rfl | rfl
  · exact m845
  · exact m847
  · exact m39
  · exact m69
  · exact m848
theorem csX6_140 : CS RX6 140 yX6_hasMember cX6_hasMember 1 (some .boolean) 1 := by
  refine ⟨?_, by decide +kernel, by decide⟩
  intro w hw
  simp only [List.mem_cons, List.not_mem_nil, or_false] at hw
  rcases hw with rfl | rfl | rfl | rfl
  · exact m832
  · exact m833
  · exact m69
  · exact m834
theorem csX6_143 : CS RX6 143 yX6_hasNumber cX6_hasNumber 1 (some .boolean) 1 := by
  refine ⟨?_, by decide +kernel, by decide⟩
  intro w hw
  simp only [List.mem_cons, List.not_mem_nil, or_false] at hw
  rcases hw with rfl | rfl | rfl | rfl
  · exact m849
  · exact m850
  · exact m69
  · exact m851
theorem kX6_146 : Cond.constantLong RX6 146 (8) ∈ TB := m824
theorem cvX6_148 : CV RX6 RX6 148 yX6_isNode cX6_isNode 2 (some .boolean) 1 := by
  refine ⟨?_, by decide +kernel, by decide⟩
  intro w hw
  simp only [List.mem_cons, List.not_mem_nil, or_false] at hw
  rcases hw with rfl | rfl | rfl | rfl | rfl
  · exact m825
  · exact m827
  · exact m36
  · exact m69
  · exact m828
theorem cvX6_151 : CV RX6 RX6 151 yX6_isRight cX6_isRight 4 (some .boolean) 3 := by
  refine ⟨?_, by decide +kernel, by decide⟩
  intro w hw
  simp only [List.mem_cons, List.not_mem_nil, or_false] at hw
  rcases hw with rfl | rfl | rfl | rfl | rfl
  · exact m835
  · exact m837
  · exact m37
  · exact m69
  · exact m838
theorem cvX6_155 : CV RX6 RX6 155 yX6_lay cX6_lay 7 (some .int) 5 := by
  refine ⟨?_, by decide +kernel, by decide⟩
  intro w hw
  simp only [List.mem_cons, List.not_mem_nil, or_false] at hw
  rcases hw with rfl | rfl | rfl | rfl | rfl
  · exact m841
  · exact m843
  · exact m38
  · exact m69
  · exact m844
theorem cvX6_159 : CV RX6 RX6 159 yX6_look cX6_look 5 none 0 := by
  refine ⟨?_, by decide +kernel, by decide⟩
  intro w hw
  simp only [List.mem_cons, List.not_mem_nil, or_false] at hw
  rcases hw with rfl | rfl | rfl | rfl | rfl
  · exact m853
  · exact m855
  · exact m40
  · exact m69
  · exact m856
theorem kX6_162 : Cond.constantLong RX6 162 (6) ∈ TB := m865
theorem fX6_164 : FL RX6 164 6 21 RX6 TX6 36 := ⟨uX6, m687, rfl, by decide⟩
theorem pX6_164 : FP RX6 164 6 21 RX6 TX6 36 .int := ⟨fX6_164, ⟨tyX6, tyX6_ok⟩, nmX6, by decide +kernel⟩
theorem fX6_167 : FL RX6 167 6 24 RX6 TX6 36 := ⟨uX6, m690, rfl, by decide⟩
theorem pX6_167 : FP RX6 167 6 24 RX6 TX6 36 .int := ⟨fX6_167, ⟨tyX6, tyX6_ok⟩, nmX6, by decide +kernel⟩
theorem cvX6_170 : CV RX6 RX6 170 yX6_begins cX6_begins 2 none 1 := by
  refine ⟨?_, by decide +kernel, by decide⟩
  intro w hw
  simp only [List.mem_cons, List.not_mem_nil, or_false] at hw
  rcases hw with rfl | rfl | rfl | rfl | rfl
  · exact m885
  · exact m887
  · exact m45
  · exact m69
  · exact m888
theorem fX6_174 : FL RX6 174 6 22 RX6 TX6 36 := ⟨uX6, m688, rfl, by decide⟩
theorem pX6_174 : FP RX6 174 6 22 RX6 TX6 36 .int := ⟨fX6_174, ⟨tyX6, tyX6_ok⟩, nmX6, by decide +kernel⟩
theorem cvX6_177 : CV RX6 RX6 177 yX6_gives cX6_gives 2 none 1 := by
  refine ⟨?_, by decide +kernel, by decide⟩
  intro w hw
  simp only [List.mem_cons, List.not_mem_nil, or_false] at hw
  rcases hw with rfl | rfl | rfl | rfl | rfl
  · exact m893
  · exact m895
  · exact m47
  · exact m69
  · exact m896
theorem cvX6_180 : CV RX6 RX6 180 yX6_asks cX6_asks 2 none 1 := by
  refine ⟨?_, by decide +kernel, by decide⟩
  intro w hw
  simp only [List.mem_cons, List.not_mem_nil, or_false] at hw
  rcases hw with rfl | rfl | rfl | rfl | rfl
  · exact m897
  · exact m899
  · exact m48
  · exact m69
  · exact m900
theorem cvX6_183 : CV RX6 RX6 183 yX6_single cX6_single 2 none 1 := by
  refine ⟨?_, by decide +kernel, by decide⟩
  intro w hw
  simp only [List.mem_cons, List.not_mem_nil, or_false] at hw
  rcases hw with rfl | rfl | rfl | rfl | rfl
  · exact m901
  · exact m903
  · exact m49
  · exact m69
  · exact m904
theorem cvX6_186 : CV RX6 RX6 186 yX6_both cX6_both 4 none 3 := by
  refine ⟨?_, by decide +kernel, by decide⟩
  intro w hw
  simp only [List.mem_cons, List.not_mem_nil, or_false] at hw
  rcases hw with rfl | rfl | rfl | rfl | rfl
  · exact m905
  · exact m907
  · exact m50
  · exact m69
  · exact m908
theorem fX6_190 : FL RX6 190 6 23 RX6 TX6 36 := ⟨uX6, m689, rfl, by decide⟩
theorem pX6_190 : FP RX6 190 6 23 RX6 TX6 36 .int := ⟨fX6_190, ⟨tyX6, tyX6_ok⟩, nmX6, by decide +kernel⟩
theorem cvX6_193 : CV RX6 RX6 193 yX6_goesOn cX6_goesOn 5 none 1 := by
  refine ⟨?_, by decide +kernel, by decide⟩
  intro w hw
  simp only [List.mem_cons, List.not_mem_nil, or_false] at hw
  rcases hw with rfl | rfl | rfl | rfl | rfl
  · exact m889
  · exact m891
  · exact m46
  · exact m69
  · exact m892
theorem csX6_196 : CS RX6 196 yX6_place cX6_place 2 (some .int) 2 := by
  refine ⟨?_, by decide +kernel, by decide⟩
  intro w hw
  simp only [List.mem_cons, List.not_mem_nil, or_false] at hw
  rcases hw with rfl | rfl | rfl | rfl
  · exact m874
  · exact m875
  · exact m69
  · exact m876
theorem cvX6_200 : CV RX6 RX6 200 yX6_copy cX6_copy 4 (some .int) 2 := by
  refine ⟨?_, by decide +kernel, by decide⟩
  intro w hw
  simp only [List.mem_cons, List.not_mem_nil, or_false] at hw
  rcases hw with rfl | rfl | rfl | rfl | rfl
  · exact m913
  · exact m915
  · exact m52
  · exact m69
  · exact m916
theorem cvX6_203 : CV RX6 RX6 203 yX6_takes cX6_takes 5 none 3 := by
  refine ⟨?_, by decide +kernel, by decide⟩
  intro w hw
  simp only [List.mem_cons, List.not_mem_nil, or_false] at hw
  rcases hw with rfl | rfl | rfl | rfl | rfl
  · exact m877
  · exact m879
  · exact m43
  · exact m69
  · exact m880
theorem cvX6_206 : CV RX6 RX6 206 yX6_add cX6_add 4 none 2 := by
  refine ⟨?_, by decide +kernel, by decide⟩
  intro w hw
  simp only [List.mem_cons, List.not_mem_nil, or_false] at hw
  rcases hw with rfl | rfl | rfl | rfl | rfl
  · exact m909
  · exact m911
  · exact m51
  · exact m69
  · exact m912
theorem cvX6_210 : CV RX6 RX6 210 yX6_work cX6_work 3 none 2 := by
  refine ⟨?_, by decide +kernel, by decide⟩
  intro w hw
  simp only [List.mem_cons, List.not_mem_nil, or_false] at hw
  rcases hw with rfl | rfl | rfl | rfl | rfl
  · exact m881
  · exact m883
  · exact m44
  · exact m69
  · exact m884
theorem cvX6_213 : CV RX6 RX6 213 yX6_joins cX6_joins 8 none 2 := by
  refine ⟨?_, by decide +kernel, by decide⟩
  intro w hw
  simp only [List.mem_cons, List.not_mem_nil, or_false] at hw
  rcases hw with rfl | rfl | rfl | rfl | rfl
  · exact m917
  · exact m919
  · exact m53
  · exact m69
  · exact m920
theorem cvX6_216 : CV RX6 RX6 216 yX6_folds cX6_folds 6 none 2 := by
  refine ⟨?_, by decide +kernel, by decide⟩
  intro w hw
  simp only [List.mem_cons, List.not_mem_nil, or_false] at hw
  rcases hw with rfl | rfl | rfl | rfl | rfl
  · exact m921
  · exact m923
  · exact m54
  · exact m69
  · exact m924
theorem cvX6_219 : CV RX6 RX6 219 yX6_has cX6_has 6 (some .boolean) 2 := by
  refine ⟨?_, by decide +kernel, by decide⟩
  intro w hw
  simp only [List.mem_cons, List.not_mem_nil, or_false] at hw
  rcases hw with rfl | rfl | rfl | rfl | rfl
  · exact m925
  · exact m927
  · exact m55
  · exact m69
  · exact m928
theorem cvX6_223 : CV RX6 RX6 223 yX6_does cX6_does 5 none 1 := by
  refine ⟨?_, by decide +kernel, by decide⟩
  intro w hw
  simp only [List.mem_cons, List.not_mem_nil, or_false] at hw
  rcases hw with rfl | rfl | rfl | rfl | rfl
  · exact m870
  · exact m872
  · exact m42
  · exact m69
  · exact m873
theorem fX6_226 : FL RX6 226 6 32 RX6 TX6 36 := ⟨uX6, m698, rfl, by decide⟩
theorem pX6_226 : FP RX6 226 6 32 RX6 TX6 36 .int := ⟨fX6_226, ⟨tyX6, tyX6_ok⟩, nmX6, by decide +kernel⟩
theorem fX6_229 : FL RX6 229 6 33 RX6 TX6 36 := ⟨uX6, m699, rfl, by decide⟩
theorem pX6_229 : FP RX6 229 6 33 RX6 TX6 36 .int := ⟨fX6_229, ⟨tyX6, tyX6_ok⟩, nmX6, by decide +kernel⟩
theorem fX6_232 : FL RX6 232 6 34 RX6 TX6 36 := ⟨uX6, m700, rfl, by decide⟩
theorem pX6_232 : FP RX6 232 6 34 RX6 TX6 36 .int := ⟨fX6_232, ⟨tyX6, tyX6_ok⟩, nmX6, by decide +kernel⟩
theorem fX6_235 : FL RX6 235 6 31 RX6 TX6 36 := ⟨uX6, m697, rfl, by decide⟩
theorem pX6_235 : FP RX6 235 6 31 RX6 TX6 36 .int := ⟨fX6_235, ⟨tyX6, tyX6_ok⟩, nmX6, by decide +kernel⟩
theorem csX6_238 : CS RX6 238 yX6_isOf cX6_isOf 2 (some .boolean) 2 := by
  refine ⟨?_, by decide +kernel, by decide⟩
  intro w hw
  simp only [List.mem_cons, List.not_mem_nil, or_false] at hw
  rcases hw with rfl | rfl | rfl | rfl
  · exact m946
  · exact m947
  · exact m69
  · exact m948
theorem cvX6_241 : CV RX6 RX6 241 yX6_isFold cX6_isFold 4 (some .boolean) 3 := by
  refine ⟨?_, by decide +kernel, by decide⟩
  intro w hw
  simp only [List.mem_cons, List.not_mem_nil, or_false] at hw
  rcases hw with rfl | rfl | rfl | rfl | rfl
  · exact m949
  · exact m951
  · exact m57
  · exact m69
  · exact m952
theorem kX6_244 : Cond.constantLong RX6 244 (17) ∈ TB := m941
theorem cvX6_246 : CV RX6 RX6 246 yX6_stands cX6_stands 9 (some .boolean) 2 := by
  refine ⟨?_, by decide +kernel, by decide⟩
  intro w hw
  simp only [List.mem_cons, List.not_mem_nil, or_false] at hw
  rcases hw with rfl | rfl | rfl | rfl | rfl
  · exact m942
  · exact m944
  · exact m56
  · exact m69
  · exact m945
theorem kX6_249 : Cond.constantLong RX6 249 (10) ∈ TB := m964
theorem kX6_251 : Cond.constantLong RX6 251 (13) ∈ TB := m965
theorem kX6_253 : Cond.constantLong RX6 253 (15) ∈ TB := m966
theorem csX6_255 : CS RX6 255 yX6_news cX6_news 1 (some .int) 1 := by
  refine ⟨?_, by decide +kernel, by decide⟩
  intro w hw
  simp only [List.mem_cons, List.not_mem_nil, or_false] at hw
  rcases hw with rfl | rfl | rfl | rfl
  · exact m961
  · exact m962
  · exact m69
  · exact m963
theorem fX6_258 : FL RX6 258 6 16 RX6 TX6 36 := ⟨uX6, m682, rfl, by decide⟩
theorem pX6_258 : FP RX6 258 6 16 RX6 TX6 36 .int := ⟨fX6_258, ⟨tyX6, tyX6_ok⟩, nmX6, by decide +kernel⟩
theorem cvX6_261 : CV RX6 RX6 261 yX6_hasRoom cX6_hasRoom 4 (some .boolean) 2 := by
  refine ⟨?_, by decide +kernel, by decide⟩
  intro w hw
  simp only [List.mem_cons, List.not_mem_nil, or_false] at hw
  rcases hw with rfl | rfl | rfl | rfl | rfl
  · exact m957
  · exact m959
  · exact m58
  · exact m69
  · exact m960
theorem cvX6_264 : CV RX6 RX6 264 yX6_rewrites cX6_rewrites 11 none 2 := by
  refine ⟨?_, by decide +kernel, by decide⟩
  intro w hw
  simp only [List.mem_cons, List.not_mem_nil, or_false] at hw
  rcases hw with rfl | rfl | rfl | rfl | rfl
  · exact m967
  · exact m969
  · exact m59
  · exact m69
  · exact m970
theorem cvX6_267 : CV RX6 RX6 267 yX6_below cX6_below 7 (some .long) 1 := by
  refine ⟨?_, by decide +kernel, by decide⟩
  intro w hw
  simp only [List.mem_cons, List.not_mem_nil, or_false] at hw
  rcases hw with rfl | rfl | rfl | rfl | rfl
  · exact m975
  · exact m977
  · exact m60
  · exact m69
  · exact m978
theorem cvX6_271 : CV RX6 RX6 271 yX6_ruleFor cX6_ruleFor 3 (some .int) 1 := by
  refine ⟨?_, by decide +kernel, by decide⟩
  intro w hw
  simp only [List.mem_cons, List.not_mem_nil, or_false] at hw
  rcases hw with rfl | rfl | rfl | rfl | rfl
  · exact m979
  · exact m981
  · exact m61
  · exact m69
  · exact m982
theorem mn_s : Cond.static Lib.Math.min.name ∈ TB := m404
theorem mn_i : Cond.initialized "java/lang/Math" ∈ TB := m70
theorem mn_c : Cond.code Lib.Math.min.name Lib.Math.min.code 2 (some .int) ∈ TB := m405
theorem ac_n : Cond.native arraycopyName ∈ TB := m480
theorem ac_s : Cond.static arraycopyName ∈ TB := m479
theorem ac_i : Cond.initialized "java/lang/System" ∈ TB := m72
end
section
/-- one place of one array -/
def ug (G : Nat → Nat → Int32) (p i : Nat) (x : Int32) : Nat → Nat → Int32 := va_up G p (upd (G p) i x)
def WC (k : Kt) (ad : Nat → Nat) (G : Nat → Nat → Int32) (V : Nat → Int32) (n : Nat) : va_W := [
  (ad 0, .inr (5, [.ref (ad 1), .ref (ad 5), .ref (ad 12), .ref (ad 23), .ref (ad 27)])),
  (ad 1, .inr (4, [.ref (ad 2), .ref (ad 3), .ref (ad 4)])),
  (ad 2, .inl (k.2.1, 72, .inl (G 2))),
  (ad 3, .inl (k.2.1, 4, .inl (G 3))),
  (ad 4, .inl (k.2.1, 8, .inl (G 4))),
  (ad 5, .inr (0, [.ref (ad 6), .ref (ad 7), .ref (ad 8), .ref (ad 9), .ref (ad 10), .ref (ad 11), .int (V 0)])),
  (ad 6, .inl (k.2.1, 40, .inl (G 6))),
  (ad 7, .inl (k.2.1, 40, .inl (G 7))),
  (ad 8, .inl (k.2.1, 40, .inl (G 8))),
  (ad 9, .inl (k.2.1, 40, .inl (G 9))),
  (ad 10, .inl (k.2.1, 40, .inl (G 10))),
  (ad 11, .inl (k.2.2, 40, .inl (G 11))),
  (ad 12, .inr (1, [.ref (ad 5), .ref (ad 13), .ref (ad 14), .ref (ad 15), .ref (ad 16), .ref (ad 17), .ref (ad 18), .ref (ad 19), .int (V 1), .ref (ad 20), .ref (ad 21), .ref (ad 22)])),
  (ad 13, .inl (k.2.1, 60, .inl (G 13))),
  (ad 14, .inl (k.2.1, 60, .inl (G 14))),
  (ad 15, .inl (k.2.1, 60, .inl (G 15))),
  (ad 16, .inl (k.2.1, 60, .inl (G 16))),
  (ad 17, .inl (k.2.1, 60, .inl (G 17))),
  (ad 18, .inl (k.2.1, 60, .inl (G 18))),
  (ad 19, .inl (k.2.2, 60, .inl (G 19))),
  (ad 20, .inl (k.2.1, 60, .inl (G 20))),
  (ad 21, .inl (k.2.1, 60, .inl (G 21))),
  (ad 22, .inl (k.2.1, 60, .inl (G 22))),
  (ad 23, .inr (3, [.ref (ad 1), .ref (ad 5), .ref (ad 12), .ref (ad 24), .int (V 2), .ref (ad 25), .ref (ad 26), .int (V 3), .int (V 4), .int (V 5), .int (V 6), .int (V 7), .int (V 8)])),
  (ad 24, .inl (k.2.1, n, .inl (G 24))),
  (ad 25, .inl (k.2.1, 60, .inl (G 25))),
  (ad 26, .inl (k.2.1, 60, .inl (G 26))),
  (ad 27, .inr (2, [.ref (ad 5), .ref (ad 12), .int (V 9)]))]
theorem wc_0 {k : Kt} {ad : Nat → Nat} {G : Nat → Nat → Int32} {V : Nat → Int32} {n : Nat} : (WC k ad G V n)[0]? = some (ad 0, .inr (5, [.ref (ad 1), .ref (ad 5), .ref (ad 12), .ref (ad 23), .ref (ad 27)])) := rfl
theorem wc_1 {k : Kt} {ad : Nat → Nat} {G : Nat → Nat → Int32} {V : Nat → Int32} {n : Nat} : (WC k ad G V n)[1]? = some (ad 1, .inr (4, [.ref (ad 2), .ref (ad 3), .ref (ad 4)])) := rfl
theorem wc_2 {k : Kt} {ad : Nat → Nat} {G : Nat → Nat → Int32} {V : Nat → Int32} {n : Nat} : (WC k ad G V n)[2]? = some (ad 2, .inl (k.2.1, 72, .inl (G 2))) := rfl
theorem wcs_2 {k : Kt} {ad : Nat → Nat} {G : Nat → Nat → Int32} {V : Nat → Int32} {n : Nat} {f : Nat → Int32} : (WC k ad G V n).set 2 (ad 2, .inl (k.2.1, 72, .inl f)) = WC k ad (va_up G 2 f) V n := rfl
theorem wcu_2 {k : Kt} {ad : Nat → Nat} {G : Nat → Nat → Int32} {V : Nat → Int32} {n : Nat} {i : Nat} {x : Int32} : (WC k ad G V n).set 2 (ad 2, .inl (k.2.1, 72, .inl (upd (G 2) i x))) = WC k ad (ug G 2 i x) V n := rfl
theorem wc_3 {k : Kt} {ad : Nat → Nat} {G : Nat → Nat → Int32} {V : Nat → Int32} {n : Nat} : (WC k ad G V n)[3]? = some (ad 3, .inl (k.2.1, 4, .inl (G 3))) := rfl
theorem wcs_3 {k : Kt} {ad : Nat → Nat} {G : Nat → Nat → Int32} {V : Nat → Int32} {n : Nat} {f : Nat → Int32} : (WC k ad G V n).set 3 (ad 3, .inl (k.2.1, 4, .inl f)) = WC k ad (va_up G 3 f) V n := rfl
theorem wcu_3 {k : Kt} {ad : Nat → Nat} {G : Nat → Nat → Int32} {V : Nat → Int32} {n : Nat} {i : Nat} {x : Int32} : (WC k ad G V n).set 3 (ad 3, .inl (k.2.1, 4, .inl (upd (G 3) i x))) = WC k ad (ug G 3 i x) V n := rfl
theorem wc_4 {k : Kt} {ad : Nat → Nat} {G : Nat → Nat → Int32} {V : Nat → Int32} {n : Nat} : (WC k ad G V n)[4]? = some (ad 4, .inl (k.2.1, 8, .inl (G 4))) := rfl
theorem wcs_4 {k : Kt} {ad : Nat → Nat} {G : Nat → Nat → Int32} {V : Nat → Int32} {n : Nat} {f : Nat → Int32} : (WC k ad G V n).set 4 (ad 4, .inl (k.2.1, 8, .inl f)) = WC k ad (va_up G 4 f) V n := rfl
theorem wcu_4 {k : Kt} {ad : Nat → Nat} {G : Nat → Nat → Int32} {V : Nat → Int32} {n : Nat} {i : Nat} {x : Int32} : (WC k ad G V n).set 4 (ad 4, .inl (k.2.1, 8, .inl (upd (G 4) i x))) = WC k ad (ug G 4 i x) V n := rfl
theorem wc_5 {k : Kt} {ad : Nat → Nat} {G : Nat → Nat → Int32} {V : Nat → Int32} {n : Nat} : (WC k ad G V n)[5]? = some (ad 5, .inr (0, [.ref (ad 6), .ref (ad 7), .ref (ad 8), .ref (ad 9), .ref (ad 10), .ref (ad 11), .int (V 0)])) := rfl
theorem wcv_0 {k : Kt} {ad : Nat → Nat} {G : Nat → Nat → Int32} {V : Nat → Int32} {n : Nat} {x : Int32} : (WC k ad G V n).set 5 (ad 5, .inr (0, [.ref (ad 6), .ref (ad 7), .ref (ad 8), .ref (ad 9), .ref (ad 10), .ref (ad 11), .int x])) = WC k ad G (upd V 0 x) n := rfl
theorem wc_6 {k : Kt} {ad : Nat → Nat} {G : Nat → Nat → Int32} {V : Nat → Int32} {n : Nat} : (WC k ad G V n)[6]? = some (ad 6, .inl (k.2.1, 40, .inl (G 6))) := rfl
theorem wcs_6 {k : Kt} {ad : Nat → Nat} {G : Nat → Nat → Int32} {V : Nat → Int32} {n : Nat} {f : Nat → Int32} : (WC k ad G V n).set 6 (ad 6, .inl (k.2.1, 40, .inl f)) = WC k ad (va_up G 6 f) V n := rfl
theorem wcu_6 {k : Kt} {ad : Nat → Nat} {G : Nat → Nat → Int32} {V : Nat → Int32} {n : Nat} {i : Nat} {x : Int32} : (WC k ad G V n).set 6 (ad 6, .inl (k.2.1, 40, .inl (upd (G 6) i x))) = WC k ad (ug G 6 i x) V n := rfl
theorem wc_7 {k : Kt} {ad : Nat → Nat} {G : Nat → Nat → Int32} {V : Nat → Int32} {n : Nat} : (WC k ad G V n)[7]? = some (ad 7, .inl (k.2.1, 40, .inl (G 7))) := rfl
theorem wcs_7 {k : Kt} {ad : Nat → Nat} {G : Nat → Nat → Int32} {V : Nat → Int32} {n : Nat} {f : Nat → Int32} : (WC k ad G V n).set 7 (ad 7, .inl (k.2.1, 40, .inl f)) = WC k ad (va_up G 7 f) V n := rfl
theorem wcu_7 {k : Kt} {ad : Nat → Nat} {G : Nat → Nat → Int32} {V : Nat → Int32} {n : Nat} {i : Nat} {x : Int32} : (WC k ad G V n).set 7 (ad 7, .inl (k.2.1, 40, .inl (upd (G 7) i x))) = WC k ad (ug G 7 i x) V n := rfl
theorem wc_8 {k : Kt} {ad : Nat → Nat} {G : Nat → Nat → Int32} {V : Nat → Int32} {n : Nat} : (WC k ad G V n)[8]? = some (ad 8, .inl (k.2.1, 40, .inl (G 8))) := rfl
theorem wcs_8 {k : Kt} {ad : Nat → Nat} {G : Nat → Nat → Int32} {V : Nat → Int32} {n : Nat} {f : Nat → Int32} : (WC k ad G V n).set 8 (ad 8, .inl (k.2.1, 40, .inl f)) = WC k ad (va_up G 8 f) V n := rfl
theorem wcu_8 {k : Kt} {ad : Nat → Nat} {G : Nat → Nat → Int32} {V : Nat → Int32} {n : Nat} {i : Nat} {x : Int32} : (WC k ad G V n).set 8 (ad 8, .inl (k.2.1, 40, .inl (upd (G 8) i x))) = WC k ad (ug G 8 i x) V n := rfl
theorem wc_9 {k : Kt} {ad : Nat → Nat} {G : Nat → Nat → Int32} {V : Nat → Int32} {n : Nat} : (WC k ad G V n)[9]? = some (ad 9, .inl (k.2.1, 40, .inl (G 9))) := rfl
theorem wcs_9 {k : Kt} {ad : Nat → Nat} {G : Nat → Nat → Int32} {V : Nat → Int32} {n : Nat} {f : Nat → Int32} : (WC k ad G V n).set 9 (ad 9, .inl (k.2.1, 40, .inl f)) = WC k ad (va_up G 9 f) V n := rfl
theorem wcu_9 {k : Kt} {ad : Nat → Nat} {G : Nat → Nat → Int32} {V : Nat → Int32} {n : Nat} {i : Nat} {x : Int32} : (WC k ad G V n).set 9 (ad 9, .inl (k.2.1, 40, .inl (upd (G 9) i x))) = WC k ad (ug G 9 i x) V n := rfl
theorem wc_10 {k : Kt} {ad : Nat → Nat} {G : Nat → Nat → Int32} {V : Nat → Int32} {n : Nat} : (WC k ad G V n)[10]? = some (ad 10, .inl (k.2.1, 40, .inl (G 10))) := rfl
theorem wcs_10 {k : Kt} {ad : Nat → Nat} {G : Nat → Nat → Int32} {V : Nat → Int32} {n : Nat} {f : Nat → Int32} : (WC k ad G V n).set 10 (ad 10, .inl (k.2.1, 40, .inl f)) = WC k ad (va_up G 10 f) V n := rfl
theorem wcu_10 {k : Kt} {ad : Nat → Nat} {G : Nat → Nat → Int32} {V : Nat → Int32} {n : Nat} {i : Nat} {x : Int32} : (WC k ad G V n).set 10 (ad 10, .inl (k.2.1, 40, .inl (upd (G 10) i x))) = WC k ad (ug G 10 i x) V n := rfl
theorem wc_11 {k : Kt} {ad : Nat → Nat} {G : Nat → Nat → Int32} {V : Nat → Int32} {n : Nat} : (WC k ad G V n)[11]? = some (ad 11, .inl (k.2.2, 40, .inl (G 11))) := rfl
theorem wcs_11 {k : Kt} {ad : Nat → Nat} {G : Nat → Nat → Int32} {V : Nat → Int32} {n : Nat} {f : Nat → Int32} : (WC k ad G V n).set 11 (ad 11, .inl (k.2.2, 40, .inl f)) = WC k ad (va_up G 11 f) V n := rfl
theorem wcu_11 {k : Kt} {ad : Nat → Nat} {G : Nat → Nat → Int32} {V : Nat → Int32} {n : Nat} {i : Nat} {x : Int32} : (WC k ad G V n).set 11 (ad 11, .inl (k.2.2, 40, .inl (upd (G 11) i x))) = WC k ad (ug G 11 i x) V n := rfl
theorem wc_12 {k : Kt} {ad : Nat → Nat} {G : Nat → Nat → Int32} {V : Nat → Int32} {n : Nat} : (WC k ad G V n)[12]? = some (ad 12, .inr (1, [.ref (ad 5), .ref (ad 13), .ref (ad 14), .ref (ad 15), .ref (ad 16), .ref (ad 17), .ref (ad 18), .ref (ad 19), .int (V 1), .ref (ad 20), .ref (ad 21), .ref (ad 22)])) := rfl
theorem wcv_1 {k : Kt} {ad : Nat → Nat} {G : Nat → Nat → Int32} {V : Nat → Int32} {n : Nat} {x : Int32} : (WC k ad G V n).set 12 (ad 12, .inr (1, [.ref (ad 5), .ref (ad 13), .ref (ad 14), .ref (ad 15), .ref (ad 16), .ref (ad 17), .ref (ad 18), .ref (ad 19), .int x, .ref (ad 20), .ref (ad 21), .ref (ad 22)])) = WC k ad G (upd V 1 x) n := rfl
theorem wc_13 {k : Kt} {ad : Nat → Nat} {G : Nat → Nat → Int32} {V : Nat → Int32} {n : Nat} : (WC k ad G V n)[13]? = some (ad 13, .inl (k.2.1, 60, .inl (G 13))) := rfl
theorem wcs_13 {k : Kt} {ad : Nat → Nat} {G : Nat → Nat → Int32} {V : Nat → Int32} {n : Nat} {f : Nat → Int32} : (WC k ad G V n).set 13 (ad 13, .inl (k.2.1, 60, .inl f)) = WC k ad (va_up G 13 f) V n := rfl
theorem wcu_13 {k : Kt} {ad : Nat → Nat} {G : Nat → Nat → Int32} {V : Nat → Int32} {n : Nat} {i : Nat} {x : Int32} : (WC k ad G V n).set 13 (ad 13, .inl (k.2.1, 60, .inl (upd (G 13) i x))) = WC k ad (ug G 13 i x) V n := rfl
theorem wc_14 {k : Kt} {ad : Nat → Nat} {G : Nat → Nat → Int32} {V : Nat → Int32} {n : Nat} : (WC k ad G V n)[14]? = some (ad 14, .inl (k.2.1, 60, .inl (G 14))) := rfl
theorem wcs_14 {k : Kt} {ad : Nat → Nat} {G : Nat → Nat → Int32} {V : Nat → Int32} {n : Nat} {f : Nat → Int32} : (WC k ad G V n).set 14 (ad 14, .inl (k.2.1, 60, .inl f)) = WC k ad (va_up G 14 f) V n := rfl
theorem wcu_14 {k : Kt} {ad : Nat → Nat} {G : Nat → Nat → Int32} {V : Nat → Int32} {n : Nat} {i : Nat} {x : Int32} : (WC k ad G V n).set 14 (ad 14, .inl (k.2.1, 60, .inl (upd (G 14) i x))) = WC k ad (ug G 14 i x) V n := rfl
theorem wc_15 {k : Kt} {ad : Nat → Nat} {G : Nat → Nat → Int32} {V : Nat → Int32} {n : Nat} : (WC k ad G V n)[15]? = some (ad 15, .inl (k.2.1, 60, .inl (G 15))) := rfl
theorem wcs_15 {k : Kt} {ad : Nat → Nat} {G : Nat → Nat → Int32} {V : Nat → Int32} {n : Nat} {f : Nat → Int32} : (WC k ad G V n).set 15 (ad 15, .inl (k.2.1, 60, .inl f)) = WC k ad (va_up G 15 f) V n := rfl
theorem wcu_15 {k : Kt} {ad : Nat → Nat} {G : Nat → Nat → Int32} {V : Nat → Int32} {n : Nat} {i : Nat} {x : Int32} : (WC k ad G V n).set 15 (ad 15, .inl (k.2.1, 60, .inl (upd (G 15) i x))) = WC k ad (ug G 15 i x) V n := rfl
theorem wc_16 {k : Kt} {ad : Nat → Nat} {G : Nat → Nat → Int32} {V : Nat → Int32} {n : Nat} : (WC k ad G V n)[16]? = some (ad 16, .inl (k.2.1, 60, .inl (G 16))) := rfl
theorem wcs_16 {k : Kt} {ad : Nat → Nat} {G : Nat → Nat → Int32} {V : Nat → Int32} {n : Nat} {f : Nat → Int32} : (WC k ad G V n).set 16 (ad 16, .inl (k.2.1, 60, .inl f)) = WC k ad (va_up G 16 f) V n := rfl
theorem wcu_16 {k : Kt} {ad : Nat → Nat} {G : Nat → Nat → Int32} {V : Nat → Int32} {n : Nat} {i : Nat} {x : Int32} : (WC k ad G V n).set 16 (ad 16, .inl (k.2.1, 60, .inl (upd (G 16) i x))) = WC k ad (ug G 16 i x) V n := rfl
theorem wc_17 {k : Kt} {ad : Nat → Nat} {G : Nat → Nat → Int32} {V : Nat → Int32} {n : Nat} : (WC k ad G V n)[17]? = some (ad 17, .inl (k.2.1, 60, .inl (G 17))) := rfl
theorem wcs_17 {k : Kt} {ad : Nat → Nat} {G : Nat → Nat → Int32} {V : Nat → Int32} {n : Nat} {f : Nat → Int32} : (WC k ad G V n).set 17 (ad 17, .inl (k.2.1, 60, .inl f)) = WC k ad (va_up G 17 f) V n := rfl
theorem wcu_17 {k : Kt} {ad : Nat → Nat} {G : Nat → Nat → Int32} {V : Nat → Int32} {n : Nat} {i : Nat} {x : Int32} : (WC k ad G V n).set 17 (ad 17, .inl (k.2.1, 60, .inl (upd (G 17) i x))) = WC k ad (ug G 17 i x) V n := rfl
theorem wc_18 {k : Kt} {ad : Nat → Nat} {G : Nat → Nat → Int32} {V : Nat → Int32} {n : Nat} : (WC k ad G V n)[18]? = some (ad 18, .inl (k.2.1, 60, .inl (G 18))) := rfl
theorem wcs_18 {k : Kt} {ad : Nat → Nat} {G : Nat → Nat → Int32} {V : Nat → Int32} {n : Nat} {f : Nat → Int32} : (WC k ad G V n).set 18 (ad 18, .inl (k.2.1, 60, .inl f)) = WC k ad (va_up G 18 f) V n := rfl
theorem wcu_18 {k : Kt} {ad : Nat → Nat} {G : Nat → Nat → Int32} {V : Nat → Int32} {n : Nat} {i : Nat} {x : Int32} : (WC k ad G V n).set 18 (ad 18, .inl (k.2.1, 60, .inl (upd (G 18) i x))) = WC k ad (ug G 18 i x) V n := rfl
theorem wc_19 {k : Kt} {ad : Nat → Nat} {G : Nat → Nat → Int32} {V : Nat → Int32} {n : Nat} : (WC k ad G V n)[19]? = some (ad 19, .inl (k.2.2, 60, .inl (G 19))) := rfl
theorem wcs_19 {k : Kt} {ad : Nat → Nat} {G : Nat → Nat → Int32} {V : Nat → Int32} {n : Nat} {f : Nat → Int32} : (WC k ad G V n).set 19 (ad 19, .inl (k.2.2, 60, .inl f)) = WC k ad (va_up G 19 f) V n := rfl
theorem wcu_19 {k : Kt} {ad : Nat → Nat} {G : Nat → Nat → Int32} {V : Nat → Int32} {n : Nat} {i : Nat} {x : Int32} : (WC k ad G V n).set 19 (ad 19, .inl (k.2.2, 60, .inl (upd (G 19) i x))) = WC k ad (ug G 19 i x) V n := rfl
theorem wc_20 {k : Kt} {ad : Nat → Nat} {G : Nat → Nat → Int32} {V : Nat → Int32} {n : Nat} : (WC k ad G V n)[20]? = some (ad 20, .inl (k.2.1, 60, .inl (G 20))) := rfl
theorem wcs_20 {k : Kt} {ad : Nat → Nat} {G : Nat → Nat → Int32} {V : Nat → Int32} {n : Nat} {f : Nat → Int32} : (WC k ad G V n).set 20 (ad 20, .inl (k.2.1, 60, .inl f)) = WC k ad (va_up G 20 f) V n := rfl
theorem wcu_20 {k : Kt} {ad : Nat → Nat} {G : Nat → Nat → Int32} {V : Nat → Int32} {n : Nat} {i : Nat} {x : Int32} : (WC k ad G V n).set 20 (ad 20, .inl (k.2.1, 60, .inl (upd (G 20) i x))) = WC k ad (ug G 20 i x) V n := rfl
theorem wc_21 {k : Kt} {ad : Nat → Nat} {G : Nat → Nat → Int32} {V : Nat → Int32} {n : Nat} : (WC k ad G V n)[21]? = some (ad 21, .inl (k.2.1, 60, .inl (G 21))) := rfl
theorem wcs_21 {k : Kt} {ad : Nat → Nat} {G : Nat → Nat → Int32} {V : Nat → Int32} {n : Nat} {f : Nat → Int32} : (WC k ad G V n).set 21 (ad 21, .inl (k.2.1, 60, .inl f)) = WC k ad (va_up G 21 f) V n := rfl
theorem wcu_21 {k : Kt} {ad : Nat → Nat} {G : Nat → Nat → Int32} {V : Nat → Int32} {n : Nat} {i : Nat} {x : Int32} : (WC k ad G V n).set 21 (ad 21, .inl (k.2.1, 60, .inl (upd (G 21) i x))) = WC k ad (ug G 21 i x) V n := rfl
theorem wc_22 {k : Kt} {ad : Nat → Nat} {G : Nat → Nat → Int32} {V : Nat → Int32} {n : Nat} : (WC k ad G V n)[22]? = some (ad 22, .inl (k.2.1, 60, .inl (G 22))) := rfl
theorem wcs_22 {k : Kt} {ad : Nat → Nat} {G : Nat → Nat → Int32} {V : Nat → Int32} {n : Nat} {f : Nat → Int32} : (WC k ad G V n).set 22 (ad 22, .inl (k.2.1, 60, .inl f)) = WC k ad (va_up G 22 f) V n := rfl
theorem wcu_22 {k : Kt} {ad : Nat → Nat} {G : Nat → Nat → Int32} {V : Nat → Int32} {n : Nat} {i : Nat} {x : Int32} : (WC k ad G V n).set 22 (ad 22, .inl (k.2.1, 60, .inl (upd (G 22) i x))) = WC k ad (ug G 22 i x) V n := rfl
theorem wc_23 {k : Kt} {ad : Nat → Nat} {G : Nat → Nat → Int32} {V : Nat → Int32} {n : Nat} : (WC k ad G V n)[23]? = some (ad 23, .inr (3, [.ref (ad 1), .ref (ad 5), .ref (ad 12), .ref (ad 24), .int (V 2), .ref (ad 25), .ref (ad 26), .int (V 3), .int (V 4), .int (V 5), .int (V 6), .int (V 7), .int (V 8)])) := rfl
theorem wcv_2 {k : Kt} {ad : Nat → Nat} {G : Nat → Nat → Int32} {V : Nat → Int32} {n : Nat} {x : Int32} : (WC k ad G V n).set 23 (ad 23, .inr (3, [.ref (ad 1), .ref (ad 5), .ref (ad 12), .ref (ad 24), .int x, .ref (ad 25), .ref (ad 26), .int (V 3), .int (V 4), .int (V 5), .int (V 6), .int (V 7), .int (V 8)])) = WC k ad G (upd V 2 x) n := rfl
theorem wcv_3 {k : Kt} {ad : Nat → Nat} {G : Nat → Nat → Int32} {V : Nat → Int32} {n : Nat} {x : Int32} : (WC k ad G V n).set 23 (ad 23, .inr (3, [.ref (ad 1), .ref (ad 5), .ref (ad 12), .ref (ad 24), .int (V 2), .ref (ad 25), .ref (ad 26), .int x, .int (V 4), .int (V 5), .int (V 6), .int (V 7), .int (V 8)])) = WC k ad G (upd V 3 x) n := rfl
theorem wcv_4 {k : Kt} {ad : Nat → Nat} {G : Nat → Nat → Int32} {V : Nat → Int32} {n : Nat} {x : Int32} : (WC k ad G V n).set 23 (ad 23, .inr (3, [.ref (ad 1), .ref (ad 5), .ref (ad 12), .ref (ad 24), .int (V 2), .ref (ad 25), .ref (ad 26), .int (V 3), .int x, .int (V 5), .int (V 6), .int (V 7), .int (V 8)])) = WC k ad G (upd V 4 x) n := rfl
theorem wcv_5 {k : Kt} {ad : Nat → Nat} {G : Nat → Nat → Int32} {V : Nat → Int32} {n : Nat} {x : Int32} : (WC k ad G V n).set 23 (ad 23, .inr (3, [.ref (ad 1), .ref (ad 5), .ref (ad 12), .ref (ad 24), .int (V 2), .ref (ad 25), .ref (ad 26), .int (V 3), .int (V 4), .int x, .int (V 6), .int (V 7), .int (V 8)])) = WC k ad G (upd V 5 x) n := rfl
theorem wcv_6 {k : Kt} {ad : Nat → Nat} {G : Nat → Nat → Int32} {V : Nat → Int32} {n : Nat} {x : Int32} : (WC k ad G V n).set 23 (ad 23, .inr (3, [.ref (ad 1), .ref (ad 5), .ref (ad 12), .ref (ad 24), .int (V 2), .ref (ad 25), .ref (ad 26), .int (V 3), .int (V 4), .int (V 5), .int x, .int (V 7), .int (V 8)])) = WC k ad G (upd V 6 x) n := rfl
theorem wcv_7 {k : Kt} {ad : Nat → Nat} {G : Nat → Nat → Int32} {V : Nat → Int32} {n : Nat} {x : Int32} : (WC k ad G V n).set 23 (ad 23, .inr (3, [.ref (ad 1), .ref (ad 5), .ref (ad 12), .ref (ad 24), .int (V 2), .ref (ad 25), .ref (ad 26), .int (V 3), .int (V 4), .int (V 5), .int (V 6), .int x, .int (V 8)])) = WC k ad G (upd V 7 x) n := rfl
theorem wcv_8 {k : Kt} {ad : Nat → Nat} {G : Nat → Nat → Int32} {V : Nat → Int32} {n : Nat} {x : Int32} : (WC k ad G V n).set 23 (ad 23, .inr (3, [.ref (ad 1), .ref (ad 5), .ref (ad 12), .ref (ad 24), .int (V 2), .ref (ad 25), .ref (ad 26), .int (V 3), .int (V 4), .int (V 5), .int (V 6), .int (V 7), .int x])) = WC k ad G (upd V 8 x) n := rfl
theorem wc_24 {k : Kt} {ad : Nat → Nat} {G : Nat → Nat → Int32} {V : Nat → Int32} {n : Nat} : (WC k ad G V n)[24]? = some (ad 24, .inl (k.2.1, n, .inl (G 24))) := rfl
theorem wcs_24 {k : Kt} {ad : Nat → Nat} {G : Nat → Nat → Int32} {V : Nat → Int32} {n : Nat} {f : Nat → Int32} : (WC k ad G V n).set 24 (ad 24, .inl (k.2.1, n, .inl f)) = WC k ad (va_up G 24 f) V n := rfl
theorem wcu_24 {k : Kt} {ad : Nat → Nat} {G : Nat → Nat → Int32} {V : Nat → Int32} {n : Nat} {i : Nat} {x : Int32} : (WC k ad G V n).set 24 (ad 24, .inl (k.2.1, n, .inl (upd (G 24) i x))) = WC k ad (ug G 24 i x) V n := rfl
theorem wc_25 {k : Kt} {ad : Nat → Nat} {G : Nat → Nat → Int32} {V : Nat → Int32} {n : Nat} : (WC k ad G V n)[25]? = some (ad 25, .inl (k.2.1, 60, .inl (G 25))) := rfl
theorem wcs_25 {k : Kt} {ad : Nat → Nat} {G : Nat → Nat → Int32} {V : Nat → Int32} {n : Nat} {f : Nat → Int32} : (WC k ad G V n).set 25 (ad 25, .inl (k.2.1, 60, .inl f)) = WC k ad (va_up G 25 f) V n := rfl
theorem wcu_25 {k : Kt} {ad : Nat → Nat} {G : Nat → Nat → Int32} {V : Nat → Int32} {n : Nat} {i : Nat} {x : Int32} : (WC k ad G V n).set 25 (ad 25, .inl (k.2.1, 60, .inl (upd (G 25) i x))) = WC k ad (ug G 25 i x) V n := rfl
theorem wc_26 {k : Kt} {ad : Nat → Nat} {G : Nat → Nat → Int32} {V : Nat → Int32} {n : Nat} : (WC k ad G V n)[26]? = some (ad 26, .inl (k.2.1, 60, .inl (G 26))) := rfl
theorem wcs_26 {k : Kt} {ad : Nat → Nat} {G : Nat → Nat → Int32} {V : Nat → Int32} {n : Nat} {f : Nat → Int32} : (WC k ad G V n).set 26 (ad 26, .inl (k.2.1, 60, .inl f)) = WC k ad (va_up G 26 f) V n := rfl
theorem wcu_26 {k : Kt} {ad : Nat → Nat} {G : Nat → Nat → Int32} {V : Nat → Int32} {n : Nat} {i : Nat} {x : Int32} : (WC k ad G V n).set 26 (ad 26, .inl (k.2.1, 60, .inl (upd (G 26) i x))) = WC k ad (ug G 26 i x) V n := rfl
theorem wc_27 {k : Kt} {ad : Nat → Nat} {G : Nat → Nat → Int32} {V : Nat → Int32} {n : Nat} : (WC k ad G V n)[27]? = some (ad 27, .inr (2, [.ref (ad 5), .ref (ad 12), .int (V 9)])) := rfl
theorem wcv_9 {k : Kt} {ad : Nat → Nat} {G : Nat → Nat → Int32} {V : Nat → Int32} {n : Nat} {x : Int32} : (WC k ad G V n).set 27 (ad 27, .inr (2, [.ref (ad 5), .ref (ad 12), .int x])) = WC k ad G (upd V 9 x) n := rfl
def WM (k : Kt) (ad : Nat → Nat) (G : Nat → Nat → Int32) (V : Nat → Int32) : va_W := [
  (ad 0, .inr (6, [.ref (ad 1), .ref (ad 2), .ref (ad 3), .int (V 0), .ref (ad 4), .ref (ad 5), .ref (ad 6), .ref (ad 7), .ref (ad 8), .ref (ad 9), .int (V 1), .ref (ad 10), .ref (ad 11), .ref (ad 12), .ref (ad 13), .ref (ad 14), .int (V 2), .ref (ad 15), .ref (ad 16), .ref (ad 17), .ref (ad 18), .int (V 3), .int (V 4), .int (V 5), .int (V 6), .ref (ad 19), .ref (ad 20), .ref (ad 21), .ref (ad 22), .ref (ad 23), .ref (ad 24), .int (V 7), .int (V 8), .int (V 9), .int (V 10), .int (V 11)])),
  (ad 1, .inl (k.2.1, 4, .inl (G 1))),
  (ad 2, .inl (k.2.1, 72, .inl (G 2))),
  (ad 3, .inl (k.2.1, 8, .inl (G 3))),
  (ad 4, .inl (k.2.1, 40, .inl (G 4))),
  (ad 5, .inl (k.2.1, 40, .inl (G 5))),
  (ad 6, .inl (k.2.1, 40, .inl (G 6))),
  (ad 7, .inl (k.2.1, 40, .inl (G 7))),
  (ad 8, .inl (k.2.2, 40, .inl (G 8))),
  (ad 9, .inl (k.2.1, 40, .inl (G 9))),
  (ad 10, .inl (k.2.1, 60, .inl (G 10))),
  (ad 11, .inl (k.2.1, 60, .inl (G 11))),
  (ad 12, .inl (k.2.1, 60, .inl (G 12))),
  (ad 13, .inl (k.2.1, 60, .inl (G 13))),
  (ad 14, .inl (k.2.1, 60, .inl (G 14))),
  (ad 15, .inl (k.2.1, 60, .inl (G 15))),
  (ad 16, .inl (k.2.2, 60, .inl (G 16))),
  (ad 17, .inl (k.2.1, 40, .inl (G 17))),
  (ad 18, .inl (k.2.1, 40, .inl (G 18))),
  (ad 19, .inl (k.2.1, 40, .inl (G 19))),
  (ad 20, .inl (k.2.1, 36000, .inl (G 20))),
  (ad 21, .inl (k.2.1, 60, .inl (G 21))),
  (ad 22, .inl (k.2.2, 60, .inl (G 22))),
  (ad 23, .inl (k.2.1, 60, .inl (G 23))),
  (ad 24, .inl (k.2.1, 600, .inl (G 24)))]
theorem wm_0 {k : Kt} {ad : Nat → Nat} {G : Nat → Nat → Int32} {V : Nat → Int32} : (WM k ad G V)[0]? = some (ad 0, .inr (6, [.ref (ad 1), .ref (ad 2), .ref (ad 3), .int (V 0), .ref (ad 4), .ref (ad 5), .ref (ad 6), .ref (ad 7), .ref (ad 8), .ref (ad 9), .int (V 1), .ref (ad 10), .ref (ad 11), .ref (ad 12), .ref (ad 13), .ref (ad 14), .int (V 2), .ref (ad 15), .ref (ad 16), .ref (ad 17), .ref (ad 18), .int (V 3), .int (V 4), .int (V 5), .int (V 6), .ref (ad 19), .ref (ad 20), .ref (ad 21), .ref (ad 22), .ref (ad 23), .ref (ad 24), .int (V 7), .int (V 8), .int (V 9), .int (V 10), .int (V 11)])) := rfl
theorem wmv_0 {k : Kt} {ad : Nat → Nat} {G : Nat → Nat → Int32} {V : Nat → Int32} {x : Int32} : (WM k ad G V).set 0 (ad 0, .inr (6, [.ref (ad 1), .ref (ad 2), .ref (ad 3), .int x, .ref (ad 4), .ref (ad 5), .ref (ad 6), .ref (ad 7), .ref (ad 8), .ref (ad 9), .int (V 1), .ref (ad 10), .ref (ad 11), .ref (ad 12), .ref (ad 13), .ref (ad 14), .int (V 2), .ref (ad 15), .ref (ad 16), .ref (ad 17), .ref (ad 18), .int (V 3), .int (V 4), .int (V 5), .int (V 6), .ref (ad 19), .ref (ad 20), .ref (ad 21), .ref (ad 22), .ref (ad 23), .ref (ad 24), .int (V 7), .int (V 8), .int (V 9), .int (V 10), .int (V 11)])) = WM k ad G (upd V 0 x) := rfl
theorem wmv_1 {k : Kt} {ad : Nat → Nat} {G : Nat → Nat → Int32} {V : Nat → Int32} {x : Int32} : (WM k ad G V).set 0 (ad 0, .inr (6, [.ref (ad 1), .ref (ad 2), .ref (ad 3), .int (V 0), .ref (ad 4), .ref (ad 5), .ref (ad 6), .ref (ad 7), .ref (ad 8), .ref (ad 9), .int x, .ref (ad 10), .ref (ad 11), .ref (ad 12), .ref (ad 13), .ref (ad 14), .int (V 2), .ref (ad 15), .ref (ad 16), .ref (ad 17), .ref (ad 18), .int (V 3), .int (V 4), .int (V 5), .int (V 6), .ref (ad 19), .ref (ad 20), .ref (ad 21), .ref (ad 22), .ref (ad 23), .ref (ad 24), .int (V 7), .int (V 8), .int (V 9), .int (V 10), .int (V 11)])) = WM k ad G (upd V 1 x) := rfl
theorem wmv_2 {k : Kt} {ad : Nat → Nat} {G : Nat → Nat → Int32} {V : Nat → Int32} {x : Int32} : (WM k ad G V).set 0 (ad 0, .inr (6, [.ref (ad 1), .ref (ad 2), .ref (ad 3), .int (V 0), .ref (ad 4), .ref (ad 5), .ref (ad 6), .ref (ad 7), .ref (ad 8), .ref (ad 9), .int (V 1), .ref (ad 10), .ref (ad 11), .ref (ad 12), .ref (ad 13), .ref (ad 14), .int x, .ref (ad 15), .ref (ad 16), .ref (ad 17), .ref (ad 18), .int (V 3), .int (V 4), .int (V 5), .int (V 6), .ref (ad 19), .ref (ad 20), .ref (ad 21), .ref (ad 22), .ref (ad 23), .ref (ad 24), .int (V 7), .int (V 8), .int (V 9), .int (V 10), .int (V 11)])) = WM k ad G (upd V 2 x) := rfl
theorem wmv_3 {k : Kt} {ad : Nat → Nat} {G : Nat → Nat → Int32} {V : Nat → Int32} {x : Int32} : (WM k ad G V).set 0 (ad 0, .inr (6, [.ref (ad 1), .ref (ad 2), .ref (ad 3), .int (V 0), .ref (ad 4), .ref (ad 5), .ref (ad 6), .ref (ad 7), .ref (ad 8), .ref (ad 9), .int (V 1), .ref (ad 10), .ref (ad 11), .ref (ad 12), .ref (ad 13), .ref (ad 14), .int (V 2), .ref (ad 15), .ref (ad 16), .ref (ad 17), .ref (ad 18), .int x, .int (V 4), .int (V 5), .int (V 6), .ref (ad 19), .ref (ad 20), .ref (ad 21), .ref (ad 22), .ref (ad 23), .ref (ad 24), .int (V 7), .int (V 8), .int (V 9), .int (V 10), .int (V 11)])) = WM k ad G (upd V 3 x) := rfl
theorem wmv_4 {k : Kt} {ad : Nat → Nat} {G : Nat → Nat → Int32} {V : Nat → Int32} {x : Int32} : (WM k ad G V).set 0 (ad 0, .inr (6, [.ref (ad 1), .ref (ad 2), .ref (ad 3), .int (V 0), .ref (ad 4), .ref (ad 5), .ref (ad 6), .ref (ad 7), .ref (ad 8), .ref (ad 9), .int (V 1), .ref (ad 10), .ref (ad 11), .ref (ad 12), .ref (ad 13), .ref (ad 14), .int (V 2), .ref (ad 15), .ref (ad 16), .ref (ad 17), .ref (ad 18), .int (V 3), .int x, .int (V 5), .int (V 6), .ref (ad 19), .ref (ad 20), .ref (ad 21), .ref (ad 22), .ref (ad 23), .ref (ad 24), .int (V 7), .int (V 8), .int (V 9), .int (V 10), .int (V 11)])) = WM k ad G (upd V 4 x) := rfl
theorem wmv_5 {k : Kt} {ad : Nat → Nat} {G : Nat → Nat → Int32} {V : Nat → Int32} {x : Int32} : (WM k ad G V).set 0 (ad 0, .inr (6, [.ref (ad 1), .ref (ad 2), .ref (ad 3), .int (V 0), .ref (ad 4), .ref (ad 5), .ref (ad 6), .ref (ad 7), .ref (ad 8), .ref (ad 9), .int (V 1), .ref (ad 10), .ref (ad 11), .ref (ad 12), .ref (ad 13), .ref (ad 14), .int (V 2), .ref (ad 15), .ref (ad 16), .ref (ad 17), .ref (ad 18), .int (V 3), .int (V 4), .int x, .int (V 6), .ref (ad 19), .ref (ad 20), .ref (ad 21), .ref (ad 22), .ref (ad 23), .ref (ad 24), .int (V 7), .int (V 8), .int (V 9), .int (V 10), .int (V 11)])) = WM k ad G (upd V 5 x) := rfl
theorem wmv_6 {k : Kt} {ad : Nat → Nat} {G : Nat → Nat → Int32} {V : Nat → Int32} {x : Int32} : (WM k ad G V).set 0 (ad 0, .inr (6, [.ref (ad 1), .ref (ad 2), .ref (ad 3), .int (V 0), .ref (ad 4), .ref (ad 5), .ref (ad 6), .ref (ad 7), .ref (ad 8), .ref (ad 9), .int (V 1), .ref (ad 10), .ref (ad 11), .ref (ad 12), .ref (ad 13), .ref (ad 14), .int (V 2), .ref (ad 15), .ref (ad 16), .ref (ad 17), .ref (ad 18), .int (V 3), .int (V 4), .int (V 5), .int x, .ref (ad 19), .ref (ad 20), .ref (ad 21), .ref (ad 22), .ref (ad 23), .ref (ad 24), .int (V 7), .int (V 8), .int (V 9), .int (V 10), .int (V 11)])) = WM k ad G (upd V 6 x) := rfl
theorem wmv_7 {k : Kt} {ad : Nat → Nat} {G : Nat → Nat → Int32} {V : Nat → Int32} {x : Int32} : (WM k ad G V).set 0 (ad 0, .inr (6, [.ref (ad 1), .ref (ad 2), .ref (ad 3), .int (V 0), .ref (ad 4), .ref (ad 5), .ref (ad 6), .ref (ad 7), .ref (ad 8), .ref (ad 9), .int (V 1), .ref (ad 10), .ref (ad 11), .ref (ad 12), .ref (ad 13), .ref (ad 14), .int (V 2), .ref (ad 15), .ref (ad 16), .ref (ad 17), .ref (ad 18), .int (V 3), .int (V 4), .int (V 5), .int (V 6), .ref (ad 19), .ref (ad 20), .ref (ad 21), .ref (ad 22), .ref (ad 23), .ref (ad 24), .int x, .int (V 8), .int (V 9), .int (V 10), .int (V 11)])) = WM k ad G (upd V 7 x) := rfl
theorem wmv_8 {k : Kt} {ad : Nat → Nat} {G : Nat → Nat → Int32} {V : Nat → Int32} {x : Int32} : (WM k ad G V).set 0 (ad 0, .inr (6, [.ref (ad 1), .ref (ad 2), .ref (ad 3), .int (V 0), .ref (ad 4), .ref (ad 5), .ref (ad 6), .ref (ad 7), .ref (ad 8), .ref (ad 9), .int (V 1), .ref (ad 10), .ref (ad 11), .ref (ad 12), .ref (ad 13), .ref (ad 14), .int (V 2), .ref (ad 15), .ref (ad 16), .ref (ad 17), .ref (ad 18), .int (V 3), .int (V 4), .int (V 5), .int (V 6), .ref (ad 19), .ref (ad 20), .ref (ad 21), .ref (ad 22), .ref (ad 23), .ref (ad 24), .int (V 7), .int x, .int (V 9), .int (V 10), .int (V 11)])) = WM k ad G (upd V 8 x) := rfl
theorem wmv_9 {k : Kt} {ad : Nat → Nat} {G : Nat → Nat → Int32} {V : Nat → Int32} {x : Int32} : (WM k ad G V).set 0 (ad 0, .inr (6, [.ref (ad 1), .ref (ad 2), .ref (ad 3), .int (V 0), .ref (ad 4), .ref (ad 5), .ref (ad 6), .ref (ad 7), .ref (ad 8), .ref (ad 9), .int (V 1), .ref (ad 10), .ref (ad 11), .ref (ad 12), .ref (ad 13), .ref (ad 14), .int (V 2), .ref (ad 15), .ref (ad 16), .ref (ad 17), .ref (ad 18), .int (V 3), .int (V 4), .int (V 5), .int (V 6), .ref (ad 19), .ref (ad 20), .ref (ad 21), .ref (ad 22), .ref (ad 23), .ref (ad 24), .int (V 7), .int (V 8), .int x, .int (V 10), .int (V 11)])) = WM k ad G (upd V 9 x) := rfl
theorem wmv_10 {k : Kt} {ad : Nat → Nat} {G : Nat → Nat → Int32} {V : Nat → Int32} {x : Int32} : (WM k ad G V).set 0 (ad 0, .inr (6, [.ref (ad 1), .ref (ad 2), .ref (ad 3), .int (V 0), .ref (ad 4), .ref (ad 5), .ref (ad 6), .ref (ad 7), .ref (ad 8), .ref (ad 9), .int (V 1), .ref (ad 10), .ref (ad 11), .ref (ad 12), .ref (ad 13), .ref (ad 14), .int (V 2), .ref (ad 15), .ref (ad 16), .ref (ad 17), .ref (ad 18), .int (V 3), .int (V 4), .int (V 5), .int (V 6), .ref (ad 19), .ref (ad 20), .ref (ad 21), .ref (ad 22), .ref (ad 23), .ref (ad 24), .int (V 7), .int (V 8), .int (V 9), .int x, .int (V 11)])) = WM k ad G (upd V 10 x) := rfl
theorem wmv_11 {k : Kt} {ad : Nat → Nat} {G : Nat → Nat → Int32} {V : Nat → Int32} {x : Int32} : (WM k ad G V).set 0 (ad 0, .inr (6, [.ref (ad 1), .ref (ad 2), .ref (ad 3), .int (V 0), .ref (ad 4), .ref (ad 5), .ref (ad 6), .ref (ad 7), .ref (ad 8), .ref (ad 9), .int (V 1), .ref (ad 10), .ref (ad 11), .ref (ad 12), .ref (ad 13), .ref (ad 14), .int (V 2), .ref (ad 15), .ref (ad 16), .ref (ad 17), .ref (ad 18), .int (V 3), .int (V 4), .int (V 5), .int (V 6), .ref (ad 19), .ref (ad 20), .ref (ad 21), .ref (ad 22), .ref (ad 23), .ref (ad 24), .int (V 7), .int (V 8), .int (V 9), .int (V 10), .int x])) = WM k ad G (upd V 11 x) := rfl
theorem wm_1 {k : Kt} {ad : Nat → Nat} {G : Nat → Nat → Int32} {V : Nat → Int32} : (WM k ad G V)[1]? = some (ad 1, .inl (k.2.1, 4, .inl (G 1))) := rfl
theorem wms_1 {k : Kt} {ad : Nat → Nat} {G : Nat → Nat → Int32} {V : Nat → Int32} {f : Nat → Int32} : (WM k ad G V).set 1 (ad 1, .inl (k.2.1, 4, .inl f)) = WM k ad (va_up G 1 f) V := rfl
theorem wmu_1 {k : Kt} {ad : Nat → Nat} {G : Nat → Nat → Int32} {V : Nat → Int32} {i : Nat} {x : Int32} : (WM k ad G V).set 1 (ad 1, .inl (k.2.1, 4, .inl (upd (G 1) i x))) = WM k ad (ug G 1 i x) V := rfl
theorem wm_2 {k : Kt} {ad : Nat → Nat} {G : Nat → Nat → Int32} {V : Nat → Int32} : (WM k ad G V)[2]? = some (ad 2, .inl (k.2.1, 72, .inl (G 2))) := rfl
theorem wms_2 {k : Kt} {ad : Nat → Nat} {G : Nat → Nat → Int32} {V : Nat → Int32} {f : Nat → Int32} : (WM k ad G V).set 2 (ad 2, .inl (k.2.1, 72, .inl f)) = WM k ad (va_up G 2 f) V := rfl
theorem wmu_2 {k : Kt} {ad : Nat → Nat} {G : Nat → Nat → Int32} {V : Nat → Int32} {i : Nat} {x : Int32} : (WM k ad G V).set 2 (ad 2, .inl (k.2.1, 72, .inl (upd (G 2) i x))) = WM k ad (ug G 2 i x) V := rfl
theorem wm_3 {k : Kt} {ad : Nat → Nat} {G : Nat → Nat → Int32} {V : Nat → Int32} : (WM k ad G V)[3]? = some (ad 3, .inl (k.2.1, 8, .inl (G 3))) := rfl
theorem wms_3 {k : Kt} {ad : Nat → Nat} {G : Nat → Nat → Int32} {V : Nat → Int32} {f : Nat → Int32} : (WM k ad G V).set 3 (ad 3, .inl (k.2.1, 8, .inl f)) = WM k ad (va_up G 3 f) V := rfl
theorem wmu_3 {k : Kt} {ad : Nat → Nat} {G : Nat → Nat → Int32} {V : Nat → Int32} {i : Nat} {x : Int32} : (WM k ad G V).set 3 (ad 3, .inl (k.2.1, 8, .inl (upd (G 3) i x))) = WM k ad (ug G 3 i x) V := rfl
theorem wm_4 {k : Kt} {ad : Nat → Nat} {G : Nat → Nat → Int32} {V : Nat → Int32} : (WM k ad G V)[4]? = some (ad 4, .inl (k.2.1, 40, .inl (G 4))) := rfl
theorem wms_4 {k : Kt} {ad : Nat → Nat} {G : Nat → Nat → Int32} {V : Nat → Int32} {f : Nat → Int32} : (WM k ad G V).set 4 (ad 4, .inl (k.2.1, 40, .inl f)) = WM k ad (va_up G 4 f) V := rfl
theorem wmu_4 {k : Kt} {ad : Nat → Nat} {G : Nat → Nat → Int32} {V : Nat → Int32} {i : Nat} {x : Int32} : (WM k ad G V).set 4 (ad 4, .inl (k.2.1, 40, .inl (upd (G 4) i x))) = WM k ad (ug G 4 i x) V := rfl
theorem wm_5 {k : Kt} {ad : Nat → Nat} {G : Nat → Nat → Int32} {V : Nat → Int32} : (WM k ad G V)[5]? = some (ad 5, .inl (k.2.1, 40, .inl (G 5))) := rfl
theorem wms_5 {k : Kt} {ad : Nat → Nat} {G : Nat → Nat → Int32} {V : Nat → Int32} {f : Nat → Int32} : (WM k ad G V).set 5 (ad 5, .inl (k.2.1, 40, .inl f)) = WM k ad (va_up G 5 f) V := rfl
theorem wmu_5 {k : Kt} {ad : Nat → Nat} {G : Nat → Nat → Int32} {V : Nat → Int32} {i : Nat} {x : Int32} : (WM k ad G V).set 5 (ad 5, .inl (k.2.1, 40, .inl (upd (G 5) i x))) = WM k ad (ug G 5 i x) V := rfl
theorem wm_6 {k : Kt} {ad : Nat → Nat} {G : Nat → Nat → Int32} {V : Nat → Int32} : (WM k ad G V)[6]? = some (ad 6, .inl (k.2.1, 40, .inl (G 6))) := rfl
theorem wms_6 {k : Kt} {ad : Nat → Nat} {G : Nat → Nat → Int32} {V : Nat → Int32} {f : Nat → Int32} : (WM k ad G V).set 6 (ad 6, .inl (k.2.1, 40, .inl f)) = WM k ad (va_up G 6 f) V := rfl
theorem wmu_6 {k : Kt} {ad : Nat → Nat} {G : Nat → Nat → Int32} {V : Nat → Int32} {i : Nat} {x : Int32} : (WM k ad G V).set 6 (ad 6, .inl (k.2.1, 40, .inl (upd (G 6) i x))) = WM k ad (ug G 6 i x) V := rfl
theorem wm_7 {k : Kt} {ad : Nat → Nat} {G : Nat → Nat → Int32} {V : Nat → Int32} : (WM k ad G V)[7]? = some (ad 7, .inl (k.2.1, 40, .inl (G 7))) := rfl
theorem wms_7 {k : Kt} {ad : Nat → Nat} {G : Nat → Nat → Int32} {V : Nat → Int32} {f : Nat → Int32} : (WM k ad G V).set 7 (ad 7, .inl (k.2.1, 40, .inl f)) = WM k ad (va_up G 7 f) V := rfl
theorem wmu_7 {k : Kt} {ad : Nat → Nat} {G : Nat → Nat → Int32} {V : Nat → Int32} {i : Nat} {x : Int32} : (WM k ad G V).set 7 (ad 7, .inl (k.2.1, 40, .inl (upd (G 7) i x))) = WM k ad (ug G 7 i x) V := rfl
theorem wm_8 {k : Kt} {ad : Nat → Nat} {G : Nat → Nat → Int32} {V : Nat → Int32} : (WM k ad G V)[8]? = some (ad 8, .inl (k.2.2, 40, .inl (G 8))) := rfl
theorem wms_8 {k : Kt} {ad : Nat → Nat} {G : Nat → Nat → Int32} {V : Nat → Int32} {f : Nat → Int32} : (WM k ad G V).set 8 (ad 8, .inl (k.2.2, 40, .inl f)) = WM k ad (va_up G 8 f) V := rfl
theorem wmu_8 {k : Kt} {ad : Nat → Nat} {G : Nat → Nat → Int32} {V : Nat → Int32} {i : Nat} {x : Int32} : (WM k ad G V).set 8 (ad 8, .inl (k.2.2, 40, .inl (upd (G 8) i x))) = WM k ad (ug G 8 i x) V := rfl
theorem wm_9 {k : Kt} {ad : Nat → Nat} {G : Nat → Nat → Int32} {V : Nat → Int32} : (WM k ad G V)[9]? = some (ad 9, .inl (k.2.1, 40, .inl (G 9))) := rfl
theorem wms_9 {k : Kt} {ad : Nat → Nat} {G : Nat → Nat → Int32} {V : Nat → Int32} {f : Nat → Int32} : (WM k ad G V).set 9 (ad 9, .inl (k.2.1, 40, .inl f)) = WM k ad (va_up G 9 f) V := rfl
theorem wmu_9 {k : Kt} {ad : Nat → Nat} {G : Nat → Nat → Int32} {V : Nat → Int32} {i : Nat} {x : Int32} : (WM k ad G V).set 9 (ad 9, .inl (k.2.1, 40, .inl (upd (G 9) i x))) = WM k ad (ug G 9 i x) V := rfl
theorem wm_10 {k : Kt} {ad : Nat → Nat} {G : Nat → Nat → Int32} {V : Nat → Int32} : (WM k ad G V)[10]? = some (ad 10, .inl (k.2.1, 60, .inl (G 10))) := rfl
theorem wms_10 {k : Kt} {ad : Nat → Nat} {G : Nat → Nat → Int32} {V : Nat → Int32} {f : Nat → Int32} : (WM k ad G V).set 10 (ad 10, .inl (k.2.1, 60, .inl f)) = WM k ad (va_up G 10 f) V := rfl
theorem wmu_10 {k : Kt} {ad : Nat → Nat} {G : Nat → Nat → Int32} {V : Nat → Int32} {i : Nat} {x : Int32} : (WM k ad G V).set 10 (ad 10, .inl (k.2.1, 60, .inl (upd (G 10) i x))) = WM k ad (ug G 10 i x) V := rfl
theorem wm_11 {k : Kt} {ad : Nat → Nat} {G : Nat → Nat → Int32} {V : Nat → Int32} : (WM k ad G V)[11]? = some (ad 11, .inl (k.2.1, 60, .inl (G 11))) := rfl
theorem wms_11 {k : Kt} {ad : Nat → Nat} {G : Nat → Nat → Int32} {V : Nat → Int32} {f : Nat → Int32} : (WM k ad G V).set 11 (ad 11, .inl (k.2.1, 60, .inl f)) = WM k ad (va_up G 11 f) V := rfl
theorem wmu_11 {k : Kt} {ad : Nat → Nat} {G : Nat → Nat → Int32} {V : Nat → Int32} {i : Nat} {x : Int32} : (WM k ad G V).set 11 (ad 11, .inl (k.2.1, 60, .inl (upd (G 11) i x))) = WM k ad (ug G 11 i x) V := rfl
theorem wm_12 {k : Kt} {ad : Nat → Nat} {G : Nat → Nat → Int32} {V : Nat → Int32} : (WM k ad G V)[12]? = some (ad 12, .inl (k.2.1, 60, .inl (G 12))) := rfl
theorem wms_12 {k : Kt} {ad : Nat → Nat} {G : Nat → Nat → Int32} {V : Nat → Int32} {f : Nat → Int32} : (WM k ad G V).set 12 (ad 12, .inl (k.2.1, 60, .inl f)) = WM k ad (va_up G 12 f) V := rfl
theorem wmu_12 {k : Kt} {ad : Nat → Nat} {G : Nat → Nat → Int32} {V : Nat → Int32} {i : Nat} {x : Int32} : (WM k ad G V).set 12 (ad 12, .inl (k.2.1, 60, .inl (upd (G 12) i x))) = WM k ad (ug G 12 i x) V := rfl
theorem wm_13 {k : Kt} {ad : Nat → Nat} {G : Nat → Nat → Int32} {V : Nat → Int32} : (WM k ad G V)[13]? = some (ad 13, .inl (k.2.1, 60, .inl (G 13))) := rfl
theorem wms_13 {k : Kt} {ad : Nat → Nat} {G : Nat → Nat → Int32} {V : Nat → Int32} {f : Nat → Int32} : (WM k ad G V).set 13 (ad 13, .inl (k.2.1, 60, .inl f)) = WM k ad (va_up G 13 f) V := rfl
theorem wmu_13 {k : Kt} {ad : Nat → Nat} {G : Nat → Nat → Int32} {V : Nat → Int32} {i : Nat} {x : Int32} : (WM k ad G V).set 13 (ad 13, .inl (k.2.1, 60, .inl (upd (G 13) i x))) = WM k ad (ug G 13 i x) V := rfl
theorem wm_14 {k : Kt} {ad : Nat → Nat} {G : Nat → Nat → Int32} {V : Nat → Int32} : (WM k ad G V)[14]? = some (ad 14, .inl (k.2.1, 60, .inl (G 14))) := rfl
theorem wms_14 {k : Kt} {ad : Nat → Nat} {G : Nat → Nat → Int32} {V : Nat → Int32} {f : Nat → Int32} : (WM k ad G V).set 14 (ad 14, .inl (k.2.1, 60, .inl f)) = WM k ad (va_up G 14 f) V := rfl
theorem wmu_14 {k : Kt} {ad : Nat → Nat} {G : Nat → Nat → Int32} {V : Nat → Int32} {i : Nat} {x : Int32} : (WM k ad G V).set 14 (ad 14, .inl (k.2.1, 60, .inl (upd (G 14) i x))) = WM k ad (ug G 14 i x) V := rfl
theorem wm_15 {k : Kt} {ad : Nat → Nat} {G : Nat → Nat → Int32} {V : Nat → Int32} : (WM k ad G V)[15]? = some (ad 15, .inl (k.2.1, 60, .inl (G 15))) := rfl
theorem wms_15 {k : Kt} {ad : Nat → Nat} {G : Nat → Nat → Int32} {V : Nat → Int32} {f : Nat → Int32} : (WM k ad G V).set 15 (ad 15, .inl (k.2.1, 60, .inl f)) = WM k ad (va_up G 15 f) V := rfl
theorem wmu_15 {k : Kt} {ad : Nat → Nat} {G : Nat → Nat → Int32} {V : Nat → Int32} {i : Nat} {x : Int32} : (WM k ad G V).set 15 (ad 15, .inl (k.2.1, 60, .inl (upd (G 15) i x))) = WM k ad (ug G 15 i x) V := rfl
theorem wm_16 {k : Kt} {ad : Nat → Nat} {G : Nat → Nat → Int32} {V : Nat → Int32} : (WM k ad G V)[16]? = some (ad 16, .inl (k.2.2, 60, .inl (G 16))) := rfl
theorem wms_16 {k : Kt} {ad : Nat → Nat} {G : Nat → Nat → Int32} {V : Nat → Int32} {f : Nat → Int32} : (WM k ad G V).set 16 (ad 16, .inl (k.2.2, 60, .inl f)) = WM k ad (va_up G 16 f) V := rfl
theorem wmu_16 {k : Kt} {ad : Nat → Nat} {G : Nat → Nat → Int32} {V : Nat → Int32} {i : Nat} {x : Int32} : (WM k ad G V).set 16 (ad 16, .inl (k.2.2, 60, .inl (upd (G 16) i x))) = WM k ad (ug G 16 i x) V := rfl
theorem wm_17 {k : Kt} {ad : Nat → Nat} {G : Nat → Nat → Int32} {V : Nat → Int32} : (WM k ad G V)[17]? = some (ad 17, .inl (k.2.1, 40, .inl (G 17))) := rfl
theorem wms_17 {k : Kt} {ad : Nat → Nat} {G : Nat → Nat → Int32} {V : Nat → Int32} {f : Nat → Int32} : (WM k ad G V).set 17 (ad 17, .inl (k.2.1, 40, .inl f)) = WM k ad (va_up G 17 f) V := rfl
theorem wmu_17 {k : Kt} {ad : Nat → Nat} {G : Nat → Nat → Int32} {V : Nat → Int32} {i : Nat} {x : Int32} : (WM k ad G V).set 17 (ad 17, .inl (k.2.1, 40, .inl (upd (G 17) i x))) = WM k ad (ug G 17 i x) V := rfl
theorem wm_18 {k : Kt} {ad : Nat → Nat} {G : Nat → Nat → Int32} {V : Nat → Int32} : (WM k ad G V)[18]? = some (ad 18, .inl (k.2.1, 40, .inl (G 18))) := rfl
theorem wms_18 {k : Kt} {ad : Nat → Nat} {G : Nat → Nat → Int32} {V : Nat → Int32} {f : Nat → Int32} : (WM k ad G V).set 18 (ad 18, .inl (k.2.1, 40, .inl f)) = WM k ad (va_up G 18 f) V := rfl
theorem wmu_18 {k : Kt} {ad : Nat → Nat} {G : Nat → Nat → Int32} {V : Nat → Int32} {i : Nat} {x : Int32} : (WM k ad G V).set 18 (ad 18, .inl (k.2.1, 40, .inl (upd (G 18) i x))) = WM k ad (ug G 18 i x) V := rfl
theorem wm_19 {k : Kt} {ad : Nat → Nat} {G : Nat → Nat → Int32} {V : Nat → Int32} : (WM k ad G V)[19]? = some (ad 19, .inl (k.2.1, 40, .inl (G 19))) := rfl
theorem wms_19 {k : Kt} {ad : Nat → Nat} {G : Nat → Nat → Int32} {V : Nat → Int32} {f : Nat → Int32} : (WM k ad G V).set 19 (ad 19, .inl (k.2.1, 40, .inl f)) = WM k ad (va_up G 19 f) V := rfl
theorem wmu_19 {k : Kt} {ad : Nat → Nat} {G : Nat → Nat → Int32} {V : Nat → Int32} {i : Nat} {x : Int32} : (WM k ad G V).set 19 (ad 19, .inl (k.2.1, 40, .inl (upd (G 19) i x))) = WM k ad (ug G 19 i x) V := rfl
theorem wm_20 {k : Kt} {ad : Nat → Nat} {G : Nat → Nat → Int32} {V : Nat → Int32} : (WM k ad G V)[20]? = some (ad 20, .inl (k.2.1, 36000, .inl (G 20))) := rfl
theorem wms_20 {k : Kt} {ad : Nat → Nat} {G : Nat → Nat → Int32} {V : Nat → Int32} {f : Nat → Int32} : (WM k ad G V).set 20 (ad 20, .inl (k.2.1, 36000, .inl f)) = WM k ad (va_up G 20 f) V := rfl
theorem wmu_20 {k : Kt} {ad : Nat → Nat} {G : Nat → Nat → Int32} {V : Nat → Int32} {i : Nat} {x : Int32} : (WM k ad G V).set 20 (ad 20, .inl (k.2.1, 36000, .inl (upd (G 20) i x))) = WM k ad (ug G 20 i x) V := rfl
theorem wm_21 {k : Kt} {ad : Nat → Nat} {G : Nat → Nat → Int32} {V : Nat → Int32} : (WM k ad G V)[21]? = some (ad 21, .inl (k.2.1, 60, .inl (G 21))) := rfl
theorem wms_21 {k : Kt} {ad : Nat → Nat} {G : Nat → Nat → Int32} {V : Nat → Int32} {f : Nat → Int32} : (WM k ad G V).set 21 (ad 21, .inl (k.2.1, 60, .inl f)) = WM k ad (va_up G 21 f) V := rfl
theorem wmu_21 {k : Kt} {ad : Nat → Nat} {G : Nat → Nat → Int32} {V : Nat → Int32} {i : Nat} {x : Int32} : (WM k ad G V).set 21 (ad 21, .inl (k.2.1, 60, .inl (upd (G 21) i x))) = WM k ad (ug G 21 i x) V := rfl
theorem wm_22 {k : Kt} {ad : Nat → Nat} {G : Nat → Nat → Int32} {V : Nat → Int32} : (WM k ad G V)[22]? = some (ad 22, .inl (k.2.2, 60, .inl (G 22))) := rfl
theorem wms_22 {k : Kt} {ad : Nat → Nat} {G : Nat → Nat → Int32} {V : Nat → Int32} {f : Nat → Int32} : (WM k ad G V).set 22 (ad 22, .inl (k.2.2, 60, .inl f)) = WM k ad (va_up G 22 f) V := rfl
theorem wmu_22 {k : Kt} {ad : Nat → Nat} {G : Nat → Nat → Int32} {V : Nat → Int32} {i : Nat} {x : Int32} : (WM k ad G V).set 22 (ad 22, .inl (k.2.2, 60, .inl (upd (G 22) i x))) = WM k ad (ug G 22 i x) V := rfl
theorem wm_23 {k : Kt} {ad : Nat → Nat} {G : Nat → Nat → Int32} {V : Nat → Int32} : (WM k ad G V)[23]? = some (ad 23, .inl (k.2.1, 60, .inl (G 23))) := rfl
theorem wms_23 {k : Kt} {ad : Nat → Nat} {G : Nat → Nat → Int32} {V : Nat → Int32} {f : Nat → Int32} : (WM k ad G V).set 23 (ad 23, .inl (k.2.1, 60, .inl f)) = WM k ad (va_up G 23 f) V := rfl
theorem wmu_23 {k : Kt} {ad : Nat → Nat} {G : Nat → Nat → Int32} {V : Nat → Int32} {i : Nat} {x : Int32} : (WM k ad G V).set 23 (ad 23, .inl (k.2.1, 60, .inl (upd (G 23) i x))) = WM k ad (ug G 23 i x) V := rfl
theorem wm_24 {k : Kt} {ad : Nat → Nat} {G : Nat → Nat → Int32} {V : Nat → Int32} : (WM k ad G V)[24]? = some (ad 24, .inl (k.2.1, 600, .inl (G 24))) := rfl
theorem wms_24 {k : Kt} {ad : Nat → Nat} {G : Nat → Nat → Int32} {V : Nat → Int32} {f : Nat → Int32} : (WM k ad G V).set 24 (ad 24, .inl (k.2.1, 600, .inl f)) = WM k ad (va_up G 24 f) V := rfl
theorem wmu_24 {k : Kt} {ad : Nat → Nat} {G : Nat → Nat → Int32} {V : Nat → Int32} {i : Nat} {x : Int32} : (WM k ad G V).set 24 (ad 24, .inl (k.2.1, 600, .inl (upd (G 24) i x))) = WM k ad (ug G 24 i x) V := rfl
theorem ug_same {G : Nat → Nat → Int32} {p i : Nat} {x : Int32} : ug G p i x p i = x := by simp [ug, va_up, upd]
theorem ug_p {G : Nat → Nat → Int32} {p p' i j : Nat} {x : Int32} (h : p' ≠ p) : ug G p i x p' j = G p' j := by simp [ug, va_up, h]
theorem ug_i {G : Nat → Nat → Int32} {p i j : Nat} {x : Int32} (h : j ≠ i) : ug G p i x p j = G p j := by simp [ug, va_up, upd, h]
theorem ug_if {G : Nat → Nat → Int32} {p i a b : Nat} {x : Int32} : ug G p i x a b = if a = p ∧ b = i then x else G a b := by
  unfold ug va_up upd
  by_cases h : a = p
  · subst h; simp
  · simp [h]
theorem eqI.mk {R v : Int32} {w W' : va_W} (h : v = R) (hw : w = W') : eqI R W' (some (.int v)) w := ⟨by rw [h], hw⟩
theorem eqV.mk {w W' : va_W} (hw : w = W') : eqV W' none w := ⟨rfl, hw⟩
theorem cgC {k : Kt} {ad : Nat → Nat} {G G' : Nat → Nat → Int32} {V V' : Nat → Int32} {n : Nat} (hG : G = G') (hV : V = V') : WC k ad G V n = WC k ad G' V' n := by rw [hG, hV]
theorem cgM {k : Kt} {ad : Nat → Nat} {G G' : Nat → Nat → Int32} {V V' : Nat → Int32} (hG : G = G') (hV : V = V') : WM k ad G V = WM k ad G' V' := by rw [hG, hV]
theorem b01 {c : Prop} [Decidable c] {a b : Int32} (ha : a = 0 ∨ a = 1) (hb : b = 0 ∨ b = 1) : (if c then a else b) = 0 ∨ (if c then a else b) = 1 := by
  by_cases h : c
  · rw [if_pos h]; exact ha
  · rw [if_neg h]; exact hb
theorem nar_b {x : Int32} (h : x = 0 ∨ x = 1) : vp_nar .boolean x = x := by rcases h with rfl | rfl <;> rfl
abbrev ix (x : Int32) : Nat := x.toNatClampNeg
section CALLS
variable {z : Zt} {cc : ByteArray} {own : String} {cells slots : Nat} {w : va_W} {pc q : Nat} {lv : Lv} {rest : List Value}
theorem r_join (J : Nat) (x : Int32) {st : List Value} (hj : WW z cells slots w J lv (.int x :: rest)) (k : (∀ v : Int32, v = x → WW z cells slots w J lv (.int v :: rest)) → WW z cells slots w pc lv st) : WW z cells slots w pc lv st := k (fun v e => e ▸ hj)
theorem rVi (E : EN z cc own) {C : String} {idx maxL n d d' mx sx : Nat} {y : MethodName} {bytes : ByteArray} {ret : Option FieldType} (cw : CV own C idx y bytes maxL ret n) (hR : RR z d mx sx) (q0 : Nat) {ci b : Nat} {fs : List Value} {T : u_T} {N : Nat} (he : w[q0]? = some (b, .inr (ci, fs))) (hc : vwCl[ci]? = some (C, T, N)) (As : List Value) {R : Int32} {W' : va_W} (hC : CT (zl z) (zk z) y bytes maxL ret d' (.ref b :: As) w (eqI R W') 0 0)
    (hdl : d' < d) (hn : As.length = n) {st : List Value} (hst : st = As.reverse ++ .ref b :: rest) (hcat : (rest.map fun v => v.category).sum ≤ 8) (hf : cells ≤ mx ∧ slots ≤ sx) (hd : decode cc pc = .ok (.invokevirtual idx, 3)) (hq : pc + 3 = q) (k : WW z cells slots W' q lv (.int R :: rest)) : WW z cells slots w pc lv st := rV E cw hR Fr.all q0 he hc As hC hdl hn hst hcat hf hd (eqI.k (wr := []) hq k)
theorem rVv (E : EN z cc own) {C : String} {idx maxL n d d' mx sx : Nat} {y : MethodName} {bytes : ByteArray} {ret : Option FieldType} (cw : CV own C idx y bytes maxL ret n) (hR : RR z d mx sx) (q0 : Nat) {ci b : Nat} {fs : List Value} {T : u_T} {N : Nat} (he : w[q0]? = some (b, .inr (ci, fs))) (hc : vwCl[ci]? = some (C, T, N)) (As : List Value) {W' : va_W} (hC : CT (zl z) (zk z) y bytes maxL ret d' (.ref b :: As) w (eqV W') 0 0)
    (hdl : d' < d) (hn : As.length = n) {st : List Value} (hst : st = As.reverse ++ .ref b :: rest) (hcat : (rest.map fun v => v.category).sum ≤ 8) (hf : cells ≤ mx ∧ slots ≤ sx) (hd : decode cc pc = .ok (.invokevirtual idx, 3)) (hq : pc + 3 = q) (k : WW z cells slots W' q lv rest) : WW z cells slots w pc lv st := rV E cw hR Fr.all q0 he hc As hC hdl hn hst hcat hf hd (eqV.k (wr := []) hq k)
theorem rSi (E : EN z cc own) {idx maxL n d d' mx sx : Nat} {y : MethodName} {bytes : ByteArray} {ret : Option FieldType} (cw : CS own idx y bytes maxL ret n) (hR : RR z d mx sx) (As : List Value) {R : Int32} {W' : va_W} (hC : CT (zl z) (zk z) y bytes maxL ret d' As w (eqI R W') 0 0)
    (hdl : d' < d) (hn : As.length = n) {st : List Value} (hst : st = As.reverse ++ rest) (hcat : (rest.map fun v => v.category).sum ≤ 8) (hf : cells ≤ mx ∧ slots ≤ sx) (hd : decode cc pc = .ok (.invokestatic idx, 3)) (hq : pc + 3 = q) (k : WW z cells slots W' q lv (.int R :: rest)) : WW z cells slots w pc lv st := rS E cw hR Fr.all As hC hdl hn hst hcat hf hd (eqI.k (wr := []) hq k)
theorem rSv (E : EN z cc own) {idx maxL n d d' mx sx : Nat} {y : MethodName} {bytes : ByteArray} {ret : Option FieldType} (cw : CS own idx y bytes maxL ret n) (hR : RR z d mx sx) (As : List Value) {W' : va_W} (hC : CT (zl z) (zk z) y bytes maxL ret d' As w (eqV W') 0 0)
    (hdl : d' < d) (hn : As.length = n) {st : List Value} (hst : st = As.reverse ++ rest) (hcat : (rest.map fun v => v.category).sum ≤ 8) (hf : cells ≤ mx ∧ slots ≤ sx) (hd : decode cc pc = .ok (.invokestatic idx, 3)) (hq : pc + 3 = q) (k : WW z cells slots W' q lv rest) : WW z cells slots w pc lv st := rS E cw hR Fr.all As hC hdl hn hst hcat hf hd (eqV.k (wr := []) hq k)
theorem rSNi (E : EN z cc own) {idx maxL n d d' mx sx : Nat} {y : MethodName} {bytes : ByteArray} {ret : Option FieldType} (cw : CSN own idx y bytes maxL ret n) (hR : RR z d mx sx) (As : List Value) {R : Int32} {W' : va_W} (hC : CT (zl z) (zk z) y bytes maxL ret d' As w (eqI R W') 0 0)
    (hdl : d' < d) (hn : As.length = n) {st : List Value} (hst : st = As.reverse ++ rest) (hcat : (rest.map fun v => v.category).sum ≤ 8) (hf : cells ≤ mx ∧ slots ≤ sx) (hd : decode cc pc = .ok (.invokestatic idx, 3)) (hq : pc + 3 = q) (k : WW z cells slots W' q lv (.int R :: rest)) : WW z cells slots w pc lv st := rSN E cw hR Fr.all As hC hdl hn hst hcat hf hd (eqI.k (wr := []) hq k)
end CALLS
end
section
def fX5_isMember (m : Int32) : Int32 := if m < 0 then 0 else (if 6 ≤ m then 0 else 1)
theorem b_X5_isMember (m : Int32) : fX5_isMember m = 0 ∨ fX5_isMember m = 1 := (b01 (Or.inl rfl) (b01 (Or.inl rfl) (Or.inr rfl)))
set_option maxRecDepth 100000 in
set_option maxHeartbeats 4000000 in
theorem c_X5_isMember {l : Launch} {k : Kt} {ad : Nat → Nat} {G : Nat → Nat → Int32} {V : Nat → Int32} {n : Nat} (m : Int32) : CT l k yX5_isMember cX5_isMember 1 (some .boolean) 0 [.int m] (WC k ad G V n) (eqI (fX5_isMember m) (WC k ad G V n)) 0 0 := by
  refine ct_of (own := RX5) (lv0 := [(0, .int m)]) (by decide) rfl (Nat.le_of_ble_eq_true rfl) rfl ?_
  rintro z rfl rfl hz - E T
  refine r_iload_n E 0 dX5_isMember_0 rfl rfl rfl ?_
  refine r_join 15 (if m < 0 then 0 else (if 6 ≤ m then 0 else 1)) (rest := []) ?_ (fun hj1 => ?_)
  · exact r_zret E T (b01 (Or.inl rfl) (b01 (Or.inl rfl) (Or.inr rfl))) dX5_isMember_15 (eqI.mk (by rw [fX5_isMember]) rfl)
  · refine r_if_lt E 14 dX5_isMember_1 (by decide) rfl (fun c1 => ?_) (fun c1 => ?_)
    · refine r_iconst E (v := 0) dX5_isMember_14 (by decide) rfl ?_
      exact hj1 _ (by rw [if_pos c1])
    · refine r_iload_n E 0 dX5_isMember_4 rfl rfl rfl ?_
      refine r_bipush E (v := 6) dX5_isMember_5 (by decide) rfl ?_
      refine r_icmp_ge E 14 dX5_isMember_7 (by decide) rfl (fun c2 => ?_) (fun c2 => ?_)
      · refine r_iconst E (v := 0) dX5_isMember_14 (by decide) rfl ?_
        exact hj1 _ (by rw [if_neg c1, if_pos c2])
      · refine r_iconst E (v := 1) dX5_isMember_10 (by decide) rfl ?_
        refine r_goto E 15 dX5_isMember_11 (by decide) ?_
        exact hj1 _ (by rw [if_neg c1, if_neg c2])
def fX5_isSet (s : Int32) : Int32 := if s < 0 then 0 else (if 64 ≤ s then 0 else 1)
theorem b_X5_isSet (s : Int32) : fX5_isSet s = 0 ∨ fX5_isSet s = 1 := (b01 (Or.inl rfl) (b01 (Or.inl rfl) (Or.inr rfl)))
set_option maxRecDepth 100000 in
set_option maxHeartbeats 4000000 in
theorem c_X5_isSet {l : Launch} {k : Kt} {ad : Nat → Nat} {G : Nat → Nat → Int32} {V : Nat → Int32} {n : Nat} (s : Int32) : CT l k yX5_isSet cX5_isSet 1 (some .boolean) 0 [.int s] (WC k ad G V n) (eqI (fX5_isSet s) (WC k ad G V n)) 0 0 := by
  refine ct_of (own := RX5) (lv0 := [(0, .int s)]) (by decide) rfl (Nat.le_of_ble_eq_true rfl) rfl ?_
  rintro z rfl rfl hz - E T
  refine r_iload_n E 0 dX5_isSet_0 rfl rfl rfl ?_
  refine r_join 15 (if s < 0 then 0 else (if 64 ≤ s then 0 else 1)) (rest := []) ?_ (fun hj1 => ?_)
  · exact r_zret E T (b01 (Or.inl rfl) (b01 (Or.inl rfl) (Or.inr rfl))) dX5_isSet_15 (eqI.mk (by rw [fX5_isSet]) rfl)
  · refine r_if_lt E 14 dX5_isSet_1 (by decide) rfl (fun c1 => ?_) (fun c1 => ?_)
    · refine r_iconst E (v := 0) dX5_isSet_14 (by decide) rfl ?_
      exact hj1 _ (by rw [if_pos c1])
    · refine r_iload_n E 0 dX5_isSet_4 rfl rfl rfl ?_
      refine r_bipush E (v := 64) dX5_isSet_5 (by decide) rfl ?_
      refine r_icmp_ge E 14 dX5_isSet_7 (by decide) rfl (fun c2 => ?_) (fun c2 => ?_)
      · refine r_iconst E (v := 0) dX5_isSet_14 (by decide) rfl ?_
        exact hj1 _ (by rw [if_neg c1, if_pos c2])
      · refine r_iconst E (v := 1) dX5_isSet_10 (by decide) rfl ?_
        refine r_goto E 15 dX5_isSet_11 (by decide) ?_
        exact hj1 _ (by rw [if_neg c1, if_neg c2])
def fX5_isIn (m : Int32) (set : Int32) : Int32 := if (set >>> (m &&& 31)) &&& 1 = 1 then 1 else 0
theorem b_X5_isIn (m : Int32) (set : Int32) : fX5_isIn m set = 0 ∨ fX5_isIn m set = 1 := (b01 (Or.inr rfl) (Or.inl rfl))
set_option maxRecDepth 100000 in
set_option maxHeartbeats 4000000 in
theorem c_X5_isIn {l : Launch} {k : Kt} {ad : Nat → Nat} {G : Nat → Nat → Int32} {V : Nat → Int32} {n : Nat} (m : Int32) (set : Int32) : CT l k yX5_isIn cX5_isIn 2 (some .boolean) 0 [.int m, .int set] (WC k ad G V n) (eqI (fX5_isIn m set) (WC k ad G V n)) 0 0 := by
  refine ct_of (own := RX5) (lv0 := [(0, .int m), (1, .int set)]) (by decide) rfl (Nat.le_of_ble_eq_true rfl) rfl ?_
  rintro z rfl rfl hz - E T
  refine r_iload_n E 1 dX5_isIn_0 rfl rfl rfl ?_
  refine r_iload_n E 0 dX5_isIn_1 rfl rfl rfl ?_
  refine r_ishr E dX5_isIn_2 rfl ?_
  refine r_iconst E (v := 1) dX5_isIn_3 (by decide) rfl ?_
  refine r_iand E dX5_isIn_4 rfl ?_
  refine r_iconst E (v := 1) dX5_isIn_5 (by decide) rfl ?_
  refine r_join 14 (if (set >>> (m &&& 31)) &&& 1 = 1 then 1 else 0) (rest := []) ?_ (fun hj1 => ?_)
  · exact r_zret E T (b01 (Or.inr rfl) (Or.inl rfl)) dX5_isIn_14 (eqI.mk (by rw [fX5_isIn]) rfl)
  · refine r_icmp_ne E 13 dX5_isIn_6 (by decide) rfl (fun c1 => ?_) (fun c1 => ?_)
    · refine r_iconst E (v := 0) dX5_isIn_13 (by decide) rfl ?_
      exact hj1 _ (by rw [if_neg c1])
    · refine r_iconst E (v := 1) dX5_isIn_9 (by decide) rfl ?_
      refine r_goto E 14 dX5_isIn_10 (by decide) ?_
      exact hj1 _ (by rw [if_pos c1])
def fX5_isWithin (part : Int32) (set : Int32) : Int32 := if part &&& (set ^^^ (-1)) = 0 then 1 else 0
theorem b_X5_isWithin (part : Int32) (set : Int32) : fX5_isWithin part set = 0 ∨ fX5_isWithin part set = 1 := (b01 (Or.inr rfl) (Or.inl rfl))
set_option maxRecDepth 100000 in
set_option maxHeartbeats 4000000 in
theorem c_X5_isWithin {l : Launch} {k : Kt} {ad : Nat → Nat} {G : Nat → Nat → Int32} {V : Nat → Int32} {n : Nat} (part : Int32) (set : Int32) : CT l k yX5_isWithin cX5_isWithin 2 (some .boolean) 0 [.int part, .int set] (WC k ad G V n) (eqI (fX5_isWithin part set) (WC k ad G V n)) 0 0 := by
  refine ct_of (own := RX5) (lv0 := [(0, .int part), (1, .int set)]) (by decide) rfl (Nat.le_of_ble_eq_true rfl) rfl ?_
  rintro z rfl rfl hz - E T
  refine r_iload_n E 0 dX5_isWithin_0 rfl rfl rfl ?_
  refine r_iload_n E 1 dX5_isWithin_1 rfl rfl rfl ?_
  refine r_iconst E (v := (-1)) dX5_isWithin_2 (by decide) rfl ?_
  refine r_ixor E dX5_isWithin_3 rfl ?_
  refine r_iand E dX5_isWithin_4 rfl ?_
  refine r_join 13 (if part &&& (set ^^^ (-1)) = 0 then 1 else 0) (rest := []) ?_ (fun hj1 => ?_)
  · exact r_zret E T (b01 (Or.inr rfl) (Or.inl rfl)) dX5_isWithin_13 (eqI.mk (by rw [fX5_isWithin]) rfl)
  · refine r_if_ne E 12 dX5_isWithin_5 (by decide) rfl (fun c1 => ?_) (fun c1 => ?_)
    · refine r_iconst E (v := 0) dX5_isWithin_12 (by decide) rfl ?_
      exact hj1 _ (by rw [if_neg c1])
    · refine r_iconst E (v := 1) dX5_isWithin_8 (by decide) rfl ?_
      refine r_goto E 13 dX5_isWithin_9 (by decide) ?_
      exact hj1 _ (by rw [if_pos c1])
def fX5_asNumber (holds : Int32) : Int32 := if holds = 0 then 0 else 1
set_option maxRecDepth 100000 in
set_option maxHeartbeats 4000000 in
theorem c_X5_asNumber {l : Launch} {k : Kt} {ad : Nat → Nat} {G : Nat → Nat → Int32} {V : Nat → Int32} {n : Nat} (holds : Int32) : CT l k yX5_asNumber cX5_asNumber 1 (some .int) 0 [.int holds] (WC k ad G V n) (eqI (fX5_asNumber holds) (WC k ad G V n)) 0 0 := by
  refine ct_of (own := RX5) (lv0 := [(0, .int holds)]) (by decide) rfl (Nat.le_of_ble_eq_true rfl) rfl ?_
  rintro z rfl rfl hz - E T
  refine r_iload_n E 0 dX5_asNumber_0 rfl rfl rfl ?_
  refine r_join 9 (if holds = 0 then 0 else 1) (rest := []) ?_ (fun hj1 => ?_)
  · exact r_iret E T dX5_asNumber_9 (eqI.mk (by rw [fX5_asNumber]) rfl)
  · refine r_if_eq E 8 dX5_asNumber_1 (by decide) rfl (fun c1 => ?_) (fun c1 => ?_)
    · refine r_iconst E (v := 0) dX5_asNumber_8 (by decide) rfl ?_
      exact hj1 _ (by rw [if_pos c1])
    · refine r_iconst E (v := 1) dX5_asNumber_4 (by decide) rfl ?_
      refine r_goto E 9 dX5_asNumber_5 (by decide) ?_
      exact hj1 _ (by rw [if_neg c1])
def fX4_has (source : Int32) : Int32 := if source < 0 then 0 else (if 4 ≤ source then 0 else 1)
theorem b_X4_has (source : Int32) : fX4_has source = 0 ∨ fX4_has source = 1 := (b01 (Or.inl rfl) (b01 (Or.inl rfl) (Or.inr rfl)))
set_option maxRecDepth 100000 in
set_option maxHeartbeats 4000000 in
theorem c_X4_has {l : Launch} {k : Kt} {ad : Nat → Nat} {G : Nat → Nat → Int32} {V : Nat → Int32} {n : Nat} (source : Int32) : CT l k yX4_has cX4_has 2 (some .boolean) 0 [.ref (ad 1), .int source] (WC k ad G V n) (eqI (fX4_has source) (WC k ad G V n)) 0 0 := by
  refine ct_of (own := RX4) (lv0 := [(0, .ref (ad 1)), (1, .int source)]) (by decide) rfl (Nat.le_of_ble_eq_true rfl) rfl ?_
  rintro z rfl rfl hz - E T
  refine r_iload_n E 1 dX4_has_0 rfl rfl rfl ?_
  refine r_join 14 (if source < 0 then 0 else (if 4 ≤ source then 0 else 1)) (rest := []) ?_ (fun hj1 => ?_)
  · exact r_zret E T (b01 (Or.inl rfl) (b01 (Or.inl rfl) (Or.inr rfl))) dX4_has_14 (eqI.mk (by rw [fX4_has]) rfl)
  · refine r_if_lt E 13 dX4_has_1 (by decide) rfl (fun c1 => ?_) (fun c1 => ?_)
    · refine r_iconst E (v := 0) dX4_has_13 (by decide) rfl ?_
      exact hj1 _ (by rw [if_pos c1])
    · refine r_iload_n E 1 dX4_has_4 rfl rfl rfl ?_
      refine r_iconst E (v := 4) dX4_has_5 (by decide) rfl ?_
      refine r_icmp_ge E 13 dX4_has_6 (by decide) rfl (fun c2 => ?_) (fun c2 => ?_)
      · refine r_iconst E (v := 0) dX4_has_13 (by decide) rfl ?_
        exact hj1 _ (by rw [if_neg c1, if_pos c2])
      · refine r_iconst E (v := 1) dX4_has_9 (by decide) rfl ?_
        refine r_goto E 14 dX4_has_10 (by decide) ?_
        exact hj1 _ (by rw [if_neg c1, if_neg c2])
def fX4_hasItem (i : Int32) : Int32 := if i < 0 then 0 else (if 8 ≤ i then 0 else 1)
theorem b_X4_hasItem (i : Int32) : fX4_hasItem i = 0 ∨ fX4_hasItem i = 1 := (b01 (Or.inl rfl) (b01 (Or.inl rfl) (Or.inr rfl)))
set_option maxRecDepth 100000 in
set_option maxHeartbeats 4000000 in
theorem c_X4_hasItem {l : Launch} {k : Kt} {ad : Nat → Nat} {G : Nat → Nat → Int32} {V : Nat → Int32} {n : Nat} (i : Int32) : CT l k yX4_hasItem cX4_hasItem 2 (some .boolean) 0 [.ref (ad 1), .int i] (WC k ad G V n) (eqI (fX4_hasItem i) (WC k ad G V n)) 0 0 := by
  refine ct_of (own := RX4) (lv0 := [(0, .ref (ad 1)), (1, .int i)]) (by decide) rfl (Nat.le_of_ble_eq_true rfl) rfl ?_
  rintro z rfl rfl hz - E T
  refine r_iload_n E 1 dX4_hasItem_0 rfl rfl rfl ?_
  refine r_join 15 (if i < 0 then 0 else (if 8 ≤ i then 0 else 1)) (rest := []) ?_ (fun hj1 => ?_)
  · exact r_zret E T (b01 (Or.inl rfl) (b01 (Or.inl rfl) (Or.inr rfl))) dX4_hasItem_15 (eqI.mk (by rw [fX4_hasItem]) rfl)
  · refine r_if_lt E 14 dX4_hasItem_1 (by decide) rfl (fun c1 => ?_) (fun c1 => ?_)
    · refine r_iconst E (v := 0) dX4_hasItem_14 (by decide) rfl ?_
      exact hj1 _ (by rw [if_pos c1])
    · refine r_iload_n E 1 dX4_hasItem_4 rfl rfl rfl ?_
      refine r_bipush E (v := 8) dX4_hasItem_5 (by decide) rfl ?_
      refine r_icmp_ge E 14 dX4_hasItem_7 (by decide) rfl (fun c2 => ?_) (fun c2 => ?_)
      · refine r_iconst E (v := 0) dX4_hasItem_14 (by decide) rfl ?_
        exact hj1 _ (by rw [if_neg c1, if_pos c2])
      · refine r_iconst E (v := 1) dX4_hasItem_10 (by decide) rfl ?_
        refine r_goto E 15 dX4_hasItem_11 (by decide) ?_
        exact hj1 _ (by rw [if_neg c1, if_neg c2])
def fX4_cellOf (source : Int32) (i : Int32) : Int32 := ((source * 6) + i) * 3
set_option maxRecDepth 100000 in
set_option maxHeartbeats 4000000 in
theorem c_X4_cellOf {l : Launch} {k : Kt} {ad : Nat → Nat} {G : Nat → Nat → Int32} {V : Nat → Int32} {n : Nat} (source : Int32) (i : Int32) : CT l k yX4_cellOf cX4_cellOf 3 (some .int) 0 [.ref (ad 1), .int source, .int i] (WC k ad G V n) (eqI (fX4_cellOf source i) (WC k ad G V n)) 0 0 := by
  refine ct_of (own := RX4) (lv0 := [(0, .ref (ad 1)), (1, .int source), (2, .int i)]) (by decide) rfl (Nat.le_of_ble_eq_true rfl) rfl ?_
  rintro z rfl rfl hz - E T
  refine r_iload_n E 1 dX4_cellOf_0 rfl rfl rfl ?_
  refine r_bipush E (v := 6) dX4_cellOf_1 (by decide) rfl ?_
  refine r_imul E dX4_cellOf_3 rfl ?_
  refine r_iload_n E 2 dX4_cellOf_4 rfl rfl rfl ?_
  refine r_iadd E dX4_cellOf_5 rfl ?_
  refine r_iconst E (v := 3) dX4_cellOf_6 (by decide) rfl ?_
  refine r_imul E dX4_cellOf_7 rfl ?_
  exact r_iret E T dX4_cellOf_8 (eqI.mk (by rw [fX4_cellOf]) rfl)
def fX4_empty (G : Nat → Nat → Int32) (source : Int32) : Int32 := G 3 (ix source)
def fX4_empty_G (G : Nat → Nat → Int32) (source : Int32) : Nat → Nat → Int32 := ug G 3 (ix source) 0
set_option maxRecDepth 100000 in
set_option maxHeartbeats 4000000 in
theorem c_X4_empty {l : Launch} {k : Kt} {ad : Nat → Nat} {G : Nat → Nat → Int32} {V : Nat → Int32} {n : Nat} (source : Int32) (hs : vp_in source 4) : CT l k yX4_empty cX4_empty 3 (some .int) 0 [.ref (ad 1), .int source] (WC k ad G V n) (eqI (fX4_empty G source) (WC k ad (fX4_empty_G G source) V n)) 0 0 := by
  refine ct_of (own := RX4) (lv0 := [(0, .ref (ad 1)), (1, .int source)]) (by decide) rfl (Nat.le_of_ble_eq_true rfl) rfl ?_
  rintro z rfl rfl hz - E T
  refine r_aload_n E 0 dX4_empty_0 rfl rfl rfl ?_
  refine r_get E fX4_15 1 wc_1 rfl dX4_empty_1 rfl ?_
  refine r_iload_n E 1 dX4_empty_4 rfl rfl rfl ?_
  refine r_iald E 3 wc_3 (by assumption) dX4_empty_5 rfl ?_
  refine r_istore_n E [1, 2, 0] dX4_empty_6 rfl (by rw [hz]; decide) rfl rfl ?_
  refine r_aload_n E 0 dX4_empty_7 rfl rfl rfl ?_
  refine r_get E fX4_15 1 wc_1 rfl dX4_empty_8 rfl ?_
  refine r_iload_n E 1 dX4_empty_11 rfl rfl rfl ?_
  refine r_iconst E (v := 0) dX4_empty_12 (by decide) rfl ?_
  refine r_iast E 3 wc_3 (by assumption) wcu_3 dX4_empty_13 rfl ?_
  refine r_iload_n E 2 dX4_empty_14 rfl rfl rfl ?_
  exact r_iret E T dX4_empty_15 (eqI.mk (by rw [fX4_empty]) (cgC (by rw [fX4_empty_G]) rfl))
/-- a source's next row lies in its cells -/
theorem cellOf_in {source y : Int32} {d : Nat} (hd : d < 3) (hs : vp_in source 4) (hy : ∃ j : Nat, j ≤ 6 ∧ y = nI j) (h6 : y < 6) : vp_in (fX4_cellOf source y + nI d) 72 := by
  obtain ⟨i, hi, rfl⟩ := vp_in_of hs (by decide)
  obtain ⟨j, hj, rfl⟩ := hy
  have h : j < 6 := Nat.not_le.mp fun h => nI_nlt h (by omega) (show nI j < nI 6 from h6)
  unfold fX4_cellOf
  rw [show (6 : Int32) = nI 6 from rfl, show (3 : Int32) = nI 3 from rfl, pk_mul, nI_add, pk_mul, nI_add]
  exact vp_in_nI (by omega) (by omega)
theorem cellOf_in0 {source y : Int32} (hs : vp_in source 4) (hy : ∃ j : Nat, j ≤ 6 ∧ y = nI j) (h6 : y < 6) : vp_in (fX4_cellOf source y) 72 := by
  have h := cellOf_in (d := 0) (by omega) hs hy h6
  rwa [nI_0, Int32.add_zero] at h
theorem cellOf_in1 {source y : Int32} (hs : vp_in source 4) (hy : ∃ j : Nat, j ≤ 6 ∧ y = nI j) (h6 : y < 6) : vp_in (fX4_cellOf source y + 1) 72 := by
  rw [show (1 : Int32) = nI 1 from rfl]; exact cellOf_in (by omega) hs hy h6
theorem cellOf_in2 {source y : Int32} (hs : vp_in source 4) (hy : ∃ j : Nat, j ≤ 6 ∧ y = nI j) (h6 : y < 6) : vp_in (fX4_cellOf source y + 2) 72 := by
  rw [show (2 : Int32) = nI 2 from rfl]; exact cellOf_in (by omega) hs hy h6
def fX4_add (G : Nat → Nat → Int32) (source : Int32) (a : Int32) (b : Int32) (c : Int32) : Int32 := if G 3 (ix source) < 6 then ((ug (ug (ug (ug G 2 (ix (fX4_cellOf source (G 3 (ix source)))) a) 2 (ix ((fX4_cellOf source (G 3 (ix source))) + 1)) b) 2 (ix ((fX4_cellOf source (G 3 (ix source))) + 2)) c) 3 (ix source) (((ug (ug (ug G 2 (ix (fX4_cellOf source (G 3 (ix source)))) a) 2 (ix ((fX4_cellOf source (G 3 (ix source))) + 1)) b) 2 (ix ((fX4_cellOf source (G 3 (ix source))) + 2)) c) 3 (ix source)) + 1)) 3 (ix source)) else (-2)
def fX4_add_G (G : Nat → Nat → Int32) (source : Int32) (a : Int32) (b : Int32) (c : Int32) : Nat → Nat → Int32 := if G 3 (ix source) < 6 then (ug (ug (ug (ug G 2 (ix (fX4_cellOf source (G 3 (ix source)))) a) 2 (ix ((fX4_cellOf source (G 3 (ix source))) + 1)) b) 2 (ix ((fX4_cellOf source (G 3 (ix source))) + 2)) c) 3 (ix source) (((ug (ug (ug G 2 (ix (fX4_cellOf source (G 3 (ix source)))) a) 2 (ix ((fX4_cellOf source (G 3 (ix source))) + 1)) b) 2 (ix ((fX4_cellOf source (G 3 (ix source))) + 2)) c) 3 (ix source)) + 1)) else G
set_option maxRecDepth 100000 in
set_option maxHeartbeats 4000000 in
theorem c_X4_add {l : Launch} {k : Kt} {ad : Nat → Nat} {G : Nat → Nat → Int32} {V : Nat → Int32} {n : Nat} (source : Int32) (a : Int32) (b : Int32) (c : Int32) (hs : vp_in source 4) (hy : ∃ j : Nat, j ≤ 6 ∧ G 3 (ix source) = nI j) : CT l k yX4_add cX4_add 6 (some .int) 1 [.ref (ad 1), .int source, .int a, .int b, .int c] (WC k ad G V n) (eqI (fX4_add G source a b c) (WC k ad (fX4_add_G G source a b c) V n)) 0 0 := by
  refine ct_of (own := RX4) (lv0 := [(0, .ref (ad 1)), (1, .int source), (2, .int a), (3, .int b), (4, .int c)]) (by decide) rfl (Nat.le_of_ble_eq_true rfl) rfl ?_
  rintro z rfl rfl hz - E T
  refine r_aload_n E 0 dX4_add_0 rfl rfl rfl ?_
  refine r_get E fX4_15 1 wc_1 rfl dX4_add_1 rfl ?_
  refine r_iload_n E 1 dX4_add_4 rfl rfl rfl ?_
  refine r_iald E 3 wc_3 hs dX4_add_5 rfl ?_
  refine r_bipush E (v := 6) dX4_add_6 (by decide) rfl ?_
  refine r_icmp_lt E 14 dX4_add_8 (by decide) rfl (fun c1 => ?_) (fun c1 => ?_)
  · refine r_aload_n E 0 dX4_add_14 rfl rfl rfl ?_
    refine r_iload_n E 1 dX4_add_15 rfl rfl rfl ?_
    refine r_aload_n E 0 dX4_add_16 rfl rfl rfl ?_
    refine r_get E fX4_15 1 wc_1 rfl dX4_add_17 rfl ?_
    refine r_iload_n E 1 dX4_add_20 rfl rfl rfl ?_
    refine r_iald E 3 wc_3 hs dX4_add_21 rfl ?_
    refine rVi E cvX4_21 T.rr 1 wc_1 rfl [.int source, .int (G 3 (ix source))] (c_X4_cellOf source (G 3 (ix source))) (by decide) rfl rfl (Nat.le_of_ble_eq_true rfl) ⟨(Nat.le_of_ble_eq_true rfl), (Nat.le_of_ble_eq_true rfl)⟩ dX4_add_22 rfl ?_
    refine r_istore E [1, 2, 3, 4, 5, 0] dX4_add_25 (by rw [hz]; decide) rfl rfl ?_
    refine r_aload_n E 0 dX4_add_27 rfl rfl rfl ?_
    refine r_get E fX4_11 1 wc_1 rfl dX4_add_28 rfl ?_
    refine r_iload E 5 dX4_add_31 rfl rfl ?_
    refine r_iload_n E 2 dX4_add_33 rfl rfl rfl ?_
    refine r_iast E 2 wc_2 (cellOf_in0 hs hy (by assumption)) wcu_2 dX4_add_34 rfl ?_
    refine r_aload_n E 0 dX4_add_35 rfl rfl rfl ?_
    refine r_get E fX4_11 1 wc_1 rfl dX4_add_36 rfl ?_
    refine r_iload E 5 dX4_add_39 rfl rfl ?_
    refine r_iconst E (v := 1) dX4_add_41 (by decide) rfl ?_
    refine r_iadd E dX4_add_42 rfl ?_
    refine r_iload_n E 3 dX4_add_43 rfl rfl rfl ?_
    refine r_iast E 2 wc_2 (cellOf_in1 hs hy (by assumption)) wcu_2 dX4_add_44 rfl ?_
    refine r_aload_n E 0 dX4_add_45 rfl rfl rfl ?_
    refine r_get E fX4_11 1 wc_1 rfl dX4_add_46 rfl ?_
    refine r_iload E 5 dX4_add_49 rfl rfl ?_
    refine r_iconst E (v := 2) dX4_add_51 (by decide) rfl ?_
    refine r_iadd E dX4_add_52 rfl ?_
    refine r_iload E 4 dX4_add_53 rfl rfl ?_
    refine r_iast E 2 wc_2 (cellOf_in2 hs hy (by assumption)) wcu_2 dX4_add_55 rfl ?_
    refine r_aload_n E 0 dX4_add_56 rfl rfl rfl ?_
    refine r_get E fX4_15 1 wc_1 rfl dX4_add_57 rfl ?_
    refine r_iload_n E 1 dX4_add_60 rfl rfl rfl ?_
    refine r_dup2 E dX4_add_61 rfl rfl rfl ?_
    refine r_iald E 3 wc_3 hs dX4_add_62 rfl ?_
    refine r_iconst E (v := 1) dX4_add_63 (by decide) rfl ?_
    refine r_iadd E dX4_add_64 rfl ?_
    refine r_iast E 3 wc_3 hs wcu_3 dX4_add_65 rfl ?_
    refine r_aload_n E 0 dX4_add_66 rfl rfl rfl ?_
    refine r_get E fX4_15 1 wc_1 rfl dX4_add_67 rfl ?_
    refine r_iload_n E 1 dX4_add_70 rfl rfl rfl ?_
    refine r_iald E 3 wc_3 hs dX4_add_71 rfl ?_
    exact r_iret E T dX4_add_72 (eqI.mk (by rw [fX4_add, if_pos c1]) (cgC (by rw [fX4_add_G, if_pos c1]) rfl))
  · refine r_bipush E (v := (-2)) dX4_add_11 (by decide) rfl ?_
    exact r_iret E T dX4_add_13 (eqI.mk (by rw [fX4_add, if_neg c1]) (cgC (by rw [fX4_add_G, if_neg c1]) rfl))
def fX0_takesFirst (kind : Int32) : Int32 := if kind < 2 then 0 else 1
theorem b_X0_takesFirst (kind : Int32) : fX0_takesFirst kind = 0 ∨ fX0_takesFirst kind = 1 := (b01 (Or.inl rfl) (Or.inr rfl))
set_option maxRecDepth 100000 in
set_option maxHeartbeats 4000000 in
theorem c_X0_takesFirst {l : Launch} {k : Kt} {ad : Nat → Nat} {G : Nat → Nat → Int32} {V : Nat → Int32} {n : Nat} (kind : Int32) : CT l k yX0_takesFirst cX0_takesFirst 1 (some .boolean) 0 [.int kind] (WC k ad G V n) (eqI (fX0_takesFirst kind) (WC k ad G V n)) 0 0 := by
  refine ct_of (own := RX0) (lv0 := [(0, .int kind)]) (by decide) rfl (Nat.le_of_ble_eq_true rfl) rfl ?_
  rintro z rfl rfl hz - E T
  refine r_iload_n E 0 dX0_takesFirst_0 rfl rfl rfl ?_
  refine r_iconst E (v := 2) dX0_takesFirst_1 (by decide) rfl ?_
  refine r_join 10 (if kind < 2 then 0 else 1) (rest := []) ?_ (fun hj1 => ?_)
  · exact r_zret E T (b01 (Or.inl rfl) (Or.inr rfl)) dX0_takesFirst_10 (eqI.mk (by rw [fX0_takesFirst]) rfl)
  · refine r_icmp_lt E 9 dX0_takesFirst_2 (by decide) rfl (fun c1 => ?_) (fun c1 => ?_)
    · refine r_iconst E (v := 0) dX0_takesFirst_9 (by decide) rfl ?_
      exact hj1 _ (by rw [if_pos c1])
    · refine r_iconst E (v := 1) dX0_takesFirst_5 (by decide) rfl ?_
      refine r_goto E 10 dX0_takesFirst_6 (by decide) ?_
      exact hj1 _ (by rw [if_neg c1])
def fX0_takesSecond (kind : Int32) : Int32 := if kind < 2 then 0 else (if kind = 6 then 0 else (if kind = 11 then 0 else 1))
theorem b_X0_takesSecond (kind : Int32) : fX0_takesSecond kind = 0 ∨ fX0_takesSecond kind = 1 := (b01 (Or.inl rfl) (b01 (Or.inl rfl) (b01 (Or.inl rfl) (Or.inr rfl))))
set_option maxRecDepth 100000 in
set_option maxHeartbeats 4000000 in
theorem c_X0_takesSecond {l : Launch} {k : Kt} {ad : Nat → Nat} {G : Nat → Nat → Int32} {V : Nat → Int32} {n : Nat} (kind : Int32) : CT l k yX0_takesSecond cX0_takesSecond 1 (some .boolean) 0 [.int kind] (WC k ad G V n) (eqI (fX0_takesSecond kind) (WC k ad G V n)) 0 0 := by
  refine ct_of (own := RX0) (lv0 := [(0, .int kind)]) (by decide) rfl (Nat.le_of_ble_eq_true rfl) rfl ?_
  rintro z rfl rfl hz - E T
  refine r_iload_n E 0 dX0_takesSecond_0 rfl rfl rfl ?_
  refine r_iconst E (v := 2) dX0_takesSecond_1 (by decide) rfl ?_
  refine r_join 22 (if kind < 2 then 0 else (if kind = 6 then 0 else (if kind = 11 then 0 else 1))) (rest := []) ?_ (fun hj1 => ?_)
  · exact r_zret E T (b01 (Or.inl rfl) (b01 (Or.inl rfl) (b01 (Or.inl rfl) (Or.inr rfl)))) dX0_takesSecond_22 (eqI.mk (by rw [fX0_takesSecond]) rfl)
  · refine r_icmp_lt E 21 dX0_takesSecond_2 (by decide) rfl (fun c1 => ?_) (fun c1 => ?_)
    · refine r_iconst E (v := 0) dX0_takesSecond_21 (by decide) rfl ?_
      exact hj1 _ (by rw [if_pos c1])
    · refine r_iload_n E 0 dX0_takesSecond_5 rfl rfl rfl ?_
      refine r_bipush E (v := 6) dX0_takesSecond_6 (by decide) rfl ?_
      refine r_icmp_eq E 21 dX0_takesSecond_8 (by decide) rfl (fun c2 => ?_) (fun c2 => ?_)
      · refine r_iconst E (v := 0) dX0_takesSecond_21 (by decide) rfl ?_
        exact hj1 _ (by rw [if_neg c1, if_pos c2])
      · refine r_iload_n E 0 dX0_takesSecond_11 rfl rfl rfl ?_
        refine r_bipush E (v := 11) dX0_takesSecond_12 (by decide) rfl ?_
        refine r_icmp_eq E 21 dX0_takesSecond_14 (by decide) rfl (fun c3 => ?_) (fun c3 => ?_)
        · refine r_iconst E (v := 0) dX0_takesSecond_21 (by decide) rfl ?_
          exact hj1 _ (by rw [if_neg c1, if_neg c2, if_pos c3])
        · refine r_iconst E (v := 1) dX0_takesSecond_17 (by decide) rfl ?_
          refine r_goto E 22 dX0_takesSecond_18 (by decide) ?_
          exact hj1 _ (by rw [if_neg c1, if_neg c2, if_neg c3])
def fX0_has (V : Nat → Int32) (f : Int32) : Int32 := if f < 0 then 0 else (if V 0 ≤ f then 0 else 1)
theorem b_X0_has (V : Nat → Int32) (f : Int32) : fX0_has V f = 0 ∨ fX0_has V f = 1 := (b01 (Or.inl rfl) (b01 (Or.inl rfl) (Or.inr rfl)))
set_option maxRecDepth 100000 in
set_option maxHeartbeats 4000000 in
theorem c_X0_has {l : Launch} {k : Kt} {ad : Nat → Nat} {G : Nat → Nat → Int32} {V : Nat → Int32} {n : Nat} (f : Int32) : CT l k yX0_has cX0_has 2 (some .boolean) 0 [.ref (ad 5), .int f] (WC k ad G V n) (eqI (fX0_has V f) (WC k ad G V n)) 0 0 := by
  refine ct_of (own := RX0) (lv0 := [(0, .ref (ad 5)), (1, .int f)]) (by decide) rfl (Nat.le_of_ble_eq_true rfl) rfl ?_
  rintro z rfl rfl hz - E T
  refine r_iload_n E 1 dX0_has_0 rfl rfl rfl ?_
  refine r_join 17 (if f < 0 then 0 else (if V 0 ≤ f then 0 else 1)) (rest := []) ?_ (fun hj1 => ?_)
  · exact r_zret E T (b01 (Or.inl rfl) (b01 (Or.inl rfl) (Or.inr rfl))) dX0_has_17 (eqI.mk (by rw [fX0_has]) rfl)
  · refine r_if_lt E 16 dX0_has_1 (by decide) rfl (fun c1 => ?_) (fun c1 => ?_)
    · refine r_iconst E (v := 0) dX0_has_16 (by decide) rfl ?_
      exact hj1 _ (by rw [if_pos c1])
    · refine r_iload_n E 1 dX0_has_4 rfl rfl rfl ?_
      refine r_aload_n E 0 dX0_has_5 rfl rfl rfl ?_
      refine r_get E fX0_31 5 wc_5 rfl dX0_has_6 rfl ?_
      refine r_icmp_ge E 16 dX0_has_9 (by decide) rfl (fun c2 => ?_) (fun c2 => ?_)
      · refine r_iconst E (v := 0) dX0_has_16 (by decide) rfl ?_
        exact hj1 _ (by rw [if_neg c1, if_pos c2])
      · refine r_iconst E (v := 1) dX0_has_12 (by decide) rfl ?_
        refine r_goto E 17 dX0_has_13 (by decide) ?_
        exact hj1 _ (by rw [if_neg c1, if_neg c2])
def fX0_isAsTold (V : Nat → Int32) (kind : Int32) (a : Int32) (b : Int32) : Int32 := if kind < 0 then 0 else (if 12 ≤ kind then 0 else (if kind = 0 then (if fX5_isMember a = 0 then 0 else (if fX0_takesFirst kind = 0 then (if fX0_takesSecond kind = 0 then 1 else (if fX0_has V b = 0 then 0 else 1)) else (if fX0_has V a = 0 then 0 else (if fX0_takesSecond kind = 0 then 1 else (if fX0_has V b = 0 then 0 else 1))))) else (if fX0_takesFirst kind = 0 then (if fX0_takesSecond kind = 0 then 1 else (if fX0_has V b = 0 then 0 else 1)) else (if fX0_has V a = 0 then 0 else (if fX0_takesSecond kind = 0 then 1 else (if fX0_has V b = 0 then 0 else 1))))))
theorem b_X0_isAsTold (V : Nat → Int32) (kind : Int32) (a : Int32) (b : Int32) : fX0_isAsTold V kind a b = 0 ∨ fX0_isAsTold V kind a b = 1 := (b01 (Or.inl rfl) (b01 (Or.inl rfl) (b01 (b01 (Or.inl rfl) (b01 (b01 (Or.inr rfl) (b01 (Or.inl rfl) (Or.inr rfl))) (b01 (Or.inl rfl) (b01 (Or.inr rfl) (b01 (Or.inl rfl) (Or.inr rfl)))))) (b01 (b01 (Or.inr rfl) (b01 (Or.inl rfl) (Or.inr rfl))) (b01 (Or.inl rfl) (b01 (Or.inr rfl) (b01 (Or.inl rfl) (Or.inr rfl))))))))
set_option maxRecDepth 100000 in
set_option maxHeartbeats 4000000 in
theorem c_X0_isAsTold {l : Launch} {k : Kt} {ad : Nat → Nat} {G : Nat → Nat → Int32} {V : Nat → Int32} {n : Nat} (kind : Int32) (a : Int32) (b : Int32) : CT l k yX0_isAsTold cX0_isAsTold 4 (some .boolean) 1 [.ref (ad 5), .int kind, .int a, .int b] (WC k ad G V n) (eqI (fX0_isAsTold V kind a b) (WC k ad G V n)) 0 0 := by
  refine ct_of (own := RX0) (lv0 := [(0, .ref (ad 5)), (1, .int kind), (2, .int a), (3, .int b)]) (by decide) rfl (Nat.le_of_ble_eq_true rfl) rfl ?_
  rintro z rfl rfl hz - E T
  refine r_iload_n E 1 dX0_isAsTold_0 rfl rfl rfl ?_
  refine r_if_lt E 21 dX0_isAsTold_1 (by decide) rfl (fun c1 => ?_) (fun c1 => ?_)
  · refine r_iconst E (v := 0) dX0_isAsTold_21 (by decide) rfl ?_
    exact r_zret E T (Or.inl rfl) dX0_isAsTold_22 (eqI.mk (by rw [fX0_isAsTold, if_pos c1]) rfl)
  · refine r_iload_n E 1 dX0_isAsTold_4 rfl rfl rfl ?_
    refine r_bipush E (v := 12) dX0_isAsTold_5 (by decide) rfl ?_
    refine r_icmp_ge E 21 dX0_isAsTold_7 (by decide) rfl (fun c2 => ?_) (fun c2 => ?_)
    · refine r_iconst E (v := 0) dX0_isAsTold_21 (by decide) rfl ?_
      exact r_zret E T (Or.inl rfl) dX0_isAsTold_22 (eqI.mk (by rw [fX0_isAsTold, if_neg c1, if_pos c2]) rfl)
    · refine r_iload_n E 1 dX0_isAsTold_10 rfl rfl rfl ?_
      refine r_if_ne E 23 dX0_isAsTold_11 (by decide) rfl (fun c3 => ?_) (fun c3 => ?_)
      · refine r_iload_n E 1 dX0_isAsTold_23 rfl rfl rfl ?_
        refine rSi E csX0_39 T.rr [.int kind] (c_X0_takesFirst kind) (by decide) rfl rfl (Nat.le_of_ble_eq_true rfl) ⟨(Nat.le_of_ble_eq_true rfl), (Nat.le_of_ble_eq_true rfl)⟩ dX0_isAsTold_24 rfl ?_
        refine r_join 58 (if fX0_takesFirst kind = 0 then (if fX0_takesSecond kind = 0 then 1 else (if fX0_has V b = 0 then 0 else 1)) else (if fX0_has V a = 0 then 0 else (if fX0_takesSecond kind = 0 then 1 else (if fX0_has V b = 0 then 0 else 1)))) (rest := []) ?_ (fun hj1 => ?_)
        · exact r_zret E T (b01 (b01 (Or.inr rfl) (b01 (Or.inl rfl) (Or.inr rfl))) (b01 (Or.inl rfl) (b01 (Or.inr rfl) (b01 (Or.inl rfl) (Or.inr rfl))))) dX0_isAsTold_58 (eqI.mk (by rw [fX0_isAsTold, if_neg c1, if_neg c2, if_neg c3]) rfl)
        · refine r_if_eq E 38 dX0_isAsTold_27 (by decide) rfl (fun c4 => ?_) (fun c4 => ?_)
          · refine r_iload_n E 1 dX0_isAsTold_38 rfl rfl rfl ?_
            refine rSi E csX0_45 T.rr [.int kind] (c_X0_takesSecond kind) (by decide) rfl rfl (Nat.le_of_ble_eq_true rfl) ⟨(Nat.le_of_ble_eq_true rfl), (Nat.le_of_ble_eq_true rfl)⟩ dX0_isAsTold_39 rfl ?_
            refine r_if_eq E 53 dX0_isAsTold_42 (by decide) rfl (fun c5 => ?_) (fun c5 => ?_)
            · refine r_iconst E (v := 1) dX0_isAsTold_53 (by decide) rfl ?_
              refine r_goto E 58 dX0_isAsTold_54 (by decide) ?_
              exact hj1 _ (by rw [if_pos c4, if_pos c5])
            · refine r_aload_n E 0 dX0_isAsTold_45 rfl rfl rfl ?_
              refine r_iload_n E 3 dX0_isAsTold_46 rfl rfl rfl ?_
              refine rVi E cvX0_42 T.rr 5 wc_5 rfl [.int b] (c_X0_has b) (by decide) rfl rfl (Nat.le_of_ble_eq_true rfl) ⟨(Nat.le_of_ble_eq_true rfl), (Nat.le_of_ble_eq_true rfl)⟩ dX0_isAsTold_47 rfl ?_
              refine r_if_eq E 57 dX0_isAsTold_50 (by decide) rfl (fun c6 => ?_) (fun c6 => ?_)
              · refine r_iconst E (v := 0) dX0_isAsTold_57 (by decide) rfl ?_
                exact hj1 _ (by rw [if_pos c4, if_neg c5, if_pos c6])
              · refine r_iconst E (v := 1) dX0_isAsTold_53 (by decide) rfl ?_
                refine r_goto E 58 dX0_isAsTold_54 (by decide) ?_
                exact hj1 _ (by rw [if_pos c4, if_neg c5, if_neg c6])
          · refine r_aload_n E 0 dX0_isAsTold_30 rfl rfl rfl ?_
            refine r_iload_n E 2 dX0_isAsTold_31 rfl rfl rfl ?_
            refine rVi E cvX0_42 T.rr 5 wc_5 rfl [.int a] (c_X0_has a) (by decide) rfl rfl (Nat.le_of_ble_eq_true rfl) ⟨(Nat.le_of_ble_eq_true rfl), (Nat.le_of_ble_eq_true rfl)⟩ dX0_isAsTold_32 rfl ?_
            refine r_if_eq E 57 dX0_isAsTold_35 (by decide) rfl (fun c7 => ?_) (fun c7 => ?_)
            · refine r_iconst E (v := 0) dX0_isAsTold_57 (by decide) rfl ?_
              exact hj1 _ (by rw [if_neg c4, if_pos c7])
            · refine r_iload_n E 1 dX0_isAsTold_38 rfl rfl rfl ?_
              refine rSi E csX0_45 T.rr [.int kind] (c_X0_takesSecond kind) (by decide) rfl rfl (Nat.le_of_ble_eq_true rfl) ⟨(Nat.le_of_ble_eq_true rfl), (Nat.le_of_ble_eq_true rfl)⟩ dX0_isAsTold_39 rfl ?_
              refine r_if_eq E 53 dX0_isAsTold_42 (by decide) rfl (fun c8 => ?_) (fun c8 => ?_)
              · refine r_iconst E (v := 1) dX0_isAsTold_53 (by decide) rfl ?_
                refine r_goto E 58 dX0_isAsTold_54 (by decide) ?_
                exact hj1 _ (by rw [if_neg c4, if_neg c7, if_pos c8])
              · refine r_aload_n E 0 dX0_isAsTold_45 rfl rfl rfl ?_
                refine r_iload_n E 3 dX0_isAsTold_46 rfl rfl rfl ?_
                refine rVi E cvX0_42 T.rr 5 wc_5 rfl [.int b] (c_X0_has b) (by decide) rfl rfl (Nat.le_of_ble_eq_true rfl) ⟨(Nat.le_of_ble_eq_true rfl), (Nat.le_of_ble_eq_true rfl)⟩ dX0_isAsTold_47 rfl ?_
                refine r_if_eq E 57 dX0_isAsTold_50 (by decide) rfl (fun c9 => ?_) (fun c9 => ?_)
                · refine r_iconst E (v := 0) dX0_isAsTold_57 (by decide) rfl ?_
                  exact hj1 _ (by rw [if_neg c4, if_neg c7, if_neg c8, if_pos c9])
                · refine r_iconst E (v := 1) dX0_isAsTold_53 (by decide) rfl ?_
                  refine r_goto E 58 dX0_isAsTold_54 (by decide) ?_
                  exact hj1 _ (by rw [if_neg c4, if_neg c7, if_neg c8, if_neg c9])
      · refine r_iload_n E 2 dX0_isAsTold_14 rfl rfl rfl ?_
        refine rSNi E cnX0_35 T.rr [.int a] (c_X5_isMember a) (by decide) rfl rfl (Nat.le_of_ble_eq_true rfl) ⟨(Nat.le_of_ble_eq_true rfl), (Nat.le_of_ble_eq_true rfl)⟩ dX0_isAsTold_15 rfl ?_
        refine r_if_ne E 23 dX0_isAsTold_18 (by decide) rfl (fun c10 => ?_) (fun c10 => ?_)
        · refine r_iload_n E 1 dX0_isAsTold_23 rfl rfl rfl ?_
          refine rSi E csX0_39 T.rr [.int kind] (c_X0_takesFirst kind) (by decide) rfl rfl (Nat.le_of_ble_eq_true rfl) ⟨(Nat.le_of_ble_eq_true rfl), (Nat.le_of_ble_eq_true rfl)⟩ dX0_isAsTold_24 rfl ?_
          refine r_join 58 (if fX0_takesFirst kind = 0 then (if fX0_takesSecond kind = 0 then 1 else (if fX0_has V b = 0 then 0 else 1)) else (if fX0_has V a = 0 then 0 else (if fX0_takesSecond kind = 0 then 1 else (if fX0_has V b = 0 then 0 else 1)))) (rest := []) ?_ (fun hj2 => ?_)
          · exact r_zret E T (b01 (b01 (Or.inr rfl) (b01 (Or.inl rfl) (Or.inr rfl))) (b01 (Or.inl rfl) (b01 (Or.inr rfl) (b01 (Or.inl rfl) (Or.inr rfl))))) dX0_isAsTold_58 (eqI.mk (by rw [fX0_isAsTold, if_neg c1, if_neg c2, if_pos c3, if_neg c10]) rfl)
          · refine r_if_eq E 38 dX0_isAsTold_27 (by decide) rfl (fun c11 => ?_) (fun c11 => ?_)
            · refine r_iload_n E 1 dX0_isAsTold_38 rfl rfl rfl ?_
              refine rSi E csX0_45 T.rr [.int kind] (c_X0_takesSecond kind) (by decide) rfl rfl (Nat.le_of_ble_eq_true rfl) ⟨(Nat.le_of_ble_eq_true rfl), (Nat.le_of_ble_eq_true rfl)⟩ dX0_isAsTold_39 rfl ?_
              refine r_if_eq E 53 dX0_isAsTold_42 (by decide) rfl (fun c12 => ?_) (fun c12 => ?_)
              · refine r_iconst E (v := 1) dX0_isAsTold_53 (by decide) rfl ?_
                refine r_goto E 58 dX0_isAsTold_54 (by decide) ?_
                exact hj2 _ (by rw [if_pos c11, if_pos c12])
              · refine r_aload_n E 0 dX0_isAsTold_45 rfl rfl rfl ?_
                refine r_iload_n E 3 dX0_isAsTold_46 rfl rfl rfl ?_
                refine rVi E cvX0_42 T.rr 5 wc_5 rfl [.int b] (c_X0_has b) (by decide) rfl rfl (Nat.le_of_ble_eq_true rfl) ⟨(Nat.le_of_ble_eq_true rfl), (Nat.le_of_ble_eq_true rfl)⟩ dX0_isAsTold_47 rfl ?_
                refine r_if_eq E 57 dX0_isAsTold_50 (by decide) rfl (fun c13 => ?_) (fun c13 => ?_)
                · refine r_iconst E (v := 0) dX0_isAsTold_57 (by decide) rfl ?_
                  exact hj2 _ (by rw [if_pos c11, if_neg c12, if_pos c13])
                · refine r_iconst E (v := 1) dX0_isAsTold_53 (by decide) rfl ?_
                  refine r_goto E 58 dX0_isAsTold_54 (by decide) ?_
                  exact hj2 _ (by rw [if_pos c11, if_neg c12, if_neg c13])
            · refine r_aload_n E 0 dX0_isAsTold_30 rfl rfl rfl ?_
              refine r_iload_n E 2 dX0_isAsTold_31 rfl rfl rfl ?_
              refine rVi E cvX0_42 T.rr 5 wc_5 rfl [.int a] (c_X0_has a) (by decide) rfl rfl (Nat.le_of_ble_eq_true rfl) ⟨(Nat.le_of_ble_eq_true rfl), (Nat.le_of_ble_eq_true rfl)⟩ dX0_isAsTold_32 rfl ?_
              refine r_if_eq E 57 dX0_isAsTold_35 (by decide) rfl (fun c14 => ?_) (fun c14 => ?_)
              · refine r_iconst E (v := 0) dX0_isAsTold_57 (by decide) rfl ?_
                exact hj2 _ (by rw [if_neg c11, if_pos c14])
              · refine r_iload_n E 1 dX0_isAsTold_38 rfl rfl rfl ?_
                refine rSi E csX0_45 T.rr [.int kind] (c_X0_takesSecond kind) (by decide) rfl rfl (Nat.le_of_ble_eq_true rfl) ⟨(Nat.le_of_ble_eq_true rfl), (Nat.le_of_ble_eq_true rfl)⟩ dX0_isAsTold_39 rfl ?_
                refine r_if_eq E 53 dX0_isAsTold_42 (by decide) rfl (fun c15 => ?_) (fun c15 => ?_)
                · refine r_iconst E (v := 1) dX0_isAsTold_53 (by decide) rfl ?_
                  refine r_goto E 58 dX0_isAsTold_54 (by decide) ?_
                  exact hj2 _ (by rw [if_neg c11, if_neg c14, if_pos c15])
                · refine r_aload_n E 0 dX0_isAsTold_45 rfl rfl rfl ?_
                  refine r_iload_n E 3 dX0_isAsTold_46 rfl rfl rfl ?_
                  refine rVi E cvX0_42 T.rr 5 wc_5 rfl [.int b] (c_X0_has b) (by decide) rfl rfl (Nat.le_of_ble_eq_true rfl) ⟨(Nat.le_of_ble_eq_true rfl), (Nat.le_of_ble_eq_true rfl)⟩ dX0_isAsTold_47 rfl ?_
                  refine r_if_eq E 57 dX0_isAsTold_50 (by decide) rfl (fun c16 => ?_) (fun c16 => ?_)
                  · refine r_iconst E (v := 0) dX0_isAsTold_57 (by decide) rfl ?_
                    exact hj2 _ (by rw [if_neg c11, if_neg c14, if_neg c15, if_pos c16])
                  · refine r_iconst E (v := 1) dX0_isAsTold_53 (by decide) rfl ?_
                    refine r_goto E 58 dX0_isAsTold_54 (by decide) ?_
                    exact hj2 _ (by rw [if_neg c11, if_neg c14, if_neg c15, if_neg c16])
        · refine r_iconst E (v := 0) dX0_isAsTold_21 (by decide) rfl ?_
          exact r_zret E T (Or.inl rfl) dX0_isAsTold_22 (eqI.mk (by rw [fX0_isAsTold, if_neg c1, if_neg c2, if_pos c3, if_pos c10]) rfl)
def fX0_sizeOf (G : Nat → Nat → Int32) (kind : Int32) (a : Int32) (b : Int32) : Int32 := (1 + (if fX0_takesFirst kind = 0 then 0 else (G 9 (ix a)))) + (if fX0_takesSecond kind = 0 then 0 else (G 9 (ix b)))
set_option maxRecDepth 100000 in
set_option maxHeartbeats 4000000 in
theorem c_X0_sizeOf {l : Launch} {k : Kt} {ad : Nat → Nat} {G : Nat → Nat → Int32} {V : Nat → Int32} {n : Nat} (kind : Int32) (a : Int32) (b : Int32) (ha : ¬ fX0_takesFirst kind = 0 → vp_in a 40) (hb : ¬ fX0_takesSecond kind = 0 → vp_in b 40) : CT l k yX0_sizeOf cX0_sizeOf 4 (some .int) 1 [.ref (ad 5), .int kind, .int a, .int b] (WC k ad G V n) (eqI (fX0_sizeOf G kind a b) (WC k ad G V n)) 0 0 := by
  refine ct_of (own := RX0) (lv0 := [(0, .ref (ad 5)), (1, .int kind), (2, .int a), (3, .int b)]) (by decide) rfl (Nat.le_of_ble_eq_true rfl) rfl ?_
  rintro z rfl rfl hz - E T
  refine r_iconst E (v := 1) dX0_sizeOf_0 (by decide) rfl ?_
  refine r_iload_n E 1 dX0_sizeOf_1 rfl rfl rfl ?_
  refine rSi E csX0_39 T.rr [.int kind] (c_X0_takesFirst kind) (by decide) rfl rfl (Nat.le_of_ble_eq_true rfl) ⟨(Nat.le_of_ble_eq_true rfl), (Nat.le_of_ble_eq_true rfl)⟩ dX0_sizeOf_2 rfl ?_
  refine r_join 18 (if fX0_takesFirst kind = 0 then 0 else (G 9 (ix a))) (rest := [.int 1]) ?_ (fun hj1 => ?_)
  · refine r_iadd E dX0_sizeOf_18 rfl ?_
    refine r_iload_n E 1 dX0_sizeOf_19 rfl rfl rfl ?_
    refine rSi E csX0_45 T.rr [.int kind] (c_X0_takesSecond kind) (by decide) rfl rfl (Nat.le_of_ble_eq_true rfl) ⟨(Nat.le_of_ble_eq_true rfl), (Nat.le_of_ble_eq_true rfl)⟩ dX0_sizeOf_20 rfl ?_
    refine r_join 36 (if fX0_takesSecond kind = 0 then 0 else (G 9 (ix b))) (rest := [.int (1 + (if fX0_takesFirst kind = 0 then 0 else (G 9 (ix a))))]) ?_ (fun hj2 => ?_)
    · refine r_iadd E dX0_sizeOf_36 rfl ?_
      exact r_iret E T dX0_sizeOf_37 (eqI.mk (by rw [fX0_sizeOf]) rfl)
    · refine r_if_eq E 35 dX0_sizeOf_23 (by decide) rfl (fun c2 => ?_) (fun c2 => ?_)
      · refine r_iconst E (v := 0) dX0_sizeOf_35 (by decide) rfl ?_
        exact hj2 _ (by rw [if_pos c2])
      · refine r_aload_n E 0 dX0_sizeOf_26 rfl rfl rfl ?_
        refine r_get E fX0_21 5 wc_5 rfl dX0_sizeOf_27 rfl ?_
        refine r_iload_n E 3 dX0_sizeOf_30 rfl rfl rfl ?_
        refine r_iald E 9 wc_9 (by first | exact ha (by assumption) | exact hb (by assumption)) dX0_sizeOf_31 rfl ?_
        refine r_goto E 36 dX0_sizeOf_32 (by decide) ?_
        exact hj2 _ (by rw [if_neg c2])
  · refine r_if_eq E 17 dX0_sizeOf_5 (by decide) rfl (fun c1 => ?_) (fun c1 => ?_)
    · refine r_iconst E (v := 0) dX0_sizeOf_17 (by decide) rfl ?_
      exact hj1 _ (by rw [if_pos c1])
    · refine r_aload_n E 0 dX0_sizeOf_8 rfl rfl rfl ?_
      refine r_get E fX0_21 5 wc_5 rfl dX0_sizeOf_9 rfl ?_
      refine r_iload_n E 2 dX0_sizeOf_12 rfl rfl rfl ?_
      refine r_iald E 9 wc_9 (by first | exact ha (by assumption) | exact hb (by assumption)) dX0_sizeOf_13 rfl ?_
      refine r_goto E 18 dX0_sizeOf_14 (by decide) ?_
      exact hj1 _ (by rw [if_neg c1])
def fX0_readsOf (G : Nat → Nat → Int32) (kind : Int32) (a : Int32) (b : Int32) : Int32 := if kind = 0 then (1 <<< (a &&& 31)) else ((if fX0_takesFirst kind = 0 then 0 else (G 10 (ix a))) ||| (if fX0_takesSecond kind = 0 then 0 else (G 10 (ix b))))
set_option maxRecDepth 100000 in
set_option maxHeartbeats 4000000 in
theorem c_X0_readsOf {l : Launch} {k : Kt} {ad : Nat → Nat} {G : Nat → Nat → Int32} {V : Nat → Int32} {n : Nat} (kind : Int32) (a : Int32) (b : Int32) (ha : ¬ fX0_takesFirst kind = 0 → vp_in a 40) (hb : ¬ fX0_takesSecond kind = 0 → vp_in b 40) : CT l k yX0_readsOf cX0_readsOf 4 (some .int) 1 [.ref (ad 5), .int kind, .int a, .int b] (WC k ad G V n) (eqI (fX0_readsOf G kind a b) (WC k ad G V n)) 0 0 := by
  refine ct_of (own := RX0) (lv0 := [(0, .ref (ad 5)), (1, .int kind), (2, .int a), (3, .int b)]) (by decide) rfl (Nat.le_of_ble_eq_true rfl) rfl ?_
  rintro z rfl rfl hz - E T
  refine r_iload_n E 1 dX0_readsOf_0 rfl rfl rfl ?_
  refine r_if_ne E 8 dX0_readsOf_1 (by decide) rfl (fun c1 => ?_) (fun c1 => ?_)
  · refine r_iload_n E 1 dX0_readsOf_8 rfl rfl rfl ?_
    refine rSi E csX0_39 T.rr [.int kind] (c_X0_takesFirst kind) (by decide) rfl rfl (Nat.le_of_ble_eq_true rfl) ⟨(Nat.le_of_ble_eq_true rfl), (Nat.le_of_ble_eq_true rfl)⟩ dX0_readsOf_9 rfl ?_
    refine r_join 25 (if fX0_takesFirst kind = 0 then 0 else (G 10 (ix a))) (rest := []) ?_ (fun hj1 => ?_)
    · refine r_iload_n E 1 dX0_readsOf_25 rfl rfl rfl ?_
      refine rSi E csX0_45 T.rr [.int kind] (c_X0_takesSecond kind) (by decide) rfl rfl (Nat.le_of_ble_eq_true rfl) ⟨(Nat.le_of_ble_eq_true rfl), (Nat.le_of_ble_eq_true rfl)⟩ dX0_readsOf_26 rfl ?_
      refine r_join 42 (if fX0_takesSecond kind = 0 then 0 else (G 10 (ix b))) (rest := [.int (if fX0_takesFirst kind = 0 then 0 else (G 10 (ix a)))]) ?_ (fun hj2 => ?_)
      · refine r_ior E dX0_readsOf_42 rfl ?_
        exact r_iret E T dX0_readsOf_43 (eqI.mk (by rw [fX0_readsOf, if_neg c1]) rfl)
      · refine r_if_eq E 41 dX0_readsOf_29 (by decide) rfl (fun c3 => ?_) (fun c3 => ?_)
        · refine r_iconst E (v := 0) dX0_readsOf_41 (by decide) rfl ?_
          exact hj2 _ (by rw [if_pos c3])
        · refine r_aload_n E 0 dX0_readsOf_32 rfl rfl rfl ?_
          refine r_get E fX0_24 5 wc_5 rfl dX0_readsOf_33 rfl ?_
          refine r_iload_n E 3 dX0_readsOf_36 rfl rfl rfl ?_
          refine r_iald E 10 wc_10 (by first | exact ha (by assumption) | exact hb (by assumption)) dX0_readsOf_37 rfl ?_
          refine r_goto E 42 dX0_readsOf_38 (by decide) ?_
          exact hj2 _ (by rw [if_neg c3])
    · refine r_if_eq E 24 dX0_readsOf_12 (by decide) rfl (fun c2 => ?_) (fun c2 => ?_)
      · refine r_iconst E (v := 0) dX0_readsOf_24 (by decide) rfl ?_
        exact hj1 _ (by rw [if_pos c2])
      · refine r_aload_n E 0 dX0_readsOf_15 rfl rfl rfl ?_
        refine r_get E fX0_24 5 wc_5 rfl dX0_readsOf_16 rfl ?_
        refine r_iload_n E 2 dX0_readsOf_19 rfl rfl rfl ?_
        refine r_iald E 10 wc_10 (by first | exact ha (by assumption) | exact hb (by assumption)) dX0_readsOf_20 rfl ?_
        refine r_goto E 25 dX0_readsOf_21 (by decide) ?_
        exact hj1 _ (by rw [if_neg c2])
  · refine r_iconst E (v := 1) dX0_readsOf_4 (by decide) rfl ?_
    refine r_iload_n E 2 dX0_readsOf_5 rfl rfl rfl ?_
    refine r_ishl E dX0_readsOf_6 rfl ?_
    exact r_iret E T dX0_readsOf_7 (eqI.mk (by rw [fX0_readsOf, if_pos c1]) rfl)
def fX0_failsOf (G : Nat → Nat → Int32) (kind : Int32) (a : Int32) (b : Int32) : Int32 := if kind = 5 then 1 else (if kind = 6 then 1 else (if fX0_takesFirst kind = 0 then (if fX0_takesSecond kind = 0 then 0 else (if G 11 (ix b) = 0 then 0 else 1)) else (if G 11 (ix a) = 0 then (if fX0_takesSecond kind = 0 then 0 else (if G 11 (ix b) = 0 then 0 else 1)) else 1)))
theorem b_X0_failsOf (G : Nat → Nat → Int32) (kind : Int32) (a : Int32) (b : Int32) : fX0_failsOf G kind a b = 0 ∨ fX0_failsOf G kind a b = 1 := (b01 (Or.inr rfl) (b01 (Or.inr rfl) (b01 (b01 (Or.inl rfl) (b01 (Or.inl rfl) (Or.inr rfl))) (b01 (b01 (Or.inl rfl) (b01 (Or.inl rfl) (Or.inr rfl))) (Or.inr rfl)))))
set_option maxRecDepth 100000 in
set_option maxHeartbeats 4000000 in
theorem c_X0_failsOf {l : Launch} {k : Kt} {ad : Nat → Nat} {G : Nat → Nat → Int32} {V : Nat → Int32} {n : Nat} (kind : Int32) (a : Int32) (b : Int32) (ha : ¬ fX0_takesFirst kind = 0 → vp_in a 40) (hb : ¬ fX0_takesSecond kind = 0 → vp_in b 40) : CT l k yX0_failsOf cX0_failsOf 4 (some .boolean) 1 [.ref (ad 5), .int kind, .int a, .int b] (WC k ad G V n) (eqI (fX0_failsOf G kind a b) (WC k ad G V n)) 0 0 := by
  refine ct_of (own := RX0) (lv0 := [(0, .ref (ad 5)), (1, .int kind), (2, .int a), (3, .int b)]) (by decide) rfl (Nat.le_of_ble_eq_true rfl) rfl ?_
  rintro z rfl rfl hz - E T
  refine r_iload_n E 1 dX0_failsOf_0 rfl rfl rfl ?_
  refine r_iconst E (v := 5) dX0_failsOf_1 (by decide) rfl ?_
  refine r_icmp_eq E 11 dX0_failsOf_2 (by decide) rfl (fun c1 => ?_) (fun c1 => ?_)
  · refine r_iconst E (v := 1) dX0_failsOf_11 (by decide) rfl ?_
    exact r_zret E T (Or.inr rfl) dX0_failsOf_12 (eqI.mk (by rw [fX0_failsOf, if_pos c1]) rfl)
  · refine r_iload_n E 1 dX0_failsOf_5 rfl rfl rfl ?_
    refine r_bipush E (v := 6) dX0_failsOf_6 (by decide) rfl ?_
    refine r_icmp_ne E 13 dX0_failsOf_8 (by decide) rfl (fun c2 => ?_) (fun c2 => ?_)
    · refine r_iload_n E 1 dX0_failsOf_13 rfl rfl rfl ?_
      refine rSi E csX0_39 T.rr [.int kind] (c_X0_takesFirst kind) (by decide) rfl rfl (Nat.le_of_ble_eq_true rfl) ⟨(Nat.le_of_ble_eq_true rfl), (Nat.le_of_ble_eq_true rfl)⟩ dX0_failsOf_14 rfl ?_
      refine r_join 50 (if fX0_takesFirst kind = 0 then (if fX0_takesSecond kind = 0 then 0 else (if G 11 (ix b) = 0 then 0 else 1)) else (if G 11 (ix a) = 0 then (if fX0_takesSecond kind = 0 then 0 else (if G 11 (ix b) = 0 then 0 else 1)) else 1)) (rest := []) ?_ (fun hj1 => ?_)
      · exact r_zret E T (b01 (b01 (Or.inl rfl) (b01 (Or.inl rfl) (Or.inr rfl))) (b01 (b01 (Or.inl rfl) (b01 (Or.inl rfl) (Or.inr rfl))) (Or.inr rfl))) dX0_failsOf_50 (eqI.mk (by rw [fX0_failsOf, if_neg c1, if_neg c2]) rfl)
      · refine r_if_eq E 29 dX0_failsOf_17 (by decide) rfl (fun c3 => ?_) (fun c3 => ?_)
        · refine r_iload_n E 1 dX0_failsOf_29 rfl rfl rfl ?_
          refine rSi E csX0_45 T.rr [.int kind] (c_X0_takesSecond kind) (by decide) rfl rfl (Nat.le_of_ble_eq_true rfl) ⟨(Nat.le_of_ble_eq_true rfl), (Nat.le_of_ble_eq_true rfl)⟩ dX0_failsOf_30 rfl ?_
          refine r_if_eq E 49 dX0_failsOf_33 (by decide) rfl (fun c4 => ?_) (fun c4 => ?_)
          · refine r_iconst E (v := 0) dX0_failsOf_49 (by decide) rfl ?_
            exact hj1 _ (by rw [if_pos c3, if_pos c4])
          · refine r_aload_n E 0 dX0_failsOf_36 rfl rfl rfl ?_
            refine r_get E fX0_27 5 wc_5 rfl dX0_failsOf_37 rfl ?_
            refine r_iload_n E 3 dX0_failsOf_40 rfl rfl rfl ?_
            refine r_zald E 11 wc_11 (by first | exact ha (by assumption) | exact hb (by assumption)) dX0_failsOf_41 rfl ?_
            refine r_if_eq E 49 dX0_failsOf_42 (by decide) rfl (fun c5 => ?_) (fun c5 => ?_)
            · refine r_iconst E (v := 0) dX0_failsOf_49 (by decide) rfl ?_
              exact hj1 _ (by rw [if_pos c3, if_neg c4, if_pos c5])
            · refine r_iconst E (v := 1) dX0_failsOf_45 (by decide) rfl ?_
              refine r_goto E 50 dX0_failsOf_46 (by decide) ?_
              exact hj1 _ (by rw [if_pos c3, if_neg c4, if_neg c5])
        · refine r_aload_n E 0 dX0_failsOf_20 rfl rfl rfl ?_
          refine r_get E fX0_27 5 wc_5 rfl dX0_failsOf_21 rfl ?_
          refine r_iload_n E 2 dX0_failsOf_24 rfl rfl rfl ?_
          refine r_zald E 11 wc_11 (by first | exact ha (by assumption) | exact hb (by assumption)) dX0_failsOf_25 rfl ?_
          refine r_if_ne E 45 dX0_failsOf_26 (by decide) rfl (fun c6 => ?_) (fun c6 => ?_)
          · refine r_iconst E (v := 1) dX0_failsOf_45 (by decide) rfl ?_
            refine r_goto E 50 dX0_failsOf_46 (by decide) ?_
            exact hj1 _ (by rw [if_neg c3, if_neg c6])
          · refine r_iload_n E 1 dX0_failsOf_29 rfl rfl rfl ?_
            refine rSi E csX0_45 T.rr [.int kind] (c_X0_takesSecond kind) (by decide) rfl rfl (Nat.le_of_ble_eq_true rfl) ⟨(Nat.le_of_ble_eq_true rfl), (Nat.le_of_ble_eq_true rfl)⟩ dX0_failsOf_30 rfl ?_
            refine r_if_eq E 49 dX0_failsOf_33 (by decide) rfl (fun c7 => ?_) (fun c7 => ?_)
            · refine r_iconst E (v := 0) dX0_failsOf_49 (by decide) rfl ?_
              exact hj1 _ (by rw [if_neg c3, if_pos c6, if_pos c7])
            · refine r_aload_n E 0 dX0_failsOf_36 rfl rfl rfl ?_
              refine r_get E fX0_27 5 wc_5 rfl dX0_failsOf_37 rfl ?_
              refine r_iload_n E 3 dX0_failsOf_40 rfl rfl rfl ?_
              refine r_zald E 11 wc_11 (by first | exact ha (by assumption) | exact hb (by assumption)) dX0_failsOf_41 rfl ?_
              refine r_if_eq E 49 dX0_failsOf_42 (by decide) rfl (fun c8 => ?_) (fun c8 => ?_)
              · refine r_iconst E (v := 0) dX0_failsOf_49 (by decide) rfl ?_
                exact hj1 _ (by rw [if_neg c3, if_pos c6, if_neg c7, if_pos c8])
              · refine r_iconst E (v := 1) dX0_failsOf_45 (by decide) rfl ?_
                refine r_goto E 50 dX0_failsOf_46 (by decide) ?_
                exact hj1 _ (by rw [if_neg c3, if_pos c6, if_neg c7, if_neg c8])
    · refine r_iconst E (v := 1) dX0_failsOf_11 (by decide) rfl ?_
      exact r_zret E T (Or.inr rfl) dX0_failsOf_12 (eqI.mk (by rw [fX0_failsOf, if_neg c1, if_pos c2]) rfl)
def fX0_hasRoom (G : Nat → Nat → Int32) (V : Nat → Int32) (kind : Int32) (a : Int32) (b : Int32) : Int32 := if 40 ≤ V 0 then 0 else (if 30 < fX0_sizeOf G kind a b then 0 else 1)
theorem b_X0_hasRoom (G : Nat → Nat → Int32) (V : Nat → Int32) (kind : Int32) (a : Int32) (b : Int32) : fX0_hasRoom G V kind a b = 0 ∨ fX0_hasRoom G V kind a b = 1 := (b01 (Or.inl rfl) (b01 (Or.inl rfl) (Or.inr rfl)))
set_option maxRecDepth 100000 in
set_option maxHeartbeats 4000000 in
theorem c_X0_hasRoom {l : Launch} {k : Kt} {ad : Nat → Nat} {G : Nat → Nat → Int32} {V : Nat → Int32} {n : Nat} (kind : Int32) (a : Int32) (b : Int32) (ha : ¬ fX0_takesFirst kind = 0 → vp_in a 40) (hb : ¬ fX0_takesSecond kind = 0 → vp_in b 40) : CT l k yX0_hasRoom cX0_hasRoom 4 (some .boolean) 2 [.ref (ad 5), .int kind, .int a, .int b] (WC k ad G V n) (eqI (fX0_hasRoom G V kind a b) (WC k ad G V n)) 0 0 := by
  refine ct_of (own := RX0) (lv0 := [(0, .ref (ad 5)), (1, .int kind), (2, .int a), (3, .int b)]) (by decide) rfl (Nat.le_of_ble_eq_true rfl) rfl ?_
  rintro z rfl rfl hz - E T
  refine r_aload_n E 0 dX0_hasRoom_0 rfl rfl rfl ?_
  refine r_get E fX0_31 5 wc_5 rfl dX0_hasRoom_1 rfl ?_
  refine r_bipush E (v := 40) dX0_hasRoom_4 (by decide) rfl ?_
  refine r_join 26 (if 40 ≤ V 0 then 0 else (if 30 < fX0_sizeOf G kind a b then 0 else 1)) (rest := []) ?_ (fun hj1 => ?_)
  · exact r_zret E T (b01 (Or.inl rfl) (b01 (Or.inl rfl) (Or.inr rfl))) dX0_hasRoom_26 (eqI.mk (by rw [fX0_hasRoom]) rfl)
  · refine r_icmp_ge E 25 dX0_hasRoom_6 (by decide) rfl (fun c1 => ?_) (fun c1 => ?_)
    · refine r_iconst E (v := 0) dX0_hasRoom_25 (by decide) rfl ?_
      exact hj1 _ (by rw [if_pos c1])
    · refine r_aload_n E 0 dX0_hasRoom_9 rfl rfl rfl ?_
      refine r_iload_n E 1 dX0_hasRoom_10 rfl rfl rfl ?_
      refine r_iload_n E 2 dX0_hasRoom_11 rfl rfl rfl ?_
      refine r_iload_n E 3 dX0_hasRoom_12 rfl rfl rfl ?_
      refine rVi E cvX0_48 T.rr 5 wc_5 rfl [.int kind, .int a, .int b] (c_X0_sizeOf kind a b (by assumption) (by assumption)) (by decide) rfl rfl (Nat.le_of_ble_eq_true rfl) ⟨(Nat.le_of_ble_eq_true rfl), (Nat.le_of_ble_eq_true rfl)⟩ dX0_hasRoom_13 rfl ?_
      refine r_bipush E (v := 30) dX0_hasRoom_16 (by decide) rfl ?_
      refine r_icmp_gt E 25 dX0_hasRoom_18 (by decide) rfl (fun c2 => ?_) (fun c2 => ?_)
      · refine r_iconst E (v := 0) dX0_hasRoom_25 (by decide) rfl ?_
        exact hj1 _ (by rw [if_neg c1, if_pos c2])
      · refine r_iconst E (v := 1) dX0_hasRoom_21 (by decide) rfl ?_
        refine r_goto E 26 dX0_hasRoom_22 (by decide) ?_
        exact hj1 _ (by rw [if_neg c1, if_neg c2])
theorem hasRoom_in {G : Nat → Nat → Int32} {V : Nat → Int32} {kind a b : Int32} (h0 : ∃ j : Nat, j ≤ 40 ∧ V 0 = nI j) (h : ¬ fX0_hasRoom G V kind a b = 0) : vp_in (V 0) 40 := by
  obtain ⟨j, hj, e⟩ := h0
  unfold fX0_hasRoom at h
  by_cases c : 40 ≤ V 0
  · rw [if_pos c] at h; exact absurd rfl h
  · rw [e] at c ⊢
    exact vp_in_nI (Nat.not_le.mp fun q => c (show nI 40 ≤ nI j from nI_le q (by omega))) (by omega)
def fX0_add (G : Nat → Nat → Int32) (V : Nat → Int32) (kind : Int32) (a : Int32) (b : Int32) : Int32 := if fX0_hasRoom G V kind a b = 0 then (-2) else (V 0)
def fX0_add_G (G : Nat → Nat → Int32) (V : Nat → Int32) (kind : Int32) (a : Int32) (b : Int32) : Nat → Nat → Int32 := if fX0_hasRoom G V kind a b = 0 then G else (ug (ug (ug (ug (ug (ug G 6 (ix (V 0)) kind) 7 (ix (V 0)) a) 8 (ix (V 0)) (if fX0_takesSecond kind = 0 then 0 else b)) 9 (ix (V 0)) (fX0_sizeOf (ug (ug (ug G 6 (ix (V 0)) kind) 7 (ix (V 0)) a) 8 (ix (V 0)) (if fX0_takesSecond kind = 0 then 0 else b)) kind a b)) 10 (ix (V 0)) (fX0_readsOf (ug (ug (ug (ug G 6 (ix (V 0)) kind) 7 (ix (V 0)) a) 8 (ix (V 0)) (if fX0_takesSecond kind = 0 then 0 else b)) 9 (ix (V 0)) (fX0_sizeOf (ug (ug (ug G 6 (ix (V 0)) kind) 7 (ix (V 0)) a) 8 (ix (V 0)) (if fX0_takesSecond kind = 0 then 0 else b)) kind a b)) kind a b)) 11 (ix (V 0)) (fX0_failsOf (ug (ug (ug (ug (ug G 6 (ix (V 0)) kind) 7 (ix (V 0)) a) 8 (ix (V 0)) (if fX0_takesSecond kind = 0 then 0 else b)) 9 (ix (V 0)) (fX0_sizeOf (ug (ug (ug G 6 (ix (V 0)) kind) 7 (ix (V 0)) a) 8 (ix (V 0)) (if fX0_takesSecond kind = 0 then 0 else b)) kind a b)) 10 (ix (V 0)) (fX0_readsOf (ug (ug (ug (ug G 6 (ix (V 0)) kind) 7 (ix (V 0)) a) 8 (ix (V 0)) (if fX0_takesSecond kind = 0 then 0 else b)) 9 (ix (V 0)) (fX0_sizeOf (ug (ug (ug G 6 (ix (V 0)) kind) 7 (ix (V 0)) a) 8 (ix (V 0)) (if fX0_takesSecond kind = 0 then 0 else b)) kind a b)) kind a b)) kind a b))
def fX0_add_V (G : Nat → Nat → Int32) (V : Nat → Int32) (kind : Int32) (a : Int32) (b : Int32) : Nat → Int32 := if fX0_hasRoom G V kind a b = 0 then V else (upd V 0 ((V 0) + 1))
set_option maxRecDepth 100000 in
set_option maxHeartbeats 4000000 in
theorem c_X0_add {l : Launch} {k : Kt} {ad : Nat → Nat} {G : Nat → Nat → Int32} {V : Nat → Int32} {n : Nat} (kind : Int32) (a : Int32) (b : Int32) (ha : ¬ fX0_takesFirst kind = 0 → vp_in a 40) (hb : ¬ fX0_takesSecond kind = 0 → vp_in b 40) (h0 : ∃ j : Nat, j ≤ 40 ∧ V 0 = nI j) : CT l k yX0_add cX0_add 5 (some .int) 3 [.ref (ad 5), .int kind, .int a, .int b] (WC k ad G V n) (eqI (fX0_add G V kind a b) (WC k ad (fX0_add_G G V kind a b) (fX0_add_V G V kind a b) n)) 0 0 := by
  refine ct_of (own := RX0) (lv0 := [(0, .ref (ad 5)), (1, .int kind), (2, .int a), (3, .int b)]) (by decide) rfl (Nat.le_of_ble_eq_true rfl) rfl ?_
  rintro z rfl rfl hz - E T
  refine r_aload_n E 0 dX0_add_0 rfl rfl rfl ?_
  refine r_iload_n E 1 dX0_add_1 rfl rfl rfl ?_
  refine r_iload_n E 2 dX0_add_2 rfl rfl rfl ?_
  refine r_iload_n E 3 dX0_add_3 rfl rfl rfl ?_
  refine rVi E cvX0_52 T.rr 5 wc_5 rfl [.int kind, .int a, .int b] (c_X0_hasRoom kind a b (by assumption) (by assumption)) (by decide) rfl rfl (Nat.le_of_ble_eq_true rfl) ⟨(Nat.le_of_ble_eq_true rfl), (Nat.le_of_ble_eq_true rfl)⟩ dX0_add_4 rfl ?_
  refine r_if_ne E 13 dX0_add_7 (by decide) rfl (fun c1 => ?_) (fun c1 => ?_)
  · refine r_aload_n E 0 dX0_add_13 rfl rfl rfl ?_
    refine r_get E fX0_31 5 wc_5 rfl dX0_add_14 rfl ?_
    refine r_istore E [1, 2, 3, 4, 0] dX0_add_17 (by rw [hz]; decide) rfl rfl ?_
    refine r_aload_n E 0 dX0_add_19 rfl rfl rfl ?_
    refine r_get E fX0_11 5 wc_5 rfl dX0_add_20 rfl ?_
    refine r_iload E 4 dX0_add_23 rfl rfl ?_
    refine r_iload_n E 1 dX0_add_25 rfl rfl rfl ?_
    refine r_iast E 6 wc_6 (hasRoom_in h0 (by assumption)) wcu_6 dX0_add_26 rfl ?_
    refine r_aload_n E 0 dX0_add_27 rfl rfl rfl ?_
    refine r_get E fX0_15 5 wc_5 rfl dX0_add_28 rfl ?_
    refine r_iload E 4 dX0_add_31 rfl rfl ?_
    refine r_iload_n E 2 dX0_add_33 rfl rfl rfl ?_
    refine r_iast E 7 wc_7 (hasRoom_in h0 (by assumption)) wcu_7 dX0_add_34 rfl ?_
    refine r_aload_n E 0 dX0_add_35 rfl rfl rfl ?_
    refine r_get E fX0_18 5 wc_5 rfl dX0_add_36 rfl ?_
    refine r_iload E 4 dX0_add_39 rfl rfl ?_
    refine r_iload_n E 1 dX0_add_41 rfl rfl rfl ?_
    refine rSi E csX0_45 T.rr [.int kind] (c_X0_takesSecond kind) (by decide) rfl rfl (Nat.le_of_ble_eq_true rfl) ⟨(Nat.le_of_ble_eq_true rfl), (Nat.le_of_ble_eq_true rfl)⟩ dX0_add_42 rfl ?_
    refine r_join 53 (if fX0_takesSecond kind = 0 then 0 else b) (rest := [.int (V 0), .ref (ad 8)]) ?_ (fun hj1 => ?_)
    · refine r_iast E 8 wc_8 (hasRoom_in h0 (by assumption)) wcu_8 dX0_add_53 rfl ?_
      refine r_aload_n E 0 dX0_add_54 rfl rfl rfl ?_
      refine r_get E fX0_21 5 wc_5 rfl dX0_add_55 rfl ?_
      refine r_iload E 4 dX0_add_58 rfl rfl ?_
      refine r_aload_n E 0 dX0_add_60 rfl rfl rfl ?_
      refine r_iload_n E 1 dX0_add_61 rfl rfl rfl ?_
      refine r_iload_n E 2 dX0_add_62 rfl rfl rfl ?_
      refine r_iload_n E 3 dX0_add_63 rfl rfl rfl ?_
      refine rVi E cvX0_48 T.rr 5 wc_5 rfl [.int kind, .int a, .int b] (c_X0_sizeOf kind a b (by assumption) (by assumption)) (by decide) rfl rfl (Nat.le_of_ble_eq_true rfl) ⟨(Nat.le_of_ble_eq_true rfl), (Nat.le_of_ble_eq_true rfl)⟩ dX0_add_64 rfl ?_
      refine r_iast E 9 wc_9 (hasRoom_in h0 (by assumption)) wcu_9 dX0_add_67 rfl ?_
      refine r_aload_n E 0 dX0_add_68 rfl rfl rfl ?_
      refine r_get E fX0_24 5 wc_5 rfl dX0_add_69 rfl ?_
      refine r_iload E 4 dX0_add_72 rfl rfl ?_
      refine r_aload_n E 0 dX0_add_74 rfl rfl rfl ?_
      refine r_iload_n E 1 dX0_add_75 rfl rfl rfl ?_
      refine r_iload_n E 2 dX0_add_76 rfl rfl rfl ?_
      refine r_iload_n E 3 dX0_add_77 rfl rfl rfl ?_
      refine rVi E cvX0_56 T.rr 5 wc_5 rfl [.int kind, .int a, .int b] (c_X0_readsOf kind a b (by assumption) (by assumption)) (by decide) rfl rfl (Nat.le_of_ble_eq_true rfl) ⟨(Nat.le_of_ble_eq_true rfl), (Nat.le_of_ble_eq_true rfl)⟩ dX0_add_78 rfl ?_
      refine r_iast E 10 wc_10 (hasRoom_in h0 (by assumption)) wcu_10 dX0_add_81 rfl ?_
      refine r_aload_n E 0 dX0_add_82 rfl rfl rfl ?_
      refine r_get E fX0_27 5 wc_5 rfl dX0_add_83 rfl ?_
      refine r_iload E 4 dX0_add_86 rfl rfl ?_
      refine r_aload_n E 0 dX0_add_88 rfl rfl rfl ?_
      refine r_iload_n E 1 dX0_add_89 rfl rfl rfl ?_
      refine r_iload_n E 2 dX0_add_90 rfl rfl rfl ?_
      refine r_iload_n E 3 dX0_add_91 rfl rfl rfl ?_
      refine rVi E cvX0_59 T.rr 5 wc_5 rfl [.int kind, .int a, .int b] (c_X0_failsOf kind a b (by assumption) (by assumption)) (by decide) rfl rfl (Nat.le_of_ble_eq_true rfl) ⟨(Nat.le_of_ble_eq_true rfl), (Nat.le_of_ble_eq_true rfl)⟩ dX0_add_92 rfl ?_
      refine r_zast E 11 wc_11 (hasRoom_in h0 (by assumption)) (nar_b (b_X0_failsOf _ _ _ _)) wcu_11 dX0_add_95 rfl ?_
      refine r_aload_n E 0 dX0_add_96 rfl rfl rfl ?_
      refine r_dup E dX0_add_97 rfl rfl ?_
      refine r_get E fX0_31 5 wc_5 rfl dX0_add_98 rfl ?_
      refine r_iconst E (v := 1) dX0_add_101 (by decide) rfl ?_
      refine r_iadd E dX0_add_102 rfl ?_
      refine r_put E pX0_31 rfl 5 wc_5 rfl rfl (Nat.le_of_ble_eq_true rfl) wcv_0 dX0_add_103 rfl ?_
      refine r_iload E 4 dX0_add_106 rfl rfl ?_
      exact r_iret E T dX0_add_108 (eqI.mk (by rw [fX0_add, if_neg c1]) (cgC (by rw [fX0_add_G, if_neg c1]) (by rw [fX0_add_V, if_neg c1])))
    · refine r_if_eq E 52 dX0_add_45 (by decide) rfl (fun c2 => ?_) (fun c2 => ?_)
      · refine r_iconst E (v := 0) dX0_add_52 (by decide) rfl ?_
        exact hj1 _ (by rw [if_pos c2])
      · refine r_iload_n E 3 dX0_add_48 rfl rfl rfl ?_
        refine r_goto E 53 dX0_add_49 (by decide) ?_
        exact hj1 _ (by rw [if_neg c2])
  · refine r_bipush E (v := (-2)) dX0_add_10 (by decide) rfl ?_
    exact r_iret E T dX0_add_12 (eqI.mk (by rw [fX0_add, if_pos c1]) (cgC (by rw [fX0_add_G, if_pos c1]) (by rw [fX0_add_V, if_pos c1])))
def fX1_takesRight (kind : Int32) : Int32 := if kind = 4 then 1 else (if kind = 5 then 1 else 0)
theorem b_X1_takesRight (kind : Int32) : fX1_takesRight kind = 0 ∨ fX1_takesRight kind = 1 := (b01 (Or.inr rfl) (b01 (Or.inr rfl) (Or.inl rfl)))
set_option maxRecDepth 100000 in
set_option maxHeartbeats 4000000 in
theorem c_X1_takesRight {l : Launch} {k : Kt} {ad : Nat → Nat} {G : Nat → Nat → Int32} {V : Nat → Int32} {n : Nat} (kind : Int32) : CT l k yX1_takesRight cX1_takesRight 1 (some .boolean) 0 [.int kind] (WC k ad G V n) (eqI (fX1_takesRight kind) (WC k ad G V n)) 0 0 := by
  refine ct_of (own := RX1) (lv0 := [(0, .int kind)]) (by decide) rfl (Nat.le_of_ble_eq_true rfl) rfl ?_
  rintro z rfl rfl hz - E T
  refine r_iload_n E 0 dX1_takesRight_0 rfl rfl rfl ?_
  refine r_iconst E (v := 4) dX1_takesRight_1 (by decide) rfl ?_
  refine r_join 15 (if kind = 4 then 1 else (if kind = 5 then 1 else 0)) (rest := []) ?_ (fun hj1 => ?_)
  · exact r_zret E T (b01 (Or.inr rfl) (b01 (Or.inr rfl) (Or.inl rfl))) dX1_takesRight_15 (eqI.mk (by rw [fX1_takesRight]) rfl)
  · refine r_icmp_eq E 10 dX1_takesRight_2 (by decide) rfl (fun c1 => ?_) (fun c1 => ?_)
    · refine r_iconst E (v := 1) dX1_takesRight_10 (by decide) rfl ?_
      refine r_goto E 15 dX1_takesRight_11 (by decide) ?_
      exact hj1 _ (by rw [if_pos c1])
    · refine r_iload_n E 0 dX1_takesRight_5 rfl rfl rfl ?_
      refine r_iconst E (v := 5) dX1_takesRight_6 (by decide) rfl ?_
      refine r_icmp_ne E 14 dX1_takesRight_7 (by decide) rfl (fun c2 => ?_) (fun c2 => ?_)
      · refine r_iconst E (v := 0) dX1_takesRight_14 (by decide) rfl ?_
        exact hj1 _ (by rw [if_neg c1, if_neg c2])
      · refine r_iconst E (v := 1) dX1_takesRight_10 (by decide) rfl ?_
        refine r_goto E 15 dX1_takesRight_11 (by decide) ?_
        exact hj1 _ (by rw [if_neg c1, if_pos c2])
def fX1_takesMember (kind : Int32) : Int32 := if kind = 2 then 1 else (if kind = 4 then 1 else (if kind = 6 then 1 else 0))
theorem b_X1_takesMember (kind : Int32) : fX1_takesMember kind = 0 ∨ fX1_takesMember kind = 1 := (b01 (Or.inr rfl) (b01 (Or.inr rfl) (b01 (Or.inr rfl) (Or.inl rfl))))
set_option maxRecDepth 100000 in
set_option maxHeartbeats 4000000 in
theorem c_X1_takesMember {l : Launch} {k : Kt} {ad : Nat → Nat} {G : Nat → Nat → Int32} {V : Nat → Int32} {n : Nat} (kind : Int32) : CT l k yX1_takesMember cX1_takesMember 1 (some .boolean) 0 [.int kind] (WC k ad G V n) (eqI (fX1_takesMember kind) (WC k ad G V n)) 0 0 := by
  refine ct_of (own := RX1) (lv0 := [(0, .int kind)]) (by decide) rfl (Nat.le_of_ble_eq_true rfl) rfl ?_
  rintro z rfl rfl hz - E T
  refine r_iload_n E 0 dX1_takesMember_0 rfl rfl rfl ?_
  refine r_iconst E (v := 2) dX1_takesMember_1 (by decide) rfl ?_
  refine r_join 21 (if kind = 2 then 1 else (if kind = 4 then 1 else (if kind = 6 then 1 else 0))) (rest := []) ?_ (fun hj1 => ?_)
  · exact r_zret E T (b01 (Or.inr rfl) (b01 (Or.inr rfl) (b01 (Or.inr rfl) (Or.inl rfl)))) dX1_takesMember_21 (eqI.mk (by rw [fX1_takesMember]) rfl)
  · refine r_icmp_eq E 16 dX1_takesMember_2 (by decide) rfl (fun c1 => ?_) (fun c1 => ?_)
    · refine r_iconst E (v := 1) dX1_takesMember_16 (by decide) rfl ?_
      refine r_goto E 21 dX1_takesMember_17 (by decide) ?_
      exact hj1 _ (by rw [if_pos c1])
    · refine r_iload_n E 0 dX1_takesMember_5 rfl rfl rfl ?_
      refine r_iconst E (v := 4) dX1_takesMember_6 (by decide) rfl ?_
      refine r_icmp_eq E 16 dX1_takesMember_7 (by decide) rfl (fun c2 => ?_) (fun c2 => ?_)
      · refine r_iconst E (v := 1) dX1_takesMember_16 (by decide) rfl ?_
        refine r_goto E 21 dX1_takesMember_17 (by decide) ?_
        exact hj1 _ (by rw [if_neg c1, if_pos c2])
      · refine r_iload_n E 0 dX1_takesMember_10 rfl rfl rfl ?_
        refine r_bipush E (v := 6) dX1_takesMember_11 (by decide) rfl ?_
        refine r_icmp_ne E 20 dX1_takesMember_13 (by decide) rfl (fun c3 => ?_) (fun c3 => ?_)
        · refine r_iconst E (v := 0) dX1_takesMember_20 (by decide) rfl ?_
          exact hj1 _ (by rw [if_neg c1, if_neg c2, if_neg c3])
        · refine r_iconst E (v := 1) dX1_takesMember_16 (by decide) rfl ?_
          refine r_goto E 21 dX1_takesMember_17 (by decide) ?_
          exact hj1 _ (by rw [if_neg c1, if_neg c2, if_pos c3])
def fX1_takesValue (kind : Int32) : Int32 := if kind = 0 then 0 else (if kind = 5 then 0 else (if kind = 7 then 0 else 1))
theorem b_X1_takesValue (kind : Int32) : fX1_takesValue kind = 0 ∨ fX1_takesValue kind = 1 := (b01 (Or.inl rfl) (b01 (Or.inl rfl) (b01 (Or.inl rfl) (Or.inr rfl))))
set_option maxRecDepth 100000 in
set_option maxHeartbeats 4000000 in
theorem c_X1_takesValue {l : Launch} {k : Kt} {ad : Nat → Nat} {G : Nat → Nat → Int32} {V : Nat → Int32} {n : Nat} (kind : Int32) : CT l k yX1_takesValue cX1_takesValue 1 (some .boolean) 0 [.int kind] (WC k ad G V n) (eqI (fX1_takesValue kind) (WC k ad G V n)) 0 0 := by
  refine ct_of (own := RX1) (lv0 := [(0, .int kind)]) (by decide) rfl (Nat.le_of_ble_eq_true rfl) rfl ?_
  rintro z rfl rfl hz - E T
  refine r_iload_n E 0 dX1_takesValue_0 rfl rfl rfl ?_
  refine r_join 20 (if kind = 0 then 0 else (if kind = 5 then 0 else (if kind = 7 then 0 else 1))) (rest := []) ?_ (fun hj1 => ?_)
  · exact r_zret E T (b01 (Or.inl rfl) (b01 (Or.inl rfl) (b01 (Or.inl rfl) (Or.inr rfl)))) dX1_takesValue_20 (eqI.mk (by rw [fX1_takesValue]) rfl)
  · refine r_if_eq E 19 dX1_takesValue_1 (by decide) rfl (fun c1 => ?_) (fun c1 => ?_)
    · refine r_iconst E (v := 0) dX1_takesValue_19 (by decide) rfl ?_
      exact hj1 _ (by rw [if_pos c1])
    · refine r_iload_n E 0 dX1_takesValue_4 rfl rfl rfl ?_
      refine r_iconst E (v := 5) dX1_takesValue_5 (by decide) rfl ?_
      refine r_icmp_eq E 19 dX1_takesValue_6 (by decide) rfl (fun c2 => ?_) (fun c2 => ?_)
      · refine r_iconst E (v := 0) dX1_takesValue_19 (by decide) rfl ?_
        exact hj1 _ (by rw [if_neg c1, if_pos c2])
      · refine r_iload_n E 0 dX1_takesValue_9 rfl rfl rfl ?_
        refine r_bipush E (v := 7) dX1_takesValue_10 (by decide) rfl ?_
        refine r_icmp_eq E 19 dX1_takesValue_12 (by decide) rfl (fun c3 => ?_) (fun c3 => ?_)
        · refine r_iconst E (v := 0) dX1_takesValue_19 (by decide) rfl ?_
          exact hj1 _ (by rw [if_neg c1, if_neg c2, if_pos c3])
        · refine r_iconst E (v := 1) dX1_takesValue_15 (by decide) rfl ?_
          refine r_goto E 20 dX1_takesValue_16 (by decide) ?_
          exact hj1 _ (by rw [if_neg c1, if_neg c2, if_neg c3])
def fX1_takesFormula (kind : Int32) : Int32 := if kind = 1 then 1 else (if kind = 2 then 1 else 0)
theorem b_X1_takesFormula (kind : Int32) : fX1_takesFormula kind = 0 ∨ fX1_takesFormula kind = 1 := (b01 (Or.inr rfl) (b01 (Or.inr rfl) (Or.inl rfl)))
set_option maxRecDepth 100000 in
set_option maxHeartbeats 4000000 in
theorem c_X1_takesFormula {l : Launch} {k : Kt} {ad : Nat → Nat} {G : Nat → Nat → Int32} {V : Nat → Int32} {n : Nat} (kind : Int32) : CT l k yX1_takesFormula cX1_takesFormula 1 (some .boolean) 0 [.int kind] (WC k ad G V n) (eqI (fX1_takesFormula kind) (WC k ad G V n)) 0 0 := by
  refine ct_of (own := RX1) (lv0 := [(0, .int kind)]) (by decide) rfl (Nat.le_of_ble_eq_true rfl) rfl ?_
  rintro z rfl rfl hz - E T
  refine r_iload_n E 0 dX1_takesFormula_0 rfl rfl rfl ?_
  refine r_iconst E (v := 1) dX1_takesFormula_1 (by decide) rfl ?_
  refine r_join 15 (if kind = 1 then 1 else (if kind = 2 then 1 else 0)) (rest := []) ?_ (fun hj1 => ?_)
  · exact r_zret E T (b01 (Or.inr rfl) (b01 (Or.inr rfl) (Or.inl rfl))) dX1_takesFormula_15 (eqI.mk (by rw [fX1_takesFormula]) rfl)
  · refine r_icmp_eq E 10 dX1_takesFormula_2 (by decide) rfl (fun c1 => ?_) (fun c1 => ?_)
    · refine r_iconst E (v := 1) dX1_takesFormula_10 (by decide) rfl ?_
      refine r_goto E 15 dX1_takesFormula_11 (by decide) ?_
      exact hj1 _ (by rw [if_pos c1])
    · refine r_iload_n E 0 dX1_takesFormula_5 rfl rfl rfl ?_
      refine r_iconst E (v := 2) dX1_takesFormula_6 (by decide) rfl ?_
      refine r_icmp_ne E 14 dX1_takesFormula_7 (by decide) rfl (fun c2 => ?_) (fun c2 => ?_)
      · refine r_iconst E (v := 0) dX1_takesFormula_14 (by decide) rfl ?_
        exact hj1 _ (by rw [if_neg c1, if_neg c2])
      · refine r_iconst E (v := 1) dX1_takesFormula_10 (by decide) rfl ?_
        refine r_goto E 15 dX1_takesFormula_11 (by decide) ?_
        exact hj1 _ (by rw [if_neg c1, if_pos c2])
def fX1_has (V : Nat → Int32) (x : Int32) : Int32 := if x < 0 then 0 else (if V 1 ≤ x then 0 else 1)
theorem b_X1_has (V : Nat → Int32) (x : Int32) : fX1_has V x = 0 ∨ fX1_has V x = 1 := (b01 (Or.inl rfl) (b01 (Or.inl rfl) (Or.inr rfl)))
set_option maxRecDepth 100000 in
set_option maxHeartbeats 4000000 in
theorem c_X1_has {l : Launch} {k : Kt} {ad : Nat → Nat} {G : Nat → Nat → Int32} {V : Nat → Int32} {n : Nat} (x : Int32) : CT l k yX1_has cX1_has 2 (some .boolean) 0 [.ref (ad 12), .int x] (WC k ad G V n) (eqI (fX1_has V x) (WC k ad G V n)) 0 0 := by
  refine ct_of (own := RX1) (lv0 := [(0, .ref (ad 12)), (1, .int x)]) (by decide) rfl (Nat.le_of_ble_eq_true rfl) rfl ?_
  rintro z rfl rfl hz - E T
  refine r_iload_n E 1 dX1_has_0 rfl rfl rfl ?_
  refine r_join 17 (if x < 0 then 0 else (if V 1 ≤ x then 0 else 1)) (rest := []) ?_ (fun hj1 => ?_)
  · exact r_zret E T (b01 (Or.inl rfl) (b01 (Or.inl rfl) (Or.inr rfl))) dX1_has_17 (eqI.mk (by rw [fX1_has]) rfl)
  · refine r_if_lt E 16 dX1_has_1 (by decide) rfl (fun c1 => ?_) (fun c1 => ?_)
    · refine r_iconst E (v := 0) dX1_has_16 (by decide) rfl ?_
      exact hj1 _ (by rw [if_pos c1])
    · refine r_iload_n E 1 dX1_has_4 rfl rfl rfl ?_
      refine r_aload_n E 0 dX1_has_5 rfl rfl rfl ?_
      refine r_get E fX1_45 12 wc_12 rfl dX1_has_6 rfl ?_
      refine r_icmp_ge E 16 dX1_has_9 (by decide) rfl (fun c2 => ?_) (fun c2 => ?_)
      · refine r_iconst E (v := 0) dX1_has_16 (by decide) rfl ?_
        exact hj1 _ (by rw [if_neg c1, if_pos c2])
      · refine r_iconst E (v := 1) dX1_has_12 (by decide) rfl ?_
        refine r_goto E 17 dX1_has_13 (by decide) ?_
        exact hj1 _ (by rw [if_neg c1, if_neg c2])
def fX1_hasRoom (V : Nat → Int32) (more : Int32) : Int32 := if 60 < (V 1) + more then 0 else 1
theorem b_X1_hasRoom (V : Nat → Int32) (more : Int32) : fX1_hasRoom V more = 0 ∨ fX1_hasRoom V more = 1 := (b01 (Or.inl rfl) (Or.inr rfl))
set_option maxRecDepth 100000 in
set_option maxHeartbeats 4000000 in
theorem c_X1_hasRoom {l : Launch} {k : Kt} {ad : Nat → Nat} {G : Nat → Nat → Int32} {V : Nat → Int32} {n : Nat} (more : Int32) : CT l k yX1_hasRoom cX1_hasRoom 2 (some .boolean) 0 [.ref (ad 12), .int more] (WC k ad G V n) (eqI (fX1_hasRoom V more) (WC k ad G V n)) 0 0 := by
  refine ct_of (own := RX1) (lv0 := [(0, .ref (ad 12)), (1, .int more)]) (by decide) rfl (Nat.le_of_ble_eq_true rfl) rfl ?_
  rintro z rfl rfl hz - E T
  refine r_aload_n E 0 dX1_hasRoom_0 rfl rfl rfl ?_
  refine r_get E fX1_45 12 wc_12 rfl dX1_hasRoom_1 rfl ?_
  refine r_iload_n E 1 dX1_hasRoom_4 rfl rfl rfl ?_
  refine r_iadd E dX1_hasRoom_5 rfl ?_
  refine r_bipush E (v := 60) dX1_hasRoom_6 (by decide) rfl ?_
  refine r_join 16 (if 60 < (V 1) + more then 0 else 1) (rest := []) ?_ (fun hj1 => ?_)
  · exact r_zret E T (b01 (Or.inl rfl) (Or.inr rfl)) dX1_hasRoom_16 (eqI.mk (by rw [fX1_hasRoom]) rfl)
  · refine r_icmp_gt E 15 dX1_hasRoom_8 (by decide) rfl (fun c1 => ?_) (fun c1 => ?_)
    · refine r_iconst E (v := 0) dX1_hasRoom_15 (by decide) rfl ?_
      exact hj1 _ (by rw [if_pos c1])
    · refine r_iconst E (v := 1) dX1_hasRoom_11 (by decide) rfl ?_
      refine r_goto E 16 dX1_hasRoom_12 (by decide) ?_
      exact hj1 _ (by rw [if_neg c1])
def fX1_isValue (V : Nat → Int32) (kind : Int32) (m : Int32) (v : Int32) : Int32 := if kind = 1 then (fX0_has V v) else (if kind = 2 then (fX0_has V v) else (if kind = 3 then (fX5_isSet v) else (if kind = 4 then (fX5_isSet v) else (if kind = 5 then 1 else (if kind = 6 then (if fX5_isMember v = 0 then 0 else (if v = m then 0 else 1)) else (if kind = 7 then 1 else (if kind = 8 then (if v < 0 then 0 else (if 100 < v then 0 else 1)) else 1)))))))
theorem b_X1_isValue (V : Nat → Int32) (kind : Int32) (m : Int32) (v : Int32) : fX1_isValue V kind m v = 0 ∨ fX1_isValue V kind m v = 1 := (b01 (b_X0_has _ _) (b01 (b_X0_has _ _) (b01 (b_X5_isSet _) (b01 (b_X5_isSet _) (b01 (Or.inr rfl) (b01 (b01 (Or.inl rfl) (b01 (Or.inl rfl) (Or.inr rfl))) (b01 (Or.inr rfl) (b01 (b01 (Or.inl rfl) (b01 (Or.inl rfl) (Or.inr rfl))) (Or.inr rfl)))))))))
set_option maxRecDepth 100000 in
set_option maxHeartbeats 4000000 in
theorem c_X1_isValue {l : Launch} {k : Kt} {ad : Nat → Nat} {G : Nat → Nat → Int32} {V : Nat → Int32} {n : Nat} (kind : Int32) (m : Int32) (v : Int32) : CT l k yX1_isValue cX1_isValue 4 (some .boolean) 1 [.ref (ad 12), .int kind, .int m, .int v] (WC k ad G V n) (eqI (fX1_isValue V kind m v) (WC k ad G V n)) 0 0 := by
  refine ct_of (own := RX1) (lv0 := [(0, .ref (ad 12)), (1, .int kind), (2, .int m), (3, .int v)]) (by decide) rfl (Nat.le_of_ble_eq_true rfl) rfl ?_
  rintro z rfl rfl hz - E T
  refine r_iload_n E 1 dX1_isValue_0 rfl rfl rfl ?_
  by_cases c1 : kind = 1
  · refine r_tabIn E 1 c1 48 dX1_isValue_1 (by decide) (by rfl) (by decide) ?_
    refine r_aload_n E 0 dX1_isValue_48 rfl rfl rfl ?_
    refine r_get E fX1_41 12 wc_12 rfl dX1_isValue_49 rfl ?_
    refine r_iload_n E 3 dX1_isValue_52 rfl rfl rfl ?_
    refine rVi E cvX1_70 T.rr 5 wc_5 rfl [.int v] (c_X0_has v) (by decide) rfl rfl (Nat.le_of_ble_eq_true rfl) ⟨(Nat.le_of_ble_eq_true rfl), (Nat.le_of_ble_eq_true rfl)⟩ dX1_isValue_53 rfl ?_
    exact r_zret E T (b_X0_has _ _) dX1_isValue_56 (eqI.mk (by rw [fX1_isValue, if_pos c1]) rfl)
  · by_cases c2 : kind = 2
    · refine r_tabIn E 2 c2 48 dX1_isValue_1 (by decide) (by rfl) (by decide) ?_
      refine r_aload_n E 0 dX1_isValue_48 rfl rfl rfl ?_
      refine r_get E fX1_41 12 wc_12 rfl dX1_isValue_49 rfl ?_
      refine r_iload_n E 3 dX1_isValue_52 rfl rfl rfl ?_
      refine rVi E cvX1_70 T.rr 5 wc_5 rfl [.int v] (c_X0_has v) (by decide) rfl rfl (Nat.le_of_ble_eq_true rfl) ⟨(Nat.le_of_ble_eq_true rfl), (Nat.le_of_ble_eq_true rfl)⟩ dX1_isValue_53 rfl ?_
      exact r_zret E T (b_X0_has _ _) dX1_isValue_56 (eqI.mk (by rw [fX1_isValue, if_neg c1, if_pos c2]) rfl)
    · by_cases c3 : kind = 3
      · refine r_tabIn E 3 c3 57 dX1_isValue_1 (by decide) (by rfl) (by decide) ?_
        refine r_iload_n E 3 dX1_isValue_57 rfl rfl rfl ?_
        refine rSNi E cnX1_73 T.rr [.int v] (c_X5_isSet v) (by decide) rfl rfl (Nat.le_of_ble_eq_true rfl) ⟨(Nat.le_of_ble_eq_true rfl), (Nat.le_of_ble_eq_true rfl)⟩ dX1_isValue_58 rfl ?_
        exact r_zret E T (b_X5_isSet _) dX1_isValue_61 (eqI.mk (by rw [fX1_isValue, if_neg c1, if_neg c2, if_pos c3]) rfl)
      · by_cases c4 : kind = 4
        · refine r_tabIn E 4 c4 57 dX1_isValue_1 (by decide) (by rfl) (by decide) ?_
          refine r_iload_n E 3 dX1_isValue_57 rfl rfl rfl ?_
          refine rSNi E cnX1_73 T.rr [.int v] (c_X5_isSet v) (by decide) rfl rfl (Nat.le_of_ble_eq_true rfl) ⟨(Nat.le_of_ble_eq_true rfl), (Nat.le_of_ble_eq_true rfl)⟩ dX1_isValue_58 rfl ?_
          exact r_zret E T (b_X5_isSet _) dX1_isValue_61 (eqI.mk (by rw [fX1_isValue, if_neg c1, if_neg c2, if_neg c3, if_pos c4]) rfl)
        · by_cases c5 : kind = 5
          · refine r_tabIn E 5 c5 96 dX1_isValue_1 (by decide) (by rfl) (by decide) ?_
            refine r_iconst E (v := 1) dX1_isValue_96 (by decide) rfl ?_
            exact r_zret E T (Or.inr rfl) dX1_isValue_97 (eqI.mk (by rw [fX1_isValue, if_neg c1, if_neg c2, if_neg c3, if_neg c4, if_pos c5]) rfl)
          · by_cases c6 : kind = 6
            · refine r_tabIn E 6 c6 62 dX1_isValue_1 (by decide) (by rfl) (by decide) ?_
              refine r_iload_n E 3 dX1_isValue_62 rfl rfl rfl ?_
              refine rSNi E cnX1_61 T.rr [.int v] (c_X5_isMember v) (by decide) rfl rfl (Nat.le_of_ble_eq_true rfl) ⟨(Nat.le_of_ble_eq_true rfl), (Nat.le_of_ble_eq_true rfl)⟩ dX1_isValue_63 rfl ?_
              refine r_join 79 (if fX5_isMember v = 0 then 0 else (if v = m then 0 else 1)) (rest := []) ?_ (fun hj1 => ?_)
              · exact r_zret E T (b01 (Or.inl rfl) (b01 (Or.inl rfl) (Or.inr rfl))) dX1_isValue_79 (eqI.mk (by rw [fX1_isValue, if_neg c1, if_neg c2, if_neg c3, if_neg c4, if_neg c5, if_pos c6]) rfl)
              · refine r_if_eq E 78 dX1_isValue_66 (by decide) rfl (fun c7 => ?_) (fun c7 => ?_)
                · refine r_iconst E (v := 0) dX1_isValue_78 (by decide) rfl ?_
                  exact hj1 _ (by rw [if_pos c7])
                · refine r_iload_n E 3 dX1_isValue_69 rfl rfl rfl ?_
                  refine r_iload_n E 2 dX1_isValue_70 rfl rfl rfl ?_
                  refine r_icmp_eq E 78 dX1_isValue_71 (by decide) rfl (fun c8 => ?_) (fun c8 => ?_)
                  · refine r_iconst E (v := 0) dX1_isValue_78 (by decide) rfl ?_
                    exact hj1 _ (by rw [if_neg c7, if_pos c8])
                  · refine r_iconst E (v := 1) dX1_isValue_74 (by decide) rfl ?_
                    refine r_goto E 79 dX1_isValue_75 (by decide) ?_
                    exact hj1 _ (by rw [if_neg c7, if_neg c8])
            · by_cases c9 : kind = 7
              · refine r_tabIn E 7 c9 96 dX1_isValue_1 (by decide) (by rfl) (by decide) ?_
                refine r_iconst E (v := 1) dX1_isValue_96 (by decide) rfl ?_
                exact r_zret E T (Or.inr rfl) dX1_isValue_97 (eqI.mk (by rw [fX1_isValue, if_neg c1, if_neg c2, if_neg c3, if_neg c4, if_neg c5, if_neg c6, if_pos c9]) rfl)
              · by_cases c10 : kind = 8
                · refine r_tabIn E 8 c10 80 dX1_isValue_1 (by decide) (by rfl) (by decide) ?_
                  refine r_iload_n E 3 dX1_isValue_80 rfl rfl rfl ?_
                  refine r_join 95 (if v < 0 then 0 else (if 100 < v then 0 else 1)) (rest := []) ?_ (fun hj2 => ?_)
                  · exact r_zret E T (b01 (Or.inl rfl) (b01 (Or.inl rfl) (Or.inr rfl))) dX1_isValue_95 (eqI.mk (by rw [fX1_isValue, if_neg c1, if_neg c2, if_neg c3, if_neg c4, if_neg c5, if_neg c6, if_neg c9, if_pos c10]) rfl)
                  · refine r_if_lt E 94 dX1_isValue_81 (by decide) rfl (fun c11 => ?_) (fun c11 => ?_)
                    · refine r_iconst E (v := 0) dX1_isValue_94 (by decide) rfl ?_
                      exact hj2 _ (by rw [if_pos c11])
                    · refine r_iload_n E 3 dX1_isValue_84 rfl rfl rfl ?_
                      refine r_bipush E (v := 100) dX1_isValue_85 (by decide) rfl ?_
                      refine r_icmp_gt E 94 dX1_isValue_87 (by decide) rfl (fun c12 => ?_) (fun c12 => ?_)
                      · refine r_iconst E (v := 0) dX1_isValue_94 (by decide) rfl ?_
                        exact hj2 _ (by rw [if_neg c11, if_pos c12])
                      · refine r_iconst E (v := 1) dX1_isValue_90 (by decide) rfl ?_
                        refine r_goto E 95 dX1_isValue_91 (by decide) ?_
                        exact hj2 _ (by rw [if_neg c11, if_neg c12])
                · refine r_tabOut E 96 dX1_isValue_1 (sw_out (fun j hj e => by match j with | 0 => exact c1 (e.trans (by decide)) | 1 => exact c2 (e.trans (by decide)) | 2 => exact c3 (e.trans (by decide)) | 3 => exact c4 (e.trans (by decide)) | 4 => exact c5 (e.trans (by decide)) | 5 => exact c6 (e.trans (by decide)) | 6 => exact c9 (e.trans (by decide)) | 7 => exact c10 (e.trans (by decide)) | j + 8 => omega)) (by decide) ?_
                  refine r_iconst E (v := 1) dX1_isValue_96 (by decide) rfl ?_
                  exact r_zret E T (Or.inr rfl) dX1_isValue_97 (eqI.mk (by rw [fX1_isValue, if_neg c1, if_neg c2, if_neg c3, if_neg c4, if_neg c5, if_neg c6, if_neg c9, if_neg c10]) rfl)
def fX1_isAsTold (V : Nat → Int32) (kind : Int32) (a : Int32) (b : Int32) (m : Int32) (v : Int32) : Int32 := if kind < 0 then 0 else (if kind < 9 then (if kind = 0 then (if a < 0 then 0 else (if 4 ≤ a then 0 else 1)) else (if fX1_has V a = 0 then 0 else (if fX1_takesRight kind = 0 then (if fX1_takesMember kind = 0 then (if fX1_isValue V kind m v = 0 then 0 else 1) else (if fX5_isMember m = 0 then 0 else (if fX1_isValue V kind m v = 0 then 0 else 1))) else (if fX1_has V b = 0 then 0 else (if fX1_takesMember kind = 0 then (if fX1_isValue V kind m v = 0 then 0 else 1) else (if fX5_isMember m = 0 then 0 else (if fX1_isValue V kind m v = 0 then 0 else 1))))))) else 0)
theorem b_X1_isAsTold (V : Nat → Int32) (kind : Int32) (a : Int32) (b : Int32) (m : Int32) (v : Int32) : fX1_isAsTold V kind a b m v = 0 ∨ fX1_isAsTold V kind a b m v = 1 := (b01 (Or.inl rfl) (b01 (b01 (b01 (Or.inl rfl) (b01 (Or.inl rfl) (Or.inr rfl))) (b01 (Or.inl rfl) (b01 (b01 (b01 (Or.inl rfl) (Or.inr rfl)) (b01 (Or.inl rfl) (b01 (Or.inl rfl) (Or.inr rfl)))) (b01 (Or.inl rfl) (b01 (b01 (Or.inl rfl) (Or.inr rfl)) (b01 (Or.inl rfl) (b01 (Or.inl rfl) (Or.inr rfl)))))))) (Or.inl rfl)))
set_option maxRecDepth 100000 in
set_option maxHeartbeats 4000000 in
theorem c_X1_isAsTold {l : Launch} {k : Kt} {ad : Nat → Nat} {G : Nat → Nat → Int32} {V : Nat → Int32} {n : Nat} (kind : Int32) (a : Int32) (b : Int32) (m : Int32) (v : Int32) : CT l k yX1_isAsTold cX1_isAsTold 6 (some .boolean) 2 [.ref (ad 12), .int kind, .int a, .int b, .int m, .int v] (WC k ad G V n) (eqI (fX1_isAsTold V kind a b m v) (WC k ad G V n)) 0 0 := by
  refine ct_of (own := RX1) (lv0 := [(0, .ref (ad 12)), (1, .int kind), (2, .int a), (3, .int b), (4, .int m), (5, .int v)]) (by decide) rfl (Nat.le_of_ble_eq_true rfl) rfl ?_
  rintro z rfl rfl hz - E T
  refine r_iload_n E 1 dX1_isAsTold_0 rfl rfl rfl ?_
  refine r_if_lt E 10 dX1_isAsTold_1 (by decide) rfl (fun c1 => ?_) (fun c1 => ?_)
  · refine r_iconst E (v := 0) dX1_isAsTold_10 (by decide) rfl ?_
    exact r_zret E T (Or.inl rfl) dX1_isAsTold_11 (eqI.mk (by rw [fX1_isAsTold, if_pos c1]) rfl)
  · refine r_iload_n E 1 dX1_isAsTold_4 rfl rfl rfl ?_
    refine r_bipush E (v := 9) dX1_isAsTold_5 (by decide) rfl ?_
    refine r_icmp_lt E 12 dX1_isAsTold_7 (by decide) rfl (fun c2 => ?_) (fun c2 => ?_)
    · refine r_iload_n E 1 dX1_isAsTold_12 rfl rfl rfl ?_
      refine r_if_ne E 31 dX1_isAsTold_13 (by decide) rfl (fun c3 => ?_) (fun c3 => ?_)
      · refine r_aload_n E 0 dX1_isAsTold_31 rfl rfl rfl ?_
        refine r_iload_n E 2 dX1_isAsTold_32 rfl rfl rfl ?_
        refine rVi E cvX1_51 T.rr 12 wc_12 rfl [.int a] (c_X1_has a) (by decide) rfl rfl (Nat.le_of_ble_eq_true rfl) ⟨(Nat.le_of_ble_eq_true rfl), (Nat.le_of_ble_eq_true rfl)⟩ dX1_isAsTold_33 rfl ?_
        refine r_join 86 (if fX1_has V a = 0 then 0 else (if fX1_takesRight kind = 0 then (if fX1_takesMember kind = 0 then (if fX1_isValue V kind m v = 0 then 0 else 1) else (if fX5_isMember m = 0 then 0 else (if fX1_isValue V kind m v = 0 then 0 else 1))) else (if fX1_has V b = 0 then 0 else (if fX1_takesMember kind = 0 then (if fX1_isValue V kind m v = 0 then 0 else 1) else (if fX5_isMember m = 0 then 0 else (if fX1_isValue V kind m v = 0 then 0 else 1)))))) (rest := []) ?_ (fun hj1 => ?_)
        · exact r_zret E T (b01 (Or.inl rfl) (b01 (b01 (b01 (Or.inl rfl) (Or.inr rfl)) (b01 (Or.inl rfl) (b01 (Or.inl rfl) (Or.inr rfl)))) (b01 (Or.inl rfl) (b01 (b01 (Or.inl rfl) (Or.inr rfl)) (b01 (Or.inl rfl) (b01 (Or.inl rfl) (Or.inr rfl))))))) dX1_isAsTold_86 (eqI.mk (by rw [fX1_isAsTold, if_neg c1, if_pos c2, if_neg c3]) rfl)
        · refine r_if_eq E 85 dX1_isAsTold_36 (by decide) rfl (fun c4 => ?_) (fun c4 => ?_)
          · refine r_iconst E (v := 0) dX1_isAsTold_85 (by decide) rfl ?_
            exact hj1 _ (by rw [if_pos c4])
          · refine r_iload_n E 1 dX1_isAsTold_39 rfl rfl rfl ?_
            refine rSi E csX1_55 T.rr [.int kind] (c_X1_takesRight kind) (by decide) rfl rfl (Nat.le_of_ble_eq_true rfl) ⟨(Nat.le_of_ble_eq_true rfl), (Nat.le_of_ble_eq_true rfl)⟩ dX1_isAsTold_40 rfl ?_
            refine r_if_eq E 54 dX1_isAsTold_43 (by decide) rfl (fun c5 => ?_) (fun c5 => ?_)
            · refine r_iload_n E 1 dX1_isAsTold_54 rfl rfl rfl ?_
              refine rSi E csX1_58 T.rr [.int kind] (c_X1_takesMember kind) (by decide) rfl rfl (Nat.le_of_ble_eq_true rfl) ⟨(Nat.le_of_ble_eq_true rfl), (Nat.le_of_ble_eq_true rfl)⟩ dX1_isAsTold_55 rfl ?_
              refine r_if_eq E 69 dX1_isAsTold_58 (by decide) rfl (fun c6 => ?_) (fun c6 => ?_)
              · refine r_aload_n E 0 dX1_isAsTold_69 rfl rfl rfl ?_
                refine r_iload_n E 1 dX1_isAsTold_70 rfl rfl rfl ?_
                refine r_iload E 4 dX1_isAsTold_71 rfl rfl ?_
                refine r_iload E 5 dX1_isAsTold_73 rfl rfl ?_
                refine rVi E cvX1_66 T.rr 12 wc_12 rfl [.int kind, .int m, .int v] (c_X1_isValue kind m v) (by decide) rfl rfl (Nat.le_of_ble_eq_true rfl) ⟨(Nat.le_of_ble_eq_true rfl), (Nat.le_of_ble_eq_true rfl)⟩ dX1_isAsTold_75 rfl ?_
                refine r_if_eq E 85 dX1_isAsTold_78 (by decide) rfl (fun c7 => ?_) (fun c7 => ?_)
                · refine r_iconst E (v := 0) dX1_isAsTold_85 (by decide) rfl ?_
                  exact hj1 _ (by rw [if_neg c4, if_pos c5, if_pos c6, if_pos c7])
                · refine r_iconst E (v := 1) dX1_isAsTold_81 (by decide) rfl ?_
                  refine r_goto E 86 dX1_isAsTold_82 (by decide) ?_
                  exact hj1 _ (by rw [if_neg c4, if_pos c5, if_pos c6, if_neg c7])
              · refine r_iload E 4 dX1_isAsTold_61 rfl rfl ?_
                refine rSNi E cnX1_61 T.rr [.int m] (c_X5_isMember m) (by decide) rfl rfl (Nat.le_of_ble_eq_true rfl) ⟨(Nat.le_of_ble_eq_true rfl), (Nat.le_of_ble_eq_true rfl)⟩ dX1_isAsTold_63 rfl ?_
                refine r_if_eq E 85 dX1_isAsTold_66 (by decide) rfl (fun c8 => ?_) (fun c8 => ?_)
                · refine r_iconst E (v := 0) dX1_isAsTold_85 (by decide) rfl ?_
                  exact hj1 _ (by rw [if_neg c4, if_pos c5, if_neg c6, if_pos c8])
                · refine r_aload_n E 0 dX1_isAsTold_69 rfl rfl rfl ?_
                  refine r_iload_n E 1 dX1_isAsTold_70 rfl rfl rfl ?_
                  refine r_iload E 4 dX1_isAsTold_71 rfl rfl ?_
                  refine r_iload E 5 dX1_isAsTold_73 rfl rfl ?_
                  refine rVi E cvX1_66 T.rr 12 wc_12 rfl [.int kind, .int m, .int v] (c_X1_isValue kind m v) (by decide) rfl rfl (Nat.le_of_ble_eq_true rfl) ⟨(Nat.le_of_ble_eq_true rfl), (Nat.le_of_ble_eq_true rfl)⟩ dX1_isAsTold_75 rfl ?_
                  refine r_if_eq E 85 dX1_isAsTold_78 (by decide) rfl (fun c9 => ?_) (fun c9 => ?_)
                  · refine r_iconst E (v := 0) dX1_isAsTold_85 (by decide) rfl ?_
                    exact hj1 _ (by rw [if_neg c4, if_pos c5, if_neg c6, if_neg c8, if_pos c9])
                  · refine r_iconst E (v := 1) dX1_isAsTold_81 (by decide) rfl ?_
                    refine r_goto E 86 dX1_isAsTold_82 (by decide) ?_
                    exact hj1 _ (by rw [if_neg c4, if_pos c5, if_neg c6, if_neg c8, if_neg c9])
            · refine r_aload_n E 0 dX1_isAsTold_46 rfl rfl rfl ?_
              refine r_iload_n E 3 dX1_isAsTold_47 rfl rfl rfl ?_
              refine rVi E cvX1_51 T.rr 12 wc_12 rfl [.int b] (c_X1_has b) (by decide) rfl rfl (Nat.le_of_ble_eq_true rfl) ⟨(Nat.le_of_ble_eq_true rfl), (Nat.le_of_ble_eq_true rfl)⟩ dX1_isAsTold_48 rfl ?_
              refine r_if_eq E 85 dX1_isAsTold_51 (by decide) rfl (fun c10 => ?_) (fun c10 => ?_)
              · refine r_iconst E (v := 0) dX1_isAsTold_85 (by decide) rfl ?_
                exact hj1 _ (by rw [if_neg c4, if_neg c5, if_pos c10])
              · refine r_iload_n E 1 dX1_isAsTold_54 rfl rfl rfl ?_
                refine rSi E csX1_58 T.rr [.int kind] (c_X1_takesMember kind) (by decide) rfl rfl (Nat.le_of_ble_eq_true rfl) ⟨(Nat.le_of_ble_eq_true rfl), (Nat.le_of_ble_eq_true rfl)⟩ dX1_isAsTold_55 rfl ?_
                refine r_if_eq E 69 dX1_isAsTold_58 (by decide) rfl (fun c11 => ?_) (fun c11 => ?_)
                · refine r_aload_n E 0 dX1_isAsTold_69 rfl rfl rfl ?_
                  refine r_iload_n E 1 dX1_isAsTold_70 rfl rfl rfl ?_
                  refine r_iload E 4 dX1_isAsTold_71 rfl rfl ?_
                  refine r_iload E 5 dX1_isAsTold_73 rfl rfl ?_
                  refine rVi E cvX1_66 T.rr 12 wc_12 rfl [.int kind, .int m, .int v] (c_X1_isValue kind m v) (by decide) rfl rfl (Nat.le_of_ble_eq_true rfl) ⟨(Nat.le_of_ble_eq_true rfl), (Nat.le_of_ble_eq_true rfl)⟩ dX1_isAsTold_75 rfl ?_
                  refine r_if_eq E 85 dX1_isAsTold_78 (by decide) rfl (fun c12 => ?_) (fun c12 => ?_)
                  · refine r_iconst E (v := 0) dX1_isAsTold_85 (by decide) rfl ?_
                    exact hj1 _ (by rw [if_neg c4, if_neg c5, if_neg c10, if_pos c11, if_pos c12])
                  · refine r_iconst E (v := 1) dX1_isAsTold_81 (by decide) rfl ?_
                    refine r_goto E 86 dX1_isAsTold_82 (by decide) ?_
                    exact hj1 _ (by rw [if_neg c4, if_neg c5, if_neg c10, if_pos c11, if_neg c12])
                · refine r_iload E 4 dX1_isAsTold_61 rfl rfl ?_
                  refine rSNi E cnX1_61 T.rr [.int m] (c_X5_isMember m) (by decide) rfl rfl (Nat.le_of_ble_eq_true rfl) ⟨(Nat.le_of_ble_eq_true rfl), (Nat.le_of_ble_eq_true rfl)⟩ dX1_isAsTold_63 rfl ?_
                  refine r_if_eq E 85 dX1_isAsTold_66 (by decide) rfl (fun c13 => ?_) (fun c13 => ?_)
                  · refine r_iconst E (v := 0) dX1_isAsTold_85 (by decide) rfl ?_
                    exact hj1 _ (by rw [if_neg c4, if_neg c5, if_neg c10, if_neg c11, if_pos c13])
                  · refine r_aload_n E 0 dX1_isAsTold_69 rfl rfl rfl ?_
                    refine r_iload_n E 1 dX1_isAsTold_70 rfl rfl rfl ?_
                    refine r_iload E 4 dX1_isAsTold_71 rfl rfl ?_
                    refine r_iload E 5 dX1_isAsTold_73 rfl rfl ?_
                    refine rVi E cvX1_66 T.rr 12 wc_12 rfl [.int kind, .int m, .int v] (c_X1_isValue kind m v) (by decide) rfl rfl (Nat.le_of_ble_eq_true rfl) ⟨(Nat.le_of_ble_eq_true rfl), (Nat.le_of_ble_eq_true rfl)⟩ dX1_isAsTold_75 rfl ?_
                    refine r_if_eq E 85 dX1_isAsTold_78 (by decide) rfl (fun c14 => ?_) (fun c14 => ?_)
                    · refine r_iconst E (v := 0) dX1_isAsTold_85 (by decide) rfl ?_
                      exact hj1 _ (by rw [if_neg c4, if_neg c5, if_neg c10, if_neg c11, if_neg c13, if_pos c14])
                    · refine r_iconst E (v := 1) dX1_isAsTold_81 (by decide) rfl ?_
                      refine r_goto E 86 dX1_isAsTold_82 (by decide) ?_
                      exact hj1 _ (by rw [if_neg c4, if_neg c5, if_neg c10, if_neg c11, if_neg c13, if_neg c14])
      · refine r_iload_n E 2 dX1_isAsTold_16 rfl rfl rfl ?_
        refine r_join 30 (if a < 0 then 0 else (if 4 ≤ a then 0 else 1)) (rest := []) ?_ (fun hj2 => ?_)
        · exact r_zret E T (b01 (Or.inl rfl) (b01 (Or.inl rfl) (Or.inr rfl))) dX1_isAsTold_30 (eqI.mk (by rw [fX1_isAsTold, if_neg c1, if_pos c2, if_pos c3]) rfl)
        · refine r_if_lt E 29 dX1_isAsTold_17 (by decide) rfl (fun c15 => ?_) (fun c15 => ?_)
          · refine r_iconst E (v := 0) dX1_isAsTold_29 (by decide) rfl ?_
            exact hj2 _ (by rw [if_pos c15])
          · refine r_iload_n E 2 dX1_isAsTold_20 rfl rfl rfl ?_
            refine r_iconst E (v := 4) dX1_isAsTold_21 (by decide) rfl ?_
            refine r_icmp_ge E 29 dX1_isAsTold_22 (by decide) rfl (fun c16 => ?_) (fun c16 => ?_)
            · refine r_iconst E (v := 0) dX1_isAsTold_29 (by decide) rfl ?_
              exact hj2 _ (by rw [if_neg c15, if_pos c16])
            · refine r_iconst E (v := 1) dX1_isAsTold_25 (by decide) rfl ?_
              refine r_goto E 30 dX1_isAsTold_26 (by decide) ?_
              exact hj2 _ (by rw [if_neg c15, if_neg c16])
    · refine r_iconst E (v := 0) dX1_isAsTold_10 (by decide) rfl ?_
      exact r_zret E T (Or.inl rfl) dX1_isAsTold_11 (eqI.mk (by rw [fX1_isAsTold, if_neg c1, if_neg c2]) rfl)
theorem tr_of {kind : Int32} (h : ¬ fX1_takesRight kind = 0) : kind = 4 ∨ kind = 5 := by
  unfold fX1_takesRight at h
  by_cases c : kind = 4
  · exact Or.inl c
  · by_cases c5 : kind = 5
    · exact Or.inr c5
    · rw [if_neg c, if_neg c5] at h; exact absurd rfl h
theorem tf_of {kind : Int32} (h : ¬ fX1_takesFormula kind = 0) : kind = 1 ∨ kind = 2 := by
  unfold fX1_takesFormula at h
  by_cases c : kind = 1
  · exact Or.inl c
  · by_cases c5 : kind = 2
    · exact Or.inr c5
    · rw [if_neg c, if_neg c5] at h; exact absurd rfl h
def fX1_boundOf (G : Nat → Nat → Int32) (kind : Int32) (a : Int32) (b : Int32) (v : Int32) : Int32 := if kind = 0 then 6 else (if kind = 1 then (G 18 (ix a)) else (if kind = 2 then (G 18 (ix a)) else (if kind = 3 then (G 18 (ix a)) else (if kind = 4 then ((G 18 (ix a)) * (G 18 (ix b))) else (if kind = 5 then ((G 18 (ix a)) + (G 18 (ix b))) else (if kind = 6 then (G 18 (ix a)) else (if kind = 7 then (G 18 (ix a)) else (if kind = 8 then (if G 18 (ix a) < v then G 18 (ix a) else v) else (G 18 (ix a))))))))))
set_option maxRecDepth 100000 in
set_option maxHeartbeats 4000000 in
theorem c_X1_boundOf {l : Launch} {k : Kt} {ad : Nat → Nat} {G : Nat → Nat → Int32} {V : Nat → Int32} {n : Nat} (kind : Int32) (a : Int32) (b : Int32) (v : Int32) (ha : ¬ kind = 0 → vp_in a 60) (hb : kind = 4 ∨ kind = 5 → vp_in b 60) : CT l k yX1_boundOf cX1_boundOf 5 (some .int) 1 [.ref (ad 12), .int kind, .int a, .int b, .int v] (WC k ad G V n) (eqI (fX1_boundOf G kind a b v) (WC k ad G V n)) 0 0 := by
  refine ct_of (own := RX1) (lv0 := [(0, .ref (ad 12)), (1, .int kind), (2, .int a), (3, .int b), (4, .int v)]) (by decide) rfl (Nat.le_of_ble_eq_true rfl) rfl ?_
  rintro z rfl rfl hz - E T
  refine r_iload_n E 1 dX1_boundOf_0 rfl rfl rfl ?_
  by_cases c1 : kind = 0
  · refine r_tabIn E 0 c1 52 dX1_boundOf_1 (by decide) (by rfl) (by decide) ?_
    refine r_bipush E (v := 6) dX1_boundOf_52 (by decide) rfl ?_
    exact r_iret E T dX1_boundOf_54 (eqI.mk (by rw [fX1_boundOf, if_pos c1]) rfl)
  · by_cases c2 : kind = 1
    · refine r_tabIn E 1 c2 95 dX1_boundOf_1 (by decide) (by rfl) (by decide) ?_
      refine r_aload_n E 0 dX1_boundOf_95 rfl rfl rfl ?_
      refine r_get E fX1_25 12 wc_12 rfl dX1_boundOf_96 rfl ?_
      refine r_iload_n E 2 dX1_boundOf_99 rfl rfl rfl ?_
      refine r_iald E 18 wc_18 (by first | exact ha (by assumption) | exact hb (Or.inl (by assumption)) | exact hb (Or.inr (by assumption)) | exact hb (tr_of (by assumption)) | exact hv (tf_of (by assumption))) dX1_boundOf_100 rfl ?_
      exact r_iret E T dX1_boundOf_101 (eqI.mk (by rw [fX1_boundOf, if_neg c1, if_pos c2]) rfl)
    · by_cases c3 : kind = 2
      · refine r_tabIn E 2 c3 95 dX1_boundOf_1 (by decide) (by rfl) (by decide) ?_
        refine r_aload_n E 0 dX1_boundOf_95 rfl rfl rfl ?_
        refine r_get E fX1_25 12 wc_12 rfl dX1_boundOf_96 rfl ?_
        refine r_iload_n E 2 dX1_boundOf_99 rfl rfl rfl ?_
        refine r_iald E 18 wc_18 (by first | exact ha (by assumption) | exact hb (Or.inl (by assumption)) | exact hb (Or.inr (by assumption)) | exact hb (tr_of (by assumption)) | exact hv (tf_of (by assumption))) dX1_boundOf_100 rfl ?_
        exact r_iret E T dX1_boundOf_101 (eqI.mk (by rw [fX1_boundOf, if_neg c1, if_neg c2, if_pos c3]) rfl)
      · by_cases c4 : kind = 3
        · refine r_tabIn E 3 c4 95 dX1_boundOf_1 (by decide) (by rfl) (by decide) ?_
          refine r_aload_n E 0 dX1_boundOf_95 rfl rfl rfl ?_
          refine r_get E fX1_25 12 wc_12 rfl dX1_boundOf_96 rfl ?_
          refine r_iload_n E 2 dX1_boundOf_99 rfl rfl rfl ?_
          refine r_iald E 18 wc_18 (by first | exact ha (by assumption) | exact hb (Or.inl (by assumption)) | exact hb (Or.inr (by assumption)) | exact hb (tr_of (by assumption)) | exact hv (tf_of (by assumption))) dX1_boundOf_100 rfl ?_
          exact r_iret E T dX1_boundOf_101 (eqI.mk (by rw [fX1_boundOf, if_neg c1, if_neg c2, if_neg c3, if_pos c4]) rfl)
        · by_cases c5 : kind = 4
          · refine r_tabIn E 4 c5 55 dX1_boundOf_1 (by decide) (by rfl) (by decide) ?_
            refine r_aload_n E 0 dX1_boundOf_55 rfl rfl rfl ?_
            refine r_get E fX1_25 12 wc_12 rfl dX1_boundOf_56 rfl ?_
            refine r_iload_n E 2 dX1_boundOf_59 rfl rfl rfl ?_
            refine r_iald E 18 wc_18 (by first | exact ha (by assumption) | exact hb (Or.inl (by assumption)) | exact hb (Or.inr (by assumption)) | exact hb (tr_of (by assumption)) | exact hv (tf_of (by assumption))) dX1_boundOf_60 rfl ?_
            refine r_aload_n E 0 dX1_boundOf_61 rfl rfl rfl ?_
            refine r_get E fX1_25 12 wc_12 rfl dX1_boundOf_62 rfl ?_
            refine r_iload_n E 3 dX1_boundOf_65 rfl rfl rfl ?_
            refine r_iald E 18 wc_18 (by first | exact ha (by assumption) | exact hb (Or.inl (by assumption)) | exact hb (Or.inr (by assumption)) | exact hb (tr_of (by assumption)) | exact hv (tf_of (by assumption))) dX1_boundOf_66 rfl ?_
            refine r_imul E dX1_boundOf_67 rfl ?_
            exact r_iret E T dX1_boundOf_68 (eqI.mk (by rw [fX1_boundOf, if_neg c1, if_neg c2, if_neg c3, if_neg c4, if_pos c5]) rfl)
          · by_cases c6 : kind = 5
            · refine r_tabIn E 5 c6 69 dX1_boundOf_1 (by decide) (by rfl) (by decide) ?_
              refine r_aload_n E 0 dX1_boundOf_69 rfl rfl rfl ?_
              refine r_get E fX1_25 12 wc_12 rfl dX1_boundOf_70 rfl ?_
              refine r_iload_n E 2 dX1_boundOf_73 rfl rfl rfl ?_
              refine r_iald E 18 wc_18 (by first | exact ha (by assumption) | exact hb (Or.inl (by assumption)) | exact hb (Or.inr (by assumption)) | exact hb (tr_of (by assumption)) | exact hv (tf_of (by assumption))) dX1_boundOf_74 rfl ?_
              refine r_aload_n E 0 dX1_boundOf_75 rfl rfl rfl ?_
              refine r_get E fX1_25 12 wc_12 rfl dX1_boundOf_76 rfl ?_
              refine r_iload_n E 3 dX1_boundOf_79 rfl rfl rfl ?_
              refine r_iald E 18 wc_18 (by first | exact ha (by assumption) | exact hb (Or.inl (by assumption)) | exact hb (Or.inr (by assumption)) | exact hb (tr_of (by assumption)) | exact hv (tf_of (by assumption))) dX1_boundOf_80 rfl ?_
              refine r_iadd E dX1_boundOf_81 rfl ?_
              exact r_iret E T dX1_boundOf_82 (eqI.mk (by rw [fX1_boundOf, if_neg c1, if_neg c2, if_neg c3, if_neg c4, if_neg c5, if_pos c6]) rfl)
            · by_cases c7 : kind = 6
              · refine r_tabIn E 6 c7 95 dX1_boundOf_1 (by decide) (by rfl) (by decide) ?_
                refine r_aload_n E 0 dX1_boundOf_95 rfl rfl rfl ?_
                refine r_get E fX1_25 12 wc_12 rfl dX1_boundOf_96 rfl ?_
                refine r_iload_n E 2 dX1_boundOf_99 rfl rfl rfl ?_
                refine r_iald E 18 wc_18 (by first | exact ha (by assumption) | exact hb (Or.inl (by assumption)) | exact hb (Or.inr (by assumption)) | exact hb (tr_of (by assumption)) | exact hv (tf_of (by assumption))) dX1_boundOf_100 rfl ?_
                exact r_iret E T dX1_boundOf_101 (eqI.mk (by rw [fX1_boundOf, if_neg c1, if_neg c2, if_neg c3, if_neg c4, if_neg c5, if_neg c6, if_pos c7]) rfl)
              · by_cases c8 : kind = 7
                · refine r_tabIn E 7 c8 95 dX1_boundOf_1 (by decide) (by rfl) (by decide) ?_
                  refine r_aload_n E 0 dX1_boundOf_95 rfl rfl rfl ?_
                  refine r_get E fX1_25 12 wc_12 rfl dX1_boundOf_96 rfl ?_
                  refine r_iload_n E 2 dX1_boundOf_99 rfl rfl rfl ?_
                  refine r_iald E 18 wc_18 (by first | exact ha (by assumption) | exact hb (Or.inl (by assumption)) | exact hb (Or.inr (by assumption)) | exact hb (tr_of (by assumption)) | exact hv (tf_of (by assumption))) dX1_boundOf_100 rfl ?_
                  exact r_iret E T dX1_boundOf_101 (eqI.mk (by rw [fX1_boundOf, if_neg c1, if_neg c2, if_neg c3, if_neg c4, if_neg c5, if_neg c6, if_neg c7, if_pos c8]) rfl)
                · by_cases c9 : kind = 8
                  · refine r_tabIn E 8 c9 83 dX1_boundOf_1 (by decide) (by rfl) (by decide) ?_
                    refine r_iload E 4 dX1_boundOf_83 rfl rfl ?_
                    refine r_aload_n E 0 dX1_boundOf_85 rfl rfl rfl ?_
                    refine r_get E fX1_25 12 wc_12 rfl dX1_boundOf_86 rfl ?_
                    refine r_iload_n E 2 dX1_boundOf_89 rfl rfl rfl ?_
                    refine r_iald E 18 wc_18 (by first | exact ha (by assumption) | exact hb (Or.inl (by assumption)) | exact hb (Or.inr (by assumption)) | exact hb (tr_of (by assumption)) | exact hv (tf_of (by assumption))) dX1_boundOf_90 rfl ?_
                    refine r_min E (d := 0) T.rr mnX1_76 mn_s mn_i mn_c (Nat.le_of_ble_eq_true rfl) (Nat.le_of_ble_eq_true rfl) (Nat.le_of_ble_eq_true rfl) dX1_boundOf_91 rfl ?_
                    exact r_iret E T dX1_boundOf_94 (eqI.mk (by rw [fX1_boundOf, if_neg c1, if_neg c2, if_neg c3, if_neg c4, if_neg c5, if_neg c6, if_neg c7, if_neg c8, if_pos c9]) rfl)
                  · refine r_tabOut E 95 dX1_boundOf_1 (sw_out (fun j hj e => by match j with | 0 => exact c1 (e.trans (by decide)) | 1 => exact c2 (e.trans (by decide)) | 2 => exact c3 (e.trans (by decide)) | 3 => exact c4 (e.trans (by decide)) | 4 => exact c5 (e.trans (by decide)) | 5 => exact c6 (e.trans (by decide)) | 6 => exact c7 (e.trans (by decide)) | 7 => exact c8 (e.trans (by decide)) | 8 => exact c9 (e.trans (by decide)) | j + 9 => omega)) (by decide) ?_
                    refine r_aload_n E 0 dX1_boundOf_95 rfl rfl rfl ?_
                    refine r_get E fX1_25 12 wc_12 rfl dX1_boundOf_96 rfl ?_
                    refine r_iload_n E 2 dX1_boundOf_99 rfl rfl rfl ?_
                    refine r_iald E 18 wc_18 (by first | exact ha (by assumption) | exact hb (Or.inl (by assumption)) | exact hb (Or.inr (by assumption)) | exact hb (tr_of (by assumption)) | exact hv (tf_of (by assumption))) dX1_boundOf_100 rfl ?_
                    exact r_iret E T dX1_boundOf_101 (eqI.mk (by rw [fX1_boundOf, if_neg c1, if_neg c2, if_neg c3, if_neg c4, if_neg c5, if_neg c6, if_neg c7, if_neg c8, if_neg c9]) rfl)
def fX1_failsOf (G : Nat → Nat → Int32) (kind : Int32) (a : Int32) (b : Int32) (v : Int32) : Int32 := if kind = 0 then 0 else (if G 19 (ix a) = 0 then (if fX1_takesRight kind = 0 then (if fX1_takesFormula kind = 0 then 0 else (if G 11 (ix v) = 0 then 0 else 1)) else (if G 19 (ix b) = 0 then (if fX1_takesFormula kind = 0 then 0 else (if G 11 (ix v) = 0 then 0 else 1)) else 1)) else 1)
theorem b_X1_failsOf (G : Nat → Nat → Int32) (kind : Int32) (a : Int32) (b : Int32) (v : Int32) : fX1_failsOf G kind a b v = 0 ∨ fX1_failsOf G kind a b v = 1 := (b01 (Or.inl rfl) (b01 (b01 (b01 (Or.inl rfl) (b01 (Or.inl rfl) (Or.inr rfl))) (b01 (b01 (Or.inl rfl) (b01 (Or.inl rfl) (Or.inr rfl))) (Or.inr rfl))) (Or.inr rfl)))
set_option maxRecDepth 100000 in
set_option maxHeartbeats 4000000 in
theorem c_X1_failsOf {l : Launch} {k : Kt} {ad : Nat → Nat} {G : Nat → Nat → Int32} {V : Nat → Int32} {n : Nat} (kind : Int32) (a : Int32) (b : Int32) (v : Int32) (ha : ¬ kind = 0 → vp_in a 60) (hb : kind = 4 ∨ kind = 5 → vp_in b 60) (hv : kind = 1 ∨ kind = 2 → vp_in v 40) : CT l k yX1_failsOf cX1_failsOf 5 (some .boolean) 1 [.ref (ad 12), .int kind, .int a, .int b, .int v] (WC k ad G V n) (eqI (fX1_failsOf G kind a b v) (WC k ad G V n)) 0 0 := by
  refine ct_of (own := RX1) (lv0 := [(0, .ref (ad 12)), (1, .int kind), (2, .int a), (3, .int b), (4, .int v)]) (by decide) rfl (Nat.le_of_ble_eq_true rfl) rfl ?_
  rintro z rfl rfl hz - E T
  refine r_iload_n E 1 dX1_failsOf_0 rfl rfl rfl ?_
  refine r_if_ne E 6 dX1_failsOf_1 (by decide) rfl (fun c1 => ?_) (fun c1 => ?_)
  · refine r_aload_n E 0 dX1_failsOf_6 rfl rfl rfl ?_
    refine r_get E fX1_28 12 wc_12 rfl dX1_failsOf_7 rfl ?_
    refine r_iload_n E 2 dX1_failsOf_10 rfl rfl rfl ?_
    refine r_zald E 19 wc_19 (by first | exact ha (by assumption) | exact hb (Or.inl (by assumption)) | exact hb (Or.inr (by assumption)) | exact hb (tr_of (by assumption)) | exact hv (tf_of (by assumption))) dX1_failsOf_11 rfl ?_
    refine r_join 56 (if G 19 (ix a) = 0 then (if fX1_takesRight kind = 0 then (if fX1_takesFormula kind = 0 then 0 else (if G 11 (ix v) = 0 then 0 else 1)) else (if G 19 (ix b) = 0 then (if fX1_takesFormula kind = 0 then 0 else (if G 11 (ix v) = 0 then 0 else 1)) else 1)) else 1) (rest := []) ?_ (fun hj1 => ?_)
    · exact r_zret E T (b01 (b01 (b01 (Or.inl rfl) (b01 (Or.inl rfl) (Or.inr rfl))) (b01 (b01 (Or.inl rfl) (b01 (Or.inl rfl) (Or.inr rfl))) (Or.inr rfl))) (Or.inr rfl)) dX1_failsOf_56 (eqI.mk (by rw [fX1_failsOf, if_neg c1]) rfl)
    · refine r_if_ne E 51 dX1_failsOf_12 (by decide) rfl (fun c2 => ?_) (fun c2 => ?_)
      · refine r_iconst E (v := 1) dX1_failsOf_51 (by decide) rfl ?_
        refine r_goto E 56 dX1_failsOf_52 (by decide) ?_
        exact hj1 _ (by rw [if_neg c2])
      · refine r_iload_n E 1 dX1_failsOf_15 rfl rfl rfl ?_
        refine rSi E csX1_55 T.rr [.int kind] (c_X1_takesRight kind) (by decide) rfl rfl (Nat.le_of_ble_eq_true rfl) ⟨(Nat.le_of_ble_eq_true rfl), (Nat.le_of_ble_eq_true rfl)⟩ dX1_failsOf_16 rfl ?_
        refine r_if_eq E 31 dX1_failsOf_19 (by decide) rfl (fun c3 => ?_) (fun c3 => ?_)
        · refine r_iload_n E 1 dX1_failsOf_31 rfl rfl rfl ?_
          refine rSi E csX1_82 T.rr [.int kind] (c_X1_takesFormula kind) (by decide) rfl rfl (Nat.le_of_ble_eq_true rfl) ⟨(Nat.le_of_ble_eq_true rfl), (Nat.le_of_ble_eq_true rfl)⟩ dX1_failsOf_32 rfl ?_
          refine r_if_eq E 55 dX1_failsOf_35 (by decide) rfl (fun c4 => ?_) (fun c4 => ?_)
          · refine r_iconst E (v := 0) dX1_failsOf_55 (by decide) rfl ?_
            exact hj1 _ (by rw [if_pos c2, if_pos c3, if_pos c4])
          · refine r_aload_n E 0 dX1_failsOf_38 rfl rfl rfl ?_
            refine r_get E fX1_41 12 wc_12 rfl dX1_failsOf_39 rfl ?_
            refine r_get E fX1_85 5 wc_5 rfl dX1_failsOf_42 rfl ?_
            refine r_iload E 4 dX1_failsOf_45 rfl rfl ?_
            refine r_zald E 11 wc_11 (by first | exact ha (by assumption) | exact hb (Or.inl (by assumption)) | exact hb (Or.inr (by assumption)) | exact hb (tr_of (by assumption)) | exact hv (tf_of (by assumption))) dX1_failsOf_47 rfl ?_
            refine r_if_eq E 55 dX1_failsOf_48 (by decide) rfl (fun c5 => ?_) (fun c5 => ?_)
            · refine r_iconst E (v := 0) dX1_failsOf_55 (by decide) rfl ?_
              exact hj1 _ (by rw [if_pos c2, if_pos c3, if_neg c4, if_pos c5])
            · refine r_iconst E (v := 1) dX1_failsOf_51 (by decide) rfl ?_
              refine r_goto E 56 dX1_failsOf_52 (by decide) ?_
              exact hj1 _ (by rw [if_pos c2, if_pos c3, if_neg c4, if_neg c5])
        · refine r_aload_n E 0 dX1_failsOf_22 rfl rfl rfl ?_
          refine r_get E fX1_28 12 wc_12 rfl dX1_failsOf_23 rfl ?_
          refine r_iload_n E 3 dX1_failsOf_26 rfl rfl rfl ?_
          refine r_zald E 19 wc_19 (by first | exact ha (by assumption) | exact hb (Or.inl (by assumption)) | exact hb (Or.inr (by assumption)) | exact hb (tr_of (by assumption)) | exact hv (tf_of (by assumption))) dX1_failsOf_27 rfl ?_
          refine r_if_ne E 51 dX1_failsOf_28 (by decide) rfl (fun c6 => ?_) (fun c6 => ?_)
          · refine r_iconst E (v := 1) dX1_failsOf_51 (by decide) rfl ?_
            refine r_goto E 56 dX1_failsOf_52 (by decide) ?_
            exact hj1 _ (by rw [if_pos c2, if_neg c3, if_neg c6])
          · refine r_iload_n E 1 dX1_failsOf_31 rfl rfl rfl ?_
            refine rSi E csX1_82 T.rr [.int kind] (c_X1_takesFormula kind) (by decide) rfl rfl (Nat.le_of_ble_eq_true rfl) ⟨(Nat.le_of_ble_eq_true rfl), (Nat.le_of_ble_eq_true rfl)⟩ dX1_failsOf_32 rfl ?_
            refine r_if_eq E 55 dX1_failsOf_35 (by decide) rfl (fun c7 => ?_) (fun c7 => ?_)
            · refine r_iconst E (v := 0) dX1_failsOf_55 (by decide) rfl ?_
              exact hj1 _ (by rw [if_pos c2, if_neg c3, if_pos c6, if_pos c7])
            · refine r_aload_n E 0 dX1_failsOf_38 rfl rfl rfl ?_
              refine r_get E fX1_41 12 wc_12 rfl dX1_failsOf_39 rfl ?_
              refine r_get E fX1_85 5 wc_5 rfl dX1_failsOf_42 rfl ?_
              refine r_iload E 4 dX1_failsOf_45 rfl rfl ?_
              refine r_zald E 11 wc_11 (by first | exact ha (by assumption) | exact hb (Or.inl (by assumption)) | exact hb (Or.inr (by assumption)) | exact hb (tr_of (by assumption)) | exact hv (tf_of (by assumption))) dX1_failsOf_47 rfl ?_
              refine r_if_eq E 55 dX1_failsOf_48 (by decide) rfl (fun c8 => ?_) (fun c8 => ?_)
              · refine r_iconst E (v := 0) dX1_failsOf_55 (by decide) rfl ?_
                exact hj1 _ (by rw [if_pos c2, if_neg c3, if_pos c6, if_neg c7, if_pos c8])
              · refine r_iconst E (v := 1) dX1_failsOf_51 (by decide) rfl ?_
                refine r_goto E 56 dX1_failsOf_52 (by decide) ?_
                exact hj1 _ (by rw [if_pos c2, if_neg c3, if_pos c6, if_neg c7, if_neg c8])
  · refine r_iconst E (v := 0) dX1_failsOf_4 (by decide) rfl ?_
    exact r_zret E T (Or.inl rfl) dX1_failsOf_5 (eqI.mk (by rw [fX1_failsOf, if_pos c1]) rfl)
def fX1_write_G (G : Nat → Nat → Int32) (x : Int32) (kind : Int32) (a : Int32) (b : Int32) (m : Int32) (v : Int32) : Nat → Nat → Int32 := ug (ug (ug (ug (ug (ug (ug G 18 (ix x) (fX1_boundOf G kind a b v)) 19 (ix x) (fX1_failsOf (ug G 18 (ix x) (fX1_boundOf G kind a b v)) kind a b v)) 13 (ix x) kind) 14 (ix x) a) 15 (ix x) (if fX1_takesRight kind = 0 then 0 else b)) 16 (ix x) (if fX1_takesMember kind = 0 then 0 else m)) 17 (ix x) (if fX1_takesValue kind = 0 then 0 else v)
set_option maxRecDepth 100000 in
set_option maxHeartbeats 4000000 in
theorem c_X1_write {l : Launch} {k : Kt} {ad : Nat → Nat} {G : Nat → Nat → Int32} {V : Nat → Int32} {n : Nat} (x : Int32) (kind : Int32) (a : Int32) (b : Int32) (m : Int32) (v : Int32) (hx : vp_in x 60) (ha : ¬ kind = 0 → vp_in a 60) (hb : kind = 4 ∨ kind = 5 → vp_in b 60) (hv : kind = 1 ∨ kind = 2 → vp_in v 40) : CT l k yX1_write cX1_write 7 none 2 [.ref (ad 12), .int x, .int kind, .int a, .int b, .int m, .int v] (WC k ad G V n) (eqV (WC k ad (fX1_write_G G x kind a b m v) V n)) 0 0 := by
  refine ct_of (own := RX1) (lv0 := [(0, .ref (ad 12)), (1, .int x), (2, .int kind), (3, .int a), (4, .int b), (5, .int m), (6, .int v)]) (by decide) rfl (Nat.le_of_ble_eq_true rfl) rfl ?_
  rintro z rfl rfl hz - E T
  refine r_aload_n E 0 dX1_write_0 rfl rfl rfl ?_
  refine r_get E fX1_25 12 wc_12 rfl dX1_write_1 rfl ?_
  refine r_iload_n E 1 dX1_write_4 rfl rfl rfl ?_
  refine r_aload_n E 0 dX1_write_5 rfl rfl rfl ?_
  refine r_iload_n E 2 dX1_write_6 rfl rfl rfl ?_
  refine r_iload_n E 3 dX1_write_7 rfl rfl rfl ?_
  refine r_iload E 4 dX1_write_8 rfl rfl ?_
  refine r_iload E 6 dX1_write_10 rfl rfl ?_
  refine rVi E cvX1_90 T.rr 12 wc_12 rfl [.int kind, .int a, .int b, .int v] (c_X1_boundOf kind a b v (by assumption) (by assumption)) (by decide) rfl rfl (Nat.le_of_ble_eq_true rfl) ⟨(Nat.le_of_ble_eq_true rfl), (Nat.le_of_ble_eq_true rfl)⟩ dX1_write_12 rfl ?_
  refine r_iast E 18 wc_18 (by assumption) wcu_18 dX1_write_15 rfl ?_
  refine r_aload_n E 0 dX1_write_16 rfl rfl rfl ?_
  refine r_get E fX1_28 12 wc_12 rfl dX1_write_17 rfl ?_
  refine r_iload_n E 1 dX1_write_20 rfl rfl rfl ?_
  refine r_aload_n E 0 dX1_write_21 rfl rfl rfl ?_
  refine r_iload_n E 2 dX1_write_22 rfl rfl rfl ?_
  refine r_iload_n E 3 dX1_write_23 rfl rfl rfl ?_
  refine r_iload E 4 dX1_write_24 rfl rfl ?_
  refine r_iload E 6 dX1_write_26 rfl rfl ?_
  refine rVi E cvX1_94 T.rr 12 wc_12 rfl [.int kind, .int a, .int b, .int v] (c_X1_failsOf kind a b v (by assumption) (by assumption) (by assumption)) (by decide) rfl rfl (Nat.le_of_ble_eq_true rfl) ⟨(Nat.le_of_ble_eq_true rfl), (Nat.le_of_ble_eq_true rfl)⟩ dX1_write_28 rfl ?_
  refine r_zast E 19 wc_19 (by assumption) (nar_b (b_X1_failsOf _ _ _ _ _)) wcu_19 dX1_write_31 rfl ?_
  refine r_aload_n E 0 dX1_write_32 rfl rfl rfl ?_
  refine r_get E fX1_9 12 wc_12 rfl dX1_write_33 rfl ?_
  refine r_iload_n E 1 dX1_write_36 rfl rfl rfl ?_
  refine r_iload_n E 2 dX1_write_37 rfl rfl rfl ?_
  refine r_iast E 13 wc_13 (by assumption) wcu_13 dX1_write_38 rfl ?_
  refine r_aload_n E 0 dX1_write_39 rfl rfl rfl ?_
  refine r_get E fX1_13 12 wc_12 rfl dX1_write_40 rfl ?_
  refine r_iload_n E 1 dX1_write_43 rfl rfl rfl ?_
  refine r_iload_n E 3 dX1_write_44 rfl rfl rfl ?_
  refine r_iast E 14 wc_14 (by assumption) wcu_14 dX1_write_45 rfl ?_
  refine r_aload_n E 0 dX1_write_46 rfl rfl rfl ?_
  refine r_get E fX1_16 12 wc_12 rfl dX1_write_47 rfl ?_
  refine r_iload_n E 1 dX1_write_50 rfl rfl rfl ?_
  refine r_iload_n E 2 dX1_write_51 rfl rfl rfl ?_
  refine rSi E csX1_55 T.rr [.int kind] (c_X1_takesRight kind) (by decide) rfl rfl (Nat.le_of_ble_eq_true rfl) ⟨(Nat.le_of_ble_eq_true rfl), (Nat.le_of_ble_eq_true rfl)⟩ dX1_write_52 rfl ?_
  refine r_join 64 (if fX1_takesRight kind = 0 then 0 else b) (rest := [.int x, .ref (ad 15)]) ?_ (fun hj1 => ?_)
  · refine r_iast E 15 wc_15 (by assumption) wcu_15 dX1_write_64 rfl ?_
    refine r_aload_n E 0 dX1_write_65 rfl rfl rfl ?_
    refine r_get E fX1_19 12 wc_12 rfl dX1_write_66 rfl ?_
    refine r_iload_n E 1 dX1_write_69 rfl rfl rfl ?_
    refine r_iload_n E 2 dX1_write_70 rfl rfl rfl ?_
    refine rSi E csX1_58 T.rr [.int kind] (c_X1_takesMember kind) (by decide) rfl rfl (Nat.le_of_ble_eq_true rfl) ⟨(Nat.le_of_ble_eq_true rfl), (Nat.le_of_ble_eq_true rfl)⟩ dX1_write_71 rfl ?_
    refine r_join 83 (if fX1_takesMember kind = 0 then 0 else m) (rest := [.int x, .ref (ad 16)]) ?_ (fun hj2 => ?_)
    · refine r_iast E 16 wc_16 (by assumption) wcu_16 dX1_write_83 rfl ?_
      refine r_aload_n E 0 dX1_write_84 rfl rfl rfl ?_
      refine r_get E fX1_22 12 wc_12 rfl dX1_write_85 rfl ?_
      refine r_iload_n E 1 dX1_write_88 rfl rfl rfl ?_
      refine r_iload_n E 2 dX1_write_89 rfl rfl rfl ?_
      refine rSi E csX1_98 T.rr [.int kind] (c_X1_takesValue kind) (by decide) rfl rfl (Nat.le_of_ble_eq_true rfl) ⟨(Nat.le_of_ble_eq_true rfl), (Nat.le_of_ble_eq_true rfl)⟩ dX1_write_90 rfl ?_
      refine r_join 102 (if fX1_takesValue kind = 0 then 0 else v) (rest := [.int x, .ref (ad 17)]) ?_ (fun hj3 => ?_)
      · refine r_iast E 17 wc_17 (by assumption) wcu_17 dX1_write_102 rfl ?_
        exact r_vret E T dX1_write_103 (eqV.mk (cgC (by rw [fX1_write_G]) rfl))
      · refine r_if_eq E 101 dX1_write_93 (by decide) rfl (fun c3 => ?_) (fun c3 => ?_)
        · refine r_iconst E (v := 0) dX1_write_101 (by decide) rfl ?_
          exact hj3 _ (by rw [if_pos c3])
        · refine r_iload E 6 dX1_write_96 rfl rfl ?_
          refine r_goto E 102 dX1_write_98 (by decide) ?_
          exact hj3 _ (by rw [if_neg c3])
    · refine r_if_eq E 82 dX1_write_74 (by decide) rfl (fun c2 => ?_) (fun c2 => ?_)
      · refine r_iconst E (v := 0) dX1_write_82 (by decide) rfl ?_
        exact hj2 _ (by rw [if_pos c2])
      · refine r_iload E 5 dX1_write_77 rfl rfl ?_
        refine r_goto E 83 dX1_write_79 (by decide) ?_
        exact hj2 _ (by rw [if_neg c2])
  · refine r_if_eq E 63 dX1_write_55 (by decide) rfl (fun c1 => ?_) (fun c1 => ?_)
    · refine r_iconst E (v := 0) dX1_write_63 (by decide) rfl ?_
      exact hj1 _ (by rw [if_pos c1])
    · refine r_iload E 4 dX1_write_58 rfl rfl ?_
      refine r_goto E 64 dX1_write_60 (by decide) ?_
      exact hj1 _ (by rw [if_neg c1])
def fX1_add (G : Nat → Nat → Int32) (V : Nat → Int32) (kind : Int32) (a : Int32) (b : Int32) (m : Int32) (v : Int32) : Int32 := V 1
def fX1_add_G (G : Nat → Nat → Int32) (V : Nat → Int32) (kind : Int32) (a : Int32) (b : Int32) (m : Int32) (v : Int32) : Nat → Nat → Int32 := fX1_write_G G (V 1) kind a b m v
def fX1_add_V (G : Nat → Nat → Int32) (V : Nat → Int32) (kind : Int32) (a : Int32) (b : Int32) (m : Int32) (v : Int32) : Nat → Int32 := upd V 1 ((V 1) + 1)
set_option maxRecDepth 100000 in
set_option maxHeartbeats 4000000 in
theorem c_X1_add {l : Launch} {k : Kt} {ad : Nat → Nat} {G : Nat → Nat → Int32} {V : Nat → Int32} {n : Nat} (kind : Int32) (a : Int32) (b : Int32) (m : Int32) (v : Int32) (hx : vp_in (V 1) 60) (ha : ¬ kind = 0 → vp_in a 60) (hb : kind = 4 ∨ kind = 5 → vp_in b 60) (hv : kind = 1 ∨ kind = 2 → vp_in v 40) : CT l k yX1_add cX1_add 7 (some .int) 3 [.ref (ad 12), .int kind, .int a, .int b, .int m, .int v] (WC k ad G V n) (eqI (fX1_add G V kind a b m v) (WC k ad (fX1_add_G G V kind a b m v) (fX1_add_V G V kind a b m v) n)) 0 0 := by
  refine ct_of (own := RX1) (lv0 := [(0, .ref (ad 12)), (1, .int kind), (2, .int a), (3, .int b), (4, .int m), (5, .int v)]) (by decide) rfl (Nat.le_of_ble_eq_true rfl) rfl ?_
  rintro z rfl rfl hz - E T
  refine r_aload_n E 0 dX1_add_0 rfl rfl rfl ?_
  refine r_get E fX1_45 12 wc_12 rfl dX1_add_1 rfl ?_
  refine r_istore E [1, 2, 3, 4, 5, 6, 0] dX1_add_4 (by rw [hz]; decide) rfl rfl ?_
  refine r_aload_n E 0 dX1_add_6 rfl rfl rfl ?_
  refine r_dup E dX1_add_7 rfl rfl ?_
  refine r_get E fX1_45 12 wc_12 rfl dX1_add_8 rfl ?_
  refine r_iconst E (v := 1) dX1_add_11 (by decide) rfl ?_
  refine r_iadd E dX1_add_12 rfl ?_
  refine r_put E pX1_45 rfl 12 wc_12 rfl rfl (Nat.le_of_ble_eq_true rfl) wcv_1 dX1_add_13 rfl ?_
  refine r_aload_n E 0 dX1_add_16 rfl rfl rfl ?_
  refine r_iload E 6 dX1_add_17 rfl rfl ?_
  refine r_iload_n E 1 dX1_add_19 rfl rfl rfl ?_
  refine r_iload_n E 2 dX1_add_20 rfl rfl rfl ?_
  refine r_iload_n E 3 dX1_add_21 rfl rfl rfl ?_
  refine r_iload E 4 dX1_add_22 rfl rfl ?_
  refine r_iload E 5 dX1_add_24 rfl rfl ?_
  refine rVv E cvX1_86 T.rr 12 wc_12 rfl [.int (V 1), .int kind, .int a, .int b, .int m, .int v] (c_X1_write (V 1) kind a b m v (by assumption) (by assumption) (by assumption) (by assumption)) (by decide) rfl rfl (Nat.le_of_ble_eq_true rfl) ⟨(Nat.le_of_ble_eq_true rfl), (Nat.le_of_ble_eq_true rfl)⟩ dX1_add_26 rfl ?_
  refine r_iload E 6 dX1_add_29 rfl rfl ?_
  exact r_iret E T dX1_add_31 (eqI.mk (by rw [fX1_add]) (cgC (by rw [fX1_add_G]) (by rw [fX1_add_V])))
def fX1_isListed (G : Nat → Nat → Int32) (x : Int32) : Int32 := if G 22 (ix x) ≤ 0 then 0 else 1
theorem b_X1_isListed (G : Nat → Nat → Int32) (x : Int32) : fX1_isListed G x = 0 ∨ fX1_isListed G x = 1 := (b01 (Or.inl rfl) (Or.inr rfl))
set_option maxRecDepth 100000 in
set_option maxHeartbeats 4000000 in
theorem c_X1_isListed {l : Launch} {k : Kt} {ad : Nat → Nat} {G : Nat → Nat → Int32} {V : Nat → Int32} {n : Nat} (x : Int32) (hx : vp_in x 60) : CT l k yX1_isListed cX1_isListed 2 (some .boolean) 0 [.ref (ad 12), .int x] (WC k ad G V n) (eqI (fX1_isListed G x) (WC k ad G V n)) 0 0 := by
  refine ct_of (own := RX1) (lv0 := [(0, .ref (ad 12)), (1, .int x)]) (by decide) rfl (Nat.le_of_ble_eq_true rfl) rfl ?_
  rintro z rfl rfl hz - E T
  refine r_aload_n E 0 dX1_isListed_0 rfl rfl rfl ?_
  refine r_get E fX1_38 12 wc_12 rfl dX1_isListed_1 rfl ?_
  refine r_iload_n E 1 dX1_isListed_4 rfl rfl rfl ?_
  refine r_iald E 22 wc_22 (by assumption) dX1_isListed_5 rfl ?_
  refine r_join 14 (if G 22 (ix x) ≤ 0 then 0 else 1) (rest := []) ?_ (fun hj1 => ?_)
  · exact r_zret E T (b01 (Or.inl rfl) (Or.inr rfl)) dX1_isListed_14 (eqI.mk (by rw [fX1_isListed]) rfl)
  · refine r_if_le E 13 dX1_isListed_6 (by decide) rfl (fun c1 => ?_) (fun c1 => ?_)
    · refine r_iconst E (v := 0) dX1_isListed_13 (by decide) rfl ?_
      exact hj1 _ (by rw [if_pos c1])
    · refine r_iconst E (v := 1) dX1_isListed_9 (by decide) rfl ?_
      refine r_goto E 14 dX1_isListed_10 (by decide) ?_
      exact hj1 _ (by rw [if_neg c1])
def fX1_leftBelow (G : Nat → Nat → Int32) (x : Int32) : Int32 := if G 13 (ix x) = 0 then (-1) else (G 14 (ix x))
set_option maxRecDepth 100000 in
set_option maxHeartbeats 4000000 in
theorem c_X1_leftBelow {l : Launch} {k : Kt} {ad : Nat → Nat} {G : Nat → Nat → Int32} {V : Nat → Int32} {n : Nat} (x : Int32) (hx : vp_in x 60) : CT l k yX1_leftBelow cX1_leftBelow 2 (some .int) 0 [.ref (ad 12), .int x] (WC k ad G V n) (eqI (fX1_leftBelow G x) (WC k ad G V n)) 0 0 := by
  refine ct_of (own := RX1) (lv0 := [(0, .ref (ad 12)), (1, .int x)]) (by decide) rfl (Nat.le_of_ble_eq_true rfl) rfl ?_
  rintro z rfl rfl hz - E T
  refine r_aload_n E 0 dX1_leftBelow_0 rfl rfl rfl ?_
  refine r_get E fX1_9 12 wc_12 rfl dX1_leftBelow_1 rfl ?_
  refine r_iload_n E 1 dX1_leftBelow_4 rfl rfl rfl ?_
  refine r_iald E 13 wc_13 (by assumption) dX1_leftBelow_5 rfl ?_
  refine r_join 19 (if G 13 (ix x) = 0 then (-1) else (G 14 (ix x))) (rest := []) ?_ (fun hj1 => ?_)
  · exact r_iret E T dX1_leftBelow_19 (eqI.mk (by rw [fX1_leftBelow]) rfl)
  · refine r_if_ne E 13 dX1_leftBelow_6 (by decide) rfl (fun c1 => ?_) (fun c1 => ?_)
    · refine r_aload_n E 0 dX1_leftBelow_13 rfl rfl rfl ?_
      refine r_get E fX1_13 12 wc_12 rfl dX1_leftBelow_14 rfl ?_
      refine r_iload_n E 1 dX1_leftBelow_17 rfl rfl rfl ?_
      refine r_iald E 14 wc_14 (by assumption) dX1_leftBelow_18 rfl ?_
      exact hj1 _ (by rw [if_neg c1])
    · refine r_iconst E (v := (-1)) dX1_leftBelow_9 (by decide) rfl ?_
      refine r_goto E 19 dX1_leftBelow_10 (by decide) ?_
      exact hj1 _ (by rw [if_pos c1])
def fX1_rightBelow (G : Nat → Nat → Int32) (x : Int32) : Int32 := if fX1_takesRight (G 13 (ix x)) = 0 then (-1) else (G 15 (ix x))
set_option maxRecDepth 100000 in
set_option maxHeartbeats 4000000 in
theorem c_X1_rightBelow {l : Launch} {k : Kt} {ad : Nat → Nat} {G : Nat → Nat → Int32} {V : Nat → Int32} {n : Nat} (x : Int32) (hx : vp_in x 60) : CT l k yX1_rightBelow cX1_rightBelow 2 (some .int) 1 [.ref (ad 12), .int x] (WC k ad G V n) (eqI (fX1_rightBelow G x) (WC k ad G V n)) 0 0 := by
  refine ct_of (own := RX1) (lv0 := [(0, .ref (ad 12)), (1, .int x)]) (by decide) rfl (Nat.le_of_ble_eq_true rfl) rfl ?_
  rintro z rfl rfl hz - E T
  refine r_aload_n E 0 dX1_rightBelow_0 rfl rfl rfl ?_
  refine r_get E fX1_9 12 wc_12 rfl dX1_rightBelow_1 rfl ?_
  refine r_iload_n E 1 dX1_rightBelow_4 rfl rfl rfl ?_
  refine r_iald E 13 wc_13 (by assumption) dX1_rightBelow_5 rfl ?_
  refine rSi E csX1_55 T.rr [.int (G 13 (ix x))] (c_X1_takesRight (G 13 (ix x))) (by decide) rfl rfl (Nat.le_of_ble_eq_true rfl) ⟨(Nat.le_of_ble_eq_true rfl), (Nat.le_of_ble_eq_true rfl)⟩ dX1_rightBelow_6 rfl ?_
  refine r_join 22 (if fX1_takesRight (G 13 (ix x)) = 0 then (-1) else (G 15 (ix x))) (rest := []) ?_ (fun hj1 => ?_)
  · exact r_iret E T dX1_rightBelow_22 (eqI.mk (by rw [fX1_rightBelow]) rfl)
  · refine r_if_eq E 21 dX1_rightBelow_9 (by decide) rfl (fun c1 => ?_) (fun c1 => ?_)
    · refine r_iconst E (v := (-1)) dX1_rightBelow_21 (by decide) rfl ?_
      exact hj1 _ (by rw [if_pos c1])
    · refine r_aload_n E 0 dX1_rightBelow_12 rfl rfl rfl ?_
      refine r_get E fX1_16 12 wc_12 rfl dX1_rightBelow_13 rfl ?_
      refine r_iload_n E 1 dX1_rightBelow_16 rfl rfl rfl ?_
      refine r_iald E 15 wc_15 (by assumption) dX1_rightBelow_17 rfl ?_
      refine r_goto E 22 dX1_rightBelow_18 (by decide) ?_
      exact hj1 _ (by rw [if_neg c1])
end
