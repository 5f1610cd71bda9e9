-- ===== PART A: goes FIRST, ahead of the names: the tables' words, and 'selects' of the private methods out of them =====
/-- a private method of a class that the tables say can be made, by its rows of tables_1 -/
def lw_okq (q : MethodName × Nat) : Prop := (q.1.cls ≠ "java/lang/invoke/MethodHandle" ∧ q.1.cls ≠ "java/lang/invoke/VarHandle") ∧ Cond.instantiable q.1.cls q.2 ∈ tables_1 ∧ Cond.privateMethod q.1 ∈ tables_1 ∧ Cond.instanceMethod q.1 ∈ tables_1
theorem lw_p0 : lw_okq (⟨"PlanRules$Formulas", "sizeOf", "(III)I"⟩, 7) := ⟨⟨by decide +kernel, by decide +kernel⟩, List.mem_of_getElem? (i := 41) (by decide +kernel), List.mem_of_getElem? (i := 287) (by decide +kernel), List.mem_of_getElem? (i := 288) (by decide +kernel)⟩
theorem lw_p1 : lw_okq (⟨"PlanRules$Formulas", "readsOf", "(III)I"⟩, 7) := ⟨⟨by decide +kernel, by decide +kernel⟩, List.mem_of_getElem? (i := 41) (by decide +kernel), List.mem_of_getElem? (i := 291) (by decide +kernel), List.mem_of_getElem? (i := 292) (by decide +kernel)⟩
theorem lw_p2 : lw_okq (⟨"PlanRules$Formulas", "failsOf", "(III)Z"⟩, 7) := ⟨⟨by decide +kernel, by decide +kernel⟩, List.mem_of_getElem? (i := 41) (by decide +kernel), List.mem_of_getElem? (i := 295) (by decide +kernel), List.mem_of_getElem? (i := 296) (by decide +kernel)⟩
theorem lw_p3 : lw_okq (⟨"PlanRules$Nodes", "isValue", "(III)Z"⟩, 12) := ⟨⟨by decide +kernel, by decide +kernel⟩, List.mem_of_getElem? (i := 79) (by decide +kernel), List.mem_of_getElem? (i := 326) (by decide +kernel), List.mem_of_getElem? (i := 327) (by decide +kernel)⟩
theorem lw_p4 : lw_okq (⟨"PlanRules$Nodes", "failsOf", "(IIII)Z"⟩, 12) := ⟨⟨by decide +kernel, by decide +kernel⟩, List.mem_of_getElem? (i := 79) (by decide +kernel), List.mem_of_getElem? (i := 354) (by decide +kernel), List.mem_of_getElem? (i := 355) (by decide +kernel)⟩
theorem lw_p5 : lw_okq (⟨"PlanRules$Nodes", "leftBelow", "(I)I"⟩, 12) := ⟨⟨by decide +kernel, by decide +kernel⟩, List.mem_of_getElem? (i := 79) (by decide +kernel), List.mem_of_getElem? (i := 384) (by decide +kernel), List.mem_of_getElem? (i := 385) (by decide +kernel)⟩
theorem lw_p6 : lw_okq (⟨"PlanRules$Nodes", "rightBelow", "(I)I"⟩, 12) := ⟨⟨by decide +kernel, by decide +kernel⟩, List.mem_of_getElem? (i := 79) (by decide +kernel), List.mem_of_getElem? (i := 388) (by decide +kernel), List.mem_of_getElem? (i := 389) (by decide +kernel)⟩
theorem lw_p7 : lw_okq (⟨"PlanRules$Runner", "work", "(I)V"⟩, 13) := ⟨⟨by decide +kernel, by decide +kernel⟩, List.mem_of_getElem? (i := 143) (by decide +kernel), List.mem_of_getElem? (i := 392) (by decide +kernel), List.mem_of_getElem? (i := 393) (by decide +kernel)⟩
theorem lw_p8 : lw_okq (⟨"PlanRules$Runner", "giveSource", "(I)V"⟩, 13) := ⟨⟨by decide +kernel, by decide +kernel⟩, List.mem_of_getElem? (i := 143) (by decide +kernel), List.mem_of_getElem? (i := 396) (by decide +kernel), List.mem_of_getElem? (i := 397) (by decide +kernel)⟩
theorem lw_p9 : lw_okq (⟨"PlanRules$Runner", "addEmpty", "()I"⟩, 13) := ⟨⟨by decide +kernel, by decide +kernel⟩, List.mem_of_getElem? (i := 143) (by decide +kernel), List.mem_of_getElem? (i := 400) (by decide +kernel), List.mem_of_getElem? (i := 401) (by decide +kernel)⟩
theorem lw_p10 : lw_okq (⟨"PlanRules$Runner", "giveFiltered", "(II)V"⟩, 13) := ⟨⟨by decide +kernel, by decide +kernel⟩, List.mem_of_getElem? (i := 143) (by decide +kernel), List.mem_of_getElem? (i := 422) (by decide +kernel), List.mem_of_getElem? (i := 423) (by decide +kernel)⟩
theorem lw_p11 : lw_okq (⟨"PlanRules$Runner", "valueOf", "(II)I"⟩, 13) := ⟨⟨by decide +kernel, by decide +kernel⟩, List.mem_of_getElem? (i := 143) (by decide +kernel), List.mem_of_getElem? (i := 426) (by decide +kernel), List.mem_of_getElem? (i := 427) (by decide +kernel)⟩
theorem lw_p12 : lw_okq (⟨"PlanRules$Runner", "valueOfParts", "(IIII)I"⟩, 13) := ⟨⟨by decide +kernel, by decide +kernel⟩, List.mem_of_getElem? (i := 143) (by decide +kernel), List.mem_of_getElem? (i := 430) (by decide +kernel), List.mem_of_getElem? (i := 431) (by decide +kernel)⟩
theorem lw_p13 : lw_okq (⟨"PlanRules$Runner", "itemAt", "(I)I"⟩, 13) := ⟨⟨by decide +kernel, by decide +kernel⟩, List.mem_of_getElem? (i := 143) (by decide +kernel), List.mem_of_getElem? (i := 434) (by decide +kernel), List.mem_of_getElem? (i := 435) (by decide +kernel)⟩
theorem lw_p14 : lw_okq (⟨"PlanRules$Runner", "valueOfPair", "(III)I"⟩, 13) := ⟨⟨by decide +kernel, by decide +kernel⟩, List.mem_of_getElem? (i := 143) (by decide +kernel), List.mem_of_getElem? (i := 439) (by decide +kernel), List.mem_of_getElem? (i := 440) (by decide +kernel)⟩
theorem lw_p15 : lw_okq (⟨"PlanRules$Runner", "addCopy", "(I)I"⟩, 13) := ⟨⟨by decide +kernel, by decide +kernel⟩, List.mem_of_getElem? (i := 143) (by decide +kernel), List.mem_of_getElem? (i := 443) (by decide +kernel), List.mem_of_getElem? (i := 444) (by decide +kernel)⟩
def lw_privs_1 : List (MethodName × Nat) := [(⟨"PlanRules$Formulas", "sizeOf", "(III)I"⟩, 7), (⟨"PlanRules$Formulas", "readsOf", "(III)I"⟩, 7), (⟨"PlanRules$Formulas", "failsOf", "(III)Z"⟩, 7), (⟨"PlanRules$Nodes", "isValue", "(III)Z"⟩, 12), (⟨"PlanRules$Nodes", "failsOf", "(IIII)Z"⟩, 12), (⟨"PlanRules$Nodes", "leftBelow", "(I)I"⟩, 12), (⟨"PlanRules$Nodes", "rightBelow", "(I)I"⟩, 12), (⟨"PlanRules$Runner", "work", "(I)V"⟩, 13), (⟨"PlanRules$Runner", "giveSource", "(I)V"⟩, 13), (⟨"PlanRules$Runner", "addEmpty", "()I"⟩, 13), (⟨"PlanRules$Runner", "giveFiltered", "(II)V"⟩, 13), (⟨"PlanRules$Runner", "valueOf", "(II)I"⟩, 13), (⟨"PlanRules$Runner", "valueOfParts", "(IIII)I"⟩, 13), (⟨"PlanRules$Runner", "itemAt", "(I)I"⟩, 13), (⟨"PlanRules$Runner", "valueOfPair", "(III)I"⟩, 13), (⟨"PlanRules$Runner", "addCopy", "(I)I"⟩, 13)]
theorem lw_r1 : ∀ q ∈ lw_privs_1, lw_okq q := List.forall_mem_cons.mpr ⟨lw_p0, List.forall_mem_cons.mpr ⟨lw_p1, List.forall_mem_cons.mpr ⟨lw_p2, List.forall_mem_cons.mpr ⟨lw_p3, List.forall_mem_cons.mpr ⟨lw_p4, List.forall_mem_cons.mpr ⟨lw_p5, List.forall_mem_cons.mpr ⟨lw_p6, List.forall_mem_cons.mpr ⟨lw_p7, List.forall_mem_cons.mpr ⟨lw_p8, List.forall_mem_cons.mpr ⟨lw_p9, List.forall_mem_cons.mpr ⟨lw_p10, List.forall_mem_cons.mpr ⟨lw_p11, List.forall_mem_cons.mpr ⟨lw_p12, List.forall_mem_cons.mpr ⟨lw_p13, List.forall_mem_cons.mpr ⟨lw_p14, List.forall_mem_cons.mpr ⟨lw_p15, fun _ h => absurd h List.not_mem_nil⟩⟩⟩⟩⟩⟩⟩⟩⟩⟩⟩⟩⟩⟩⟩⟩
theorem lw_p16 : lw_okq (⟨"PlanRules$Runner", "giveSet", "(III)V"⟩, 13) := ⟨⟨by decide +kernel, by decide +kernel⟩, List.mem_of_getElem? (i := 143) (by decide +kernel), List.mem_of_getElem? (i := 447) (by decide +kernel), List.mem_of_getElem? (i := 448) (by decide +kernel)⟩
theorem lw_p17 : lw_okq (⟨"PlanRules$Runner", "giveKept", "(II)V"⟩, 13) := ⟨⟨by decide +kernel, by decide +kernel⟩, List.mem_of_getElem? (i := 143) (by decide +kernel), List.mem_of_getElem? (i := 451) (by decide +kernel), List.mem_of_getElem? (i := 452) (by decide +kernel)⟩
theorem lw_p18 : lw_okq (⟨"PlanRules$Runner", "copyMembers", "(III)V"⟩, 13) := ⟨⟨by decide +kernel, by decide +kernel⟩, List.mem_of_getElem? (i := 143) (by decide +kernel), List.mem_of_getElem? (i := 455) (by decide +kernel), List.mem_of_getElem? (i := 456) (by decide +kernel)⟩
theorem lw_p19 : lw_okq (⟨"PlanRules$Runner", "giveJoined", "(IIII)V"⟩, 13) := ⟨⟨by decide +kernel, by decide +kernel⟩, List.mem_of_getElem? (i := 143) (by decide +kernel), List.mem_of_getElem? (i := 462) (by decide +kernel), List.mem_of_getElem? (i := 463) (by decide +kernel)⟩
theorem lw_p20 : lw_okq (⟨"PlanRules$Runner", "giveFirst", "(II)V"⟩, 13) := ⟨⟨by decide +kernel, by decide +kernel⟩, List.mem_of_getElem? (i := 143) (by decide +kernel), List.mem_of_getElem? (i := 466) (by decide +kernel), List.mem_of_getElem? (i := 467) (by decide +kernel)⟩
theorem lw_p21 : lw_okq (⟨"PlanRules$Runner", "giveFolded", "(III)V"⟩, 13) := ⟨⟨by decide +kernel, by decide +kernel⟩, List.mem_of_getElem? (i := 143) (by decide +kernel), List.mem_of_getElem? (i := 470) (by decide +kernel), List.mem_of_getElem? (i := 471) (by decide +kernel)⟩
theorem lw_p22 : lw_okq (⟨"PlanRules$Runner", "findMember", "(III)I"⟩, 13) := ⟨⟨by decide +kernel, by decide +kernel⟩, List.mem_of_getElem? (i := 143) (by decide +kernel), List.mem_of_getElem? (i := 474) (by decide +kernel), List.mem_of_getElem? (i := 475) (by decide +kernel)⟩
theorem lw_p23 : lw_okq (⟨"PlanRules$Runner", "giveOnce", "(I)V"⟩, 13) := ⟨⟨by decide +kernel, by decide +kernel⟩, List.mem_of_getElem? (i := 143) (by decide +kernel), List.mem_of_getElem? (i := 478) (by decide +kernel), List.mem_of_getElem? (i := 479) (by decide +kernel)⟩
theorem lw_p24 : lw_okq (⟨"PlanRules$Runner", "hasLike", "(II)Z"⟩, 13) := ⟨⟨by decide +kernel, by decide +kernel⟩, List.mem_of_getElem? (i := 143) (by decide +kernel), List.mem_of_getElem? (i := 482) (by decide +kernel), List.mem_of_getElem? (i := 483) (by decide +kernel)⟩
theorem lw_p25 : lw_okq (⟨"PlanRules$Runner", "isLike", "(II)Z"⟩, 13) := ⟨⟨by decide +kernel, by decide +kernel⟩, List.mem_of_getElem? (i := 143) (by decide +kernel), List.mem_of_getElem? (i := 486) (by decide +kernel), List.mem_of_getElem? (i := 487) (by decide +kernel)⟩
theorem lw_p26 : lw_okq (⟨"PlanRules$Rules", "suitsFilter", "(III)Z"⟩, 3) := ⟨⟨by decide +kernel, by decide +kernel⟩, List.mem_of_getElem? (i := 193) (by decide +kernel), List.mem_of_getElem? (i := 519) (by decide +kernel), List.mem_of_getElem? (i := 520) (by decide +kernel)⟩
theorem lw_p27 : lw_okq (⟨"PlanRules$Rules", "suitsOther", "(III)Z"⟩, 3) := ⟨⟨by decide +kernel, by decide +kernel⟩, List.mem_of_getElem? (i := 193) (by decide +kernel), List.mem_of_getElem? (i := 527) (by decide +kernel), List.mem_of_getElem? (i := 528) (by decide +kernel)⟩
theorem lw_p28 : lw_okq (⟨"PlanRules$Rules", "isLikeJob", "(II)Z"⟩, 3) := ⟨⟨by decide +kernel, by decide +kernel⟩, List.mem_of_getElem? (i := 193) (by decide +kernel), List.mem_of_getElem? (i := 531) (by decide +kernel), List.mem_of_getElem? (i := 532) (by decide +kernel)⟩
theorem lw_p29 : lw_okq (⟨"PlanRules$Rules", "addLike", "(II)I"⟩, 3) := ⟨⟨by decide +kernel, by decide +kernel⟩, List.mem_of_getElem? (i := 193) (by decide +kernel), List.mem_of_getElem? (i := 551) (by decide +kernel), List.mem_of_getElem? (i := 552) (by decide +kernel)⟩
theorem lw_p30 : lw_okq (⟨"PlanRules$Rules", "exchange", "(IIII)V"⟩, 3) := ⟨⟨by decide +kernel, by decide +kernel⟩, List.mem_of_getElem? (i := 193) (by decide +kernel), List.mem_of_getElem? (i := 556) (by decide +kernel), List.mem_of_getElem? (i := 557) (by decide +kernel)⟩
theorem lw_p31 : lw_okq (⟨"PlanRules$Rules", "skip", "(III)V"⟩, 3) := ⟨⟨by decide +kernel, by decide +kernel⟩, List.mem_of_getElem? (i := 193) (by decide +kernel), List.mem_of_getElem? (i := 562) (by decide +kernel), List.mem_of_getElem? (i := 563) (by decide +kernel)⟩
def lw_privs_2 : List (MethodName × Nat) := [(⟨"PlanRules$Runner", "giveSet", "(III)V"⟩, 13), (⟨"PlanRules$Runner", "giveKept", "(II)V"⟩, 13), (⟨"PlanRules$Runner", "copyMembers", "(III)V"⟩, 13), (⟨"PlanRules$Runner", "giveJoined", "(IIII)V"⟩, 13), (⟨"PlanRules$Runner", "giveFirst", "(II)V"⟩, 13), (⟨"PlanRules$Runner", "giveFolded", "(III)V"⟩, 13), (⟨"PlanRules$Runner", "findMember", "(III)I"⟩, 13), (⟨"PlanRules$Runner", "giveOnce", "(I)V"⟩, 13), (⟨"PlanRules$Runner", "hasLike", "(II)Z"⟩, 13), (⟨"PlanRules$Runner", "isLike", "(II)Z"⟩, 13), (⟨"PlanRules$Rules", "suitsFilter", "(III)Z"⟩, 3), (⟨"PlanRules$Rules", "suitsOther", "(III)Z"⟩, 3), (⟨"PlanRules$Rules", "isLikeJob", "(II)Z"⟩, 3), (⟨"PlanRules$Rules", "addLike", "(II)I"⟩, 3), (⟨"PlanRules$Rules", "exchange", "(IIII)V"⟩, 3), (⟨"PlanRules$Rules", "skip", "(III)V"⟩, 3)]
theorem lw_r2 : ∀ q ∈ lw_privs_2, lw_okq q := List.forall_mem_cons.mpr ⟨lw_p16, List.forall_mem_cons.mpr ⟨lw_p17, List.forall_mem_cons.mpr ⟨lw_p18, List.forall_mem_cons.mpr ⟨lw_p19, List.forall_mem_cons.mpr ⟨lw_p20, List.forall_mem_cons.mpr ⟨lw_p21, List.forall_mem_cons.mpr ⟨lw_p22, List.forall_mem_cons.mpr ⟨lw_p23, List.forall_mem_cons.mpr ⟨lw_p24, List.forall_mem_cons.mpr ⟨lw_p25, List.forall_mem_cons.mpr ⟨lw_p26, List.forall_mem_cons.mpr ⟨lw_p27, List.forall_mem_cons.mpr ⟨lw_p28, List.forall_mem_cons.mpr ⟨lw_p29, List.forall_mem_cons.mpr ⟨lw_p30, List.forall_mem_cons.mpr ⟨lw_p31, fun _ h => absurd h List.not_mem_nil⟩⟩⟩⟩⟩⟩⟩⟩⟩⟩⟩⟩⟩⟩⟩⟩
theorem lw_p32 : lw_okq (⟨"PlanRules$Rules", "workAbove", "(III)V"⟩, 3) := ⟨⟨by decide +kernel, by decide +kernel⟩, List.mem_of_getElem? (i := 193) (by decide +kernel), List.mem_of_getElem? (i := 567) (by decide +kernel), List.mem_of_getElem? (i := 568) (by decide +kernel)⟩
theorem lw_p33 : lw_okq (⟨"PlanRulesModel", "isFormula", "(I)Z"⟩, 36) := ⟨⟨by decide +kernel, by decide +kernel⟩, List.mem_of_getElem? (i := 598) (by decide +kernel), List.mem_of_getElem? (i := 740) (by decide +kernel), List.mem_of_getElem? (i := 741) (by decide +kernel)⟩
theorem lw_p34 : lw_okq (⟨"PlanRulesModel", "sizeOf", "(III)I"⟩, 36) := ⟨⟨by decide +kernel, by decide +kernel⟩, List.mem_of_getElem? (i := 598) (by decide +kernel), List.mem_of_getElem? (i := 747) (by decide +kernel), List.mem_of_getElem? (i := 748) (by decide +kernel)⟩
theorem lw_p35 : lw_okq (⟨"PlanRulesModel", "tell", "(III)I"⟩, 36) := ⟨⟨by decide +kernel, by decide +kernel⟩, List.mem_of_getElem? (i := 598) (by decide +kernel), List.mem_of_getElem? (i := 751) (by decide +kernel), List.mem_of_getElem? (i := 752) (by decide +kernel)⟩
theorem lw_p36 : lw_okq (⟨"PlanRulesModel", "isNode", "(I)Z"⟩, 36) := ⟨⟨by decide +kernel, by decide +kernel⟩, List.mem_of_getElem? (i := 598) (by decide +kernel), List.mem_of_getElem? (i := 764) (by decide +kernel), List.mem_of_getElem? (i := 765) (by decide +kernel)⟩
theorem lw_p37 : lw_okq (⟨"PlanRulesModel", "isRight", "(III)Z"⟩, 36) := ⟨⟨by decide +kernel, by decide +kernel⟩, List.mem_of_getElem? (i := 598) (by decide +kernel), List.mem_of_getElem? (i := 774) (by decide +kernel), List.mem_of_getElem? (i := 775) (by decide +kernel)⟩
theorem lw_p38 : lw_okq (⟨"PlanRulesModel", "lay", "(IIIII)I"⟩, 36) := ⟨⟨by decide +kernel, by decide +kernel⟩, List.mem_of_getElem? (i := 598) (by decide +kernel), List.mem_of_getElem? (i := 780) (by decide +kernel), List.mem_of_getElem? (i := 781) (by decide +kernel)⟩
theorem lw_p39 : lw_okq (⟨"PlanRulesModel", "put", "(IIIIII)V"⟩, 36) := ⟨⟨by decide +kernel, by decide +kernel⟩, List.mem_of_getElem? (i := 598) (by decide +kernel), List.mem_of_getElem? (i := 784) (by decide +kernel), List.mem_of_getElem? (i := 785) (by decide +kernel)⟩
theorem lw_p40 : lw_okq (⟨"PlanRulesModel", "look", "()V"⟩, 36) := ⟨⟨by decide +kernel, by decide +kernel⟩, List.mem_of_getElem? (i := 598) (by decide +kernel), List.mem_of_getElem? (i := 792) (by decide +kernel), List.mem_of_getElem? (i := 793) (by decide +kernel)⟩
theorem lw_p41 : lw_okq (⟨"PlanRulesModel", "bound", "(I)I"⟩, 36) := ⟨⟨by decide +kernel, by decide +kernel⟩, List.mem_of_getElem? (i := 598) (by decide +kernel), List.mem_of_getElem? (i := 796) (by decide +kernel), List.mem_of_getElem? (i := 797) (by decide +kernel)⟩
theorem lw_p42 : lw_okq (⟨"PlanRulesModel", "does", "(I)V"⟩, 36) := ⟨⟨by decide +kernel, by decide +kernel⟩, List.mem_of_getElem? (i := 598) (by decide +kernel), List.mem_of_getElem? (i := 809) (by decide +kernel), List.mem_of_getElem? (i := 810) (by decide +kernel)⟩
theorem lw_p43 : lw_okq (⟨"PlanRulesModel", "takes", "(III)V"⟩, 36) := ⟨⟨by decide +kernel, by decide +kernel⟩, List.mem_of_getElem? (i := 598) (by decide +kernel), List.mem_of_getElem? (i := 816) (by decide +kernel), List.mem_of_getElem? (i := 817) (by decide +kernel)⟩
theorem lw_p44 : lw_okq (⟨"PlanRulesModel", "work", "(II)V"⟩, 36) := ⟨⟨by decide +kernel, by decide +kernel⟩, List.mem_of_getElem? (i := 598) (by decide +kernel), List.mem_of_getElem? (i := 820) (by decide +kernel), List.mem_of_getElem? (i := 821) (by decide +kernel)⟩
theorem lw_p45 : lw_okq (⟨"PlanRulesModel", "begins", "(I)V"⟩, 36) := ⟨⟨by decide +kernel, by decide +kernel⟩, List.mem_of_getElem? (i := 598) (by decide +kernel), List.mem_of_getElem? (i := 824) (by decide +kernel), List.mem_of_getElem? (i := 825) (by decide +kernel)⟩
theorem lw_p46 : lw_okq (⟨"PlanRulesModel", "goesOn", "(I)V"⟩, 36) := ⟨⟨by decide +kernel, by decide +kernel⟩, List.mem_of_getElem? (i := 598) (by decide +kernel), List.mem_of_getElem? (i := 828) (by decide +kernel), List.mem_of_getElem? (i := 829) (by decide +kernel)⟩
theorem lw_p47 : lw_okq (⟨"PlanRulesModel", "gives", "(I)V"⟩, 36) := ⟨⟨by decide +kernel, by decide +kernel⟩, List.mem_of_getElem? (i := 598) (by decide +kernel), List.mem_of_getElem? (i := 832) (by decide +kernel), List.mem_of_getElem? (i := 833) (by decide +kernel)⟩
def lw_privs_3 : List (MethodName × Nat) := [(⟨"PlanRules$Rules", "workAbove", "(III)V"⟩, 3), (⟨"PlanRulesModel", "isFormula", "(I)Z"⟩, 36), (⟨"PlanRulesModel", "sizeOf", "(III)I"⟩, 36), (⟨"PlanRulesModel", "tell", "(III)I"⟩, 36), (⟨"PlanRulesModel", "isNode", "(I)Z"⟩, 36), (⟨"PlanRulesModel", "isRight", "(III)Z"⟩, 36), (⟨"PlanRulesModel", "lay", "(IIIII)I"⟩, 36), (⟨"PlanRulesModel", "put", "(IIIIII)V"⟩, 36), (⟨"PlanRulesModel", "look", "()V"⟩, 36), (⟨"PlanRulesModel", "bound", "(I)I"⟩, 36), (⟨"PlanRulesModel", "does", "(I)V"⟩, 36), (⟨"PlanRulesModel", "takes", "(III)V"⟩, 36), (⟨"PlanRulesModel", "work", "(II)V"⟩, 36), (⟨"PlanRulesModel", "begins", "(I)V"⟩, 36), (⟨"PlanRulesModel", "goesOn", "(I)V"⟩, 36), (⟨"PlanRulesModel", "gives", "(I)V"⟩, 36)]
theorem lw_r3 : ∀ q ∈ lw_privs_3, lw_okq q := List.forall_mem_cons.mpr ⟨lw_p32, List.forall_mem_cons.mpr ⟨lw_p33, List.forall_mem_cons.mpr ⟨lw_p34, List.forall_mem_cons.mpr ⟨lw_p35, List.forall_mem_cons.mpr ⟨lw_p36, List.forall_mem_cons.mpr ⟨lw_p37, List.forall_mem_cons.mpr ⟨lw_p38, List.forall_mem_cons.mpr ⟨lw_p39, List.forall_mem_cons.mpr ⟨lw_p40, List.forall_mem_cons.mpr ⟨lw_p41, List.forall_mem_cons.mpr ⟨lw_p42, List.forall_mem_cons.mpr ⟨lw_p43, List.forall_mem_cons.mpr ⟨lw_p44, List.forall_mem_cons.mpr ⟨lw_p45, List.forall_mem_cons.mpr ⟨lw_p46, List.forall_mem_cons.mpr ⟨lw_p47, fun _ h => absurd h List.not_mem_nil⟩⟩⟩⟩⟩⟩⟩⟩⟩⟩⟩⟩⟩⟩⟩⟩
theorem lw_p48 : lw_okq (⟨"PlanRulesModel", "asks", "(I)V"⟩, 36) := ⟨⟨by decide +kernel, by decide +kernel⟩, List.mem_of_getElem? (i := 598) (by decide +kernel), List.mem_of_getElem? (i := 836) (by decide +kernel), List.mem_of_getElem? (i := 837) (by decide +kernel)⟩
theorem lw_p49 : lw_okq (⟨"PlanRulesModel", "single", "(I)V"⟩, 36) := ⟨⟨by decide +kernel, by decide +kernel⟩, List.mem_of_getElem? (i := 598) (by decide +kernel), List.mem_of_getElem? (i := 840) (by decide +kernel), List.mem_of_getElem? (i := 841) (by decide +kernel)⟩
theorem lw_p50 : lw_okq (⟨"PlanRulesModel", "both", "(III)V"⟩, 36) := ⟨⟨by decide +kernel, by decide +kernel⟩, List.mem_of_getElem? (i := 598) (by decide +kernel), List.mem_of_getElem? (i := 844) (by decide +kernel), List.mem_of_getElem? (i := 845) (by decide +kernel)⟩
theorem lw_p51 : lw_okq (⟨"PlanRulesModel", "add", "(II)V"⟩, 36) := ⟨⟨by decide +kernel, by decide +kernel⟩, List.mem_of_getElem? (i := 598) (by decide +kernel), List.mem_of_getElem? (i := 848) (by decide +kernel), List.mem_of_getElem? (i := 849) (by decide +kernel)⟩
theorem lw_p52 : lw_okq (⟨"PlanRulesModel", "copy", "(II)I"⟩, 36) := ⟨⟨by decide +kernel, by decide +kernel⟩, List.mem_of_getElem? (i := 598) (by decide +kernel), List.mem_of_getElem? (i := 852) (by decide +kernel), List.mem_of_getElem? (i := 853) (by decide +kernel)⟩
theorem lw_p53 : lw_okq (⟨"PlanRulesModel", "joins", "(II)V"⟩, 36) := ⟨⟨by decide +kernel, by decide +kernel⟩, List.mem_of_getElem? (i := 598) (by decide +kernel), List.mem_of_getElem? (i := 856) (by decide +kernel), List.mem_of_getElem? (i := 857) (by decide +kernel)⟩
theorem lw_p54 : lw_okq (⟨"PlanRulesModel", "folds", "(II)V"⟩, 36) := ⟨⟨by decide +kernel, by decide +kernel⟩, List.mem_of_getElem? (i := 598) (by decide +kernel), List.mem_of_getElem? (i := 860) (by decide +kernel), List.mem_of_getElem? (i := 861) (by decide +kernel)⟩
theorem lw_p55 : lw_okq (⟨"PlanRulesModel", "has", "(II)Z"⟩, 36) := ⟨⟨by decide +kernel, by decide +kernel⟩, List.mem_of_getElem? (i := 598) (by decide +kernel), List.mem_of_getElem? (i := 864) (by decide +kernel), List.mem_of_getElem? (i := 865) (by decide +kernel)⟩
theorem lw_p56 : lw_okq (⟨"PlanRulesModel", "stands", "(II)Z"⟩, 36) := ⟨⟨by decide +kernel, by decide +kernel⟩, List.mem_of_getElem? (i := 598) (by decide +kernel), List.mem_of_getElem? (i := 881) (by decide +kernel), List.mem_of_getElem? (i := 882) (by decide +kernel)⟩
theorem lw_p57 : lw_okq (⟨"PlanRulesModel", "isFold", "(III)Z"⟩, 36) := ⟨⟨by decide +kernel, by decide +kernel⟩, List.mem_of_getElem? (i := 598) (by decide +kernel), List.mem_of_getElem? (i := 888) (by decide +kernel), List.mem_of_getElem? (i := 889) (by decide +kernel)⟩
theorem lw_p58 : lw_okq (⟨"PlanRulesModel", "hasRoom", "(II)Z"⟩, 36) := ⟨⟨by decide +kernel, by decide +kernel⟩, List.mem_of_getElem? (i := 598) (by decide +kernel), List.mem_of_getElem? (i := 896) (by decide +kernel), List.mem_of_getElem? (i := 897) (by decide +kernel)⟩
theorem lw_p59 : lw_okq (⟨"PlanRulesModel", "rewrites", "(II)V"⟩, 36) := ⟨⟨by decide +kernel, by decide +kernel⟩, List.mem_of_getElem? (i := 598) (by decide +kernel), List.mem_of_getElem? (i := 906) (by decide +kernel), List.mem_of_getElem? (i := 907) (by decide +kernel)⟩
theorem lw_p60 : lw_okq (⟨"PlanRulesModel", "below", "(I)J"⟩, 36) := ⟨⟨by decide +kernel, by decide +kernel⟩, List.mem_of_getElem? (i := 598) (by decide +kernel), List.mem_of_getElem? (i := 914) (by decide +kernel), List.mem_of_getElem? (i := 915) (by decide +kernel)⟩
theorem lw_p61 : lw_okq (⟨"PlanRulesModel", "ruleFor", "(I)I"⟩, 36) := ⟨⟨by decide +kernel, by decide +kernel⟩, List.mem_of_getElem? (i := 598) (by decide +kernel), List.mem_of_getElem? (i := 918) (by decide +kernel), List.mem_of_getElem? (i := 919) (by decide +kernel)⟩
def lw_privs_4 : List (MethodName × Nat) := [(⟨"PlanRulesModel", "asks", "(I)V"⟩, 36), (⟨"PlanRulesModel", "single", "(I)V"⟩, 36), (⟨"PlanRulesModel", "both", "(III)V"⟩, 36), (⟨"PlanRulesModel", "add", "(II)V"⟩, 36), (⟨"PlanRulesModel", "copy", "(II)I"⟩, 36), (⟨"PlanRulesModel", "joins", "(II)V"⟩, 36), (⟨"PlanRulesModel", "folds", "(II)V"⟩, 36), (⟨"PlanRulesModel", "has", "(II)Z"⟩, 36), (⟨"PlanRulesModel", "stands", "(II)Z"⟩, 36), (⟨"PlanRulesModel", "isFold", "(III)Z"⟩, 36), (⟨"PlanRulesModel", "hasRoom", "(II)Z"⟩, 36), (⟨"PlanRulesModel", "rewrites", "(II)V"⟩, 36), (⟨"PlanRulesModel", "below", "(I)J"⟩, 36), (⟨"PlanRulesModel", "ruleFor", "(I)I"⟩, 36)]
theorem lw_r4 : ∀ q ∈ lw_privs_4, lw_okq q := List.forall_mem_cons.mpr ⟨lw_p48, List.forall_mem_cons.mpr ⟨lw_p49, List.forall_mem_cons.mpr ⟨lw_p50, List.forall_mem_cons.mpr ⟨lw_p51, List.forall_mem_cons.mpr ⟨lw_p52, List.forall_mem_cons.mpr ⟨lw_p53, List.forall_mem_cons.mpr ⟨lw_p54, List.forall_mem_cons.mpr ⟨lw_p55, List.forall_mem_cons.mpr ⟨lw_p56, List.forall_mem_cons.mpr ⟨lw_p57, List.forall_mem_cons.mpr ⟨lw_p58, List.forall_mem_cons.mpr ⟨lw_p59, List.forall_mem_cons.mpr ⟨lw_p60, List.forall_mem_cons.mpr ⟨lw_p61, fun _ h => absurd h List.not_mem_nil⟩⟩⟩⟩⟩⟩⟩⟩⟩⟩⟩⟩⟩⟩
def lw_privs : List (MethodName × Nat) := lw_privs_1 ++ (lw_privs_2 ++ (lw_privs_3 ++ (lw_privs_4)))
def lw_tbl : List Cond := k2_sels lw_privs ++ tables_1
theorem lw_privs_ok : ∀ q ∈ lw_privs, lw_okq q := by
  show ∀ q ∈ lw_privs_1 ++ (lw_privs_2 ++ (lw_privs_3 ++ (lw_privs_4))), lw_okq q
  exact List.forall_mem_append.mpr ⟨lw_r1, List.forall_mem_append.mpr ⟨lw_r2, List.forall_mem_append.mpr ⟨lw_r3, lw_r4⟩⟩⟩

def RX0 : String := "PlanRules$Formulas"
def TX0 : u_T := fun k => match k with
  | 0 => ("PlanRules$Formulas", "kinds", "[I", true)
  | 1 => ("PlanRules$Formulas", "firsts", "[I", true)
  | 2 => ("PlanRules$Formulas", "seconds", "[I", true)
  | 3 => ("PlanRules$Formulas", "sizes", "[I", true)
  | 4 => ("PlanRules$Formulas", "reads", "[I", true)
  | 5 => ("PlanRules$Formulas", "fails", "[Z", true)
  | _ => ("PlanRules$Formulas", "made", "I", false)
def tyX0 : Nat → FieldType := fun k => match k with
  | 0 => .array .int
  | 1 => .array .int
  | 2 => .array .int
  | 3 => .array .int
  | 4 => .array .int
  | 5 => .array .boolean
  | _ => .int
abbrev wsX00 : List Cond := u_ws RX0 TX0 7
theorem nmX0 : ∀ a, a < 7 → ∀ b, b < 7 → a ≠ b → (TX0 a).2.1 ≠ (TX0 b).2.1 := by decide +kernel
theorem tyX0_ok : ∀ k, k < 7 → parseFieldDescriptor (TX0 k).2.2.1 = some (tyX0 k) := by decide +kernel
abbrev cX0_init : ByteArray := prog_2_method_1_code
def yX0_init : MethodName := ⟨RX0, "<init>", "()V"⟩
abbrev cX0_has : ByteArray := prog_2_method_2_code
def yX0_has : MethodName := ⟨RX0, "has", "(I)Z"⟩
abbrev cX0_isAsTold : ByteArray := prog_2_method_3_code
def yX0_isAsTold : MethodName := ⟨RX0, "isAsTold", "(III)Z"⟩
abbrev cX0_hasRoom : ByteArray := prog_2_method_4_code
def yX0_hasRoom : MethodName := ⟨RX0, "hasRoom", "(III)Z"⟩
abbrev cX0_add : ByteArray := prog_2_method_5_code
def yX0_add : MethodName := ⟨RX0, "add", "(III)I"⟩
abbrev cX0_takesFirst : ByteArray := prog_2_method_6_code
def yX0_takesFirst : MethodName := ⟨RX0, "takesFirst", "(I)Z"⟩
abbrev cX0_takesSecond : ByteArray := prog_2_method_7_code
def yX0_takesSecond : MethodName := ⟨RX0, "takesSecond", "(I)Z"⟩
abbrev cX0_sizeOf : ByteArray := prog_2_method_8_code
def yX0_sizeOf : MethodName := ⟨RX0, "sizeOf", "(III)I"⟩
abbrev cX0_readsOf : ByteArray := prog_2_method_9_code
def yX0_readsOf : MethodName := ⟨RX0, "readsOf", "(III)I"⟩
abbrev cX0_failsOf : ByteArray := prog_2_method_10_code
def yX0_failsOf : MethodName := ⟨RX0, "failsOf", "(III)Z"⟩
def RX1 : String := "PlanRules$Nodes"
def TX1 : u_T := fun k => match k with
  | 0 => ("PlanRules$Nodes", "formulas", "LPlanRules$Formulas;", true)
  | 1 => ("PlanRules$Nodes", "kinds", "[I", true)
  | 2 => ("PlanRules$Nodes", "lefts", "[I", true)
  | 3 => ("PlanRules$Nodes", "rights", "[I", true)
  | 4 => ("PlanRules$Nodes", "members", "[I", true)
  | 5 => ("PlanRules$Nodes", "values", "[I", true)
  | 6 => ("PlanRules$Nodes", "bounds", "[I", true)
  | 7 => ("PlanRules$Nodes", "fails", "[Z", true)
  | 8 => ("PlanRules$Nodes", "made", "I", false)
  | 9 => ("PlanRules$Nodes", "order", "[I", true)
  | 10 => ("PlanRules$Nodes", "open", "[I", true)
  | _ => ("PlanRules$Nodes", "looks", "[I", true)
def tyX1 : Nat → FieldType := fun k => match k with
  | 0 => .object "PlanRules$Formulas"
  | 1 => .array .int
  | 2 => .array .int
  | 3 => .array .int
  | 4 => .array .int
  | 5 => .array .int
  | 6 => .array .int
  | 7 => .array .boolean
  | 8 => .int
  | 9 => .array .int
  | 10 => .array .int
  | _ => .array .int
abbrev wsX10 : List Cond := u_ws RX1 TX1 12
theorem nmX1 : ∀ a, a < 12 → ∀ b, b < 12 → a ≠ b → (TX1 a).2.1 ≠ (TX1 b).2.1 := by decide +kernel
theorem tyX1_ok : ∀ k, k < 12 → parseFieldDescriptor (TX1 k).2.2.1 = some (tyX1 k) := by decide +kernel
abbrev cX1_init : ByteArray := prog_3_method_1_code
def yX1_init : MethodName := ⟨RX1, "<init>", "(LPlanRules$Formulas;)V"⟩
abbrev cX1_has : ByteArray := prog_3_method_2_code
def yX1_has : MethodName := ⟨RX1, "has", "(I)Z"⟩
abbrev cX1_hasRoom : ByteArray := prog_3_method_3_code
def yX1_hasRoom : MethodName := ⟨RX1, "hasRoom", "(I)Z"⟩
abbrev cX1_isAsTold : ByteArray := prog_3_method_4_code
def yX1_isAsTold : MethodName := ⟨RX1, "isAsTold", "(IIIII)Z"⟩
abbrev cX1_isValue : ByteArray := prog_3_method_5_code
def yX1_isValue : MethodName := ⟨RX1, "isValue", "(III)Z"⟩
abbrev cX1_takesRight : ByteArray := prog_3_method_6_code
def yX1_takesRight : MethodName := ⟨RX1, "takesRight", "(I)Z"⟩
abbrev cX1_takesMember : ByteArray := prog_3_method_7_code
def yX1_takesMember : MethodName := ⟨RX1, "takesMember", "(I)Z"⟩
abbrev cX1_takesValue : ByteArray := prog_3_method_8_code
def yX1_takesValue : MethodName := ⟨RX1, "takesValue", "(I)Z"⟩
abbrev cX1_takesFormula : ByteArray := prog_3_method_9_code
def yX1_takesFormula : MethodName := ⟨RX1, "takesFormula", "(I)Z"⟩
abbrev cX1_boundOf : ByteArray := prog_3_method_10_code
def yX1_boundOf : MethodName := ⟨RX1, "boundOf", "(IIII)I"⟩
abbrev cX1_failsOf : ByteArray := prog_3_method_11_code
def yX1_failsOf : MethodName := ⟨RX1, "failsOf", "(IIII)Z"⟩
abbrev cX1_add : ByteArray := prog_3_method_12_code
def yX1_add : MethodName := ⟨RX1, "add", "(IIIII)I"⟩
abbrev cX1_write : ByteArray := prog_3_method_13_code
def yX1_write : MethodName := ⟨RX1, "write", "(IIIIII)V"⟩
abbrev cX1_listFrom : ByteArray := prog_3_method_14_code
def yX1_listFrom : MethodName := ⟨RX1, "listFrom", "(I)I"⟩
abbrev cX1_isListed : ByteArray := prog_3_method_15_code
def yX1_isListed : MethodName := ⟨RX1, "isListed", "(I)Z"⟩
abbrev cX1_leftBelow : ByteArray := prog_3_method_16_code
def yX1_leftBelow : MethodName := ⟨RX1, "leftBelow", "(I)I"⟩
abbrev cX1_rightBelow : ByteArray := prog_3_method_17_code
def yX1_rightBelow : MethodName := ⟨RX1, "rightBelow", "(I)I"⟩
def RX2 : String := "PlanRules$Rules"
def TX2 : u_T := fun k => match k with
  | 0 => ("PlanRules$Rules", "formulas", "LPlanRules$Formulas;", true)
  | 1 => ("PlanRules$Rules", "nodes", "LPlanRules$Nodes;", true)
  | _ => ("PlanRules$Rules", "times", "I", false)
def tyX2 : Nat → FieldType := fun k => match k with
  | 0 => .object "PlanRules$Formulas"
  | 1 => .object "PlanRules$Nodes"
  | _ => .int
abbrev wsX20 : List Cond := u_ws RX2 TX2 3
theorem nmX2 : ∀ a, a < 3 → ∀ b, b < 3 → a ≠ b → (TX2 a).2.1 ≠ (TX2 b).2.1 := by decide +kernel
theorem tyX2_ok : ∀ k, k < 3 → parseFieldDescriptor (TX2 k).2.2.1 = some (tyX2 k) := by decide +kernel
abbrev cX2_init : ByteArray := prog_4_method_1_code
def yX2_init : MethodName := ⟨RX2, "<init>", "(LPlanRules$Formulas;LPlanRules$Nodes;)V"⟩
abbrev cX2_has : ByteArray := prog_4_method_2_code
def yX2_has : MethodName := ⟨RX2, "has", "(I)Z"⟩
abbrev cX2_suits : ByteArray := prog_4_method_3_code
def yX2_suits : MethodName := ⟨RX2, "suits", "(II)Z"⟩
abbrev cX2_suitsFilter : ByteArray := prog_4_method_4_code
def yX2_suitsFilter : MethodName := ⟨RX2, "suitsFilter", "(III)Z"⟩
abbrev cX2_suitsOther : ByteArray := prog_4_method_5_code
def yX2_suitsOther : MethodName := ⟨RX2, "suitsOther", "(III)Z"⟩
abbrev cX2_isLikeJob : ByteArray := prog_4_method_6_code
def yX2_isLikeJob : MethodName := ⟨RX2, "isLikeJob", "(II)Z"⟩
abbrev cX2_hasRoom : ByteArray := prog_4_method_7_code
def yX2_hasRoom : MethodName := ⟨RX2, "hasRoom", "(II)Z"⟩
abbrev cX2_apply : ByteArray := prog_4_method_8_code
def yX2_apply : MethodName := ⟨RX2, "apply", "(II)V"⟩
abbrev cX2_exchange : ByteArray := prog_4_method_9_code
def yX2_exchange : MethodName := ⟨RX2, "exchange", "(IIII)V"⟩
abbrev cX2_skip : ByteArray := prog_4_method_10_code
def yX2_skip : MethodName := ⟨RX2, "skip", "(III)V"⟩
abbrev cX2_workAbove : ByteArray := prog_4_method_11_code
def yX2_workAbove : MethodName := ⟨RX2, "workAbove", "(III)V"⟩
abbrev cX2_addLike : ByteArray := prog_4_method_12_code
def yX2_addLike : MethodName := ⟨RX2, "addLike", "(II)I"⟩
abbrev cX2_leastNode : ByteArray := prog_4_method_13_code
def yX2_leastNode : MethodName := ⟨RX2, "leastNode", "(I)I"⟩
abbrev cX2_leastRule : ByteArray := prog_4_method_14_code
def yX2_leastRule : MethodName := ⟨RX2, "leastRule", "(I)I"⟩
def RX3 : String := "PlanRules$Runner"
def TX3 : u_T := fun k => match k with
  | 0 => ("PlanRules$Runner", "sources", "LPlanRules$Sources;", true)
  | 1 => ("PlanRules$Runner", "formulas", "LPlanRules$Formulas;", true)
  | 2 => ("PlanRules$Runner", "nodes", "LPlanRules$Nodes;", true)
  | 3 => ("PlanRules$Runner", "cells", "[I", false)
  | 4 => ("PlanRules$Runner", "used", "I", false)
  | 5 => ("PlanRules$Runner", "starts", "[I", true)
  | 6 => ("PlanRules$Runner", "ends", "[I", true)
  | 7 => ("PlanRules$Runner", "givenStart", "I", false)
  | 8 => ("PlanRules$Runner", "givenRows", "I", false)
  | 9 => ("PlanRules$Runner", "failure", "I", false)
  | 10 => ("PlanRules$Runner", "formulasWorked", "I", false)
  | 11 => ("PlanRules$Runner", "nodesWorked", "I", false)
  | _ => ("PlanRules$Runner", "failedNode", "I", false)
def tyX3 : Nat → FieldType := fun k => match k with
  | 0 => .object "PlanRules$Sources"
  | 1 => .object "PlanRules$Formulas"
  | 2 => .object "PlanRules$Nodes"
  | 3 => .array .int
  | 4 => .int
  | 5 => .array .int
  | 6 => .array .int
  | 7 => .int
  | 8 => .int
  | 9 => .int
  | 10 => .int
  | 11 => .int
  | _ => .int
abbrev wsX30 : List Cond := u_ws RX3 TX3 13
theorem nmX3 : ∀ a, a < 13 → ∀ b, b < 13 → a ≠ b → (TX3 a).2.1 ≠ (TX3 b).2.1 := by decide +kernel
theorem tyX3_ok : ∀ k, k < 13 → parseFieldDescriptor (TX3 k).2.2.1 = some (tyX3 k) := by decide +kernel
abbrev cX3_init : ByteArray := prog_5_method_1_code
def yX3_init : MethodName := ⟨RX3, "<init>", "(LPlanRules$Sources;LPlanRules$Formulas;LPlanRules$Nodes;)V"⟩
abbrev cX3_give : ByteArray := prog_5_method_2_code
def yX3_give : MethodName := ⟨RX3, "give", "(I)I"⟩
abbrev cX3_given : ByteArray := prog_5_method_3_code
def yX3_given : MethodName := ⟨RX3, "given", "(II)I"⟩
abbrev cX3_work : ByteArray := prog_5_method_4_code
def yX3_work : MethodName := ⟨RX3, "work", "(I)V"⟩
abbrev cX3_giveSource : ByteArray := prog_5_method_5_code
def yX3_giveSource : MethodName := ⟨RX3, "giveSource", "(I)V"⟩
abbrev cX3_giveFiltered : ByteArray := prog_5_method_6_code
def yX3_giveFiltered : MethodName := ⟨RX3, "giveFiltered", "(II)V"⟩
abbrev cX3_giveSet : ByteArray := prog_5_method_7_code
def yX3_giveSet : MethodName := ⟨RX3, "giveSet", "(III)V"⟩
abbrev cX3_giveKept : ByteArray := prog_5_method_8_code
def yX3_giveKept : MethodName := ⟨RX3, "giveKept", "(II)V"⟩
abbrev cX3_giveJoined : ByteArray := prog_5_method_9_code
def yX3_giveJoined : MethodName := ⟨RX3, "giveJoined", "(IIII)V"⟩
abbrev cX3_giveFolded : ByteArray := prog_5_method_10_code
def yX3_giveFolded : MethodName := ⟨RX3, "giveFolded", "(III)V"⟩
abbrev cX3_giveOnce : ByteArray := prog_5_method_11_code
def yX3_giveOnce : MethodName := ⟨RX3, "giveOnce", "(I)V"⟩
abbrev cX3_giveFirst : ByteArray := prog_5_method_12_code
def yX3_giveFirst : MethodName := ⟨RX3, "giveFirst", "(II)V"⟩
abbrev cX3_findMember : ByteArray := prog_5_method_13_code
def yX3_findMember : MethodName := ⟨RX3, "findMember", "(III)I"⟩
abbrev cX3_hasLike : ByteArray := prog_5_method_14_code
def yX3_hasLike : MethodName := ⟨RX3, "hasLike", "(II)Z"⟩
abbrev cX3_isLike : ByteArray := prog_5_method_15_code
def yX3_isLike : MethodName := ⟨RX3, "isLike", "(II)Z"⟩
abbrev cX3_copyMembers : ByteArray := prog_5_method_16_code
def yX3_copyMembers : MethodName := ⟨RX3, "copyMembers", "(III)V"⟩
abbrev cX3_addCopy : ByteArray := prog_5_method_17_code
def yX3_addCopy : MethodName := ⟨RX3, "addCopy", "(I)I"⟩
abbrev cX3_addEmpty : ByteArray := prog_5_method_18_code
def yX3_addEmpty : MethodName := ⟨RX3, "addEmpty", "()I"⟩
abbrev cX3_valueOf : ByteArray := prog_5_method_19_code
def yX3_valueOf : MethodName := ⟨RX3, "valueOf", "(II)I"⟩
abbrev cX3_valueOfParts : ByteArray := prog_5_method_20_code
def yX3_valueOfParts : MethodName := ⟨RX3, "valueOfParts", "(IIII)I"⟩
abbrev cX3_valueOfPair : ByteArray := prog_5_method_21_code
def yX3_valueOfPair : MethodName := ⟨RX3, "valueOfPair", "(III)I"⟩
abbrev cX3_itemAt : ByteArray := prog_5_method_22_code
def yX3_itemAt : MethodName := ⟨RX3, "itemAt", "(I)I"⟩
def RX4 : String := "PlanRules$Sources"
def TX4 : u_T := fun k => match k with
  | 0 => ("PlanRules$Sources", "cells", "[I", true)
  | 1 => ("PlanRules$Sources", "sizes", "[I", true)
  | _ => ("PlanRules$Sources", "items", "[I", true)
def tyX4 : Nat → FieldType := fun k => match k with
  | 0 => .array .int
  | 1 => .array .int
  | _ => .array .int
abbrev wsX40 : List Cond := u_ws RX4 TX4 3
theorem nmX4 : ∀ a, a < 3 → ∀ b, b < 3 → a ≠ b → (TX4 a).2.1 ≠ (TX4 b).2.1 := by decide +kernel
theorem tyX4_ok : ∀ k, k < 3 → parseFieldDescriptor (TX4 k).2.2.1 = some (tyX4 k) := by decide +kernel
abbrev cX4_init : ByteArray := prog_6_method_1_code
def yX4_init : MethodName := ⟨RX4, "<init>", "()V"⟩
abbrev cX4_has : ByteArray := prog_6_method_2_code
def yX4_has : MethodName := ⟨RX4, "has", "(I)Z"⟩
abbrev cX4_hasItem : ByteArray := prog_6_method_3_code
def yX4_hasItem : MethodName := ⟨RX4, "hasItem", "(I)Z"⟩
abbrev cX4_add : ByteArray := prog_6_method_4_code
def yX4_add : MethodName := ⟨RX4, "add", "(IIII)I"⟩
abbrev cX4_empty : ByteArray := prog_6_method_5_code
def yX4_empty : MethodName := ⟨RX4, "empty", "(I)I"⟩
abbrev cX4_total : ByteArray := prog_6_method_6_code
def yX4_total : MethodName := ⟨RX4, "total", "()I"⟩
abbrev cX4_cellOf : ByteArray := prog_6_method_7_code
def yX4_cellOf : MethodName := ⟨RX4, "cellOf", "(II)I"⟩
def RX5 : String := "PlanRules"
def TX5 : u_T := fun k => match k with
  | 0 => ("PlanRules", "sources", "LPlanRules$Sources;", true)
  | 1 => ("PlanRules", "formulas", "LPlanRules$Formulas;", true)
  | 2 => ("PlanRules", "nodes", "LPlanRules$Nodes;", true)
  | 3 => ("PlanRules", "runner", "LPlanRules$Runner;", true)
  | _ => ("PlanRules", "rules", "LPlanRules$Rules;", true)
def tyX5 : Nat → FieldType := fun k => match k with
  | 0 => .object "PlanRules$Sources"
  | 1 => .object "PlanRules$Formulas"
  | 2 => .object "PlanRules$Nodes"
  | 3 => .object "PlanRules$Runner"
  | _ => .object "PlanRules$Rules"
abbrev wsX50 : List Cond := u_ws RX5 TX5 5
theorem nmX5 : ∀ a, a < 5 → ∀ b, b < 5 → a ≠ b → (TX5 a).2.1 ≠ (TX5 b).2.1 := by decide +kernel
theorem tyX5_ok : ∀ k, k < 5 → parseFieldDescriptor (TX5 k).2.2.1 = some (tyX5 k) := by decide +kernel
abbrev cX5_init : ByteArray := prog_1_method_1_code
def yX5_init : MethodName := ⟨RX5, "<init>", "()V"⟩
abbrev cX5_row : ByteArray := prog_1_method_2_code
def yX5_row : MethodName := ⟨RX5, "row", "(IIII)I"⟩
abbrev cX5_clear : ByteArray := prog_1_method_3_code
def yX5_clear : MethodName := ⟨RX5, "clear", "(I)I"⟩
abbrev cX5_table : ByteArray := prog_1_method_4_code
def yX5_table : MethodName := ⟨RX5, "table", "(II)I"⟩
abbrev cX5_formula : ByteArray := prog_1_method_5_code
def yX5_formula : MethodName := ⟨RX5, "formula", "(III)I"⟩
abbrev cX5_formulaOf : ByteArray := prog_1_method_6_code
def yX5_formulaOf : MethodName := ⟨RX5, "formulaOf", "(II)I"⟩
abbrev cX5_node : ByteArray := prog_1_method_7_code
def yX5_node : MethodName := ⟨RX5, "node", "(IIIII)I"⟩
abbrev cX5_told : ByteArray := prog_1_method_8_code
def yX5_told : MethodName := ⟨RX5, "told", "(II)I"⟩
abbrev cX5_run : ByteArray := prog_1_method_9_code
def yX5_run : MethodName := ⟨RX5, "run", "(I)I"⟩
abbrev cX5_member : ByteArray := prog_1_method_10_code
def yX5_member : MethodName := ⟨RX5, "member", "(II)I"⟩
abbrev cX5_worked : ByteArray := prog_1_method_11_code
def yX5_worked : MethodName := ⟨RX5, "worked", "(I)I"⟩
abbrev cX5_fits : ByteArray := prog_1_method_12_code
def yX5_fits : MethodName := ⟨RX5, "fits", "(II)I"⟩
abbrev cX5_rewrite : ByteArray := prog_1_method_13_code
def yX5_rewrite : MethodName := ⟨RX5, "rewrite", "(II)I"⟩
abbrev cX5_sweep : ByteArray := prog_1_method_14_code
def yX5_sweep : MethodName := ⟨RX5, "sweep", "(II)I"⟩
abbrev cX5_count : ByteArray := prog_1_method_15_code
def yX5_count : MethodName := ⟨RX5, "count", "(I)I"⟩
abbrev cX5_isMember : ByteArray := prog_1_method_16_code
def yX5_isMember : MethodName := ⟨RX5, "isMember", "(I)Z"⟩
abbrev cX5_isSet : ByteArray := prog_1_method_17_code
def yX5_isSet : MethodName := ⟨RX5, "isSet", "(I)Z"⟩
abbrev cX5_isIn : ByteArray := prog_1_method_18_code
def yX5_isIn : MethodName := ⟨RX5, "isIn", "(II)Z"⟩
abbrev cX5_isWithin : ByteArray := prog_1_method_19_code
def yX5_isWithin : MethodName := ⟨RX5, "isWithin", "(II)Z"⟩
abbrev cX5_asNumber : ByteArray := prog_1_method_20_code
def yX5_asNumber : MethodName := ⟨RX5, "asNumber", "(Z)I"⟩
def RX6 : String := "PlanRulesModel"
def TX6 : u_T := fun k => match k with
  | 0 => ("PlanRulesModel", "many", "[I", true)
  | 1 => ("PlanRulesModel", "given", "[I", true)
  | 2 => ("PlanRulesModel", "table", "[I", true)
  | 3 => ("PlanRulesModel", "formulas", "I", false)
  | 4 => ("PlanRulesModel", "fKind", "[I", true)
  | 5 => ("PlanRulesModel", "fa", "[I", true)
  | 6 => ("PlanRulesModel", "fb", "[I", true)
  | 7 => ("PlanRulesModel", "reads", "[I", true)
  | 8 => ("PlanRulesModel", "mayFail", "[Z", true)
  | 9 => ("PlanRulesModel", "size", "[I", true)
  | 10 => ("PlanRulesModel", "nodes", "I", false)
  | 11 => ("PlanRulesModel", "kind", "[I", true)
  | 12 => ("PlanRulesModel", "na", "[I", true)
  | 13 => ("PlanRulesModel", "nb", "[I", true)
  | 14 => ("PlanRulesModel", "nm", "[I", true)
  | 15 => ("PlanRulesModel", "nv", "[I", true)
  | 16 => ("PlanRulesModel", "rewritten", "I", false)
  | 17 => ("PlanRulesModel", "bounds", "[I", true)
  | 18 => ("PlanRulesModel", "fails", "[Z", true)
  | 19 => ("PlanRulesModel", "under", "[I", true)
  | 20 => ("PlanRulesModel", "phase", "[I", true)
  | 21 => ("PlanRulesModel", "high", "I", false)
  | 22 => ("PlanRulesModel", "value", "I", false)
  | 23 => ("PlanRulesModel", "failure", "I", false)
  | 24 => ("PlanRulesModel", "workedFormulas", "I", false)
  | 25 => ("PlanRulesModel", "left", "[I", true)
  | 26 => ("PlanRulesModel", "cells", "[I", true)
  | 27 => ("PlanRulesModel", "rows", "[I", true)
  | 28 => ("PlanRulesModel", "isDone", "[Z", true)
  | 29 => ("PlanRulesModel", "waiting", "[I", true)
  | 30 => ("PlanRulesModel", "last", "[I", true)
  | 31 => ("PlanRulesModel", "lastRows", "I", false)
  | 32 => ("PlanRulesModel", "lastFailure", "I", false)
  | 33 => ("PlanRulesModel", "lastFormulas", "I", false)
  | 34 => ("PlanRulesModel", "lastNodes", "I", false)
  | _ => ("PlanRulesModel", "lastWrong", "I", false)
def tyX6 : Nat → FieldType := fun k => match k with
  | 0 => .array .int
  | 1 => .array .int
  | 2 => .array .int
  | 3 => .int
  | 4 => .array .int
  | 5 => .array .int
  | 6 => .array .int
  | 7 => .array .int
  | 8 => .array .boolean
  | 9 => .array .int
  | 10 => .int
  | 11 => .array .int
  | 12 => .array .int
  | 13 => .array .int
  | 14 => .array .int
  | 15 => .array .int
  | 16 => .int
  | 17 => .array .int
  | 18 => .array .boolean
  | 19 => .array .int
  | 20 => .array .int
  | 21 => .int
  | 22 => .int
  | 23 => .int
  | 24 => .int
  | 25 => .array .int
  | 26 => .array .int
  | 27 => .array .int
  | 28 => .array .boolean
  | 29 => .array .int
  | 30 => .array .int
  | 31 => .int
  | 32 => .int
  | 33 => .int
  | 34 => .int
  | _ => .int
abbrev wsX60 : List Cond := u_ws RX6 TX6 36
theorem nmX6 : ∀ a, a < 36 → ∀ b, b < 36 → a ≠ b → (TX6 a).2.1 ≠ (TX6 b).2.1 := by decide +kernel
theorem tyX6_ok : ∀ k, k < 36 → parseFieldDescriptor (TX6 k).2.2.1 = some (tyX6 k) := by decide +kernel
abbrev cX6_init : ByteArray := prog_8_method_1_code
def yX6_init : MethodName := ⟨RX6, "<init>", "()V"⟩
abbrev cX6_in : ByteArray := prog_8_method_2_code
def yX6_in : MethodName := ⟨RX6, "in", "(JJJ)Z"⟩
abbrev cX6_row : ByteArray := prog_8_method_3_code
def yX6_row : MethodName := ⟨RX6, "row", "(IIII)I"⟩
abbrev cX6_clear : ByteArray := prog_8_method_4_code
def yX6_clear : MethodName := ⟨RX6, "clear", "(I)I"⟩
abbrev cX6_table : ByteArray := prog_8_method_5_code
def yX6_table : MethodName := ⟨RX6, "table", "(II)I"⟩
abbrev cX6_isFormula : ByteArray := prog_8_method_6_code
def yX6_isFormula : MethodName := ⟨RX6, "isFormula", "(I)Z"⟩
abbrev cX6_hasTwo : ByteArray := prog_8_method_7_code
def yX6_hasTwo : MethodName := ⟨RX6, "hasTwo", "(I)Z"⟩
abbrev cX6_hasOne : ByteArray := prog_8_method_8_code
def yX6_hasOne : MethodName := ⟨RX6, "hasOne", "(I)Z"⟩
abbrev cX6_sizeOf : ByteArray := prog_8_method_9_code
def yX6_sizeOf : MethodName := ⟨RX6, "sizeOf", "(III)I"⟩
abbrev cX6_tell : ByteArray := prog_8_method_10_code
def yX6_tell : MethodName := ⟨RX6, "tell", "(III)I"⟩
abbrev cX6_formula : ByteArray := prog_8_method_11_code
def yX6_formula : MethodName := ⟨RX6, "formula", "(III)I"⟩
abbrev cX6_formulaOf : ByteArray := prog_8_method_12_code
def yX6_formulaOf : MethodName := ⟨RX6, "formulaOf", "(II)I"⟩
abbrev cX6_isNode : ByteArray := prog_8_method_13_code
def yX6_isNode : MethodName := ⟨RX6, "isNode", "(I)Z"⟩
abbrev cX6_isTwo : ByteArray := prog_8_method_14_code
def yX6_isTwo : MethodName := ⟨RX6, "isTwo", "(I)Z"⟩
abbrev cX6_hasMember : ByteArray := prog_8_method_15_code
def yX6_hasMember : MethodName := ⟨RX6, "hasMember", "(I)Z"⟩
abbrev cX6_hasNumber : ByteArray := prog_8_method_16_code
def yX6_hasNumber : MethodName := ⟨RX6, "hasNumber", "(I)Z"⟩
abbrev cX6_isRight : ByteArray := prog_8_method_17_code
def yX6_isRight : MethodName := ⟨RX6, "isRight", "(III)Z"⟩
abbrev cX6_bound : ByteArray := prog_8_method_18_code
def yX6_bound : MethodName := ⟨RX6, "bound", "(I)I"⟩
abbrev cX6_look : ByteArray := prog_8_method_19_code
def yX6_look : MethodName := ⟨RX6, "look", "()V"⟩
abbrev cX6_lay : ByteArray := prog_8_method_20_code
def yX6_lay : MethodName := ⟨RX6, "lay", "(IIIII)I"⟩
abbrev cX6_put : ByteArray := prog_8_method_21_code
def yX6_put : MethodName := ⟨RX6, "put", "(IIIIII)V"⟩
abbrev cX6_node : ByteArray := prog_8_method_22_code
def yX6_node : MethodName := ⟨RX6, "node", "(IIIII)I"⟩
abbrev cX6_told : ByteArray := prog_8_method_23_code
def yX6_told : MethodName := ⟨RX6, "told", "(II)I"⟩
abbrev cX6_begins : ByteArray := prog_8_method_24_code
def yX6_begins : MethodName := ⟨RX6, "begins", "(I)V"⟩
abbrev cX6_asks : ByteArray := prog_8_method_25_code
def yX6_asks : MethodName := ⟨RX6, "asks", "(I)V"⟩
abbrev cX6_gives : ByteArray := prog_8_method_26_code
def yX6_gives : MethodName := ⟨RX6, "gives", "(I)V"⟩
abbrev cX6_goesOn : ByteArray := prog_8_method_27_code
def yX6_goesOn : MethodName := ⟨RX6, "goesOn", "(I)V"⟩
abbrev cX6_single : ByteArray := prog_8_method_28_code
def yX6_single : MethodName := ⟨RX6, "single", "(I)V"⟩
abbrev cX6_both : ByteArray := prog_8_method_29_code
def yX6_both : MethodName := ⟨RX6, "both", "(III)V"⟩
abbrev cX6_work : ByteArray := prog_8_method_30_code
def yX6_work : MethodName := ⟨RX6, "work", "(II)V"⟩
abbrev cX6_place : ByteArray := prog_8_method_31_code
def yX6_place : MethodName := ⟨RX6, "place", "(II)I"⟩
abbrev cX6_copy : ByteArray := prog_8_method_32_code
def yX6_copy : MethodName := ⟨RX6, "copy", "(II)I"⟩
abbrev cX6_add : ByteArray := prog_8_method_33_code
def yX6_add : MethodName := ⟨RX6, "add", "(II)V"⟩
abbrev cX6_does : ByteArray := prog_8_method_34_code
def yX6_does : MethodName := ⟨RX6, "does", "(I)V"⟩
abbrev cX6_takes : ByteArray := prog_8_method_35_code
def yX6_takes : MethodName := ⟨RX6, "takes", "(III)V"⟩
abbrev cX6_joins : ByteArray := prog_8_method_36_code
def yX6_joins : MethodName := ⟨RX6, "joins", "(II)V"⟩
abbrev cX6_folds : ByteArray := prog_8_method_37_code
def yX6_folds : MethodName := ⟨RX6, "folds", "(II)V"⟩
abbrev cX6_has : ByteArray := prog_8_method_38_code
def yX6_has : MethodName := ⟨RX6, "has", "(II)Z"⟩
abbrev cX6_run : ByteArray := prog_8_method_39_code
def yX6_run : MethodName := ⟨RX6, "run", "(I)I"⟩
abbrev cX6_member : ByteArray := prog_8_method_40_code
def yX6_member : MethodName := ⟨RX6, "member", "(II)I"⟩
abbrev cX6_worked : ByteArray := prog_8_method_41_code
def yX6_worked : MethodName := ⟨RX6, "worked", "(I)I"⟩
abbrev cX6_isOf : ByteArray := prog_8_method_42_code
def yX6_isOf : MethodName := ⟨RX6, "isOf", "(II)Z"⟩
abbrev cX6_isFold : ByteArray := prog_8_method_43_code
def yX6_isFold : MethodName := ⟨RX6, "isFold", "(III)Z"⟩
abbrev cX6_stands : ByteArray := prog_8_method_44_code
def yX6_stands : MethodName := ⟨RX6, "stands", "(II)Z"⟩
abbrev cX6_fits : ByteArray := prog_8_method_45_code
def yX6_fits : MethodName := ⟨RX6, "fits", "(II)I"⟩
abbrev cX6_news : ByteArray := prog_8_method_46_code
def yX6_news : MethodName := ⟨RX6, "news", "(I)I"⟩
abbrev cX6_hasRoom : ByteArray := prog_8_method_47_code
def yX6_hasRoom : MethodName := ⟨RX6, "hasRoom", "(II)Z"⟩
abbrev cX6_rewrites : ByteArray := prog_8_method_48_code
def yX6_rewrites : MethodName := ⟨RX6, "rewrites", "(II)V"⟩
abbrev cX6_rewrite : ByteArray := prog_8_method_49_code
def yX6_rewrite : MethodName := ⟨RX6, "rewrite", "(II)I"⟩
abbrev cX6_below : ByteArray := prog_8_method_50_code
def yX6_below : MethodName := ⟨RX6, "below", "(I)J"⟩
abbrev cX6_ruleFor : ByteArray := prog_8_method_51_code
def yX6_ruleFor : MethodName := ⟨RX6, "ruleFor", "(I)I"⟩
abbrev cX6_sweep : ByteArray := prog_8_method_52_code
def yX6_sweep : MethodName := ⟨RX6, "sweep", "(II)I"⟩
abbrev cX6_count : ByteArray := prog_8_method_53_code
def yX6_count : MethodName := ⟨RX6, "count", "(I)I"⟩
def RJx8e188 : String := "java/lang/Cloneable"
def RJ9 : String := "java/lang/Math"
def yJ9_min_7cf53 : MethodName := ⟨RJ9, "min", "(II)I"⟩
def RJ10 : String := "java/lang/System"
def RJ7 : String := "java/util/Arrays"
abbrev cJ7_fill_53178 : ByteArray := prog_12_method_103_code
def yJ7_fill_53178 : MethodName := ⟨RJ7, "fill", "([II)V"⟩
abbrev cJ7_copyOf_59c91 : ByteArray := prog_12_method_123_code
def yJ7_copyOf_59c91 : MethodName := ⟨RJ7, "copyOf", "([II)[I"⟩
def RL : String := "PlanRulesLaw"
abbrev cL_law : ByteArray := code
def yL_law : MethodName := ⟨RL, "law", "([I)Z"⟩
abbrev vwCl : List vw_C := [(RX0, TX0, 7), (RX1, TX1, 12), (RX2, TX2, 3), (RX3, TX3, 13), (RX4, TX4, 3), (RX5, TX5, 5), (RX6, TX6, 36)]
/-- the tables' words that a warmed state keeps: the words of every contract here -/
def TB : List Cond := lw_tbl.filter goodWord
theorem TB_good : GoodIn TB TB := fun w h => ⟨h, good_of_word (List.mem_filter.mp h).2⟩
theorem TB_mem {w : Cond} (k : Nat) (h : lw_tbl[k]? = some w) (hg : goodWord w = true) : w ∈ TB := List.mem_filter.mpr ⟨List.mem_of_getElem? h, hg⟩
