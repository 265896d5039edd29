section
-- ===== PART A: goes FIRST, ahead of the names: the tables' words, and 'selects' of the private methods out of them =====
/-- a private method of a class that the tables say can be made, by its rows of tables_1 -/
def lw_okq (q : MethodName × Nat) : Prop := (q.1.cls ≠ "java/lang/invoke/MethodHandle" ∧ q.1.cls ≠ "java/lang/invoke/VarHandle") ∧ Cond.instantiable q.1.cls q.2 ∈ tables_1 ∧ Cond.privateMethod q.1 ∈ tables_1 ∧ Cond.instanceMethod q.1 ∈ tables_1
theorem lw_p0 : lw_okq (⟨"FormationPlanner", "beginChange", "()V"⟩, 6) := ⟨⟨by decide +kernel, by decide +kernel⟩, List.mem_of_getElem? (i := 17) (by decide +kernel), List.mem_of_getElem? (i := 319) (by decide +kernel), List.mem_of_getElem? (i := 320) (by decide +kernel)⟩
theorem lw_p1 : lw_okq (⟨"FormationPlanner", "addPlace", "(LFormationPlanner$Places;I)I"⟩, 6) := ⟨⟨by decide +kernel, by decide +kernel⟩, List.mem_of_getElem? (i := 17) (by decide +kernel), List.mem_of_getElem? (i := 364) (by decide +kernel), List.mem_of_getElem? (i := 365) (by decide +kernel)⟩
theorem lw_p2 : lw_okq (⟨"FormationPlanner$Formation", "readPositions", "()I"⟩, 5) := ⟨⟨by decide +kernel, by decide +kernel⟩, List.mem_of_getElem? (i := 96) (by decide +kernel), List.mem_of_getElem? (i := 413) (by decide +kernel), List.mem_of_getElem? (i := 414) (by decide +kernel)⟩
theorem lw_p3 : lw_okq (⟨"FormationPlanner$Formation", "readPosition", "()Z"⟩, 5) := ⟨⟨by decide +kernel, by decide +kernel⟩, List.mem_of_getElem? (i := 96) (by decide +kernel), List.mem_of_getElem? (i := 417) (by decide +kernel), List.mem_of_getElem? (i := 418) (by decide +kernel)⟩
theorem lw_p4 : lw_okq (⟨"FormationPlanner$Formation", "signHere", "()I"⟩, 5) := ⟨⟨by decide +kernel, by decide +kernel⟩, List.mem_of_getElem? (i := 96) (by decide +kernel), List.mem_of_getElem? (i := 421) (by decide +kernel), List.mem_of_getElem? (i := 422) (by decide +kernel)⟩
theorem lw_p5 : lw_okq (⟨"FormationPlanner$Formation", "note", "(I)V"⟩, 5) := ⟨⟨by decide +kernel, by decide +kernel⟩, List.mem_of_getElem? (i := 96) (by decide +kernel), List.mem_of_getElem? (i := 425) (by decide +kernel), List.mem_of_getElem? (i := 426) (by decide +kernel)⟩
theorem lw_p6 : lw_okq (⟨"FormationPlanner", "hasObstacle", "(LFormationPlanner$Places;)Z"⟩, 6) := ⟨⟨by decide +kernel, by decide +kernel⟩, List.mem_of_getElem? (i := 17) (by decide +kernel), List.mem_of_getElem? (i := 431) (by decide +kernel), List.mem_of_getElem? (i := 432) (by decide +kernel)⟩
theorem lw_p7 : lw_okq (⟨"FormationPlanner$TimesTo", "spreadBack", "(II)I"⟩, 2) := ⟨⟨by decide +kernel, by decide +kernel⟩, List.mem_of_getElem? (i := 152) (by decide +kernel), List.mem_of_getElem? (i := 457) (by decide +kernel), List.mem_of_getElem? (i := 458) (by decide +kernel)⟩
theorem lw_p8 : lw_okq (⟨"FormationPlanner$Assigner", "weigh", "()V"⟩, 9) := ⟨⟨by decide +kernel, by decide +kernel⟩, List.mem_of_getElem? (i := 165) (by decide +kernel), List.mem_of_getElem? (i := 492) (by decide +kernel), List.mem_of_getElem? (i := 493) (by decide +kernel)⟩
theorem lw_p9 : lw_okq (⟨"FormationPlanner$Assigner", "time", "(II)I"⟩, 9) := ⟨⟨by decide +kernel, by decide +kernel⟩, List.mem_of_getElem? (i := 165) (by decide +kernel), List.mem_of_getElem? (i := 496) (by decide +kernel), List.mem_of_getElem? (i := 497) (by decide +kernel)⟩
theorem lw_p10 : lw_okq (⟨"FormationPlanner$Assigner", "take", "(II)V"⟩, 9) := ⟨⟨by decide +kernel, by decide +kernel⟩, List.mem_of_getElem? (i := 165) (by decide +kernel), List.mem_of_getElem? (i := 502) (by decide +kernel), List.mem_of_getElem? (i := 503) (by decide +kernel)⟩
theorem lw_p11 : lw_okq (⟨"FormationPlanner$Assigner", "nextTrial", "()Z"⟩, 9) := ⟨⟨by decide +kernel, by decide +kernel⟩, List.mem_of_getElem? (i := 165) (by decide +kernel), List.mem_of_getElem? (i := 507) (by decide +kernel), List.mem_of_getElem? (i := 508) (by decide +kernel)⟩
theorem lw_p12 : lw_okq (⟨"FormationPlanner$Assigner", "swap", "(II)V"⟩, 9) := ⟨⟨by decide +kernel, by decide +kernel⟩, List.mem_of_getElem? (i := 165) (by decide +kernel), List.mem_of_getElem? (i := 511) (by decide +kernel), List.mem_of_getElem? (i := 512) (by decide +kernel)⟩
theorem lw_p13 : lw_okq (⟨"FormationPlanner$Plan", "takeOrder", "(LFormationPlanner$Assigner;)V"⟩, 11) := ⟨⟨by decide +kernel, by decide +kernel⟩, List.mem_of_getElem? (i := 207) (by decide +kernel), List.mem_of_getElem? (i := 533) (by decide +kernel), List.mem_of_getElem? (i := 534) (by decide +kernel)⟩
theorem lw_p14 : lw_okq (⟨"FormationPlanner$Plan", "flightOf", "(I)LFormationPlanner$Flight;"⟩, 11) := ⟨⟨by decide +kernel, by decide +kernel⟩, List.mem_of_getElem? (i := 207) (by decide +kernel), List.mem_of_getElem? (i := 542) (by decide +kernel), List.mem_of_getElem? (i := 543) (by decide +kernel)⟩
theorem lw_p15 : lw_okq (⟨"FormationPlanner$Plan", "goalOf", "(I)I"⟩, 11) := ⟨⟨by decide +kernel, by decide +kernel⟩, List.mem_of_getElem? (i := 207) (by decide +kernel), List.mem_of_getElem? (i := 554) (by decide +kernel), List.mem_of_getElem? (i := 555) (by decide +kernel)⟩
def lw_privs_1 : List (MethodName × Nat) := [(⟨"FormationPlanner", "beginChange", "()V"⟩, 6), (⟨"FormationPlanner", "addPlace", "(LFormationPlanner$Places;I)I"⟩, 6), (⟨"FormationPlanner$Formation", "readPositions", "()I"⟩, 5), (⟨"FormationPlanner$Formation", "readPosition", "()Z"⟩, 5), (⟨"FormationPlanner$Formation", "signHere", "()I"⟩, 5), (⟨"FormationPlanner$Formation", "note", "(I)V"⟩, 5), (⟨"FormationPlanner", "hasObstacle", "(LFormationPlanner$Places;)Z"⟩, 6), (⟨"FormationPlanner$TimesTo", "spreadBack", "(II)I"⟩, 2), (⟨"FormationPlanner$Assigner", "weigh", "()V"⟩, 9), (⟨"FormationPlanner$Assigner", "time", "(II)I"⟩, 9), (⟨"FormationPlanner$Assigner", "take", "(II)V"⟩, 9), (⟨"FormationPlanner$Assigner", "nextTrial", "()Z"⟩, 9), (⟨"FormationPlanner$Assigner", "swap", "(II)V"⟩, 9), (⟨"FormationPlanner$Plan", "takeOrder", "(LFormationPlanner$Assigner;)V"⟩, 11), (⟨"FormationPlanner$Plan", "flightOf", "(I)LFormationPlanner$Flight;"⟩, 11), (⟨"FormationPlanner$Plan", "goalOf", "(I)I"⟩, 11)]
theorem lw_r1 : ∀ q ∈ lw_privs_1, lw_okq q := List.forall_mem_cons.mpr ⟨lw_p0, List.forall_mem_cons.mpr ⟨lw_p1, List.forall_mem_cons.mpr ⟨lw_p2, List.forall_mem_cons.mpr ⟨lw_p3, List.forall_mem_cons.mpr ⟨lw_p4, List.forall_mem_cons.mpr ⟨lw_p5, List.forall_mem_cons.mpr ⟨lw_p6, List.forall_mem_cons.mpr ⟨lw_p7, List.forall_mem_cons.mpr ⟨lw_p8, List.forall_mem_cons.mpr ⟨lw_p9, List.forall_mem_cons.mpr ⟨lw_p10, List.forall_mem_cons.mpr ⟨lw_p11, List.forall_mem_cons.mpr ⟨lw_p12, List.forall_mem_cons.mpr ⟨lw_p13, List.forall_mem_cons.mpr ⟨lw_p14, List.forall_mem_cons.mpr ⟨lw_p15, fun _ h => absurd h List.not_mem_nil⟩⟩⟩⟩⟩⟩⟩⟩⟩⟩⟩⟩⟩⟩⟩⟩
theorem lw_p16 : lw_okq (⟨"FormationPlanner$Router", "mark", "(II)V"⟩, 3) := ⟨⟨by decide +kernel, by decide +kernel⟩, List.mem_of_getElem? (i := 217) (by decide +kernel), List.mem_of_getElem? (i := 566) (by decide +kernel), List.mem_of_getElem? (i := 567) (by decide +kernel)⟩
theorem lw_p17 : lw_okq (⟨"FormationPlanner$Router", "freeFrom", "(I)I"⟩, 3) := ⟨⟨by decide +kernel, by decide +kernel⟩, List.mem_of_getElem? (i := 217) (by decide +kernel), List.mem_of_getElem? (i := 570) (by decide +kernel), List.mem_of_getElem? (i := 571) (by decide +kernel)⟩
theorem lw_p18 : lw_okq (⟨"FormationPlanner$Router", "isUsable", "(I)Z"⟩, 3) := ⟨⟨by decide +kernel, by decide +kernel⟩, List.mem_of_getElem? (i := 217) (by decide +kernel), List.mem_of_getElem? (i := 574) (by decide +kernel), List.mem_of_getElem? (i := 575) (by decide +kernel)⟩
theorem lw_p19 : lw_okq (⟨"FormationPlanner$Router", "spread", "(II)V"⟩, 3) := ⟨⟨by decide +kernel, by decide +kernel⟩, List.mem_of_getElem? (i := 217) (by decide +kernel), List.mem_of_getElem? (i := 578) (by decide +kernel), List.mem_of_getElem? (i := 579) (by decide +kernel)⟩
theorem lw_p20 : lw_okq (⟨"FormationPlanner$Router", "landing", "(III)I"⟩, 3) := ⟨⟨by decide +kernel, by decide +kernel⟩, List.mem_of_getElem? (i := 217) (by decide +kernel), List.mem_of_getElem? (i := 582) (by decide +kernel), List.mem_of_getElem? (i := 583) (by decide +kernel)⟩
theorem lw_p21 : lw_okq (⟨"FormationPlanner$Router", "canStep", "(III)Z"⟩, 3) := ⟨⟨by decide +kernel, by decide +kernel⟩, List.mem_of_getElem? (i := 217) (by decide +kernel), List.mem_of_getElem? (i := 588) (by decide +kernel), List.mem_of_getElem? (i := 589) (by decide +kernel)⟩
theorem lw_p22 : lw_okq (⟨"FormationPlanner$Router", "leastAction", "(II)I"⟩, 3) := ⟨⟨by decide +kernel, by decide +kernel⟩, List.mem_of_getElem? (i := 217) (by decide +kernel), List.mem_of_getElem? (i := 596) (by decide +kernel), List.mem_of_getElem? (i := 597) (by decide +kernel)⟩
theorem lw_p23 : lw_okq (⟨"FormationPlanner", "planError", "(IZ)I"⟩, 6) := ⟨⟨by decide +kernel, by decide +kernel⟩, List.mem_of_getElem? (i := 17) (by decide +kernel), List.mem_of_getElem? (i := 631) (by decide +kernel), List.mem_of_getElem? (i := 632) (by decide +kernel)⟩
theorem lw_p24 : lw_okq (⟨"FormationPlanner$Plan", "isMet", "(LFormationPlanner$Flight;III)Z"⟩, 11) := ⟨⟨by decide +kernel, by decide +kernel⟩, List.mem_of_getElem? (i := 207) (by decide +kernel), List.mem_of_getElem? (i := 691) (by decide +kernel), List.mem_of_getElem? (i := 692) (by decide +kernel)⟩
theorem lw_p25 : lw_okq (⟨"FormationPlanner$Plan", "layWay", "(I)V"⟩, 11) := ⟨⟨by decide +kernel, by decide +kernel⟩, List.mem_of_getElem? (i := 207) (by decide +kernel), List.mem_of_getElem? (i := 705) (by decide +kernel), List.mem_of_getElem? (i := 706) (by decide +kernel)⟩
theorem lw_p26 : lw_okq (⟨"FormationPlannerModel", "discards", "()V"⟩, 30) := ⟨⟨by decide +kernel, by decide +kernel⟩, List.mem_of_getElem? (i := 764) (by decide +kernel), List.mem_of_getElem? (i := 866) (by decide +kernel), List.mem_of_getElem? (i := 867) (by decide +kernel)⟩
theorem lw_p27 : lw_okq (⟨"FormationPlannerModel", "changes", "()V"⟩, 30) := ⟨⟨by decide +kernel, by decide +kernel⟩, List.mem_of_getElem? (i := 764) (by decide +kernel), List.mem_of_getElem? (i := 877) (by decide +kernel), List.mem_of_getElem? (i := 878) (by decide +kernel)⟩
theorem lw_p28 : lw_okq (⟨"FormationPlannerModel", "keeps", "()V"⟩, 30) := ⟨⟨by decide +kernel, by decide +kernel⟩, List.mem_of_getElem? (i := 764) (by decide +kernel), List.mem_of_getElem? (i := 881) (by decide +kernel), List.mem_of_getElem? (i := 882) (by decide +kernel)⟩
theorem lw_p29 : lw_okq (⟨"FormationPlannerModel", "droneAt", "(I)I"⟩, 30) := ⟨⟨by decide +kernel, by decide +kernel⟩, List.mem_of_getElem? (i := 764) (by decide +kernel), List.mem_of_getElem? (i := 892) (by decide +kernel), List.mem_of_getElem? (i := 893) (by decide +kernel)⟩
theorem lw_p30 : lw_okq (⟨"FormationPlannerModel", "slotAt", "(I)I"⟩, 30) := ⟨⟨by decide +kernel, by decide +kernel⟩, List.mem_of_getElem? (i := 764) (by decide +kernel), List.mem_of_getElem? (i := 896) (by decide +kernel), List.mem_of_getElem? (i := 897) (by decide +kernel)⟩
theorem lw_p31 : lw_okq (⟨"FormationPlannerModel", "isObstacle", "(I)Z"⟩, 30) := ⟨⟨by decide +kernel, by decide +kernel⟩, List.mem_of_getElem? (i := 764) (by decide +kernel), List.mem_of_getElem? (i := 904) (by decide +kernel), List.mem_of_getElem? (i := 905) (by decide +kernel)⟩
def lw_privs_2 : List (MethodName × Nat) := [(⟨"FormationPlanner$Router", "mark", "(II)V"⟩, 3), (⟨"FormationPlanner$Router", "freeFrom", "(I)I"⟩, 3), (⟨"FormationPlanner$Router", "isUsable", "(I)Z"⟩, 3), (⟨"FormationPlanner$Router", "spread", "(II)V"⟩, 3), (⟨"FormationPlanner$Router", "landing", "(III)I"⟩, 3), (⟨"FormationPlanner$Router", "canStep", "(III)Z"⟩, 3), (⟨"FormationPlanner$Router", "leastAction", "(II)I"⟩, 3), (⟨"FormationPlanner", "planError", "(IZ)I"⟩, 6), (⟨"FormationPlanner$Plan", "isMet", "(LFormationPlanner$Flight;III)Z"⟩, 11), (⟨"FormationPlanner$Plan", "layWay", "(I)V"⟩, 11), (⟨"FormationPlannerModel", "discards", "()V"⟩, 30), (⟨"FormationPlannerModel", "changes", "()V"⟩, 30), (⟨"FormationPlannerModel", "keeps", "()V"⟩, 30), (⟨"FormationPlannerModel", "droneAt", "(I)I"⟩, 30), (⟨"FormationPlannerModel", "slotAt", "(I)I"⟩, 30), (⟨"FormationPlannerModel", "isObstacle", "(I)Z"⟩, 30)]
theorem lw_r2 : ∀ q ∈ lw_privs_2, lw_okq q := List.forall_mem_cons.mpr ⟨lw_p16, List.forall_mem_cons.mpr ⟨lw_p17, List.forall_mem_cons.mpr ⟨lw_p18, List.forall_mem_cons.mpr ⟨lw_p19, List.forall_mem_cons.mpr ⟨lw_p20, List.forall_mem_cons.mpr ⟨lw_p21, List.forall_mem_cons.mpr ⟨lw_p22, List.forall_mem_cons.mpr ⟨lw_p23, List.forall_mem_cons.mpr ⟨lw_p24, List.forall_mem_cons.mpr ⟨lw_p25, List.forall_mem_cons.mpr ⟨lw_p26, List.forall_mem_cons.mpr ⟨lw_p27, List.forall_mem_cons.mpr ⟨lw_p28, List.forall_mem_cons.mpr ⟨lw_p29, List.forall_mem_cons.mpr ⟨lw_p30, List.forall_mem_cons.mpr ⟨lw_p31, fun _ h => absurd h List.not_mem_nil⟩⟩⟩⟩⟩⟩⟩⟩⟩⟩⟩⟩⟩⟩⟩⟩
theorem lw_p32 : lw_okq (⟨"FormationPlannerModel", "isDrone", "(I)Z"⟩, 30) := ⟨⟨by decide +kernel, by decide +kernel⟩, List.mem_of_getElem? (i := 764) (by decide +kernel), List.mem_of_getElem? (i := 912) (by decide +kernel), List.mem_of_getElem? (i := 913) (by decide +kernel)⟩
theorem lw_p33 : lw_okq (⟨"FormationPlannerModel", "readsAll", "()I"⟩, 30) := ⟨⟨by decide +kernel, by decide +kernel⟩, List.mem_of_getElem? (i := 764) (by decide +kernel), List.mem_of_getElem? (i := 932) (by decide +kernel), List.mem_of_getElem? (i := 933) (by decide +kernel)⟩
theorem lw_p34 : lw_okq (⟨"FormationPlannerModel", "here", "()I"⟩, 30) := ⟨⟨by decide +kernel, by decide +kernel⟩, List.mem_of_getElem? (i := 764) (by decide +kernel), List.mem_of_getElem? (i := 936) (by decide +kernel), List.mem_of_getElem? (i := 937) (by decide +kernel)⟩
theorem lw_p35 : lw_okq (⟨"FormationPlannerModel", "isTaken", "(I)Z"⟩, 30) := ⟨⟨by decide +kernel, by decide +kernel⟩, List.mem_of_getElem? (i := 764) (by decide +kernel), List.mem_of_getElem? (i := 940) (by decide +kernel), List.mem_of_getElem? (i := 941) (by decide +kernel)⟩
theorem lw_p36 : lw_okq (⟨"FormationPlannerModel", "time", "(II)I"⟩, 30) := ⟨⟨by decide +kernel, by decide +kernel⟩, List.mem_of_getElem? (i := 764) (by decide +kernel), List.mem_of_getElem? (i := 948) (by decide +kernel), List.mem_of_getElem? (i := 949) (by decide +kernel)⟩
theorem lw_p37 : lw_okq (⟨"FormationPlannerModel", "measures", "(I)V"⟩, 30) := ⟨⟨by decide +kernel, by decide +kernel⟩, List.mem_of_getElem? (i := 764) (by decide +kernel), List.mem_of_getElem? (i := 952) (by decide +kernel), List.mem_of_getElem? (i := 953) (by decide +kernel)⟩
theorem lw_p38 : lw_okq (⟨"FormationPlannerModel", "next", "(II)I"⟩, 30) := ⟨⟨by decide +kernel, by decide +kernel⟩, List.mem_of_getElem? (i := 764) (by decide +kernel), List.mem_of_getElem? (i := 957) (by decide +kernel), List.mem_of_getElem? (i := 958) (by decide +kernel)⟩
theorem lw_p39 : lw_okq (⟨"FormationPlannerModel", "ticks", "(II)I"⟩, 30) := ⟨⟨by decide +kernel, by decide +kernel⟩, List.mem_of_getElem? (i := 764) (by decide +kernel), List.mem_of_getElem? (i := 964) (by decide +kernel), List.mem_of_getElem? (i := 965) (by decide +kernel)⟩
theorem lw_p40 : lw_okq (⟨"FormationPlannerModel", "assigns", "()I"⟩, 30) := ⟨⟨by decide +kernel, by decide +kernel⟩, List.mem_of_getElem? (i := 764) (by decide +kernel), List.mem_of_getElem? (i := 972) (by decide +kernel), List.mem_of_getElem? (i := 973) (by decide +kernel)⟩
theorem lw_p41 : lw_okq (⟨"FormationPlannerModel", "tries", "(IIII)V"⟩, 30) := ⟨⟨by decide +kernel, by decide +kernel⟩, List.mem_of_getElem? (i := 764) (by decide +kernel), List.mem_of_getElem? (i := 976) (by decide +kernel), List.mem_of_getElem? (i := 977) (by decide +kernel)⟩
theorem lw_p42 : lw_okq (⟨"FormationPlannerModel", "forgets", "()V"⟩, 30) := ⟨⟨by decide +kernel, by decide +kernel⟩, List.mem_of_getElem? (i := 764) (by decide +kernel), List.mem_of_getElem? (i := 989) (by decide +kernel), List.mem_of_getElem? (i := 990) (by decide +kernel)⟩
theorem lw_p43 : lw_okq (⟨"FormationPlannerModel", "nextDrone", "(I)I"⟩, 30) := ⟨⟨by decide +kernel, by decide +kernel⟩, List.mem_of_getElem? (i := 764) (by decide +kernel), List.mem_of_getElem? (i := 997) (by decide +kernel), List.mem_of_getElem? (i := 998) (by decide +kernel)⟩
theorem lw_p44 : lw_okq (⟨"FormationPlannerModel", "earliest", "(I)I"⟩, 30) := ⟨⟨by decide +kernel, by decide +kernel⟩, List.mem_of_getElem? (i := 764) (by decide +kernel), List.mem_of_getElem? (i := 1001) (by decide +kernel), List.mem_of_getElem? (i := 1002) (by decide +kernel)⟩
theorem lw_p45 : lw_okq (⟨"FormationPlannerModel", "mayStay", "(II)Z"⟩, 30) := ⟨⟨by decide +kernel, by decide +kernel⟩, List.mem_of_getElem? (i := 764) (by decide +kernel), List.mem_of_getElem? (i := 1005) (by decide +kernel), List.mem_of_getElem? (i := 1006) (by decide +kernel)⟩
theorem lw_p46 : lw_okq (⟨"FormationPlannerModel", "isTakenAt", "(II)Z"⟩, 30) := ⟨⟨by decide +kernel, by decide +kernel⟩, List.mem_of_getElem? (i := 764) (by decide +kernel), List.mem_of_getElem? (i := 1009) (by decide +kernel), List.mem_of_getElem? (i := 1010) (by decide +kernel)⟩
theorem lw_p47 : lw_okq (⟨"FormationPlannerModel", "mayDo", "(III)Z"⟩, 30) := ⟨⟨by decide +kernel, by decide +kernel⟩, List.mem_of_getElem? (i := 764) (by decide +kernel), List.mem_of_getElem? (i := 1013) (by decide +kernel), List.mem_of_getElem? (i := 1014) (by decide +kernel)⟩
def lw_privs_3 : List (MethodName × Nat) := [(⟨"FormationPlannerModel", "isDrone", "(I)Z"⟩, 30), (⟨"FormationPlannerModel", "readsAll", "()I"⟩, 30), (⟨"FormationPlannerModel", "here", "()I"⟩, 30), (⟨"FormationPlannerModel", "isTaken", "(I)Z"⟩, 30), (⟨"FormationPlannerModel", "time", "(II)I"⟩, 30), (⟨"FormationPlannerModel", "measures", "(I)V"⟩, 30), (⟨"FormationPlannerModel", "next", "(II)I"⟩, 30), (⟨"FormationPlannerModel", "ticks", "(II)I"⟩, 30), (⟨"FormationPlannerModel", "assigns", "()I"⟩, 30), (⟨"FormationPlannerModel", "tries", "(IIII)V"⟩, 30), (⟨"FormationPlannerModel", "forgets", "()V"⟩, 30), (⟨"FormationPlannerModel", "nextDrone", "(I)I"⟩, 30), (⟨"FormationPlannerModel", "earliest", "(I)I"⟩, 30), (⟨"FormationPlannerModel", "mayStay", "(II)Z"⟩, 30), (⟨"FormationPlannerModel", "isTakenAt", "(II)Z"⟩, 30), (⟨"FormationPlannerModel", "mayDo", "(III)Z"⟩, 30)]
theorem lw_r3 : ∀ q ∈ lw_privs_3, lw_okq q := List.forall_mem_cons.mpr ⟨lw_p32, List.forall_mem_cons.mpr ⟨lw_p33, List.forall_mem_cons.mpr ⟨lw_p34, List.forall_mem_cons.mpr ⟨lw_p35, List.forall_mem_cons.mpr ⟨lw_p36, List.forall_mem_cons.mpr ⟨lw_p37, List.forall_mem_cons.mpr ⟨lw_p38, List.forall_mem_cons.mpr ⟨lw_p39, List.forall_mem_cons.mpr ⟨lw_p40, List.forall_mem_cons.mpr ⟨lw_p41, List.forall_mem_cons.mpr ⟨lw_p42, List.forall_mem_cons.mpr ⟨lw_p43, List.forall_mem_cons.mpr ⟨lw_p44, List.forall_mem_cons.mpr ⟨lw_p45, List.forall_mem_cons.mpr ⟨lw_p46, List.forall_mem_cons.mpr ⟨lw_p47, fun _ h => absurd h List.not_mem_nil⟩⟩⟩⟩⟩⟩⟩⟩⟩⟩⟩⟩⟩⟩⟩⟩
theorem lw_p48 : lw_okq (⟨"FormationPlannerModel", "isMet", "(III)Z"⟩, 30) := ⟨⟨by decide +kernel, by decide +kernel⟩, List.mem_of_getElem? (i := 764) (by decide +kernel), List.mem_of_getElem? (i := 1017) (by decide +kernel), List.mem_of_getElem? (i := 1018) (by decide +kernel)⟩
theorem lw_p49 : lw_okq (⟨"FormationPlannerModel", "goesBack", "(I)V"⟩, 30) := ⟨⟨by decide +kernel, by decide +kernel⟩, List.mem_of_getElem? (i := 764) (by decide +kernel), List.mem_of_getElem? (i := 1024) (by decide +kernel), List.mem_of_getElem? (i := 1025) (by decide +kernel)⟩
theorem lw_p50 : lw_okq (⟨"FormationPlannerModel", "writes", "(I)V"⟩, 30) := ⟨⟨by decide +kernel, by decide +kernel⟩, List.mem_of_getElem? (i := 764) (by decide +kernel), List.mem_of_getElem? (i := 1028) (by decide +kernel), List.mem_of_getElem? (i := 1029) (by decide +kernel)⟩
theorem lw_p51 : lw_okq (⟨"FormationPlannerModel", "put", "(IIII)V"⟩, 30) := ⟨⟨by decide +kernel, by decide +kernel⟩, List.mem_of_getElem? (i := 764) (by decide +kernel), List.mem_of_getElem? (i := 1032) (by decide +kernel), List.mem_of_getElem? (i := 1033) (by decide +kernel)⟩
theorem lw_p52 : lw_okq (⟨"FormationPlannerModel", "cell", "(II)I"⟩, 30) := ⟨⟨by decide +kernel, by decide +kernel⟩, List.mem_of_getElem? (i := 764) (by decide +kernel), List.mem_of_getElem? (i := 1036) (by decide +kernel), List.mem_of_getElem? (i := 1037) (by decide +kernel)⟩
theorem lw_p53 : lw_okq (⟨"FormationPlannerModel", "actionOf", "(II)I"⟩, 30) := ⟨⟨by decide +kernel, by decide +kernel⟩, List.mem_of_getElem? (i := 764) (by decide +kernel), List.mem_of_getElem? (i := 1053) (by decide +kernel), List.mem_of_getElem? (i := 1054) (by decide +kernel)⟩
theorem lw_p54 : lw_okq (⟨"FormationPlannerModel", "waits", "(I)I"⟩, 30) := ⟨⟨by decide +kernel, by decide +kernel⟩, List.mem_of_getElem? (i := 764) (by decide +kernel), List.mem_of_getElem? (i := 1061) (by decide +kernel), List.mem_of_getElem? (i := 1062) (by decide +kernel)⟩
theorem lw_p55 : lw_okq (⟨"FormationPlannerModel", "firstAction", "(II)I"⟩, 30) := ⟨⟨by decide +kernel, by decide +kernel⟩, List.mem_of_getElem? (i := 764) (by decide +kernel), List.mem_of_getElem? (i := 1069) (by decide +kernel), List.mem_of_getElem? (i := 1070) (by decide +kernel)⟩
theorem lw_p56 : lw_okq (⟨"FormationPlannerModel", "isMetBy", "(IIII)Z"⟩, 30) := ⟨⟨by decide +kernel, by decide +kernel⟩, List.mem_of_getElem? (i := 764) (by decide +kernel), List.mem_of_getElem? (i := 1073) (by decide +kernel), List.mem_of_getElem? (i := 1074) (by decide +kernel)⟩
theorem lw_p57 : lw_okq (⟨"FormationPlannerModel", "goesAlone", "(I)V"⟩, 30) := ⟨⟨by decide +kernel, by decide +kernel⟩, List.mem_of_getElem? (i := 764) (by decide +kernel), List.mem_of_getElem? (i := 1081) (by decide +kernel), List.mem_of_getElem? (i := 1082) (by decide +kernel)⟩
theorem lw_p58 : lw_okq (⟨"FormationPlannerModel", "areInConflict", "(II)Z"⟩, 30) := ⟨⟨by decide +kernel, by decide +kernel⟩, List.mem_of_getElem? (i := 764) (by decide +kernel), List.mem_of_getElem? (i := 1085) (by decide +kernel), List.mem_of_getElem? (i := 1086) (by decide +kernel)⟩
theorem lw_p59 : lw_okq (⟨"FormationPlannerModel", "obstacles", "()I"⟩, 30) := ⟨⟨by decide +kernel, by decide +kernel⟩, List.mem_of_getElem? (i := 764) (by decide +kernel), List.mem_of_getElem? (i := 1105) (by decide +kernel), List.mem_of_getElem? (i := 1106) (by decide +kernel)⟩
theorem lw_p60 : lw_okq (⟨"FormationPlannerModel", "dronesAtSlots", "()I"⟩, 30) := ⟨⟨by decide +kernel, by decide +kernel⟩, List.mem_of_getElem? (i := 764) (by decide +kernel), List.mem_of_getElem? (i := 1109) (by decide +kernel), List.mem_of_getElem? (i := 1110) (by decide +kernel)⟩
def lw_privs_4 : List (MethodName × Nat) := [(⟨"FormationPlannerModel", "isMet", "(III)Z"⟩, 30), (⟨"FormationPlannerModel", "goesBack", "(I)V"⟩, 30), (⟨"FormationPlannerModel", "writes", "(I)V"⟩, 30), (⟨"FormationPlannerModel", "put", "(IIII)V"⟩, 30), (⟨"FormationPlannerModel", "cell", "(II)I"⟩, 30), (⟨"FormationPlannerModel", "actionOf", "(II)I"⟩, 30), (⟨"FormationPlannerModel", "waits", "(I)I"⟩, 30), (⟨"FormationPlannerModel", "firstAction", "(II)I"⟩, 30), (⟨"FormationPlannerModel", "isMetBy", "(IIII)Z"⟩, 30), (⟨"FormationPlannerModel", "goesAlone", "(I)V"⟩, 30), (⟨"FormationPlannerModel", "areInConflict", "(II)Z"⟩, 30), (⟨"FormationPlannerModel", "obstacles", "()I"⟩, 30), (⟨"FormationPlannerModel", "dronesAtSlots", "()I"⟩, 30)]
theorem lw_r4 : ∀ q ∈ lw_privs_4, lw_okq q := List.forall_mem_cons.mpr ⟨lw_p48, List.forall_mem_cons.mpr ⟨lw_p49, List.forall_mem_cons.mpr ⟨lw_p50, List.forall_mem_cons.mpr ⟨lw_p51, List.forall_mem_cons.mpr ⟨lw_p52, List.forall_mem_cons.mpr ⟨lw_p53, List.forall_mem_cons.mpr ⟨lw_p54, List.forall_mem_cons.mpr ⟨lw_p55, List.forall_mem_cons.mpr ⟨lw_p56, List.forall_mem_cons.mpr ⟨lw_p57, List.forall_mem_cons.mpr ⟨lw_p58, List.forall_mem_cons.mpr ⟨lw_p59, List.forall_mem_cons.mpr ⟨lw_p60, fun _ h => absurd h List.not_mem_nil⟩⟩⟩⟩⟩⟩⟩⟩⟩⟩⟩⟩⟩
def lw_privs : List (MethodName × Nat) := lw_privs_1 ++ (lw_privs_2 ++ (lw_privs_3 ++ (lw_privs_4)))
def lw_tbl : List Cond := k2_sels lw_privs ++ tables_1
theorem lw_privs_ok : ∀ q ∈ lw_privs, lw_okq q := by
  show ∀ q ∈ lw_privs_1 ++ (lw_privs_2 ++ (lw_privs_3 ++ (lw_privs_4))), lw_okq q
  exact List.forall_mem_append.mpr ⟨lw_r1, List.forall_mem_append.mpr ⟨lw_r2, List.forall_mem_append.mpr ⟨lw_r3, lw_r4⟩⟩⟩
-- ===== end of PART A; then your names; then what follows =====
end
section
/-! ===== BEGIN words of one list among another's, by their places ===== -/
theorem goodIn_r {big : List Cond} (ws : List Cond) (ps : List Nat) (hp : ws = ps.filterMap (fun i => big[i]?)) (h : ws.all goodWord = true) : GoodIn big ws := by
  intro w hw
  have h1 := List.all_eq_true.mp h w hw
  rw [hp] at hw
  obtain ⟨i, -, hi⟩ := List.mem_filterMap.mp hw
  have hm : w ∈ big := by first | exact List.mem_of_getElem? hi | exact List.getElem?_mem hi
  exact ⟨hm, good_of_word h1⟩
theorem goodIn_app {big a b : List Cond} (ha : GoodIn big a) (hb : GoodIn big b) : GoodIn big (a ++ b) := fun w h => (List.mem_append.mp h).elim (ha w) (hb w)
theorem goodIn_ca {big a b : List Cond} {c : Cond} (ha : GoodIn big (c :: a)) (hb : GoodIn big b) : GoodIn big (c :: (a ++ b)) := fun w h => (List.mem_cons.mp h).elim (fun e => ha w (List.mem_cons.mpr (Or.inl e))) (fun h => (List.mem_append.mp h).elim (fun h => ha w (List.mem_cons.mpr (Or.inr h))) (hb w))
theorem goodIn_sub {big ws : List Cond} (hm : ∀ w ∈ ws, w ∈ big) (h : ws.all goodWord = true) : GoodIn big ws := fun w hw => ⟨hm w hw, good_of_word (List.all_eq_true.mp h w hw)⟩

/-! ===== END ===== -/
/-! ===== BEGIN printed: names, fields, word lists, decode rows ===== -/
def RX0 : String := "FormationPlanner$Assigner"
def TX0 : u_T := fun k => match k with
  | 0 => ("FormationPlanner$Assigner", "scene", "LFormationPlanner$Scene;", true)
  | 1 => ("FormationPlanner$Assigner", "toSlot", "[LFormationPlanner$TimesTo;", true)
  | 2 => ("FormationPlanner$Assigner", "trial", "[I", true)
  | 3 => ("FormationPlanner$Assigner", "best", "[I", true)
  | 4 => ("FormationPlanner$Assigner", "size", "I", false)
  | 5 => ("FormationPlanner$Assigner", "all", "I", false)
  | 6 => ("FormationPlanner$Assigner", "alike", "I", false)
  | 7 => ("FormationPlanner$Assigner", "greatest", "I", false)
  | _ => ("FormationPlanner$Assigner", "sum", "I", false)
def tyX0 : Nat → FieldType := fun k => match k with
  | 0 => .object "FormationPlanner$Scene"
  | 1 => .array (.object "FormationPlanner$TimesTo")
  | 2 => .array .int
  | 3 => .array .int
  | 4 => .int
  | 5 => .int
  | 6 => .int
  | 7 => .int
  | _ => .int
abbrev wsX00 : List Cond := u_ws RX0 TX0 9
theorem nmX0 : ∀ a, a < 9 → ∀ b, b < 9 → a ≠ b → (TX0 a).2.1 ≠ (TX0 b).2.1 := by decide +kernel
theorem tyX0_ok : ∀ k, k < 9 → parseFieldDescriptor (TX0 k).2.2.1 = some (tyX0 k) := by decide +kernel
abbrev cX0_init : ByteArray := prog_2_method_1_code
def yX0_init : MethodName := ⟨RX0, "<init>", "(LFormationPlanner$Scene;LFormationPlanner$Lattice;)V"⟩
abbrev cX0_assign : ByteArray := prog_2_method_2_code
def yX0_assign : MethodName := ⟨RX0, "assign", "()I"⟩
abbrev cX0_slotOf : ByteArray := prog_2_method_3_code
def yX0_slotOf : MethodName := ⟨RX0, "slotOf", "(I)I"⟩
abbrev cX0_timeOf : ByteArray := prog_2_method_4_code
def yX0_timeOf : MethodName := ⟨RX0, "timeOf", "(I)I"⟩
abbrev cX0_time : ByteArray := prog_2_method_5_code
def yX0_time : MethodName := ⟨RX0, "time", "(II)I"⟩
abbrev cX0_weigh : ByteArray := prog_2_method_6_code
def yX0_weigh : MethodName := ⟨RX0, "weigh", "()V"⟩
abbrev cX0_take : ByteArray := prog_2_method_7_code
def yX0_take : MethodName := ⟨RX0, "take", "(II)V"⟩
abbrev cX0_nextTrial : ByteArray := prog_2_method_8_code
def yX0_nextTrial : MethodName := ⟨RX0, "nextTrial", "()Z"⟩
abbrev cX0_swap : ByteArray := prog_2_method_9_code
def yX0_swap : MethodName := ⟨RX0, "swap", "(II)V"⟩
def RX1 : String := "FormationPlanner$Flight"
def TX1 : u_T := fun k => match k with
  | 0 => ("FormationPlanner$Flight", "cells", "[I", true)
  | 1 => ("FormationPlanner$Flight", "actions", "[I", true)
  | 2 => ("FormationPlanner$Flight", "arrival", "I", false)
  | 3 => ("FormationPlanner$Flight", "slot", "I", false)
  | _ => ("FormationPlanner$Flight", "position", "I", false)
def tyX1 : Nat → FieldType := fun k => match k with
  | 0 => .array .int
  | 1 => .array .int
  | 2 => .int
  | 3 => .int
  | _ => .int
abbrev wsX10 : List Cond := u_ws RX1 TX1 5
theorem nmX1 : ∀ a, a < 5 → ∀ b, b < 5 → a ≠ b → (TX1 a).2.1 ≠ (TX1 b).2.1 := by decide +kernel
theorem tyX1_ok : ∀ k, k < 5 → parseFieldDescriptor (TX1 k).2.2.1 = some (tyX1 k) := by decide +kernel
abbrev cX1_init : ByteArray := prog_3_method_1_code
def yX1_init : MethodName := ⟨RX1, "<init>", "()V"⟩
abbrev cX1_begin : ByteArray := prog_3_method_2_code
def yX1_begin : MethodName := ⟨RX1, "begin", "(I)V"⟩
abbrev cX1_add : ByteArray := prog_3_method_3_code
def yX1_add : MethodName := ⟨RX1, "add", "(III)V"⟩
abbrev cX1_cellAt : ByteArray := prog_3_method_4_code
def yX1_cellAt : MethodName := ⟨RX1, "cellAt", "(I)I"⟩
abbrev cX1_actionAt : ByteArray := prog_3_method_5_code
def yX1_actionAt : MethodName := ⟨RX1, "actionAt", "(I)I"⟩
abbrev cX1_meets : ByteArray := prog_3_method_6_code
def yX1_meets : MethodName := ⟨RX1, "meets", "(LFormationPlanner$Flight;)Z"⟩
def RX2 : String := "FormationPlanner$Formation"
def TX2 : u_T := fun k => match k with
  | 0 => ("FormationPlanner$Formation", "signs", "[I", true)
  | 1 => ("FormationPlanner$Formation", "places", "LFormationPlanner$Places;", true)
  | 2 => ("FormationPlanner$Formation", "length", "I", false)
  | 3 => ("FormationPlanner$Formation", "offset", "I", false)
  | _ => ("FormationPlanner$Formation", "repeats", "Z", false)
def tyX2 : Nat → FieldType := fun k => match k with
  | 0 => .array .int
  | 1 => .object "FormationPlanner$Places"
  | 2 => .int
  | 3 => .int
  | _ => .boolean
abbrev wsX20 : List Cond := u_ws RX2 TX2 5
theorem nmX2 : ∀ a, a < 5 → ∀ b, b < 5 → a ≠ b → (TX2 a).2.1 ≠ (TX2 b).2.1 := by decide +kernel
theorem tyX2_ok : ∀ k, k < 5 → parseFieldDescriptor (TX2 k).2.2.1 = some (tyX2 k) := by decide +kernel
abbrev cX2_init : ByteArray := prog_4_method_1_code
def yX2_init : MethodName := ⟨RX2, "<init>", "()V"⟩
abbrev cX2_lengthen : ByteArray := prog_4_method_2_code
def yX2_lengthen : MethodName := ⟨RX2, "lengthen", "(II)Z"⟩
abbrev cX2_read : ByteArray := prog_4_method_3_code
def yX2_read : MethodName := ⟨RX2, "read", "()I"⟩
abbrev cX2_readPositions : ByteArray := prog_4_method_4_code
def yX2_readPositions : MethodName := ⟨RX2, "readPositions", "()I"⟩
abbrev cX2_readPosition : ByteArray := prog_4_method_5_code
def yX2_readPosition : MethodName := ⟨RX2, "readPosition", "()Z"⟩
abbrev cX2_note : ByteArray := prog_4_method_6_code
def yX2_note : MethodName := ⟨RX2, "note", "(I)V"⟩
abbrev cX2_signHere : ByteArray := prog_4_method_7_code
def yX2_signHere : MethodName := ⟨RX2, "signHere", "()I"⟩
def RX3 : String := "FormationPlanner$History"
def TX3 : u_T := fun k => match k with
  | 0 => ("FormationPlanner$History", "scenes", "[LFormationPlanner$Scene;", true)
  | 1 => ("FormationPlanner$History", "next", "I", false)
  | _ => ("FormationPlanner$History", "size", "I", false)
def tyX3 : Nat → FieldType := fun k => match k with
  | 0 => .array (.object "FormationPlanner$Scene")
  | 1 => .int
  | _ => .int
abbrev wsX30 : List Cond := u_ws RX3 TX3 3
theorem nmX3 : ∀ a, a < 3 → ∀ b, b < 3 → a ≠ b → (TX3 a).2.1 ≠ (TX3 b).2.1 := by decide +kernel
theorem tyX3_ok : ∀ k, k < 3 → parseFieldDescriptor (TX3 k).2.2.1 = some (tyX3 k) := by decide +kernel
abbrev cX3_init : ByteArray := prog_5_method_1_code
def yX3_init : MethodName := ⟨RX3, "<init>", "()V"⟩
abbrev cX3_keep : ByteArray := prog_5_method_2_code
def yX3_keep : MethodName := ⟨RX3, "keep", "(LFormationPlanner$Scene;)V"⟩
abbrev cX3_bringBack : ByteArray := prog_5_method_3_code
def yX3_bringBack : MethodName := ⟨RX3, "bringBack", "(LFormationPlanner$Scene;)Z"⟩
def RX4 : String := "FormationPlanner$Lattice"
def TX4 : u_T := fun k => match k with
  | 0 => ("FormationPlanner$Lattice", "scene", "LFormationPlanner$Scene;", true)
  | _ => ("FormationPlanner$Lattice", "neighbours", "[I", true)
def tyX4 : Nat → FieldType := fun k => match k with
  | 0 => .object "FormationPlanner$Scene"
  | _ => .array .int
abbrev wsX40 : List Cond := u_ws RX4 TX4 2
theorem nmX4 : ∀ a, a < 2 → ∀ b, b < 2 → a ≠ b → (TX4 a).2.1 ≠ (TX4 b).2.1 := by decide +kernel
theorem tyX4_ok : ∀ k, k < 2 → parseFieldDescriptor (TX4 k).2.2.1 = some (tyX4 k) := by decide +kernel
abbrev cX4_init : ByteArray := prog_6_method_1_code
def yX4_init : MethodName := ⟨RX4, "<init>", "(LFormationPlanner$Scene;)V"⟩
abbrev cX4_next : ByteArray := prog_6_method_2_code
def yX4_next : MethodName := ⟨RX4, "next", "(II)I"⟩
abbrev cX4_ticks : ByteArray := prog_6_method_3_code
def yX4_ticks : MethodName := ⟨RX4, "ticks", "(II)I"⟩
abbrev cX4_neighbour : ByteArray := prog_6_method_4_code
def yX4_neighbour : MethodName := ⟨RX4, "neighbour", "(II)I"⟩
def RX5 : String := "FormationPlanner$Places"
def TX5 : u_T := fun k => match k with
  | 0 => ("FormationPlanner$Places", "cells", "[I", true)
  | _ => ("FormationPlanner$Places", "size", "I", false)
def tyX5 : Nat → FieldType := fun k => match k with
  | 0 => .array .int
  | _ => .int
abbrev wsX50 : List Cond := u_ws RX5 TX5 2
theorem nmX5 : ∀ a, a < 2 → ∀ b, b < 2 → a ≠ b → (TX5 a).2.1 ≠ (TX5 b).2.1 := by decide +kernel
theorem tyX5_ok : ∀ k, k < 2 → parseFieldDescriptor (TX5 k).2.2.1 = some (tyX5 k) := by decide +kernel
abbrev cX5_init : ByteArray := prog_7_method_1_code
def yX5_init : MethodName := ⟨RX5, "<init>", "()V"⟩
abbrev cX5_has : ByteArray := prog_7_method_2_code
def yX5_has : MethodName := ⟨RX5, "has", "(I)Z"⟩
abbrev cX5_cellAt : ByteArray := prog_7_method_3_code
def yX5_cellAt : MethodName := ⟨RX5, "cellAt", "(I)I"⟩
abbrev cX5_find : ByteArray := prog_7_method_4_code
def yX5_find : MethodName := ⟨RX5, "find", "(I)I"⟩
abbrev cX5_add : ByteArray := prog_7_method_5_code
def yX5_add : MethodName := ⟨RX5, "add", "(I)V"⟩
abbrev cX5_remove : ByteArray := prog_7_method_6_code
def yX5_remove : MethodName := ⟨RX5, "remove", "(I)Z"⟩
abbrev cX5_move : ByteArray := prog_7_method_7_code
def yX5_move : MethodName := ⟨RX5, "move", "(II)V"⟩
abbrev cX5_clear : ByteArray := prog_7_method_8_code
def yX5_clear : MethodName := ⟨RX5, "clear", "()V"⟩
abbrev cX5_copyFrom : ByteArray := prog_7_method_9_code
def yX5_copyFrom : MethodName := ⟨RX5, "copyFrom", "(LFormationPlanner$Places;)V"⟩
def RX6 : String := "FormationPlanner$Plan"
def TX6 : u_T := fun k => match k with
  | 0 => ("FormationPlanner$Plan", "scene", "LFormationPlanner$Scene;", true)
  | 1 => ("FormationPlanner$Plan", "lattice", "LFormationPlanner$Lattice;", true)
  | 2 => ("FormationPlanner$Plan", "timesTo", "LFormationPlanner$TimesTo;", true)
  | 3 => ("FormationPlanner$Plan", "router", "LFormationPlanner$Router;", true)
  | 4 => ("FormationPlanner$Plan", "flights", "[LFormationPlanner$Flight;", true)
  | 5 => ("FormationPlanner$Plan", "ways", "[LFormationPlanner$Flight;", true)
  | 6 => ("FormationPlanner$Plan", "order", "[I", true)
  | 7 => ("FormationPlanner$Plan", "stands", "Z", false)
  | 8 => ("FormationPlanner$Plan", "stuckDrone", "I", false)
  | 9 => ("FormationPlanner$Plan", "size", "I", false)
  | _ => ("FormationPlanner$Plan", "now", "I", false)
def tyX6 : Nat → FieldType := fun k => match k with
  | 0 => .object "FormationPlanner$Scene"
  | 1 => .object "FormationPlanner$Lattice"
  | 2 => .object "FormationPlanner$TimesTo"
  | 3 => .object "FormationPlanner$Router"
  | 4 => .array (.object "FormationPlanner$Flight")
  | 5 => .array (.object "FormationPlanner$Flight")
  | 6 => .array .int
  | 7 => .boolean
  | 8 => .int
  | 9 => .int
  | _ => .int
abbrev wsX60 : List Cond := u_ws RX6 TX6 11
theorem nmX6 : ∀ a, a < 11 → ∀ b, b < 11 → a ≠ b → (TX6 a).2.1 ≠ (TX6 b).2.1 := by decide +kernel
theorem tyX6_ok : ∀ k, k < 11 → parseFieldDescriptor (TX6 k).2.2.1 = some (tyX6 k) := by decide +kernel
abbrev cX6_init : ByteArray := prog_8_method_1_code
def yX6_init : MethodName := ⟨RX6, "<init>", "(LFormationPlanner$Scene;LFormationPlanner$Lattice;)V"⟩
abbrev cX6_discard : ByteArray := prog_8_method_2_code
def yX6_discard : MethodName := ⟨RX6, "discard", "()V"⟩
abbrev cX6_make : ByteArray := prog_8_method_3_code
def yX6_make : MethodName := ⟨RX6, "make", "(LFormationPlanner$Assigner;)I"⟩
abbrev cX6_cellOfDrone : ByteArray := prog_8_method_4_code
def yX6_cellOfDrone : MethodName := ⟨RX6, "cellOfDrone", "(II)I"⟩
abbrev cX6_actionOfDrone : ByteArray := prog_8_method_5_code
def yX6_actionOfDrone : MethodName := ⟨RX6, "actionOfDrone", "(II)I"⟩
abbrev cX6_positionOf : ByteArray := prog_8_method_6_code
def yX6_positionOf : MethodName := ⟨RX6, "positionOf", "(I)I"⟩
abbrev cX6_slotOf : ByteArray := prog_8_method_7_code
def yX6_slotOf : MethodName := ⟨RX6, "slotOf", "(I)I"⟩
abbrev cX6_ticksLeft : ByteArray := prog_8_method_8_code
def yX6_ticksLeft : MethodName := ⟨RX6, "ticksLeft", "(I)I"⟩
abbrev cX6_waitsLeft : ByteArray := prog_8_method_9_code
def yX6_waitsLeft : MethodName := ⟨RX6, "waitsLeft", "(I)I"⟩
abbrev cX6_timeWithoutOthers : ByteArray := prog_8_method_10_code
def yX6_timeWithoutOthers : MethodName := ⟨RX6, "timeWithoutOthers", "(I)I"⟩
abbrev cX6_hinderer : ByteArray := prog_8_method_11_code
def yX6_hinderer : MethodName := ⟨RX6, "hinderer", "(II)I"⟩
abbrev cX6_pairsInConflict : ByteArray := prog_8_method_12_code
def yX6_pairsInConflict : MethodName := ⟨RX6, "pairsInConflict", "()I"⟩
abbrev cX6_advance : ByteArray := prog_8_method_13_code
def yX6_advance : MethodName := ⟨RX6, "advance", "(I)I"⟩
abbrev cX6_flightOf : ByteArray := prog_8_method_14_code
def yX6_flightOf : MethodName := ⟨RX6, "flightOf", "(I)LFormationPlanner$Flight;"⟩
abbrev cX6_takeOrder : ByteArray := prog_8_method_15_code
def yX6_takeOrder : MethodName := ⟨RX6, "takeOrder", "(LFormationPlanner$Assigner;)V"⟩
abbrev cX6_goalOf : ByteArray := prog_8_method_16_code
def yX6_goalOf : MethodName := ⟨RX6, "goalOf", "(I)I"⟩
abbrev cX6_isMet : ByteArray := prog_8_method_17_code
def yX6_isMet : MethodName := ⟨RX6, "isMet", "(LFormationPlanner$Flight;III)Z"⟩
abbrev cX6_layWay : ByteArray := prog_8_method_18_code
def yX6_layWay : MethodName := ⟨RX6, "layWay", "(I)V"⟩
def RX7 : String := "FormationPlanner$Router"
def TX7 : u_T := fun k => match k with
  | 0 => ("FormationPlanner$Router", "lattice", "LFormationPlanner$Lattice;", true)
  | 1 => ("FormationPlanner$Router", "holders", "[I", true)
  | _ => ("FormationPlanner$Router", "usable", "[I", true)
def tyX7 : Nat → FieldType := fun k => match k with
  | 0 => .object "FormationPlanner$Lattice"
  | 1 => .array .int
  | _ => .array .int
abbrev wsX70 : List Cond := u_ws RX7 TX7 3
theorem nmX7 : ∀ a, a < 3 → ∀ b, b < 3 → a ≠ b → (TX7 a).2.1 ≠ (TX7 b).2.1 := by decide +kernel
theorem tyX7_ok : ∀ k, k < 3 → parseFieldDescriptor (TX7 k).2.2.1 = some (tyX7 k) := by decide +kernel
abbrev cX7_init : ByteArray := prog_9_method_1_code
def yX7_init : MethodName := ⟨RX7, "<init>", "(LFormationPlanner$Lattice;)V"⟩
abbrev cX7_free : ByteArray := prog_9_method_2_code
def yX7_free : MethodName := ⟨RX7, "free", "()V"⟩
abbrev cX7_hold : ByteArray := prog_9_method_3_code
def yX7_hold : MethodName := ⟨RX7, "hold", "(LFormationPlanner$Flight;I)V"⟩
abbrev cX7_earliestArrival : ByteArray := prog_9_method_4_code
def yX7_earliestArrival : MethodName := ⟨RX7, "earliestArrival", "(II)I"⟩
abbrev cX7_prune : ByteArray := prog_9_method_5_code
def yX7_prune : MethodName := ⟨RX7, "prune", "(II)V"⟩
abbrev cX7_follow : ByteArray := prog_9_method_6_code
def yX7_follow : MethodName := ⟨RX7, "follow", "(LFormationPlanner$Flight;II)V"⟩
abbrev cX7_freeFrom : ByteArray := prog_9_method_7_code
def yX7_freeFrom : MethodName := ⟨RX7, "freeFrom", "(I)I"⟩
abbrev cX7_spread : ByteArray := prog_9_method_8_code
def yX7_spread : MethodName := ⟨RX7, "spread", "(II)V"⟩
abbrev cX7_leastAction : ByteArray := prog_9_method_9_code
def yX7_leastAction : MethodName := ⟨RX7, "leastAction", "(II)I"⟩
abbrev cX7_landing : ByteArray := prog_9_method_10_code
def yX7_landing : MethodName := ⟨RX7, "landing", "(III)I"⟩
abbrev cX7_canStep : ByteArray := prog_9_method_11_code
def yX7_canStep : MethodName := ⟨RX7, "canStep", "(III)Z"⟩
abbrev cX7_isUsable : ByteArray := prog_9_method_12_code
def yX7_isUsable : MethodName := ⟨RX7, "isUsable", "(I)Z"⟩
abbrev cX7_mark : ByteArray := prog_9_method_13_code
def yX7_mark : MethodName := ⟨RX7, "mark", "(II)V"⟩
abbrev cX7_spot : ByteArray := prog_9_method_14_code
def yX7_spot : MethodName := ⟨RX7, "spot", "(II)I"⟩
def RX8 : String := "FormationPlanner$Scene"
def TX8 : u_T := fun k => match k with
  | 0 => ("FormationPlanner$Scene", "winds", "[I", true)
  | 1 => ("FormationPlanner$Scene", "obstacles", "[I", true)
  | 2 => ("FormationPlanner$Scene", "drones", "LFormationPlanner$Places;", true)
  | 3 => ("FormationPlanner$Scene", "slots", "LFormationPlanner$Places;", true)
  | _ => ("FormationPlanner$Scene", "flown", "I", false)
def tyX8 : Nat → FieldType := fun k => match k with
  | 0 => .array .int
  | 1 => .array .int
  | 2 => .object "FormationPlanner$Places"
  | 3 => .object "FormationPlanner$Places"
  | _ => .int
abbrev wsX80 : List Cond := u_ws RX8 TX8 5
theorem nmX8 : ∀ a, a < 5 → ∀ b, b < 5 → a ≠ b → (TX8 a).2.1 ≠ (TX8 b).2.1 := by decide +kernel
theorem tyX8_ok : ∀ k, k < 5 → parseFieldDescriptor (TX8 k).2.2.1 = some (tyX8 k) := by decide +kernel
abbrev cX8_init : ByteArray := prog_10_method_1_code
def yX8_init : MethodName := ⟨RX8, "<init>", "()V"⟩
abbrev cX8_hasObstacleAt : ByteArray := prog_10_method_2_code
def yX8_hasObstacleAt : MethodName := ⟨RX8, "hasObstacleAt", "(I)Z"⟩
abbrev cX8_obstacleCount : ByteArray := prog_10_method_3_code
def yX8_obstacleCount : MethodName := ⟨RX8, "obstacleCount", "()I"⟩
abbrev cX8_dronesAtSlots : ByteArray := prog_10_method_4_code
def yX8_dronesAtSlots : MethodName := ⟨RX8, "dronesAtSlots", "()I"⟩
abbrev cX8_copyFrom : ByteArray := prog_10_method_5_code
def yX8_copyFrom : MethodName := ⟨RX8, "copyFrom", "(LFormationPlanner$Scene;)V"⟩
def RX9 : String := "FormationPlanner$TimesTo"
def TX9 : u_T := fun k => match k with
  | 0 => ("FormationPlanner$TimesTo", "lattice", "LFormationPlanner$Lattice;", true)
  | _ => ("FormationPlanner$TimesTo", "times", "[I", true)
def tyX9 : Nat → FieldType := fun k => match k with
  | 0 => .object "FormationPlanner$Lattice"
  | _ => .array .int
abbrev wsX90 : List Cond := u_ws RX9 TX9 2
theorem nmX9 : ∀ a, a < 2 → ∀ b, b < 2 → a ≠ b → (TX9 a).2.1 ≠ (TX9 b).2.1 := by decide +kernel
theorem tyX9_ok : ∀ k, k < 2 → parseFieldDescriptor (TX9 k).2.2.1 = some (tyX9 k) := by decide +kernel
abbrev cX9_init : ByteArray := prog_11_method_1_code
def yX9_init : MethodName := ⟨RX9, "<init>", "(LFormationPlanner$Lattice;)V"⟩
abbrev cX9_measure : ByteArray := prog_11_method_2_code
def yX9_measure : MethodName := ⟨RX9, "measure", "(I)V"⟩
abbrev cX9_timeFrom : ByteArray := prog_11_method_3_code
def yX9_timeFrom : MethodName := ⟨RX9, "timeFrom", "(I)I"⟩
abbrev cX9_firstAction : ByteArray := prog_11_method_4_code
def yX9_firstAction : MethodName := ⟨RX9, "firstAction", "(I)I"⟩
abbrev cX9_spreadBack : ByteArray := prog_11_method_5_code
def yX9_spreadBack : MethodName := ⟨RX9, "spreadBack", "(II)I"⟩
def RX10 : String := "FormationPlanner"
def TX10 : u_T := fun k => match k with
  | 0 => ("FormationPlanner", "scene", "LFormationPlanner$Scene;", true)
  | 1 => ("FormationPlanner", "history", "LFormationPlanner$History;", true)
  | 2 => ("FormationPlanner", "text", "LFormationPlanner$Formation;", true)
  | 3 => ("FormationPlanner", "timesTo", "LFormationPlanner$TimesTo;", true)
  | 4 => ("FormationPlanner", "assigner", "LFormationPlanner$Assigner;", true)
  | _ => ("FormationPlanner", "plan", "LFormationPlanner$Plan;", true)
def tyX10 : Nat → FieldType := fun k => match k with
  | 0 => .object "FormationPlanner$Scene"
  | 1 => .object "FormationPlanner$History"
  | 2 => .object "FormationPlanner$Formation"
  | 3 => .object "FormationPlanner$TimesTo"
  | 4 => .object "FormationPlanner$Assigner"
  | _ => .object "FormationPlanner$Plan"
abbrev wsX100 : List Cond := u_ws RX10 TX10 6
theorem nmX10 : ∀ a, a < 6 → ∀ b, b < 6 → a ≠ b → (TX10 a).2.1 ≠ (TX10 b).2.1 := by decide +kernel
theorem tyX10_ok : ∀ k, k < 6 → parseFieldDescriptor (TX10 k).2.2.1 = some (tyX10 k) := by decide +kernel
abbrev cX10_init : ByteArray := prog_1_method_1_code
def yX10_init : MethodName := ⟨RX10, "<init>", "()V"⟩
abbrev cX10_setWind : ByteArray := prog_1_method_2_code
def yX10_setWind : MethodName := ⟨RX10, "setWind", "(II)I"⟩
abbrev cX10_setObstacle : ByteArray := prog_1_method_3_code
def yX10_setObstacle : MethodName := ⟨RX10, "setObstacle", "(II)I"⟩
abbrev cX10_addDrone : ByteArray := prog_1_method_4_code
def yX10_addDrone : MethodName := ⟨RX10, "addDrone", "(I)I"⟩
abbrev cX10_removeDrone : ByteArray := prog_1_method_5_code
def yX10_removeDrone : MethodName := ⟨RX10, "removeDrone", "(I)I"⟩
abbrev cX10_addSlot : ByteArray := prog_1_method_6_code
def yX10_addSlot : MethodName := ⟨RX10, "addSlot", "(I)I"⟩
abbrev cX10_clearSlots : ByteArray := prog_1_method_7_code
def yX10_clearSlots : MethodName := ⟨RX10, "clearSlots", "()I"⟩
abbrev cX10_append : ByteArray := prog_1_method_8_code
def yX10_append : MethodName := ⟨RX10, "append", "(II)I"⟩
abbrev cX10_readSlots : ByteArray := prog_1_method_9_code
def yX10_readSlots : MethodName := ⟨RX10, "readSlots", "()I"⟩
abbrev cX10_flightTime : ByteArray := prog_1_method_10_code
def yX10_flightTime : MethodName := ⟨RX10, "flightTime", "(II)I"⟩
abbrev cX10_assigned : ByteArray := prog_1_method_11_code
def yX10_assigned : MethodName := ⟨RX10, "assigned", "(I)I"⟩
abbrev cX10_assignment : ByteArray := prog_1_method_12_code
def yX10_assignment : MethodName := ⟨RX10, "assignment", "(I)I"⟩
abbrev cX10_plan : ByteArray := prog_1_method_13_code
def yX10_plan : MethodName := ⟨RX10, "plan", "()I"⟩
abbrev cX10_stuck : ByteArray := prog_1_method_14_code
def yX10_stuck : MethodName := ⟨RX10, "stuck", "()I"⟩
abbrev cX10_at : ByteArray := prog_1_method_15_code
def yX10_at : MethodName := ⟨RX10, "at", "(II)I"⟩
abbrev cX10_action : ByteArray := prog_1_method_16_code
def yX10_action : MethodName := ⟨RX10, "action", "(II)I"⟩
abbrev cX10_flight : ByteArray := prog_1_method_17_code
def yX10_flight : MethodName := ⟨RX10, "flight", "(II)I"⟩
abbrev cX10_explain : ByteArray := prog_1_method_18_code
def yX10_explain : MethodName := ⟨RX10, "explain", "(II)I"⟩
abbrev cX10_conflictsWithout : ByteArray := prog_1_method_19_code
def yX10_conflictsWithout : MethodName := ⟨RX10, "conflictsWithout", "()I"⟩
abbrev cX10_fly : ByteArray := prog_1_method_20_code
def yX10_fly : MethodName := ⟨RX10, "fly", "(I)I"⟩
abbrev cX10_greatestWith : ByteArray := prog_1_method_21_code
def yX10_greatestWith : MethodName := ⟨RX10, "greatestWith", "(II)I"⟩
abbrev cX10_cellOf : ByteArray := prog_1_method_22_code
def yX10_cellOf : MethodName := ⟨RX10, "cellOf", "(II)I"⟩
abbrev cX10_look : ByteArray := prog_1_method_23_code
def yX10_look : MethodName := ⟨RX10, "look", "(I)I"⟩
abbrev cX10_count : ByteArray := prog_1_method_24_code
def yX10_count : MethodName := ⟨RX10, "count", "(I)I"⟩
abbrev cX10_undo : ByteArray := prog_1_method_25_code
def yX10_undo : MethodName := ⟨RX10, "undo", "()I"⟩
abbrev cX10_beginChange : ByteArray := prog_1_method_26_code
def yX10_beginChange : MethodName := ⟨RX10, "beginChange", "()V"⟩
abbrev cX10_addPlace : ByteArray := prog_1_method_27_code
def yX10_addPlace : MethodName := ⟨RX10, "addPlace", "(LFormationPlanner$Places;I)I"⟩
abbrev cX10_hasObstacle : ByteArray := prog_1_method_28_code
def yX10_hasObstacle : MethodName := ⟨RX10, "hasObstacle", "(LFormationPlanner$Places;)Z"⟩
abbrev cX10_planError : ByteArray := prog_1_method_29_code
def yX10_planError : MethodName := ⟨RX10, "planError", "(IZ)I"⟩
abbrev cX10_isCell : ByteArray := prog_1_method_30_code
def yX10_isCell : MethodName := ⟨RX10, "isCell", "(I)Z"⟩
abbrev cX10_isLayer : ByteArray := prog_1_method_31_code
def yX10_isLayer : MethodName := ⟨RX10, "isLayer", "(I)Z"⟩
abbrev cX10_isWind : ByteArray := prog_1_method_32_code
def yX10_isWind : MethodName := ⟨RX10, "isWind", "(I)Z"⟩
abbrev cX10_isAction : ByteArray := prog_1_method_33_code
def yX10_isAction : MethodName := ⟨RX10, "isAction", "(I)Z"⟩
def RX11 : String := "FormationPlannerModel"
def TX11 : u_T := fun k => match k with
  | 0 => ("FormationPlannerModel", "s", "[I", true)
  | 1 => ("FormationPlannerModel", "past", "[I", true)
  | 2 => ("FormationPlannerModel", "text", "[I", true)
  | 3 => ("FormationPlannerModel", "changes", "I", false)
  | 4 => ("FormationPlannerModel", "written", "I", false)
  | 5 => ("FormationPlannerModel", "at", "I", false)
  | 6 => ("FormationPlannerModel", "read", "[I", true)
  | 7 => ("FormationPlannerModel", "times", "[I", true)
  | 8 => ("FormationPlannerModel", "isKnown", "[Z", true)
  | 9 => ("FormationPlannerModel", "tried", "[I", true)
  | 10 => ("FormationPlannerModel", "best", "[I", true)
  | 11 => ("FormationPlannerModel", "greatest", "I", false)
  | 12 => ("FormationPlannerModel", "sum", "I", false)
  | 13 => ("FormationPlannerModel", "withGreatest", "I", false)
  | 14 => ("FormationPlannerModel", "assignments", "I", false)
  | 15 => ("FormationPlannerModel", "hasPlan", "Z", false)
  | 16 => ("FormationPlannerModel", "stuck", "I", false)
  | 17 => ("FormationPlannerModel", "present", "I", false)
  | 18 => ("FormationPlannerModel", "end", "I", false)
  | 19 => ("FormationPlannerModel", "cellAt", "[I", true)
  | 20 => ("FormationPlannerModel", "actionAt", "[I", true)
  | 21 => ("FormationPlannerModel", "arrival", "[I", true)
  | 22 => ("FormationPlannerModel", "position", "[I", true)
  | 23 => ("FormationPlannerModel", "order", "[I", true)
  | 24 => ("FormationPlannerModel", "goal", "[I", true)
  | 25 => ("FormationPlannerModel", "planned", "I", false)
  | 26 => ("FormationPlannerModel", "taken", "[I", true)
  | 27 => ("FormationPlannerModel", "isReached", "[Z", true)
  | 28 => ("FormationPlannerModel", "canEnd", "[Z", true)
  | _ => ("FormationPlannerModel", "way", "[I", true)
def tyX11 : Nat → FieldType := fun k => match k with
  | 0 => .array .int
  | 1 => .array .int
  | 2 => .array .int
  | 3 => .int
  | 4 => .int
  | 5 => .int
  | 6 => .array .int
  | 7 => .array .int
  | 8 => .array .boolean
  | 9 => .array .int
  | 10 => .array .int
  | 11 => .int
  | 12 => .int
  | 13 => .int
  | 14 => .int
  | 15 => .boolean
  | 16 => .int
  | 17 => .int
  | 18 => .int
  | 19 => .array .int
  | 20 => .array .int
  | 21 => .array .int
  | 22 => .array .int
  | 23 => .array .int
  | 24 => .array .int
  | 25 => .int
  | 26 => .array .int
  | 27 => .array .boolean
  | 28 => .array .boolean
  | _ => .array .int
abbrev wsX110 : List Cond := u_ws RX11 TX11 30
theorem nmX11 : ∀ a, a < 30 → ∀ b, b < 30 → a ≠ b → (TX11 a).2.1 ≠ (TX11 b).2.1 := by decide +kernel
theorem tyX11_ok : ∀ k, k < 30 → parseFieldDescriptor (TX11 k).2.2.1 = some (tyX11 k) := by decide +kernel
abbrev cX11_init : ByteArray := prog_13_method_1_code
def yX11_init : MethodName := ⟨RX11, "<init>", "()V"⟩
abbrev cX11_isIn : ByteArray := prog_13_method_2_code
def yX11_isIn : MethodName := ⟨RX11, "isIn", "(III)Z"⟩
abbrev cX11_isCell : ByteArray := prog_13_method_3_code
def yX11_isCell : MethodName := ⟨RX11, "isCell", "(I)Z"⟩
abbrev cX11_layerOf : ByteArray := prog_13_method_4_code
def yX11_layerOf : MethodName := ⟨RX11, "layerOf", "(I)I"⟩
abbrev cX11_isObstacle : ByteArray := prog_13_method_5_code
def yX11_isObstacle : MethodName := ⟨RX11, "isObstacle", "(I)Z"⟩
abbrev cX11_isDrone : ByteArray := prog_13_method_6_code
def yX11_isDrone : MethodName := ⟨RX11, "isDrone", "(I)Z"⟩
abbrev cX11_droneAt : ByteArray := prog_13_method_7_code
def yX11_droneAt : MethodName := ⟨RX11, "droneAt", "(I)I"⟩
abbrev cX11_slotAt : ByteArray := prog_13_method_8_code
def yX11_slotAt : MethodName := ⟨RX11, "slotAt", "(I)I"⟩
abbrev cX11_keeps : ByteArray := prog_13_method_9_code
def yX11_keeps : MethodName := ⟨RX11, "keeps", "()V"⟩
abbrev cX11_discards : ByteArray := prog_13_method_10_code
def yX11_discards : MethodName := ⟨RX11, "discards", "()V"⟩
abbrev cX11_changes : ByteArray := prog_13_method_11_code
def yX11_changes : MethodName := ⟨RX11, "changes", "()V"⟩
abbrev cX11_undo : ByteArray := prog_13_method_12_code
def yX11_undo : MethodName := ⟨RX11, "undo", "()I"⟩
abbrev cX11_setWind : ByteArray := prog_13_method_13_code
def yX11_setWind : MethodName := ⟨RX11, "setWind", "(II)I"⟩
abbrev cX11_setObstacle : ByteArray := prog_13_method_14_code
def yX11_setObstacle : MethodName := ⟨RX11, "setObstacle", "(II)I"⟩
abbrev cX11_addDrone : ByteArray := prog_13_method_15_code
def yX11_addDrone : MethodName := ⟨RX11, "addDrone", "(I)I"⟩
abbrev cX11_removeDrone : ByteArray := prog_13_method_16_code
def yX11_removeDrone : MethodName := ⟨RX11, "removeDrone", "(I)I"⟩
abbrev cX11_addSlot : ByteArray := prog_13_method_17_code
def yX11_addSlot : MethodName := ⟨RX11, "addSlot", "(I)I"⟩
abbrev cX11_clearSlots : ByteArray := prog_13_method_18_code
def yX11_clearSlots : MethodName := ⟨RX11, "clearSlots", "()I"⟩
abbrev cX11_append : ByteArray := prog_13_method_19_code
def yX11_append : MethodName := ⟨RX11, "append", "(II)I"⟩
abbrev cX11_here : ByteArray := prog_13_method_20_code
def yX11_here : MethodName := ⟨RX11, "here", "()I"⟩
abbrev cX11_readsAll : ByteArray := prog_13_method_21_code
def yX11_readsAll : MethodName := ⟨RX11, "readsAll", "()I"⟩
abbrev cX11_isTaken : ByteArray := prog_13_method_22_code
def yX11_isTaken : MethodName := ⟨RX11, "isTaken", "(I)Z"⟩
abbrev cX11_readSlots : ByteArray := prog_13_method_23_code
def yX11_readSlots : MethodName := ⟨RX11, "readSlots", "()I"⟩
abbrev cX11_next : ByteArray := prog_13_method_24_code
def yX11_next : MethodName := ⟨RX11, "next", "(II)I"⟩
abbrev cX11_ticks : ByteArray := prog_13_method_25_code
def yX11_ticks : MethodName := ⟨RX11, "ticks", "(II)I"⟩
abbrev cX11_measures : ByteArray := prog_13_method_26_code
def yX11_measures : MethodName := ⟨RX11, "measures", "(I)V"⟩
abbrev cX11_time : ByteArray := prog_13_method_27_code
def yX11_time : MethodName := ⟨RX11, "time", "(II)I"⟩
abbrev cX11_flightTime : ByteArray := prog_13_method_28_code
def yX11_flightTime : MethodName := ⟨RX11, "flightTime", "(II)I"⟩
abbrev cX11_firstAction : ByteArray := prog_13_method_29_code
def yX11_firstAction : MethodName := ⟨RX11, "firstAction", "(II)I"⟩
abbrev cX11_tries : ByteArray := prog_13_method_30_code
def yX11_tries : MethodName := ⟨RX11, "tries", "(IIII)V"⟩
abbrev cX11_assigns : ByteArray := prog_13_method_31_code
def yX11_assigns : MethodName := ⟨RX11, "assigns", "()I"⟩
abbrev cX11_assigned : ByteArray := prog_13_method_32_code
def yX11_assigned : MethodName := ⟨RX11, "assigned", "(I)I"⟩
abbrev cX11_assignment : ByteArray := prog_13_method_33_code
def yX11_assignment : MethodName := ⟨RX11, "assignment", "(I)I"⟩
abbrev cX11_greatestWith : ByteArray := prog_13_method_34_code
def yX11_greatestWith : MethodName := ⟨RX11, "greatestWith", "(II)I"⟩
abbrev cX11_forgets : ByteArray := prog_13_method_35_code
def yX11_forgets : MethodName := ⟨RX11, "forgets", "()V"⟩
abbrev cX11_cell : ByteArray := prog_13_method_36_code
def yX11_cell : MethodName := ⟨RX11, "cell", "(II)I"⟩
abbrev cX11_isTakenAt : ByteArray := prog_13_method_37_code
def yX11_isTakenAt : MethodName := ⟨RX11, "isTakenAt", "(II)Z"⟩
abbrev cX11_isMet : ByteArray := prog_13_method_38_code
def yX11_isMet : MethodName := ⟨RX11, "isMet", "(III)Z"⟩
abbrev cX11_mayDo : ByteArray := prog_13_method_39_code
def yX11_mayDo : MethodName := ⟨RX11, "mayDo", "(III)Z"⟩
abbrev cX11_where : ByteArray := prog_13_method_40_code
def yX11_where : MethodName := ⟨RX11, "where", "(III)I"⟩
abbrev cX11_mayStay : ByteArray := prog_13_method_41_code
def yX11_mayStay : MethodName := ⟨RX11, "mayStay", "(II)Z"⟩
abbrev cX11_earliest : ByteArray := prog_13_method_42_code
def yX11_earliest : MethodName := ⟨RX11, "earliest", "(I)I"⟩
abbrev cX11_goesBack : ByteArray := prog_13_method_43_code
def yX11_goesBack : MethodName := ⟨RX11, "goesBack", "(I)V"⟩
abbrev cX11_put : ByteArray := prog_13_method_44_code
def yX11_put : MethodName := ⟨RX11, "put", "(IIII)V"⟩
abbrev cX11_writes : ByteArray := prog_13_method_45_code
def yX11_writes : MethodName := ⟨RX11, "writes", "(I)V"⟩
abbrev cX11_nextDrone : ByteArray := prog_13_method_46_code
def yX11_nextDrone : MethodName := ⟨RX11, "nextDrone", "(I)I"⟩
abbrev cX11_plan : ByteArray := prog_13_method_47_code
def yX11_plan : MethodName := ⟨RX11, "plan", "()I"⟩
abbrev cX11_stuck : ByteArray := prog_13_method_48_code
def yX11_stuck : MethodName := ⟨RX11, "stuck", "()I"⟩
abbrev cX11_at : ByteArray := prog_13_method_49_code
def yX11_at : MethodName := ⟨RX11, "at", "(II)I"⟩
abbrev cX11_actionOf : ByteArray := prog_13_method_50_code
def yX11_actionOf : MethodName := ⟨RX11, "actionOf", "(II)I"⟩
abbrev cX11_action : ByteArray := prog_13_method_51_code
def yX11_action : MethodName := ⟨RX11, "action", "(II)I"⟩
abbrev cX11_waits : ByteArray := prog_13_method_52_code
def yX11_waits : MethodName := ⟨RX11, "waits", "(I)I"⟩
abbrev cX11_flight : ByteArray := prog_13_method_53_code
def yX11_flight : MethodName := ⟨RX11, "flight", "(II)I"⟩
abbrev cX11_isMetBy : ByteArray := prog_13_method_54_code
def yX11_isMetBy : MethodName := ⟨RX11, "isMetBy", "(IIII)Z"⟩
abbrev cX11_explain : ByteArray := prog_13_method_55_code
def yX11_explain : MethodName := ⟨RX11, "explain", "(II)I"⟩
abbrev cX11_goesAlone : ByteArray := prog_13_method_56_code
def yX11_goesAlone : MethodName := ⟨RX11, "goesAlone", "(I)V"⟩
abbrev cX11_areInConflict : ByteArray := prog_13_method_57_code
def yX11_areInConflict : MethodName := ⟨RX11, "areInConflict", "(II)Z"⟩
abbrev cX11_conflictsWithout : ByteArray := prog_13_method_58_code
def yX11_conflictsWithout : MethodName := ⟨RX11, "conflictsWithout", "()I"⟩
abbrev cX11_fly : ByteArray := prog_13_method_59_code
def yX11_fly : MethodName := ⟨RX11, "fly", "(I)I"⟩
abbrev cX11_cellOf : ByteArray := prog_13_method_60_code
def yX11_cellOf : MethodName := ⟨RX11, "cellOf", "(II)I"⟩
abbrev cX11_look : ByteArray := prog_13_method_61_code
def yX11_look : MethodName := ⟨RX11, "look", "(I)I"⟩
abbrev cX11_obstacles : ByteArray := prog_13_method_62_code
def yX11_obstacles : MethodName := ⟨RX11, "obstacles", "()I"⟩
abbrev cX11_dronesAtSlots : ByteArray := prog_13_method_63_code
def yX11_dronesAtSlots : MethodName := ⟨RX11, "dronesAtSlots", "()I"⟩
abbrev cX11_count : ByteArray := prog_13_method_64_code
def yX11_count : MethodName := ⟨RX11, "count", "(I)I"⟩
def RJ9 : String := "java/lang/Math"
def TJ9 : u_T := fun k => match k with
  | _ => ("", "", "", false)
def tyJ9 : Nat → FieldType := fun k => match k with
  | _ => .int
abbrev wsJ90 : List Cond := u_ws RJ9 TJ9 0
theorem nmJ9 : ∀ a, a < 0 → ∀ b, b < 0 → a ≠ b → (TJ9 a).2.1 ≠ (TJ9 b).2.1 := by decide +kernel
theorem tyJ9_ok : ∀ k, k < 0 → parseFieldDescriptor (TJ9 k).2.2.1 = some (tyJ9 k) := by decide +kernel
abbrev cJ9_floorMod_7cf53 : ByteArray := prog_14_method_50_code
def yJ9_floorMod_7cf53 : MethodName := ⟨RJ9, "floorMod", "(II)I"⟩
abbrev cJ9_max_7cf53 : ByteArray := prog_14_method_65_code
def yJ9_max_7cf53 : MethodName := ⟨RJ9, "max", "(II)I"⟩
abbrev cJ9_min_7cf53 : ByteArray := prog_14_method_69_code
def yJ9_min_7cf53 : MethodName := ⟨RJ9, "min", "(II)I"⟩
def RJ10 : String := "java/lang/System"
def TJ10 : u_T := fun k => match k with
  | _ => ("", "", "", false)
def tyJ10 : Nat → FieldType := fun k => match k with
  | _ => .int
abbrev wsJ100 : List Cond := u_ws RJ10 TJ10 0
theorem nmJ10 : ∀ a, a < 0 → ∀ b, b < 0 → a ≠ b → (TJ10 a).2.1 ≠ (TJ10 b).2.1 := by decide +kernel
theorem tyJ10_ok : ∀ k, k < 0 → parseFieldDescriptor (TJ10 k).2.2.1 = some (tyJ10 k) := by decide +kernel
def RJ7 : String := "java/util/Arrays"
def TJ7 : u_T := fun k => match k with
  | _ => ("", "", "", false)
def tyJ7 : Nat → FieldType := fun k => match k with
  | _ => .int
abbrev wsJ70 : List Cond := u_ws RJ7 TJ7 0
theorem nmJ7 : ∀ a, a < 0 → ∀ b, b < 0 → a ≠ b → (TJ7 a).2.1 ≠ (TJ7 b).2.1 := by decide +kernel
theorem tyJ7_ok : ∀ k, k < 0 → parseFieldDescriptor (TJ7 k).2.2.1 = some (tyJ7 k) := by decide +kernel
abbrev cJ7_fill_53178 : ByteArray := prog_16_method_103_code
def yJ7_fill_53178 : MethodName := ⟨RJ7, "fill", "([II)V"⟩
def RL : String := "FormationPlannerLaw"
abbrev cL_law : ByteArray := code
def yL_law : MethodName := ⟨RL, "law", "([I)Z"⟩
def wsX9_init : List Cond := .code yX9_init cX9_init 2 none :: ([.methodLink RX9 3 objectInit, .instanceMethod objectInit, .code objectInit ⟨#[0xb1]⟩ 1 none, .arrayClass .int, .fieldLink RX9 9 "FormationPlanner$TimesTo" "times" "[I", .fieldLink RX9 15 "FormationPlanner$TimesTo" "lattice" "LFormationPlanner$Lattice;"] ++ wsX90)
def wsX0_init : List Cond := .code yX0_init cX0_init 4 none :: ([.methodLink RX0 3 objectInit, .instanceMethod objectInit, .code objectInit ⟨#[0xb1]⟩ 1 none, .classLink RX0 9 RX9, .fieldLink RX0 11 "FormationPlanner$Assigner" "toSlot" "[LFormationPlanner$TimesTo;", .arrayClass .int, .fieldLink RX0 17 "FormationPlanner$Assigner" "trial" "[I", .fieldLink RX0 21 "FormationPlanner$Assigner" "best" "[I", .fieldLink RX0 24 "FormationPlanner$Assigner" "scene" "LFormationPlanner$Scene;", .instantiable RX9 2, .initialized RX9, .methodLink RX0 28 yX9_init, .instanceMethod yX9_init, .code yX9_init cX9_init 2 none, .methodLink RX9 3 objectInit, .fieldLink RX9 9 "FormationPlanner$TimesTo" "times" "[I", .fieldLink RX9 15 "FormationPlanner$TimesTo" "lattice" "LFormationPlanner$Lattice;"] ++ wsX00 ++ wsX90)
def wsX5_has : List Cond := .code yX5_has cX5_has 2 (some .boolean) :: ([.fieldLink RX5 15 "FormationPlanner$Places" "size" "I"] ++ wsX50)
def wsX5_cellAt : List Cond := .code yX5_cellAt cX5_cellAt 2 (some .int) :: ([.fieldLink RX5 9 "FormationPlanner$Places" "cells" "[I", .methodLink RX5 19 yX5_has, .instanceMethod yX5_has, .selects RX5 yX5_has yX5_has, .initialized RX5, .code yX5_has cX5_has 2 (some .boolean), .fieldLink RX5 15 "FormationPlanner$Places" "size" "I"] ++ wsX50)
def wsJ7_fill_53178 : List Cond := .code yJ7_fill_53178 cJ7_fill_53178 4 none :: ([])
def wsX10_isCell : List Cond := .code yX10_isCell cX10_isCell 1 (some .boolean) :: ([])
def wsX10_isAction : List Cond := .code yX10_isAction cX10_isAction 1 (some .boolean) :: ([])
def wsX4_next : List Cond := .code yX4_next cX4_next 4 (some .int) :: ([.fieldLink RX4 9 "FormationPlanner$Lattice" "neighbours" "[I", .fieldLink RX4 15 "FormationPlanner$Lattice" "scene" "LFormationPlanner$Scene;", .fieldLink RX4 30 "FormationPlanner$Scene" "obstacles" "[I", .static yX10_isCell, .initialized RX10, .code yX10_isCell cX10_isCell 1 (some .boolean), .static yX10_isAction, .code yX10_isAction cX10_isAction 1 (some .boolean)] ++ wsX40 ++ wsX80)
def wsX4_ticks : List Cond := .code yX4_ticks cX4_ticks 4 (some .int) :: ([.fieldLink RX4 15 "FormationPlanner$Lattice" "scene" "LFormationPlanner$Scene;", .fieldLink RX4 35 "FormationPlanner$Scene" "winds" "[I", .static yX10_isCell, .initialized RX10, .code yX10_isCell cX10_isCell 1 (some .boolean), .static yX10_isAction, .code yX10_isAction cX10_isAction 1 (some .boolean)] ++ wsX40 ++ wsX80)
def wsX9_spreadBack : List Cond := .code yX9_spreadBack cX9_spreadBack 7 (some .int) :: ([.fieldLink RX9 15 "FormationPlanner$TimesTo" "lattice" "LFormationPlanner$Lattice;", .fieldLink RX9 9 "FormationPlanner$TimesTo" "times" "[I", .methodLink RX9 44 Lib.Math.max.name, .static Lib.Math.max.name, .initialized "java/lang/Math", .code Lib.Math.max.name Lib.Math.max.code 2 (some .int), .methodLink RX9 49 yX4_next, .instanceMethod yX4_next, .selects RX4 yX4_next yX4_next, .initialized RX4, .code yX4_next cX4_next 4 (some .int), .fieldLink RX4 9 "FormationPlanner$Lattice" "neighbours" "[I", .fieldLink RX4 15 "FormationPlanner$Lattice" "scene" "LFormationPlanner$Scene;", .fieldLink RX4 30 "FormationPlanner$Scene" "obstacles" "[I", .static yX10_isCell, .initialized RX10, .code yX10_isCell cX10_isCell 1 (some .boolean), .static yX10_isAction, .code yX10_isAction cX10_isAction 1 (some .boolean), .methodLink RX9 56 yX4_ticks, .instanceMethod yX4_ticks, .selects RX4 yX4_ticks yX4_ticks, .code yX4_ticks cX4_ticks 4 (some .int), .fieldLink RX4 35 "FormationPlanner$Scene" "winds" "[I"] ++ wsX90 ++ wsX40 ++ wsX80)
def wsX9_measure_r1 : List Cond := [Cond.fieldLink RX9 9 "FormationPlanner$TimesTo" "times" "[I", Cond.fieldLink RX9 15 "FormationPlanner$TimesTo" "lattice" "LFormationPlanner$Lattice;", Cond.fieldLink RX9 29 "FormationPlanner$Lattice" "scene" "LFormationPlanner$Scene;", Cond.fieldLink RX9 35 "FormationPlanner$Scene" "obstacles" "[I", Cond.methodLink RX9 44 Lib.Math.max.name, Cond.static Lib.Math.max.name, Cond.initialized "java/lang/Math", Cond.code Lib.Math.max.name Lib.Math.max.code 2 (some .int), Cond.methodLink RX9 19 yJ7_fill_53178, Cond.static yJ7_fill_53178, Cond.initialized RJ7, Cond.code yJ7_fill_53178 cJ7_fill_53178 4 none, Cond.static yX10_isCell, Cond.initialized RX10, Cond.code yX10_isCell cX10_isCell 1 (some .boolean), Cond.methodLink RX9 40 yX9_spreadBack, Cond.instanceMethod yX9_spreadBack, Cond.selects RX9 yX9_spreadBack yX9_spreadBack, Cond.initialized RX9, Cond.code yX9_spreadBack cX9_spreadBack 7 (some .int), Cond.methodLink RX9 49 yX4_next, Cond.instanceMethod yX4_next, Cond.selects RX4 yX4_next yX4_next, Cond.initialized RX4]
def wsX9_measure_r2 : List Cond := [Cond.code yX4_next cX4_next 4 (some .int), Cond.fieldLink RX4 9 "FormationPlanner$Lattice" "neighbours" "[I", Cond.fieldLink RX4 15 "FormationPlanner$Lattice" "scene" "LFormationPlanner$Scene;", Cond.fieldLink RX4 30 "FormationPlanner$Scene" "obstacles" "[I", Cond.static yX10_isAction, Cond.code yX10_isAction cX10_isAction 1 (some .boolean), Cond.methodLink RX9 56 yX4_ticks, Cond.instanceMethod yX4_ticks, Cond.selects RX4 yX4_ticks yX4_ticks, Cond.code yX4_ticks cX4_ticks 4 (some .int), Cond.fieldLink RX4 35 "FormationPlanner$Scene" "winds" "[I"]
def wsX9_measure : List Cond := .code yX9_measure cX9_measure 5 none :: ((wsX9_measure_r1 ++ wsX9_measure_r2) ++ wsX90 ++ wsX40 ++ wsX80)
def wsX9_timeFrom : List Cond := .code yX9_timeFrom cX9_timeFrom 2 (some .int) :: ([.fieldLink RX9 9 "FormationPlanner$TimesTo" "times" "[I", .static yX10_isCell, .initialized RX10, .code yX10_isCell cX10_isCell 1 (some .boolean)] ++ wsX90)
def wsX0_time : List Cond := .code yX0_time cX0_time 3 (some .int) :: ([.fieldLink RX0 11 "FormationPlanner$Assigner" "toSlot" "[LFormationPlanner$TimesTo;", .fieldLink RX0 24 "FormationPlanner$Assigner" "scene" "LFormationPlanner$Scene;", .fieldLink RX0 31 "FormationPlanner$Scene" "drones" "LFormationPlanner$Places;", .methodLink RX0 56 yX5_cellAt, .instanceMethod yX5_cellAt, .selects RX5 yX5_cellAt yX5_cellAt, .initialized RX5, .code yX5_cellAt cX5_cellAt 2 (some .int), .fieldLink RX5 9 "FormationPlanner$Places" "cells" "[I", .methodLink RX5 19 yX5_has, .instanceMethod yX5_has, .selects RX5 yX5_has yX5_has, .code yX5_has cX5_has 2 (some .boolean), .fieldLink RX5 15 "FormationPlanner$Places" "size" "I", .methodLink RX0 77 yX9_timeFrom, .instanceMethod yX9_timeFrom, .selects RX9 yX9_timeFrom yX9_timeFrom, .initialized RX9, .code yX9_timeFrom cX9_timeFrom 2 (some .int), .fieldLink RX9 9 "FormationPlanner$TimesTo" "times" "[I", .static yX10_isCell, .initialized RX10, .code yX10_isCell cX10_isCell 1 (some .boolean)] ++ wsX00 ++ wsX80 ++ wsX50 ++ wsX90)
def wsX0_take : List Cond := .code yX0_take cX0_take 3 none :: ([.fieldLink RX0 83 "FormationPlanner$Assigner" "greatest" "I", .fieldLink RX0 93 "FormationPlanner$Assigner" "sum" "I", .fieldLink RX0 17 "FormationPlanner$Assigner" "trial" "[I", .fieldLink RX0 21 "FormationPlanner$Assigner" "best" "[I", .methodLink RX0 96 arraycopyName, .native arraycopyName, .static arraycopyName, .initialized "java/lang/System"] ++ wsX00)
def wsX0_weigh_r1 : List Cond := [Cond.fieldLink RX0 52 "FormationPlanner$Assigner" "size" "I", Cond.fieldLink RX0 17 "FormationPlanner$Assigner" "trial" "[I", Cond.methodLink RX0 80 Lib.Math.max.name, Cond.static Lib.Math.max.name, Cond.initialized "java/lang/Math", Cond.code Lib.Math.max.name Lib.Math.max.code 2 (some .int), Cond.fieldLink RX0 53 "FormationPlanner$Assigner" "all" "I", Cond.fieldLink RX0 83 "FormationPlanner$Assigner" "greatest" "I", Cond.fieldLink RX0 86 "FormationPlanner$Assigner" "alike" "I", Cond.fieldLink RX0 93 "FormationPlanner$Assigner" "sum" "I", Cond.methodLink RX0 74 yX0_time, Cond.instanceMethod yX0_time, Cond.selects RX0 yX0_time yX0_time, Cond.initialized RX0, Cond.code yX0_time cX0_time 3 (some .int), Cond.fieldLink RX0 11 "FormationPlanner$Assigner" "toSlot" "[LFormationPlanner$TimesTo;", Cond.fieldLink RX0 24 "FormationPlanner$Assigner" "scene" "LFormationPlanner$Scene;", Cond.fieldLink RX0 31 "FormationPlanner$Scene" "drones" "LFormationPlanner$Places;", Cond.methodLink RX0 56 yX5_cellAt, Cond.instanceMethod yX5_cellAt, Cond.selects RX5 yX5_cellAt yX5_cellAt, Cond.initialized RX5, Cond.code yX5_cellAt cX5_cellAt 2 (some .int), Cond.fieldLink RX5 9 "FormationPlanner$Places" "cells" "[I"]
def wsX0_weigh_r2 : List Cond := [Cond.methodLink RX5 19 yX5_has, Cond.instanceMethod yX5_has, Cond.selects RX5 yX5_has yX5_has, Cond.code yX5_has cX5_has 2 (some .boolean), Cond.fieldLink RX5 15 "FormationPlanner$Places" "size" "I", Cond.methodLink RX0 77 yX9_timeFrom, Cond.instanceMethod yX9_timeFrom, Cond.selects RX9 yX9_timeFrom yX9_timeFrom, Cond.initialized RX9, Cond.code yX9_timeFrom cX9_timeFrom 2 (some .int), Cond.fieldLink RX9 9 "FormationPlanner$TimesTo" "times" "[I", Cond.static yX10_isCell, Cond.initialized RX10, Cond.code yX10_isCell cX10_isCell 1 (some .boolean), Cond.methodLink RX0 89 yX0_take, Cond.instanceMethod yX0_take, Cond.selects RX0 yX0_take yX0_take, Cond.code yX0_take cX0_take 3 none, Cond.fieldLink RX0 21 "FormationPlanner$Assigner" "best" "[I", Cond.methodLink RX0 96 arraycopyName, Cond.native arraycopyName, Cond.static arraycopyName, Cond.initialized "java/lang/System"]
def wsX0_weigh : List Cond := .code yX0_weigh cX0_weigh 5 none :: ((wsX0_weigh_r1 ++ wsX0_weigh_r2) ++ wsX00 ++ wsX80 ++ wsX50 ++ wsX90)
def wsX0_swap : List Cond := .code yX0_swap cX0_swap 4 none :: ([.fieldLink RX0 17 "FormationPlanner$Assigner" "trial" "[I"] ++ wsX00)
def wsX0_nextTrial : List Cond := .code yX0_nextTrial cX0_nextTrial 5 (some .boolean) :: ([.fieldLink RX0 52 "FormationPlanner$Assigner" "size" "I", .methodLink RX0 46 Lib.Math.min.name, .static Lib.Math.min.name, .initialized "java/lang/Math", .code Lib.Math.min.name Lib.Math.min.code 2 (some .int), .fieldLink RX0 17 "FormationPlanner$Assigner" "trial" "[I", .methodLink RX0 102 yX0_swap, .instanceMethod yX0_swap, .selects RX0 yX0_swap yX0_swap, .initialized RX0, .code yX0_swap cX0_swap 4 none] ++ wsX00)
def wsX0_assign_r1 : List Cond := [Cond.fieldLink RX0 24 "FormationPlanner$Assigner" "scene" "LFormationPlanner$Scene;", Cond.fieldLink RX0 31 "FormationPlanner$Scene" "drones" "LFormationPlanner$Places;", Cond.fieldLink RX0 37 "FormationPlanner$Places" "size" "I", Cond.fieldLink RX0 43 "FormationPlanner$Scene" "slots" "LFormationPlanner$Places;", Cond.methodLink RX0 46 Lib.Math.min.name, Cond.static Lib.Math.min.name, Cond.initialized "java/lang/Math", Cond.code Lib.Math.min.name Lib.Math.min.code 2 (some .int), Cond.fieldLink RX0 52 "FormationPlanner$Assigner" "size" "I", Cond.fieldLink RX0 53 "FormationPlanner$Assigner" "all" "I", Cond.fieldLink RX0 11 "FormationPlanner$Assigner" "toSlot" "[LFormationPlanner$TimesTo;", Cond.fieldLink RX0 17 "FormationPlanner$Assigner" "trial" "[I", Cond.methodLink RX0 56 yX5_cellAt, Cond.instanceMethod yX5_cellAt, Cond.selects RX5 yX5_cellAt yX5_cellAt, Cond.initialized RX5, Cond.code yX5_cellAt cX5_cellAt 2 (some .int), Cond.fieldLink RX5 9 "FormationPlanner$Places" "cells" "[I", Cond.methodLink RX5 19 yX5_has, Cond.instanceMethod yX5_has, Cond.selects RX5 yX5_has yX5_has, Cond.code yX5_has cX5_has 2 (some .boolean), Cond.fieldLink RX5 15 "FormationPlanner$Places" "size" "I", Cond.methodLink RX0 60 yX9_measure]
def wsX0_assign_r2 : List Cond := [Cond.instanceMethod yX9_measure, Cond.selects RX9 yX9_measure yX9_measure, Cond.initialized RX9, Cond.code yX9_measure cX9_measure 5 none, Cond.fieldLink RX9 9 "FormationPlanner$TimesTo" "times" "[I", Cond.fieldLink RX9 15 "FormationPlanner$TimesTo" "lattice" "LFormationPlanner$Lattice;", Cond.fieldLink RX9 29 "FormationPlanner$Lattice" "scene" "LFormationPlanner$Scene;", Cond.fieldLink RX9 35 "FormationPlanner$Scene" "obstacles" "[I", Cond.methodLink RX9 44 Lib.Math.max.name, Cond.static Lib.Math.max.name, Cond.code Lib.Math.max.name Lib.Math.max.code 2 (some .int), Cond.methodLink RX9 19 yJ7_fill_53178, Cond.static yJ7_fill_53178, Cond.initialized RJ7, Cond.code yJ7_fill_53178 cJ7_fill_53178 4 none, Cond.static yX10_isCell, Cond.initialized RX10, Cond.code yX10_isCell cX10_isCell 1 (some .boolean), Cond.methodLink RX9 40 yX9_spreadBack, Cond.instanceMethod yX9_spreadBack, Cond.selects RX9 yX9_spreadBack yX9_spreadBack, Cond.code yX9_spreadBack cX9_spreadBack 7 (some .int), Cond.methodLink RX9 49 yX4_next, Cond.instanceMethod yX4_next]
def wsX0_assign_r3 : List Cond := [Cond.selects RX4 yX4_next yX4_next, Cond.initialized RX4, Cond.code yX4_next cX4_next 4 (some .int), Cond.fieldLink RX4 9 "FormationPlanner$Lattice" "neighbours" "[I", Cond.fieldLink RX4 15 "FormationPlanner$Lattice" "scene" "LFormationPlanner$Scene;", Cond.fieldLink RX4 30 "FormationPlanner$Scene" "obstacles" "[I", Cond.static yX10_isAction, Cond.code yX10_isAction cX10_isAction 1 (some .boolean), Cond.methodLink RX9 56 yX4_ticks, Cond.instanceMethod yX4_ticks, Cond.selects RX4 yX4_ticks yX4_ticks, Cond.code yX4_ticks cX4_ticks 4 (some .int), Cond.fieldLink RX4 35 "FormationPlanner$Scene" "winds" "[I", Cond.methodLink RX0 64 yX0_weigh, Cond.instanceMethod yX0_weigh, Cond.selects RX0 yX0_weigh yX0_weigh, Cond.initialized RX0, Cond.code yX0_weigh cX0_weigh 5 none, Cond.methodLink RX0 80 Lib.Math.max.name, Cond.fieldLink RX0 83 "FormationPlanner$Assigner" "greatest" "I", Cond.fieldLink RX0 86 "FormationPlanner$Assigner" "alike" "I", Cond.fieldLink RX0 93 "FormationPlanner$Assigner" "sum" "I", Cond.methodLink RX0 74 yX0_time, Cond.instanceMethod yX0_time]
def wsX0_assign_r4 : List Cond := [Cond.selects RX0 yX0_time yX0_time, Cond.code yX0_time cX0_time 3 (some .int), Cond.methodLink RX0 77 yX9_timeFrom, Cond.instanceMethod yX9_timeFrom, Cond.selects RX9 yX9_timeFrom yX9_timeFrom, Cond.code yX9_timeFrom cX9_timeFrom 2 (some .int), Cond.methodLink RX0 89 yX0_take, Cond.instanceMethod yX0_take, Cond.selects RX0 yX0_take yX0_take, Cond.code yX0_take cX0_take 3 none, Cond.fieldLink RX0 21 "FormationPlanner$Assigner" "best" "[I", Cond.methodLink RX0 96 arraycopyName, Cond.native arraycopyName, Cond.static arraycopyName, Cond.initialized "java/lang/System", Cond.methodLink RX0 67 yX0_nextTrial, Cond.instanceMethod yX0_nextTrial, Cond.selects RX0 yX0_nextTrial yX0_nextTrial, Cond.code yX0_nextTrial cX0_nextTrial 5 (some .boolean), Cond.methodLink RX0 102 yX0_swap, Cond.instanceMethod yX0_swap, Cond.selects RX0 yX0_swap yX0_swap, Cond.code yX0_swap cX0_swap 4 none]
def wsX0_assign : List Cond := .code yX0_assign cX0_assign 3 (some .int) :: ((wsX0_assign_r1 ++ (wsX0_assign_r2 ++ (wsX0_assign_r3 ++ wsX0_assign_r4))) ++ wsX00 ++ wsX80 ++ wsX50 ++ wsX90 ++ wsX40)
def wsX0_slotOf : List Cond := .code yX0_slotOf cX0_slotOf 2 (some .int) :: ([.fieldLink RX0 21 "FormationPlanner$Assigner" "best" "[I"] ++ wsX00)
def wsX0_timeOf_r1 : List Cond := [Cond.methodLink RX0 71 yX0_slotOf, Cond.instanceMethod yX0_slotOf, Cond.selects RX0 yX0_slotOf yX0_slotOf, Cond.initialized RX0, Cond.code yX0_slotOf cX0_slotOf 2 (some .int), Cond.fieldLink RX0 21 "FormationPlanner$Assigner" "best" "[I", Cond.methodLink RX0 74 yX0_time, Cond.instanceMethod yX0_time, Cond.selects RX0 yX0_time yX0_time, Cond.code yX0_time cX0_time 3 (some .int), Cond.fieldLink RX0 11 "FormationPlanner$Assigner" "toSlot" "[LFormationPlanner$TimesTo;", Cond.fieldLink RX0 24 "FormationPlanner$Assigner" "scene" "LFormationPlanner$Scene;", Cond.fieldLink RX0 31 "FormationPlanner$Scene" "drones" "LFormationPlanner$Places;", Cond.methodLink RX0 56 yX5_cellAt, Cond.instanceMethod yX5_cellAt, Cond.selects RX5 yX5_cellAt yX5_cellAt, Cond.initialized RX5, Cond.code yX5_cellAt cX5_cellAt 2 (some .int), Cond.fieldLink RX5 9 "FormationPlanner$Places" "cells" "[I", Cond.methodLink RX5 19 yX5_has, Cond.instanceMethod yX5_has, Cond.selects RX5 yX5_has yX5_has, Cond.code yX5_has cX5_has 2 (some .boolean), Cond.fieldLink RX5 15 "FormationPlanner$Places" "size" "I"]
def wsX0_timeOf_r2 : List Cond := [Cond.methodLink RX0 77 yX9_timeFrom, Cond.instanceMethod yX9_timeFrom, Cond.selects RX9 yX9_timeFrom yX9_timeFrom, Cond.initialized RX9, Cond.code yX9_timeFrom cX9_timeFrom 2 (some .int), Cond.fieldLink RX9 9 "FormationPlanner$TimesTo" "times" "[I", Cond.static yX10_isCell, Cond.initialized RX10, Cond.code yX10_isCell cX10_isCell 1 (some .boolean)]
def wsX0_timeOf : List Cond := .code yX0_timeOf cX0_timeOf 2 (some .int) :: ((wsX0_timeOf_r1 ++ wsX0_timeOf_r2) ++ wsX00 ++ wsX80 ++ wsX50 ++ wsX90)
def wsX1_init : List Cond := .code yX1_init cX1_init 1 none :: ([.methodLink RX1 3 objectInit, .instanceMethod objectInit, .code objectInit ⟨#[0xb1]⟩ 1 none, .arrayClass .int, .fieldLink RX1 9 "FormationPlanner$Flight" "cells" "[I", .fieldLink RX1 15 "FormationPlanner$Flight" "actions" "[I"] ++ wsX10)
def wsX1_begin : List Cond := .code yX1_begin cX1_begin 2 none :: ([.fieldLink RX1 18 "FormationPlanner$Flight" "arrival" "I", .fieldLink RX1 9 "FormationPlanner$Flight" "cells" "[I", .fieldLink RX1 15 "FormationPlanner$Flight" "actions" "[I", .methodLink RX1 22 yJ7_fill_53178, .static yJ7_fill_53178, .initialized RJ7, .code yJ7_fill_53178 cJ7_fill_53178 4 none] ++ wsX10)
def wsX1_add : List Cond := .code yX1_add cX1_add 5 none :: ([.fieldLink RX1 18 "FormationPlanner$Flight" "arrival" "I", .fieldLink RX1 15 "FormationPlanner$Flight" "actions" "[I", .methodLink RX1 28 Lib.Math.max.name, .static Lib.Math.max.name, .initialized "java/lang/Math", .code Lib.Math.max.name Lib.Math.max.code 2 (some .int), .fieldLink RX1 9 "FormationPlanner$Flight" "cells" "[I"] ++ wsX10)
def wsX1_cellAt : List Cond := .code yX1_cellAt cX1_cellAt 2 (some .int) :: ([.fieldLink RX1 9 "FormationPlanner$Flight" "cells" "[I", .methodLink RX1 34 Lib.Math.min.name, .static Lib.Math.min.name, .initialized "java/lang/Math", .code Lib.Math.min.name Lib.Math.min.code 2 (some .int), .methodLink RX1 28 Lib.Math.max.name, .static Lib.Math.max.name, .code Lib.Math.max.name Lib.Math.max.code 2 (some .int)] ++ wsX10)
def wsX1_actionAt : List Cond := .code yX1_actionAt cX1_actionAt 2 (some .int) :: ([.fieldLink RX1 18 "FormationPlanner$Flight" "arrival" "I", .fieldLink RX1 15 "FormationPlanner$Flight" "actions" "[I"] ++ wsX10)
def wsX1_meets : List Cond := .code yX1_meets cX1_meets 4 (some .boolean) :: ([.methodLink RX1 37 yX1_cellAt, .instanceMethod yX1_cellAt, .selects RX1 yX1_cellAt yX1_cellAt, .initialized RX1, .code yX1_cellAt cX1_cellAt 2 (some .int), .fieldLink RX1 9 "FormationPlanner$Flight" "cells" "[I", .methodLink RX1 34 Lib.Math.min.name, .static Lib.Math.min.name, .initialized "java/lang/Math", .code Lib.Math.min.name Lib.Math.min.code 2 (some .int), .methodLink RX1 28 Lib.Math.max.name, .static Lib.Math.max.name, .code Lib.Math.max.name Lib.Math.max.code 2 (some .int)] ++ wsX10)
def wsX5_init : List Cond := .code yX5_init cX5_init 1 none :: ([.methodLink RX5 3 objectInit, .instanceMethod objectInit, .code objectInit ⟨#[0xb1]⟩ 1 none, .arrayClass .int, .fieldLink RX5 9 "FormationPlanner$Places" "cells" "[I"] ++ wsX50)
def wsX2_init : List Cond := .code yX2_init cX2_init 1 none :: ([.methodLink RX2 3 objectInit, .instanceMethod objectInit, .code objectInit ⟨#[0xb1]⟩ 1 none, .arrayClass .int, .fieldLink RX2 9 "FormationPlanner$Formation" "signs" "[I", .classLink RX2 15 RX5, .instantiable RX5 2, .initialized RX5, .fieldLink RX2 18 "FormationPlanner$Formation" "places" "LFormationPlanner$Places;", .instanceMethod yX5_init, .code yX5_init cX5_init 1 none, .methodLink RX5 3 objectInit, .fieldLink RX5 9 "FormationPlanner$Places" "cells" "[I"] ++ wsX20 ++ wsX50)
def wsX2_lengthen : List Cond := .code yX2_lengthen cX2_lengthen 4 (some .boolean) :: ([.fieldLink RX2 22 "FormationPlanner$Formation" "length" "I", .fieldLink RX2 9 "FormationPlanner$Formation" "signs" "[I"] ++ wsX20)
def wsX5_clear : List Cond := .code yX5_clear cX5_clear 1 none :: ([.fieldLink RX5 15 "FormationPlanner$Places" "size" "I"] ++ wsX50)
def wsX2_signHere : List Cond := .code yX2_signHere cX2_signHere 1 (some .int) :: ([.fieldLink RX2 26 "FormationPlanner$Formation" "offset" "I", .fieldLink RX2 22 "FormationPlanner$Formation" "length" "I", .fieldLink RX2 9 "FormationPlanner$Formation" "signs" "[I"] ++ wsX20)
def wsX5_find : List Cond := .code yX5_find cX5_find 3 (some .int) :: ([.fieldLink RX5 15 "FormationPlanner$Places" "size" "I", .fieldLink RX5 9 "FormationPlanner$Places" "cells" "[I"] ++ wsX50)
def wsX5_add : List Cond := .code yX5_add cX5_add 2 none :: ([.fieldLink RX5 15 "FormationPlanner$Places" "size" "I", .fieldLink RX5 9 "FormationPlanner$Places" "cells" "[I"] ++ wsX50)
def wsX2_note : List Cond := .code yX2_note cX2_note 2 none :: ([.fieldLink RX2 18 "FormationPlanner$Formation" "places" "LFormationPlanner$Places;", .fieldLink RX2 29 "FormationPlanner$Formation" "repeats" "Z", .methodLink RX2 51 yX5_find, .instanceMethod yX5_find, .selects RX5 yX5_find yX5_find, .initialized RX5, .code yX5_find cX5_find 3 (some .int), .fieldLink RX5 15 "FormationPlanner$Places" "size" "I", .fieldLink RX5 9 "FormationPlanner$Places" "cells" "[I", .methodLink RX2 55 yX5_add, .instanceMethod yX5_add, .selects RX5 yX5_add yX5_add, .code yX5_add cX5_add 2 none] ++ wsX20 ++ wsX50)
def wsX2_readPosition_r1 : List Cond := [Cond.fieldLink RX2 26 "FormationPlanner$Formation" "offset" "I", Cond.methodLink RX2 44 yX2_signHere, Cond.instanceMethod yX2_signHere, Cond.selects RX2 yX2_signHere yX2_signHere, Cond.initialized RX2, Cond.code yX2_signHere cX2_signHere 1 (some .int), Cond.fieldLink RX2 22 "FormationPlanner$Formation" "length" "I", Cond.fieldLink RX2 9 "FormationPlanner$Formation" "signs" "[I", Cond.methodLink RX2 47 yX2_note, Cond.instanceMethod yX2_note, Cond.selects RX2 yX2_note yX2_note, Cond.code yX2_note cX2_note 2 none, Cond.fieldLink RX2 18 "FormationPlanner$Formation" "places" "LFormationPlanner$Places;", Cond.fieldLink RX2 29 "FormationPlanner$Formation" "repeats" "Z", Cond.methodLink RX2 51 yX5_find, Cond.instanceMethod yX5_find, Cond.selects RX5 yX5_find yX5_find, Cond.initialized RX5, Cond.code yX5_find cX5_find 3 (some .int), Cond.fieldLink RX5 15 "FormationPlanner$Places" "size" "I", Cond.fieldLink RX5 9 "FormationPlanner$Places" "cells" "[I", Cond.methodLink RX2 55 yX5_add, Cond.instanceMethod yX5_add, Cond.selects RX5 yX5_add yX5_add]
def wsX2_readPosition_r2 : List Cond := [Cond.code yX5_add cX5_add 2 none]
def wsX2_readPosition : List Cond := .code yX2_readPosition cX2_readPosition 4 (some .boolean) :: ((wsX2_readPosition_r1 ++ wsX2_readPosition_r2) ++ wsX20 ++ wsX50)
def wsX2_readPositions_r1 : List Cond := [Cond.fieldLink RX2 26 "FormationPlanner$Formation" "offset" "I", Cond.fieldLink RX2 22 "FormationPlanner$Formation" "length" "I", Cond.methodLink RX2 40 yX2_readPosition, Cond.instanceMethod yX2_readPosition, Cond.selects RX2 yX2_readPosition yX2_readPosition, Cond.initialized RX2, Cond.code yX2_readPosition cX2_readPosition 4 (some .boolean), Cond.methodLink RX2 44 yX2_signHere, Cond.instanceMethod yX2_signHere, Cond.selects RX2 yX2_signHere yX2_signHere, Cond.code yX2_signHere cX2_signHere 1 (some .int), Cond.fieldLink RX2 9 "FormationPlanner$Formation" "signs" "[I", Cond.methodLink RX2 47 yX2_note, Cond.instanceMethod yX2_note, Cond.selects RX2 yX2_note yX2_note, Cond.code yX2_note cX2_note 2 none, Cond.fieldLink RX2 18 "FormationPlanner$Formation" "places" "LFormationPlanner$Places;", Cond.fieldLink RX2 29 "FormationPlanner$Formation" "repeats" "Z", Cond.methodLink RX2 51 yX5_find, Cond.instanceMethod yX5_find, Cond.selects RX5 yX5_find yX5_find, Cond.initialized RX5, Cond.code yX5_find cX5_find 3 (some .int), Cond.fieldLink RX5 15 "FormationPlanner$Places" "size" "I"]
def wsX2_readPositions_r2 : List Cond := [Cond.fieldLink RX5 9 "FormationPlanner$Places" "cells" "[I", Cond.methodLink RX2 55 yX5_add, Cond.instanceMethod yX5_add, Cond.selects RX5 yX5_add yX5_add, Cond.code yX5_add cX5_add 2 none]
def wsX2_readPositions : List Cond := .code yX2_readPositions cX2_readPositions 2 (some .int) :: ((wsX2_readPositions_r1 ++ wsX2_readPositions_r2) ++ wsX20 ++ wsX50)
def wsX2_read_r1 : List Cond := [Cond.fieldLink RX2 26 "FormationPlanner$Formation" "offset" "I", Cond.fieldLink RX2 29 "FormationPlanner$Formation" "repeats" "Z", Cond.fieldLink RX2 18 "FormationPlanner$Formation" "places" "LFormationPlanner$Places;", Cond.fieldLink RX2 22 "FormationPlanner$Formation" "length" "I", Cond.methodLink RX2 33 yX5_clear, Cond.instanceMethod yX5_clear, Cond.selects RX5 yX5_clear yX5_clear, Cond.initialized RX5, Cond.code yX5_clear cX5_clear 1 none, Cond.fieldLink RX5 15 "FormationPlanner$Places" "size" "I", Cond.methodLink RX2 36 yX2_readPositions, Cond.instanceMethod yX2_readPositions, Cond.selects RX2 yX2_readPositions yX2_readPositions, Cond.initialized RX2, Cond.code yX2_readPositions cX2_readPositions 2 (some .int), Cond.methodLink RX2 40 yX2_readPosition, Cond.instanceMethod yX2_readPosition, Cond.selects RX2 yX2_readPosition yX2_readPosition, Cond.code yX2_readPosition cX2_readPosition 4 (some .boolean), Cond.methodLink RX2 44 yX2_signHere, Cond.instanceMethod yX2_signHere, Cond.selects RX2 yX2_signHere yX2_signHere, Cond.code yX2_signHere cX2_signHere 1 (some .int), Cond.fieldLink RX2 9 "FormationPlanner$Formation" "signs" "[I"]
def wsX2_read_r2 : List Cond := [Cond.methodLink RX2 47 yX2_note, Cond.instanceMethod yX2_note, Cond.selects RX2 yX2_note yX2_note, Cond.code yX2_note cX2_note 2 none, Cond.methodLink RX2 51 yX5_find, Cond.instanceMethod yX5_find, Cond.selects RX5 yX5_find yX5_find, Cond.code yX5_find cX5_find 3 (some .int), Cond.fieldLink RX5 9 "FormationPlanner$Places" "cells" "[I", Cond.methodLink RX2 55 yX5_add, Cond.instanceMethod yX5_add, Cond.selects RX5 yX5_add yX5_add, Cond.code yX5_add cX5_add 2 none]
def wsX2_read : List Cond := .code yX2_read cX2_read 2 (some .int) :: ((wsX2_read_r1 ++ wsX2_read_r2) ++ wsX20 ++ wsX50)
def wsX8_init : List Cond := .code yX8_init cX8_init 1 none :: ([.methodLink RX8 3 objectInit, .instanceMethod objectInit, .code objectInit ⟨#[0xb1]⟩ 1 none, .arrayClass .int, .fieldLink RX8 9 "FormationPlanner$Scene" "winds" "[I", .fieldLink RX8 15 "FormationPlanner$Scene" "obstacles" "[I", .classLink RX8 18 RX5, .instantiable RX5 2, .initialized RX5, .fieldLink RX8 21 "FormationPlanner$Scene" "drones" "LFormationPlanner$Places;", .fieldLink RX8 25 "FormationPlanner$Scene" "slots" "LFormationPlanner$Places;", .instanceMethod yX5_init, .code yX5_init cX5_init 1 none, .methodLink RX5 3 objectInit, .fieldLink RX5 9 "FormationPlanner$Places" "cells" "[I"] ++ wsX80 ++ wsX50)
def wsX3_init : List Cond := .code yX3_init cX3_init 2 none :: ([.methodLink RX3 3 objectInit, .instanceMethod objectInit, .code objectInit ⟨#[0xb1]⟩ 1 none, .classLink RX3 9 RX8, .fieldLink RX3 11 "FormationPlanner$History" "scenes" "[LFormationPlanner$Scene;", .instantiable RX8 5, .initialized RX8, .instanceMethod yX8_init, .code yX8_init cX8_init 1 none, .methodLink RX8 3 objectInit, .arrayClass .int, .fieldLink RX8 9 "FormationPlanner$Scene" "winds" "[I", .fieldLink RX8 15 "FormationPlanner$Scene" "obstacles" "[I", .classLink RX8 18 RX5, .instantiable RX5 2, .initialized RX5, .fieldLink RX8 21 "FormationPlanner$Scene" "drones" "LFormationPlanner$Places;", .fieldLink RX8 25 "FormationPlanner$Scene" "slots" "LFormationPlanner$Places;", .instanceMethod yX5_init, .code yX5_init cX5_init 1 none, .methodLink RX5 3 objectInit, .fieldLink RX5 9 "FormationPlanner$Places" "cells" "[I"] ++ wsX30 ++ wsX80 ++ wsX50)
def wsJ9_floorMod_7cf53 : List Cond := .code yJ9_floorMod_7cf53 cJ9_floorMod_7cf53 3 (some .int) :: ([])
def wsX5_copyFrom : List Cond := .code yX5_copyFrom cX5_copyFrom 2 none :: ([.fieldLink RX5 9 "FormationPlanner$Places" "cells" "[I", .methodLink RX5 23 arraycopyName, .native arraycopyName, .static arraycopyName, .initialized "java/lang/System", .fieldLink RX5 15 "FormationPlanner$Places" "size" "I"] ++ wsX50)
def wsX8_copyFrom : List Cond := .code yX8_copyFrom cX8_copyFrom 2 none :: ([.fieldLink RX8 9 "FormationPlanner$Scene" "winds" "[I", .methodLink RX8 43 arraycopyName, .native arraycopyName, .static arraycopyName, .initialized "java/lang/System", .fieldLink RX8 15 "FormationPlanner$Scene" "obstacles" "[I", .fieldLink RX8 21 "FormationPlanner$Scene" "drones" "LFormationPlanner$Places;", .fieldLink RX8 25 "FormationPlanner$Scene" "slots" "LFormationPlanner$Places;", .fieldLink RX8 53 "FormationPlanner$Scene" "flown" "I", .methodLink RX8 49 yX5_copyFrom, .instanceMethod yX5_copyFrom, .selects RX5 yX5_copyFrom yX5_copyFrom, .initialized RX5, .code yX5_copyFrom cX5_copyFrom 2 none, .fieldLink RX5 9 "FormationPlanner$Places" "cells" "[I", .methodLink RX5 23 arraycopyName, .fieldLink RX5 15 "FormationPlanner$Places" "size" "I"] ++ wsX80 ++ wsX50)
def wsX3_keep_r1 : List Cond := [Cond.fieldLink RX3 11 "FormationPlanner$History" "scenes" "[LFormationPlanner$Scene;", Cond.fieldLink RX3 18 "FormationPlanner$History" "next" "I", Cond.fieldLink RX3 32 "FormationPlanner$History" "size" "I", Cond.methodLink RX3 35 Lib.Math.min.name, Cond.static Lib.Math.min.name, Cond.initialized "java/lang/Math", Cond.code Lib.Math.min.name Lib.Math.min.code 2 (some .int), Cond.methodLink RX3 22 yJ9_floorMod_7cf53, Cond.static yJ9_floorMod_7cf53, Cond.initialized RJ9, Cond.code yJ9_floorMod_7cf53 cJ9_floorMod_7cf53 3 (some .int), Cond.methodLink RX3 28 yX8_copyFrom, Cond.instanceMethod yX8_copyFrom, Cond.selects RX8 yX8_copyFrom yX8_copyFrom, Cond.initialized RX8, Cond.code yX8_copyFrom cX8_copyFrom 2 none, Cond.fieldLink RX8 9 "FormationPlanner$Scene" "winds" "[I", Cond.methodLink RX8 43 arraycopyName, Cond.native arraycopyName, Cond.static arraycopyName, Cond.initialized "java/lang/System", Cond.fieldLink RX8 15 "FormationPlanner$Scene" "obstacles" "[I", Cond.fieldLink RX8 21 "FormationPlanner$Scene" "drones" "LFormationPlanner$Places;", Cond.fieldLink RX8 25 "FormationPlanner$Scene" "slots" "LFormationPlanner$Places;"]
def wsX3_keep_r2 : List Cond := [Cond.fieldLink RX8 53 "FormationPlanner$Scene" "flown" "I", Cond.methodLink RX8 49 yX5_copyFrom, Cond.instanceMethod yX5_copyFrom, Cond.selects RX5 yX5_copyFrom yX5_copyFrom, Cond.initialized RX5, Cond.code yX5_copyFrom cX5_copyFrom 2 none, Cond.fieldLink RX5 9 "FormationPlanner$Places" "cells" "[I", Cond.methodLink RX5 23 arraycopyName, Cond.fieldLink RX5 15 "FormationPlanner$Places" "size" "I"]
def wsX3_keep : List Cond := .code yX3_keep cX3_keep 2 none :: ((wsX3_keep_r1 ++ wsX3_keep_r2) ++ wsX30 ++ wsX80 ++ wsX50)
def wsX3_bringBack_r1 : List Cond := [Cond.fieldLink RX3 32 "FormationPlanner$History" "size" "I", Cond.fieldLink RX3 18 "FormationPlanner$History" "next" "I", Cond.fieldLink RX3 11 "FormationPlanner$History" "scenes" "[LFormationPlanner$Scene;", Cond.methodLink RX3 22 yJ9_floorMod_7cf53, Cond.static yJ9_floorMod_7cf53, Cond.initialized RJ9, Cond.code yJ9_floorMod_7cf53 cJ9_floorMod_7cf53 3 (some .int), Cond.methodLink RX3 28 yX8_copyFrom, Cond.instanceMethod yX8_copyFrom, Cond.selects RX8 yX8_copyFrom yX8_copyFrom, Cond.initialized RX8, Cond.code yX8_copyFrom cX8_copyFrom 2 none, Cond.fieldLink RX8 9 "FormationPlanner$Scene" "winds" "[I", Cond.methodLink RX8 43 arraycopyName, Cond.native arraycopyName, Cond.static arraycopyName, Cond.initialized "java/lang/System", Cond.fieldLink RX8 15 "FormationPlanner$Scene" "obstacles" "[I", Cond.fieldLink RX8 21 "FormationPlanner$Scene" "drones" "LFormationPlanner$Places;", Cond.fieldLink RX8 25 "FormationPlanner$Scene" "slots" "LFormationPlanner$Places;", Cond.fieldLink RX8 53 "FormationPlanner$Scene" "flown" "I", Cond.methodLink RX8 49 yX5_copyFrom, Cond.instanceMethod yX5_copyFrom, Cond.selects RX5 yX5_copyFrom yX5_copyFrom]
def wsX3_bringBack_r2 : List Cond := [Cond.initialized RX5, Cond.code yX5_copyFrom cX5_copyFrom 2 none, Cond.fieldLink RX5 9 "FormationPlanner$Places" "cells" "[I", Cond.methodLink RX5 23 arraycopyName, Cond.fieldLink RX5 15 "FormationPlanner$Places" "size" "I"]
def wsX3_bringBack : List Cond := .code yX3_bringBack cX3_bringBack 2 (some .boolean) :: ((wsX3_bringBack_r1 ++ wsX3_bringBack_r2) ++ wsX30 ++ wsX80 ++ wsX50)
def wsX10_isLayer : List Cond := .code yX10_isLayer cX10_isLayer 1 (some .boolean) :: ([])
def wsX4_neighbour : List Cond := .code yX4_neighbour cX4_neighbour 6 (some .int) :: ([.static yX10_isAction, .initialized RX10, .code yX10_isAction cX10_isAction 1 (some .boolean), .static yX10_isLayer, .code yX10_isLayer cX10_isLayer 1 (some .boolean)])
def wsX4_init : List Cond := .code yX4_init cX4_init 4 none :: ([.methodLink RX4 3 objectInit, .instanceMethod objectInit, .code objectInit ⟨#[0xb1]⟩ 1 none, .arrayClass .int, .fieldLink RX4 9 "FormationPlanner$Lattice" "neighbours" "[I", .fieldLink RX4 15 "FormationPlanner$Lattice" "scene" "LFormationPlanner$Scene;", .methodLink RX4 19 yX4_neighbour, .static yX4_neighbour, .initialized RX4, .code yX4_neighbour cX4_neighbour 6 (some .int), .static yX10_isAction, .initialized RX10, .code yX10_isAction cX10_isAction 1 (some .boolean), .static yX10_isLayer, .code yX10_isLayer cX10_isLayer 1 (some .boolean)] ++ wsX40)
def wsX5_remove : List Cond := .code yX5_remove cX5_remove 3 (some .boolean) :: ([.fieldLink RX5 15 "FormationPlanner$Places" "size" "I", .fieldLink RX5 9 "FormationPlanner$Places" "cells" "[I", .methodLink RX5 19 yX5_has, .instanceMethod yX5_has, .selects RX5 yX5_has yX5_has, .initialized RX5, .code yX5_has cX5_has 2 (some .boolean)] ++ wsX50)
def wsX5_move : List Cond := .code yX5_move cX5_move 3 none :: ([.fieldLink RX5 9 "FormationPlanner$Places" "cells" "[I", .methodLink RX5 19 yX5_has, .instanceMethod yX5_has, .selects RX5 yX5_has yX5_has, .initialized RX5, .code yX5_has cX5_has 2 (some .boolean), .fieldLink RX5 15 "FormationPlanner$Places" "size" "I"] ++ wsX50)
def wsX7_init : List Cond := .code yX7_init cX7_init 2 none :: ([.methodLink RX7 3 objectInit, .instanceMethod objectInit, .code objectInit ⟨#[0xb1]⟩ 1 none, .arrayClass .int, .fieldLink RX7 9 "FormationPlanner$Router" "holders" "[I", .fieldLink RX7 15 "FormationPlanner$Router" "usable" "[I", .fieldLink RX7 18 "FormationPlanner$Router" "lattice" "LFormationPlanner$Lattice;"] ++ wsX70)
def wsX6_init_r1 : List Cond := [Cond.methodLink RX6 3 objectInit, Cond.instanceMethod objectInit, Cond.code objectInit ⟨#[0xb1]⟩ 1 none, Cond.classLink RX6 9 RX1, Cond.fieldLink RX6 11 "FormationPlanner$Plan" "flights" "[LFormationPlanner$Flight;", Cond.fieldLink RX6 17 "FormationPlanner$Plan" "ways" "[LFormationPlanner$Flight;", Cond.arrayClass .int, Cond.fieldLink RX6 20 "FormationPlanner$Plan" "order" "[I", Cond.fieldLink RX6 24 "FormationPlanner$Plan" "stuckDrone" "I", Cond.fieldLink RX6 28 "FormationPlanner$Plan" "scene" "LFormationPlanner$Scene;", Cond.fieldLink RX6 32 "FormationPlanner$Plan" "lattice" "LFormationPlanner$Lattice;", Cond.classLink RX6 36 RX9, Cond.instantiable RX9 2, Cond.initialized RX9, Cond.fieldLink RX6 41 "FormationPlanner$Plan" "timesTo" "LFormationPlanner$TimesTo;", Cond.classLink RX6 45 RX7, Cond.instantiable RX7 3, Cond.initialized RX7, Cond.fieldLink RX6 48 "FormationPlanner$Plan" "router" "LFormationPlanner$Router;", Cond.instantiable RX1 5, Cond.initialized RX1, Cond.methodLink RX6 38 yX9_init, Cond.instanceMethod yX9_init, Cond.code yX9_init cX9_init 2 none]
def wsX6_init_r2 : List Cond := [Cond.methodLink RX9 3 objectInit, Cond.fieldLink RX9 9 "FormationPlanner$TimesTo" "times" "[I", Cond.fieldLink RX9 15 "FormationPlanner$TimesTo" "lattice" "LFormationPlanner$Lattice;", Cond.methodLink RX6 47 yX7_init, Cond.instanceMethod yX7_init, Cond.code yX7_init cX7_init 2 none, Cond.methodLink RX7 3 objectInit, Cond.fieldLink RX7 9 "FormationPlanner$Router" "holders" "[I", Cond.fieldLink RX7 15 "FormationPlanner$Router" "usable" "[I", Cond.fieldLink RX7 18 "FormationPlanner$Router" "lattice" "LFormationPlanner$Lattice;", Cond.instanceMethod yX1_init, Cond.code yX1_init cX1_init 1 none, Cond.methodLink RX1 3 objectInit, Cond.fieldLink RX1 9 "FormationPlanner$Flight" "cells" "[I", Cond.fieldLink RX1 15 "FormationPlanner$Flight" "actions" "[I"]
def wsX6_init : List Cond := .code yX6_init cX6_init 4 none :: ((wsX6_init_r1 ++ wsX6_init_r2) ++ wsX60 ++ wsX90 ++ wsX70 ++ wsX10)
def wsX6_discard : List Cond := .code yX6_discard cX6_discard 1 none :: ([.fieldLink RX6 53 "FormationPlanner$Plan" "stands" "Z", .fieldLink RX6 24 "FormationPlanner$Plan" "stuckDrone" "I"] ++ wsX60)
def wsX6_flightOf : List Cond := .code yX6_flightOf cX6_flightOf 2 (some (.object "FormationPlanner$Flight")) :: ([.fieldLink RX6 11 "FormationPlanner$Plan" "flights" "[LFormationPlanner$Flight;", .methodLink RX6 68 Lib.Math.min.name, .static Lib.Math.min.name, .initialized "java/lang/Math", .code Lib.Math.min.name Lib.Math.min.code 2 (some .int), .methodLink RX6 116 Lib.Math.max.name, .static Lib.Math.max.name, .code Lib.Math.max.name Lib.Math.max.code 2 (some .int)] ++ wsX60)
def wsX6_takeOrder_r1 : List Cond := [Cond.fieldLink RX6 74 "FormationPlanner$Plan" "size" "I", Cond.fieldLink RX6 123 "FormationPlanner$Flight" "position" "I", Cond.fieldLink RX6 126 "FormationPlanner$Flight" "slot" "I", Cond.fieldLink RX6 20 "FormationPlanner$Plan" "order" "[I", Cond.methodLink RX6 162 yX0_timeOf, Cond.instanceMethod yX0_timeOf, Cond.selects RX0 yX0_timeOf yX0_timeOf, Cond.initialized RX0, Cond.code yX0_timeOf cX0_timeOf 2 (some .int), Cond.methodLink RX0 71 yX0_slotOf, Cond.instanceMethod yX0_slotOf, Cond.selects RX0 yX0_slotOf yX0_slotOf, Cond.code yX0_slotOf cX0_slotOf 2 (some .int), Cond.fieldLink RX0 21 "FormationPlanner$Assigner" "best" "[I", Cond.methodLink RX0 74 yX0_time, Cond.instanceMethod yX0_time, Cond.selects RX0 yX0_time yX0_time, Cond.code yX0_time cX0_time 3 (some .int), Cond.fieldLink RX0 11 "FormationPlanner$Assigner" "toSlot" "[LFormationPlanner$TimesTo;", Cond.fieldLink RX0 24 "FormationPlanner$Assigner" "scene" "LFormationPlanner$Scene;", Cond.fieldLink RX0 31 "FormationPlanner$Scene" "drones" "LFormationPlanner$Places;", Cond.methodLink RX0 56 yX5_cellAt, Cond.instanceMethod yX5_cellAt, Cond.selects RX5 yX5_cellAt yX5_cellAt]
def wsX6_takeOrder_r2 : List Cond := [Cond.initialized RX5, Cond.code yX5_cellAt cX5_cellAt 2 (some .int), Cond.fieldLink RX5 9 "FormationPlanner$Places" "cells" "[I", Cond.methodLink RX5 19 yX5_has, Cond.instanceMethod yX5_has, Cond.selects RX5 yX5_has yX5_has, Cond.code yX5_has cX5_has 2 (some .boolean), Cond.fieldLink RX5 15 "FormationPlanner$Places" "size" "I", Cond.methodLink RX0 77 yX9_timeFrom, Cond.instanceMethod yX9_timeFrom, Cond.selects RX9 yX9_timeFrom yX9_timeFrom, Cond.initialized RX9, Cond.code yX9_timeFrom cX9_timeFrom 2 (some .int), Cond.fieldLink RX9 9 "FormationPlanner$TimesTo" "times" "[I", Cond.static yX10_isCell, Cond.initialized RX10, Cond.code yX10_isCell cX10_isCell 1 (some .boolean), Cond.methodLink RX6 104 yX6_flightOf, Cond.instanceMethod yX6_flightOf, Cond.selects RX6 yX6_flightOf yX6_flightOf, Cond.initialized RX6, Cond.code yX6_flightOf cX6_flightOf 2 (some (.object "FormationPlanner$Flight")), Cond.fieldLink RX6 11 "FormationPlanner$Plan" "flights" "[LFormationPlanner$Flight;", Cond.methodLink RX6 68 Lib.Math.min.name]
def wsX6_takeOrder_r3 : List Cond := [Cond.static Lib.Math.min.name, Cond.initialized "java/lang/Math", Cond.code Lib.Math.min.name Lib.Math.min.code 2 (some .int), Cond.methodLink RX6 116 Lib.Math.max.name, Cond.static Lib.Math.max.name, Cond.code Lib.Math.max.name Lib.Math.max.code 2 (some .int), Cond.methodLink RX6 165 yX0_slotOf]
def wsX6_takeOrder : List Cond := .code yX6_takeOrder cX6_takeOrder 6 none :: ((wsX6_takeOrder_r1 ++ (wsX6_takeOrder_r2 ++ wsX6_takeOrder_r3)) ++ wsX60 ++ wsX10 ++ wsX00 ++ wsX80 ++ wsX50 ++ wsX90)
def wsX7_free : List Cond := .code yX7_free cX7_free 1 none :: ([.fieldLink RX7 9 "FormationPlanner$Router" "holders" "[I", .methodLink RX7 22 yJ7_fill_53178, .static yJ7_fill_53178, .initialized RJ7, .code yJ7_fill_53178 cJ7_fill_53178 4 none] ++ wsX70)
def wsX6_goalOf_r1 : List Cond := [Cond.fieldLink RX6 28 "FormationPlanner$Plan" "scene" "LFormationPlanner$Scene;", Cond.fieldLink RX6 168 "FormationPlanner$Scene" "slots" "LFormationPlanner$Places;", Cond.fieldLink RX6 126 "FormationPlanner$Flight" "slot" "I", Cond.methodLink RX6 104 yX6_flightOf, Cond.instanceMethod yX6_flightOf, Cond.selects RX6 yX6_flightOf yX6_flightOf, Cond.initialized RX6, Cond.code yX6_flightOf cX6_flightOf 2 (some (.object "FormationPlanner$Flight")), Cond.fieldLink RX6 11 "FormationPlanner$Plan" "flights" "[LFormationPlanner$Flight;", Cond.methodLink RX6 68 Lib.Math.min.name, Cond.static Lib.Math.min.name, Cond.initialized "java/lang/Math", Cond.code Lib.Math.min.name Lib.Math.min.code 2 (some .int), Cond.methodLink RX6 116 Lib.Math.max.name, Cond.static Lib.Math.max.name, Cond.code Lib.Math.max.name Lib.Math.max.code 2 (some .int), Cond.methodLink RX6 88 yX5_cellAt, Cond.instanceMethod yX5_cellAt, Cond.selects RX5 yX5_cellAt yX5_cellAt, Cond.initialized RX5, Cond.code yX5_cellAt cX5_cellAt 2 (some .int), Cond.fieldLink RX5 9 "FormationPlanner$Places" "cells" "[I", Cond.methodLink RX5 19 yX5_has, Cond.instanceMethod yX5_has]
def wsX6_goalOf_r2 : List Cond := [Cond.selects RX5 yX5_has yX5_has, Cond.code yX5_has cX5_has 2 (some .boolean), Cond.fieldLink RX5 15 "FormationPlanner$Places" "size" "I"]
def wsX6_goalOf : List Cond := .code yX6_goalOf cX6_goalOf 2 (some .int) :: ((wsX6_goalOf_r1 ++ wsX6_goalOf_r2) ++ wsX60 ++ wsX80 ++ wsX10 ++ wsX50)
def wsX7_spot : List Cond := .code yX7_spot cX7_spot 2 (some .int) :: ([.static yX10_isCell, .initialized RX10, .code yX10_isCell cX10_isCell 1 (some .boolean)])
def wsX7_mark : List Cond := .code yX7_mark cX7_mark 3 none :: ([.fieldLink RX7 15 "FormationPlanner$Router" "usable" "[I"] ++ wsX70)
def wsX7_freeFrom : List Cond := .code yX7_freeFrom cX7_freeFrom 5 (some .int) :: ([.fieldLink RX7 9 "FormationPlanner$Router" "holders" "[I", .methodLink RX7 34 yX7_spot, .static yX7_spot, .initialized RX7, .code yX7_spot cX7_spot 2 (some .int), .static yX10_isCell, .initialized RX10, .code yX10_isCell cX10_isCell 1 (some .boolean)] ++ wsX70)
def wsX7_isUsable : List Cond := .code yX7_isUsable cX7_isUsable 2 (some .boolean) :: ([.fieldLink RX7 15 "FormationPlanner$Router" "usable" "[I"] ++ wsX70)
def wsX7_canStep : List Cond := .code yX7_canStep cX7_canStep 7 (some .boolean) :: ([.fieldLink RX7 9 "FormationPlanner$Router" "holders" "[I", .static yX10_isCell, .initialized RX10, .code yX10_isCell cX10_isCell 1 (some .boolean)] ++ wsX70)
def wsX7_landing_r1 : List Cond := [Cond.fieldLink RX7 18 "FormationPlanner$Router" "lattice" "LFormationPlanner$Lattice;", Cond.methodLink RX7 63 yX4_next, Cond.instanceMethod yX4_next, Cond.selects RX4 yX4_next yX4_next, Cond.initialized RX4, Cond.code yX4_next cX4_next 4 (some .int), Cond.fieldLink RX4 9 "FormationPlanner$Lattice" "neighbours" "[I", Cond.fieldLink RX4 15 "FormationPlanner$Lattice" "scene" "LFormationPlanner$Scene;", Cond.fieldLink RX4 30 "FormationPlanner$Scene" "obstacles" "[I", Cond.static yX10_isCell, Cond.initialized RX10, Cond.code yX10_isCell cX10_isCell 1 (some .boolean), Cond.static yX10_isAction, Cond.code yX10_isAction cX10_isAction 1 (some .boolean), Cond.methodLink RX7 68 yX4_ticks, Cond.instanceMethod yX4_ticks, Cond.selects RX4 yX4_ticks yX4_ticks, Cond.code yX4_ticks cX4_ticks 4 (some .int), Cond.fieldLink RX4 35 "FormationPlanner$Scene" "winds" "[I", Cond.methodLink RX7 79 yX7_canStep, Cond.instanceMethod yX7_canStep, Cond.selects RX7 yX7_canStep yX7_canStep, Cond.initialized RX7, Cond.code yX7_canStep cX7_canStep 7 (some .boolean)]
def wsX7_landing_r2 : List Cond := [Cond.fieldLink RX7 9 "FormationPlanner$Router" "holders" "[I", Cond.methodLink RX7 34 yX7_spot, Cond.static yX7_spot, Cond.code yX7_spot cX7_spot 2 (some .int)]
def wsX7_landing : List Cond := .code yX7_landing cX7_landing 6 (some .int) :: ((wsX7_landing_r1 ++ wsX7_landing_r2) ++ wsX70 ++ wsX40 ++ wsX80)
def wsX7_spread_r1 : List Cond := [Cond.methodLink RX7 75 yX7_landing, Cond.instanceMethod yX7_landing, Cond.selects RX7 yX7_landing yX7_landing, Cond.initialized RX7, Cond.code yX7_landing cX7_landing 6 (some .int), Cond.fieldLink RX7 18 "FormationPlanner$Router" "lattice" "LFormationPlanner$Lattice;", Cond.methodLink RX7 63 yX4_next, Cond.instanceMethod yX4_next, Cond.selects RX4 yX4_next yX4_next, Cond.initialized RX4, Cond.code yX4_next cX4_next 4 (some .int), Cond.fieldLink RX4 9 "FormationPlanner$Lattice" "neighbours" "[I", Cond.fieldLink RX4 15 "FormationPlanner$Lattice" "scene" "LFormationPlanner$Scene;", Cond.fieldLink RX4 30 "FormationPlanner$Scene" "obstacles" "[I", Cond.static yX10_isCell, Cond.initialized RX10, Cond.code yX10_isCell cX10_isCell 1 (some .boolean), Cond.static yX10_isAction, Cond.code yX10_isAction cX10_isAction 1 (some .boolean), Cond.methodLink RX7 68 yX4_ticks, Cond.instanceMethod yX4_ticks, Cond.selects RX4 yX4_ticks yX4_ticks, Cond.code yX4_ticks cX4_ticks 4 (some .int), Cond.fieldLink RX4 35 "FormationPlanner$Scene" "winds" "[I"]
def wsX7_spread_r2 : List Cond := [Cond.methodLink RX7 79 yX7_canStep, Cond.instanceMethod yX7_canStep, Cond.selects RX7 yX7_canStep yX7_canStep, Cond.code yX7_canStep cX7_canStep 7 (some .boolean), Cond.fieldLink RX7 9 "FormationPlanner$Router" "holders" "[I", Cond.methodLink RX7 34 yX7_spot, Cond.static yX7_spot, Cond.code yX7_spot cX7_spot 2 (some .int), Cond.methodLink RX7 38 yX7_mark, Cond.instanceMethod yX7_mark, Cond.selects RX7 yX7_mark yX7_mark, Cond.code yX7_mark cX7_mark 3 none, Cond.fieldLink RX7 15 "FormationPlanner$Router" "usable" "[I"]
def wsX7_spread : List Cond := .code yX7_spread cX7_spread 4 none :: ((wsX7_spread_r1 ++ wsX7_spread_r2) ++ wsX70 ++ wsX40 ++ wsX80)
def wsX7_earliestArrival_r1 : List Cond := [Cond.fieldLink RX7 15 "FormationPlanner$Router" "usable" "[I", Cond.methodLink RX7 22 yJ7_fill_53178, Cond.static yJ7_fill_53178, Cond.initialized RJ7, Cond.code yJ7_fill_53178 cJ7_fill_53178 4 none, Cond.methodLink RX7 34 yX7_spot, Cond.static yX7_spot, Cond.initialized RX7, Cond.code yX7_spot cX7_spot 2 (some .int), Cond.static yX10_isCell, Cond.initialized RX10, Cond.code yX10_isCell cX10_isCell 1 (some .boolean), Cond.methodLink RX7 38 yX7_mark, Cond.instanceMethod yX7_mark, Cond.selects RX7 yX7_mark yX7_mark, Cond.code yX7_mark cX7_mark 3 none, Cond.methodLink RX7 42 yX7_freeFrom, Cond.instanceMethod yX7_freeFrom, Cond.selects RX7 yX7_freeFrom yX7_freeFrom, Cond.code yX7_freeFrom cX7_freeFrom 5 (some .int), Cond.fieldLink RX7 9 "FormationPlanner$Router" "holders" "[I", Cond.methodLink RX7 45 yX7_isUsable, Cond.instanceMethod yX7_isUsable, Cond.selects RX7 yX7_isUsable yX7_isUsable]
def wsX7_earliestArrival_r2 : List Cond := [Cond.code yX7_isUsable cX7_isUsable 2 (some .boolean), Cond.methodLink RX7 49 yX7_spread, Cond.instanceMethod yX7_spread, Cond.selects RX7 yX7_spread yX7_spread, Cond.code yX7_spread cX7_spread 4 none, Cond.methodLink RX7 75 yX7_landing, Cond.instanceMethod yX7_landing, Cond.selects RX7 yX7_landing yX7_landing, Cond.code yX7_landing cX7_landing 6 (some .int), Cond.fieldLink RX7 18 "FormationPlanner$Router" "lattice" "LFormationPlanner$Lattice;", Cond.methodLink RX7 63 yX4_next, Cond.instanceMethod yX4_next, Cond.selects RX4 yX4_next yX4_next, Cond.initialized RX4, Cond.code yX4_next cX4_next 4 (some .int), Cond.fieldLink RX4 9 "FormationPlanner$Lattice" "neighbours" "[I", Cond.fieldLink RX4 15 "FormationPlanner$Lattice" "scene" "LFormationPlanner$Scene;", Cond.fieldLink RX4 30 "FormationPlanner$Scene" "obstacles" "[I", Cond.static yX10_isAction, Cond.code yX10_isAction cX10_isAction 1 (some .boolean), Cond.methodLink RX7 68 yX4_ticks, Cond.instanceMethod yX4_ticks, Cond.selects RX4 yX4_ticks yX4_ticks, Cond.code yX4_ticks cX4_ticks 4 (some .int)]
def wsX7_earliestArrival_r3 : List Cond := [Cond.fieldLink RX4 35 "FormationPlanner$Scene" "winds" "[I", Cond.methodLink RX7 79 yX7_canStep, Cond.instanceMethod yX7_canStep, Cond.selects RX7 yX7_canStep yX7_canStep, Cond.code yX7_canStep cX7_canStep 7 (some .boolean)]
def wsX7_earliestArrival : List Cond := .code yX7_earliestArrival cX7_earliestArrival 6 (some .int) :: ((wsX7_earliestArrival_r1 ++ (wsX7_earliestArrival_r2 ++ wsX7_earliestArrival_r3)) ++ wsX70 ++ wsX40 ++ wsX80)
def wsX7_leastAction_r1 : List Cond := [Cond.methodLink RX7 75 yX7_landing, Cond.instanceMethod yX7_landing, Cond.selects RX7 yX7_landing yX7_landing, Cond.initialized RX7, Cond.code yX7_landing cX7_landing 6 (some .int), Cond.fieldLink RX7 18 "FormationPlanner$Router" "lattice" "LFormationPlanner$Lattice;", Cond.methodLink RX7 63 yX4_next, Cond.instanceMethod yX4_next, Cond.selects RX4 yX4_next yX4_next, Cond.initialized RX4, Cond.code yX4_next cX4_next 4 (some .int), Cond.fieldLink RX4 9 "FormationPlanner$Lattice" "neighbours" "[I", Cond.fieldLink RX4 15 "FormationPlanner$Lattice" "scene" "LFormationPlanner$Scene;", Cond.fieldLink RX4 30 "FormationPlanner$Scene" "obstacles" "[I", Cond.static yX10_isCell, Cond.initialized RX10, Cond.code yX10_isCell cX10_isCell 1 (some .boolean), Cond.static yX10_isAction, Cond.code yX10_isAction cX10_isAction 1 (some .boolean), Cond.methodLink RX7 68 yX4_ticks, Cond.instanceMethod yX4_ticks, Cond.selects RX4 yX4_ticks yX4_ticks, Cond.code yX4_ticks cX4_ticks 4 (some .int), Cond.fieldLink RX4 35 "FormationPlanner$Scene" "winds" "[I"]
def wsX7_leastAction_r2 : List Cond := [Cond.methodLink RX7 79 yX7_canStep, Cond.instanceMethod yX7_canStep, Cond.selects RX7 yX7_canStep yX7_canStep, Cond.code yX7_canStep cX7_canStep 7 (some .boolean), Cond.fieldLink RX7 9 "FormationPlanner$Router" "holders" "[I", Cond.methodLink RX7 34 yX7_spot, Cond.static yX7_spot, Cond.code yX7_spot cX7_spot 2 (some .int), Cond.methodLink RX7 45 yX7_isUsable, Cond.instanceMethod yX7_isUsable, Cond.selects RX7 yX7_isUsable yX7_isUsable, Cond.code yX7_isUsable cX7_isUsable 2 (some .boolean), Cond.fieldLink RX7 15 "FormationPlanner$Router" "usable" "[I"]
def wsX7_leastAction : List Cond := .code yX7_leastAction cX7_leastAction 4 (some .int) :: ((wsX7_leastAction_r1 ++ wsX7_leastAction_r2) ++ wsX70 ++ wsX40 ++ wsX80)
def wsX7_prune_r1 : List Cond := [Cond.methodLink RX7 34 yX7_spot, Cond.static yX7_spot, Cond.initialized RX7, Cond.code yX7_spot cX7_spot 2 (some .int), Cond.static yX10_isCell, Cond.initialized RX10, Cond.code yX10_isCell cX10_isCell 1 (some .boolean), Cond.methodLink RX7 45 yX7_isUsable, Cond.instanceMethod yX7_isUsable, Cond.selects RX7 yX7_isUsable yX7_isUsable, Cond.code yX7_isUsable cX7_isUsable 2 (some .boolean), Cond.fieldLink RX7 15 "FormationPlanner$Router" "usable" "[I", Cond.methodLink RX7 52 yX7_leastAction, Cond.instanceMethod yX7_leastAction, Cond.selects RX7 yX7_leastAction yX7_leastAction, Cond.code yX7_leastAction cX7_leastAction 4 (some .int), Cond.methodLink RX7 75 yX7_landing, Cond.instanceMethod yX7_landing, Cond.selects RX7 yX7_landing yX7_landing, Cond.code yX7_landing cX7_landing 6 (some .int), Cond.fieldLink RX7 18 "FormationPlanner$Router" "lattice" "LFormationPlanner$Lattice;", Cond.methodLink RX7 63 yX4_next, Cond.instanceMethod yX4_next, Cond.selects RX4 yX4_next yX4_next]
def wsX7_prune_r2 : List Cond := [Cond.initialized RX4, Cond.code yX4_next cX4_next 4 (some .int), Cond.fieldLink RX4 9 "FormationPlanner$Lattice" "neighbours" "[I", Cond.fieldLink RX4 15 "FormationPlanner$Lattice" "scene" "LFormationPlanner$Scene;", Cond.fieldLink RX4 30 "FormationPlanner$Scene" "obstacles" "[I", Cond.static yX10_isAction, Cond.code yX10_isAction cX10_isAction 1 (some .boolean), Cond.methodLink RX7 68 yX4_ticks, Cond.instanceMethod yX4_ticks, Cond.selects RX4 yX4_ticks yX4_ticks, Cond.code yX4_ticks cX4_ticks 4 (some .int), Cond.fieldLink RX4 35 "FormationPlanner$Scene" "winds" "[I", Cond.methodLink RX7 79 yX7_canStep, Cond.instanceMethod yX7_canStep, Cond.selects RX7 yX7_canStep yX7_canStep, Cond.code yX7_canStep cX7_canStep 7 (some .boolean), Cond.fieldLink RX7 9 "FormationPlanner$Router" "holders" "[I", Cond.methodLink RX7 38 yX7_mark, Cond.instanceMethod yX7_mark, Cond.selects RX7 yX7_mark yX7_mark, Cond.code yX7_mark cX7_mark 3 none]
def wsX7_prune : List Cond := .code yX7_prune cX7_prune 7 none :: ((wsX7_prune_r1 ++ wsX7_prune_r2) ++ wsX70 ++ wsX40 ++ wsX80)
def wsX7_follow_r1 : List Cond := [Cond.fieldLink RX7 59 "FormationPlanner$Flight" "arrival" "I", Cond.fieldLink RX7 18 "FormationPlanner$Router" "lattice" "LFormationPlanner$Lattice;", Cond.methodLink RX7 55 yX1_begin, Cond.instanceMethod yX1_begin, Cond.selects RX1 yX1_begin yX1_begin, Cond.initialized RX1, Cond.code yX1_begin cX1_begin 2 none, Cond.fieldLink RX1 18 "FormationPlanner$Flight" "arrival" "I", Cond.fieldLink RX1 9 "FormationPlanner$Flight" "cells" "[I", Cond.fieldLink RX1 15 "FormationPlanner$Flight" "actions" "[I", Cond.methodLink RX1 22 yJ7_fill_53178, Cond.static yJ7_fill_53178, Cond.initialized RJ7, Cond.code yJ7_fill_53178 cJ7_fill_53178 4 none, Cond.methodLink RX7 52 yX7_leastAction, Cond.instanceMethod yX7_leastAction, Cond.selects RX7 yX7_leastAction yX7_leastAction, Cond.initialized RX7, Cond.code yX7_leastAction cX7_leastAction 4 (some .int), Cond.methodLink RX7 75 yX7_landing, Cond.instanceMethod yX7_landing, Cond.selects RX7 yX7_landing yX7_landing, Cond.code yX7_landing cX7_landing 6 (some .int), Cond.methodLink RX7 63 yX4_next]
def wsX7_follow_r2 : List Cond := [Cond.instanceMethod yX4_next, Cond.selects RX4 yX4_next yX4_next, Cond.initialized RX4, Cond.code yX4_next cX4_next 4 (some .int), Cond.fieldLink RX4 9 "FormationPlanner$Lattice" "neighbours" "[I", Cond.fieldLink RX4 15 "FormationPlanner$Lattice" "scene" "LFormationPlanner$Scene;", Cond.fieldLink RX4 30 "FormationPlanner$Scene" "obstacles" "[I", Cond.static yX10_isCell, Cond.initialized RX10, Cond.code yX10_isCell cX10_isCell 1 (some .boolean), Cond.static yX10_isAction, Cond.code yX10_isAction cX10_isAction 1 (some .boolean), Cond.methodLink RX7 68 yX4_ticks, Cond.instanceMethod yX4_ticks, Cond.selects RX4 yX4_ticks yX4_ticks, Cond.code yX4_ticks cX4_ticks 4 (some .int), Cond.fieldLink RX4 35 "FormationPlanner$Scene" "winds" "[I", Cond.methodLink RX7 79 yX7_canStep, Cond.instanceMethod yX7_canStep, Cond.selects RX7 yX7_canStep yX7_canStep, Cond.code yX7_canStep cX7_canStep 7 (some .boolean), Cond.fieldLink RX7 9 "FormationPlanner$Router" "holders" "[I", Cond.methodLink RX7 34 yX7_spot, Cond.static yX7_spot]
def wsX7_follow_r3 : List Cond := [Cond.code yX7_spot cX7_spot 2 (some .int), Cond.methodLink RX7 45 yX7_isUsable, Cond.instanceMethod yX7_isUsable, Cond.selects RX7 yX7_isUsable yX7_isUsable, Cond.code yX7_isUsable cX7_isUsable 2 (some .boolean), Cond.fieldLink RX7 15 "FormationPlanner$Router" "usable" "[I", Cond.methodLink RX7 71 yX1_add, Cond.instanceMethod yX1_add, Cond.selects RX1 yX1_add yX1_add, Cond.code yX1_add cX1_add 5 none, Cond.methodLink RX1 28 Lib.Math.max.name, Cond.static Lib.Math.max.name, Cond.initialized "java/lang/Math", Cond.code Lib.Math.max.name Lib.Math.max.code 2 (some .int)]
def wsX7_follow : List Cond := .code yX7_follow cX7_follow 8 none :: ((wsX7_follow_r1 ++ (wsX7_follow_r2 ++ wsX7_follow_r3)) ++ wsX10 ++ wsX70 ++ wsX40 ++ wsX80)
def wsX7_hold : List Cond := .code yX7_hold cX7_hold 5 none :: ([.fieldLink RX7 9 "FormationPlanner$Router" "holders" "[I", .methodLink RX7 28 yX1_cellAt, .instanceMethod yX1_cellAt, .selects RX1 yX1_cellAt yX1_cellAt, .initialized RX1, .code yX1_cellAt cX1_cellAt 2 (some .int), .fieldLink RX1 9 "FormationPlanner$Flight" "cells" "[I", .methodLink RX1 34 Lib.Math.min.name, .static Lib.Math.min.name, .initialized "java/lang/Math", .code Lib.Math.min.name Lib.Math.min.code 2 (some .int), .methodLink RX1 28 Lib.Math.max.name, .static Lib.Math.max.name, .code Lib.Math.max.name Lib.Math.max.code 2 (some .int), .methodLink RX7 34 yX7_spot, .static yX7_spot, .initialized RX7, .code yX7_spot cX7_spot 2 (some .int), .static yX10_isCell, .initialized RX10, .code yX10_isCell cX10_isCell 1 (some .boolean)] ++ wsX70 ++ wsX10)
def wsX6_make_r1 : List Cond := [Cond.fieldLink RX6 60 "FormationPlanner$Plan" "now" "I", Cond.fieldLink RX6 63 "FormationPlanner$Assigner" "size" "I", Cond.methodLink RX6 68 Lib.Math.min.name, Cond.static Lib.Math.min.name, Cond.initialized "java/lang/Math", Cond.code Lib.Math.min.name Lib.Math.min.code 2 (some .int), Cond.fieldLink RX6 74 "FormationPlanner$Plan" "size" "I", Cond.fieldLink RX6 48 "FormationPlanner$Plan" "router" "LFormationPlanner$Router;", Cond.fieldLink RX6 20 "FormationPlanner$Plan" "order" "[I", Cond.fieldLink RX6 28 "FormationPlanner$Plan" "scene" "LFormationPlanner$Scene;", Cond.fieldLink RX6 82 "FormationPlanner$Scene" "drones" "LFormationPlanner$Places;", Cond.fieldLink RX6 24 "FormationPlanner$Plan" "stuckDrone" "I", Cond.methodLink RX6 116 Lib.Math.max.name, Cond.static Lib.Math.max.name, Cond.code Lib.Math.max.name Lib.Math.max.code 2 (some .int), Cond.fieldLink RX6 53 "FormationPlanner$Plan" "stands" "Z", Cond.methodLink RX6 57 yX6_discard, Cond.instanceMethod yX6_discard, Cond.selects RX6 yX6_discard yX6_discard, Cond.initialized RX6, Cond.code yX6_discard cX6_discard 1 none, Cond.methodLink RX6 75 yX6_takeOrder, Cond.instanceMethod yX6_takeOrder, Cond.selects RX6 yX6_takeOrder yX6_takeOrder]
def wsX6_make_r2 : List Cond := [Cond.code yX6_takeOrder cX6_takeOrder 6 none, Cond.fieldLink RX6 123 "FormationPlanner$Flight" "position" "I", Cond.fieldLink RX6 126 "FormationPlanner$Flight" "slot" "I", Cond.methodLink RX6 162 yX0_timeOf, Cond.instanceMethod yX0_timeOf, Cond.selects RX0 yX0_timeOf yX0_timeOf, Cond.initialized RX0, Cond.code yX0_timeOf cX0_timeOf 2 (some .int), Cond.methodLink RX0 71 yX0_slotOf, Cond.instanceMethod yX0_slotOf, Cond.selects RX0 yX0_slotOf yX0_slotOf, Cond.code yX0_slotOf cX0_slotOf 2 (some .int), Cond.fieldLink RX0 21 "FormationPlanner$Assigner" "best" "[I", Cond.methodLink RX0 74 yX0_time, Cond.instanceMethod yX0_time, Cond.selects RX0 yX0_time yX0_time, Cond.code yX0_time cX0_time 3 (some .int), Cond.fieldLink RX0 11 "FormationPlanner$Assigner" "toSlot" "[LFormationPlanner$TimesTo;", Cond.fieldLink RX0 24 "FormationPlanner$Assigner" "scene" "LFormationPlanner$Scene;", Cond.fieldLink RX0 31 "FormationPlanner$Scene" "drones" "LFormationPlanner$Places;", Cond.methodLink RX0 56 yX5_cellAt, Cond.instanceMethod yX5_cellAt, Cond.selects RX5 yX5_cellAt yX5_cellAt, Cond.initialized RX5]
def wsX6_make_r3 : List Cond := [Cond.code yX5_cellAt cX5_cellAt 2 (some .int), Cond.fieldLink RX5 9 "FormationPlanner$Places" "cells" "[I", Cond.methodLink RX5 19 yX5_has, Cond.instanceMethod yX5_has, Cond.selects RX5 yX5_has yX5_has, Cond.code yX5_has cX5_has 2 (some .boolean), Cond.fieldLink RX5 15 "FormationPlanner$Places" "size" "I", Cond.methodLink RX0 77 yX9_timeFrom, Cond.instanceMethod yX9_timeFrom, Cond.selects RX9 yX9_timeFrom yX9_timeFrom, Cond.initialized RX9, Cond.code yX9_timeFrom cX9_timeFrom 2 (some .int), Cond.fieldLink RX9 9 "FormationPlanner$TimesTo" "times" "[I", Cond.static yX10_isCell, Cond.initialized RX10, Cond.code yX10_isCell cX10_isCell 1 (some .boolean), Cond.methodLink RX6 104 yX6_flightOf, Cond.instanceMethod yX6_flightOf, Cond.selects RX6 yX6_flightOf yX6_flightOf, Cond.code yX6_flightOf cX6_flightOf 2 (some (.object "FormationPlanner$Flight")), Cond.fieldLink RX6 11 "FormationPlanner$Plan" "flights" "[LFormationPlanner$Flight;", Cond.methodLink RX6 165 yX0_slotOf, Cond.methodLink RX6 79 yX7_free, Cond.instanceMethod yX7_free]
def wsX6_make_r4 : List Cond := [Cond.selects RX7 yX7_free yX7_free, Cond.initialized RX7, Cond.code yX7_free cX7_free 1 none, Cond.fieldLink RX7 9 "FormationPlanner$Router" "holders" "[I", Cond.methodLink RX7 22 yJ7_fill_53178, Cond.static yJ7_fill_53178, Cond.initialized RJ7, Cond.code yJ7_fill_53178 cJ7_fill_53178 4 none, Cond.methodLink RX6 88 yX5_cellAt, Cond.methodLink RX6 94 yX6_goalOf, Cond.instanceMethod yX6_goalOf, Cond.selects RX6 yX6_goalOf yX6_goalOf, Cond.code yX6_goalOf cX6_goalOf 2 (some .int), Cond.fieldLink RX6 168 "FormationPlanner$Scene" "slots" "LFormationPlanner$Places;", Cond.methodLink RX6 97 yX7_earliestArrival, Cond.instanceMethod yX7_earliestArrival, Cond.selects RX7 yX7_earliestArrival yX7_earliestArrival, Cond.code yX7_earliestArrival cX7_earliestArrival 6 (some .int), Cond.fieldLink RX7 15 "FormationPlanner$Router" "usable" "[I", Cond.methodLink RX7 34 yX7_spot, Cond.static yX7_spot, Cond.code yX7_spot cX7_spot 2 (some .int), Cond.methodLink RX7 38 yX7_mark, Cond.instanceMethod yX7_mark]
def wsX6_make_r5 : List Cond := [Cond.selects RX7 yX7_mark yX7_mark, Cond.code yX7_mark cX7_mark 3 none, Cond.methodLink RX7 42 yX7_freeFrom, Cond.instanceMethod yX7_freeFrom, Cond.selects RX7 yX7_freeFrom yX7_freeFrom, Cond.code yX7_freeFrom cX7_freeFrom 5 (some .int), Cond.methodLink RX7 45 yX7_isUsable, Cond.instanceMethod yX7_isUsable, Cond.selects RX7 yX7_isUsable yX7_isUsable, Cond.code yX7_isUsable cX7_isUsable 2 (some .boolean), Cond.methodLink RX7 49 yX7_spread, Cond.instanceMethod yX7_spread, Cond.selects RX7 yX7_spread yX7_spread, Cond.code yX7_spread cX7_spread 4 none, Cond.methodLink RX7 75 yX7_landing, Cond.instanceMethod yX7_landing, Cond.selects RX7 yX7_landing yX7_landing, Cond.code yX7_landing cX7_landing 6 (some .int), Cond.fieldLink RX7 18 "FormationPlanner$Router" "lattice" "LFormationPlanner$Lattice;", Cond.methodLink RX7 63 yX4_next, Cond.instanceMethod yX4_next, Cond.selects RX4 yX4_next yX4_next, Cond.initialized RX4, Cond.code yX4_next cX4_next 4 (some .int)]
def wsX6_make_r6 : List Cond := [Cond.fieldLink RX4 9 "FormationPlanner$Lattice" "neighbours" "[I", Cond.fieldLink RX4 15 "FormationPlanner$Lattice" "scene" "LFormationPlanner$Scene;", Cond.fieldLink RX4 30 "FormationPlanner$Scene" "obstacles" "[I", Cond.static yX10_isAction, Cond.code yX10_isAction cX10_isAction 1 (some .boolean), Cond.methodLink RX7 68 yX4_ticks, Cond.instanceMethod yX4_ticks, Cond.selects RX4 yX4_ticks yX4_ticks, Cond.code yX4_ticks cX4_ticks 4 (some .int), Cond.fieldLink RX4 35 "FormationPlanner$Scene" "winds" "[I", Cond.methodLink RX7 79 yX7_canStep, Cond.instanceMethod yX7_canStep, Cond.selects RX7 yX7_canStep yX7_canStep, Cond.code yX7_canStep cX7_canStep 7 (some .boolean), Cond.methodLink RX6 100 yX7_prune, Cond.instanceMethod yX7_prune, Cond.selects RX7 yX7_prune yX7_prune, Cond.code yX7_prune cX7_prune 7 none, Cond.methodLink RX7 52 yX7_leastAction, Cond.instanceMethod yX7_leastAction, Cond.selects RX7 yX7_leastAction yX7_leastAction, Cond.code yX7_leastAction cX7_leastAction 4 (some .int), Cond.methodLink RX6 108 yX7_follow, Cond.instanceMethod yX7_follow]
def wsX6_make_r7 : List Cond := [Cond.selects RX7 yX7_follow yX7_follow, Cond.code yX7_follow cX7_follow 8 none, Cond.fieldLink RX7 59 "FormationPlanner$Flight" "arrival" "I", Cond.methodLink RX7 55 yX1_begin, Cond.instanceMethod yX1_begin, Cond.selects RX1 yX1_begin yX1_begin, Cond.initialized RX1, Cond.code yX1_begin cX1_begin 2 none, Cond.fieldLink RX1 18 "FormationPlanner$Flight" "arrival" "I", Cond.fieldLink RX1 9 "FormationPlanner$Flight" "cells" "[I", Cond.fieldLink RX1 15 "FormationPlanner$Flight" "actions" "[I", Cond.methodLink RX1 22 yJ7_fill_53178, Cond.methodLink RX7 71 yX1_add, Cond.instanceMethod yX1_add, Cond.selects RX1 yX1_add yX1_add, Cond.code yX1_add cX1_add 5 none, Cond.methodLink RX1 28 Lib.Math.max.name, Cond.methodLink RX6 112 yX7_hold, Cond.instanceMethod yX7_hold, Cond.selects RX7 yX7_hold yX7_hold, Cond.code yX7_hold cX7_hold 5 none, Cond.methodLink RX7 28 yX1_cellAt, Cond.instanceMethod yX1_cellAt, Cond.selects RX1 yX1_cellAt yX1_cellAt]
def wsX6_make_r8 : List Cond := [Cond.code yX1_cellAt cX1_cellAt 2 (some .int), Cond.methodLink RX1 34 Lib.Math.min.name]
def wsX6_make : List Cond := .code yX6_make cX6_make 7 (some .int) :: ((wsX6_make_r1 ++ (wsX6_make_r2 ++ (wsX6_make_r3 ++ (wsX6_make_r4 ++ (wsX6_make_r5 ++ (wsX6_make_r6 ++ (wsX6_make_r7 ++ wsX6_make_r8))))))) ++ wsX60 ++ wsX00 ++ wsX80 ++ wsX10 ++ wsX50 ++ wsX90 ++ wsX70 ++ wsX40)
def wsX6_cellOfDrone : List Cond := .code yX6_cellOfDrone cX6_cellOfDrone 3 (some .int) :: ([.fieldLink RX6 60 "FormationPlanner$Plan" "now" "I", .methodLink RX6 104 yX6_flightOf, .instanceMethod yX6_flightOf, .selects RX6 yX6_flightOf yX6_flightOf, .initialized RX6, .code yX6_flightOf cX6_flightOf 2 (some (.object "FormationPlanner$Flight")), .fieldLink RX6 11 "FormationPlanner$Plan" "flights" "[LFormationPlanner$Flight;", .methodLink RX6 68 Lib.Math.min.name, .static Lib.Math.min.name, .initialized "java/lang/Math", .code Lib.Math.min.name Lib.Math.min.code 2 (some .int), .methodLink RX6 116 Lib.Math.max.name, .static Lib.Math.max.name, .code Lib.Math.max.name Lib.Math.max.code 2 (some .int), .methodLink RX6 119 yX1_cellAt, .instanceMethod yX1_cellAt, .selects RX1 yX1_cellAt yX1_cellAt, .initialized RX1, .code yX1_cellAt cX1_cellAt 2 (some .int), .fieldLink RX1 9 "FormationPlanner$Flight" "cells" "[I", .methodLink RX1 34 Lib.Math.min.name, .methodLink RX1 28 Lib.Math.max.name] ++ wsX60 ++ wsX10)
def wsX6_actionOfDrone : List Cond := .code yX6_actionOfDrone cX6_actionOfDrone 3 (some .int) :: ([.fieldLink RX6 60 "FormationPlanner$Plan" "now" "I", .methodLink RX6 104 yX6_flightOf, .instanceMethod yX6_flightOf, .selects RX6 yX6_flightOf yX6_flightOf, .initialized RX6, .code yX6_flightOf cX6_flightOf 2 (some (.object "FormationPlanner$Flight")), .fieldLink RX6 11 "FormationPlanner$Plan" "flights" "[LFormationPlanner$Flight;", .methodLink RX6 68 Lib.Math.min.name, .static Lib.Math.min.name, .initialized "java/lang/Math", .code Lib.Math.min.name Lib.Math.min.code 2 (some .int), .methodLink RX6 116 Lib.Math.max.name, .static Lib.Math.max.name, .code Lib.Math.max.name Lib.Math.max.code 2 (some .int), .methodLink RX6 120 yX1_actionAt, .instanceMethod yX1_actionAt, .selects RX1 yX1_actionAt yX1_actionAt, .initialized RX1, .code yX1_actionAt cX1_actionAt 2 (some .int), .fieldLink RX1 18 "FormationPlanner$Flight" "arrival" "I", .fieldLink RX1 15 "FormationPlanner$Flight" "actions" "[I"] ++ wsX60 ++ wsX10)
def wsX6_positionOf : List Cond := .code yX6_positionOf cX6_positionOf 2 (some .int) :: ([.fieldLink RX6 123 "FormationPlanner$Flight" "position" "I", .methodLink RX6 104 yX6_flightOf, .instanceMethod yX6_flightOf, .selects RX6 yX6_flightOf yX6_flightOf, .initialized RX6, .code yX6_flightOf cX6_flightOf 2 (some (.object "FormationPlanner$Flight")), .fieldLink RX6 11 "FormationPlanner$Plan" "flights" "[LFormationPlanner$Flight;", .methodLink RX6 68 Lib.Math.min.name, .static Lib.Math.min.name, .initialized "java/lang/Math", .code Lib.Math.min.name Lib.Math.min.code 2 (some .int), .methodLink RX6 116 Lib.Math.max.name, .static Lib.Math.max.name, .code Lib.Math.max.name Lib.Math.max.code 2 (some .int)] ++ wsX10 ++ wsX60)
def wsX6_slotOf : List Cond := .code yX6_slotOf cX6_slotOf 2 (some .int) :: ([.fieldLink RX6 126 "FormationPlanner$Flight" "slot" "I", .methodLink RX6 104 yX6_flightOf, .instanceMethod yX6_flightOf, .selects RX6 yX6_flightOf yX6_flightOf, .initialized RX6, .code yX6_flightOf cX6_flightOf 2 (some (.object "FormationPlanner$Flight")), .fieldLink RX6 11 "FormationPlanner$Plan" "flights" "[LFormationPlanner$Flight;", .methodLink RX6 68 Lib.Math.min.name, .static Lib.Math.min.name, .initialized "java/lang/Math", .code Lib.Math.min.name Lib.Math.min.code 2 (some .int), .methodLink RX6 116 Lib.Math.max.name, .static Lib.Math.max.name, .code Lib.Math.max.name Lib.Math.max.code 2 (some .int)] ++ wsX10 ++ wsX60)
def wsX6_ticksLeft : List Cond := .code yX6_ticksLeft cX6_ticksLeft 2 (some .int) :: ([.fieldLink RX6 129 "FormationPlanner$Flight" "arrival" "I", .fieldLink RX6 60 "FormationPlanner$Plan" "now" "I", .methodLink RX6 116 Lib.Math.max.name, .static Lib.Math.max.name, .initialized "java/lang/Math", .code Lib.Math.max.name Lib.Math.max.code 2 (some .int), .methodLink RX6 104 yX6_flightOf, .instanceMethod yX6_flightOf, .selects RX6 yX6_flightOf yX6_flightOf, .initialized RX6, .code yX6_flightOf cX6_flightOf 2 (some (.object "FormationPlanner$Flight")), .fieldLink RX6 11 "FormationPlanner$Plan" "flights" "[LFormationPlanner$Flight;", .methodLink RX6 68 Lib.Math.min.name, .static Lib.Math.min.name, .code Lib.Math.min.name Lib.Math.min.code 2 (some .int)] ++ wsX10 ++ wsX60)
def wsX6_waitsLeft : List Cond := .code yX6_waitsLeft cX6_waitsLeft 5 (some .int) :: ([.fieldLink RX6 60 "FormationPlanner$Plan" "now" "I", .fieldLink RX6 129 "FormationPlanner$Flight" "arrival" "I", .methodLink RX6 104 yX6_flightOf, .instanceMethod yX6_flightOf, .selects RX6 yX6_flightOf yX6_flightOf, .initialized RX6, .code yX6_flightOf cX6_flightOf 2 (some (.object "FormationPlanner$Flight")), .fieldLink RX6 11 "FormationPlanner$Plan" "flights" "[LFormationPlanner$Flight;", .methodLink RX6 68 Lib.Math.min.name, .static Lib.Math.min.name, .initialized "java/lang/Math", .code Lib.Math.min.name Lib.Math.min.code 2 (some .int), .methodLink RX6 116 Lib.Math.max.name, .static Lib.Math.max.name, .code Lib.Math.max.name Lib.Math.max.code 2 (some .int), .methodLink RX6 120 yX1_actionAt, .instanceMethod yX1_actionAt, .selects RX1 yX1_actionAt yX1_actionAt, .initialized RX1, .code yX1_actionAt cX1_actionAt 2 (some .int), .fieldLink RX1 18 "FormationPlanner$Flight" "arrival" "I", .fieldLink RX1 15 "FormationPlanner$Flight" "actions" "[I"] ++ wsX60 ++ wsX10)
def wsX6_timeWithoutOthers_r1 : List Cond := [Cond.fieldLink RX6 41 "FormationPlanner$Plan" "timesTo" "LFormationPlanner$TimesTo;", Cond.fieldLink RX6 28 "FormationPlanner$Plan" "scene" "LFormationPlanner$Scene;", Cond.fieldLink RX6 82 "FormationPlanner$Scene" "drones" "LFormationPlanner$Places;", Cond.methodLink RX6 94 yX6_goalOf, Cond.instanceMethod yX6_goalOf, Cond.selects RX6 yX6_goalOf yX6_goalOf, Cond.initialized RX6, Cond.code yX6_goalOf cX6_goalOf 2 (some .int), Cond.fieldLink RX6 168 "FormationPlanner$Scene" "slots" "LFormationPlanner$Places;", Cond.fieldLink RX6 126 "FormationPlanner$Flight" "slot" "I", Cond.methodLink RX6 104 yX6_flightOf, Cond.instanceMethod yX6_flightOf, Cond.selects RX6 yX6_flightOf yX6_flightOf, Cond.code yX6_flightOf cX6_flightOf 2 (some (.object "FormationPlanner$Flight")), Cond.fieldLink RX6 11 "FormationPlanner$Plan" "flights" "[LFormationPlanner$Flight;", Cond.methodLink RX6 68 Lib.Math.min.name, Cond.static Lib.Math.min.name, Cond.initialized "java/lang/Math", Cond.code Lib.Math.min.name Lib.Math.min.code 2 (some .int), Cond.methodLink RX6 116 Lib.Math.max.name, Cond.static Lib.Math.max.name, Cond.code Lib.Math.max.name Lib.Math.max.code 2 (some .int), Cond.methodLink RX6 88 yX5_cellAt, Cond.instanceMethod yX5_cellAt]
def wsX6_timeWithoutOthers_r2 : List Cond := [Cond.selects RX5 yX5_cellAt yX5_cellAt, Cond.initialized RX5, Cond.code yX5_cellAt cX5_cellAt 2 (some .int), Cond.fieldLink RX5 9 "FormationPlanner$Places" "cells" "[I", Cond.methodLink RX5 19 yX5_has, Cond.instanceMethod yX5_has, Cond.selects RX5 yX5_has yX5_has, Cond.code yX5_has cX5_has 2 (some .boolean), Cond.fieldLink RX5 15 "FormationPlanner$Places" "size" "I", Cond.methodLink RX6 132 yX9_measure, Cond.instanceMethod yX9_measure, Cond.selects RX9 yX9_measure yX9_measure, Cond.initialized RX9, Cond.code yX9_measure cX9_measure 5 none, Cond.fieldLink RX9 9 "FormationPlanner$TimesTo" "times" "[I", Cond.fieldLink RX9 15 "FormationPlanner$TimesTo" "lattice" "LFormationPlanner$Lattice;", Cond.fieldLink RX9 29 "FormationPlanner$Lattice" "scene" "LFormationPlanner$Scene;", Cond.fieldLink RX9 35 "FormationPlanner$Scene" "obstacles" "[I", Cond.methodLink RX9 44 Lib.Math.max.name, Cond.methodLink RX9 19 yJ7_fill_53178, Cond.static yJ7_fill_53178, Cond.initialized RJ7, Cond.code yJ7_fill_53178 cJ7_fill_53178 4 none, Cond.static yX10_isCell]
def wsX6_timeWithoutOthers_r3 : List Cond := [Cond.initialized RX10, Cond.code yX10_isCell cX10_isCell 1 (some .boolean), Cond.methodLink RX9 40 yX9_spreadBack, Cond.instanceMethod yX9_spreadBack, Cond.selects RX9 yX9_spreadBack yX9_spreadBack, Cond.code yX9_spreadBack cX9_spreadBack 7 (some .int), Cond.methodLink RX9 49 yX4_next, Cond.instanceMethod yX4_next, Cond.selects RX4 yX4_next yX4_next, Cond.initialized RX4, Cond.code yX4_next cX4_next 4 (some .int), Cond.fieldLink RX4 9 "FormationPlanner$Lattice" "neighbours" "[I", Cond.fieldLink RX4 15 "FormationPlanner$Lattice" "scene" "LFormationPlanner$Scene;", Cond.fieldLink RX4 30 "FormationPlanner$Scene" "obstacles" "[I", Cond.static yX10_isAction, Cond.code yX10_isAction cX10_isAction 1 (some .boolean), Cond.methodLink RX9 56 yX4_ticks, Cond.instanceMethod yX4_ticks, Cond.selects RX4 yX4_ticks yX4_ticks, Cond.code yX4_ticks cX4_ticks 4 (some .int), Cond.fieldLink RX4 35 "FormationPlanner$Scene" "winds" "[I", Cond.methodLink RX6 136 yX9_timeFrom, Cond.instanceMethod yX9_timeFrom, Cond.selects RX9 yX9_timeFrom yX9_timeFrom]
def wsX6_timeWithoutOthers_r4 : List Cond := [Cond.code yX9_timeFrom cX9_timeFrom 2 (some .int)]
def wsX6_timeWithoutOthers : List Cond := .code yX6_timeWithoutOthers cX6_timeWithoutOthers 2 (some .int) :: ((wsX6_timeWithoutOthers_r1 ++ (wsX6_timeWithoutOthers_r2 ++ (wsX6_timeWithoutOthers_r3 ++ wsX6_timeWithoutOthers_r4))) ++ wsX60 ++ wsX80 ++ wsX10 ++ wsX50 ++ wsX90 ++ wsX40)
def wsX9_firstAction_r1 : List Cond := [Cond.fieldLink RX9 15 "FormationPlanner$TimesTo" "lattice" "LFormationPlanner$Lattice;", Cond.methodLink RX9 49 yX4_next, Cond.instanceMethod yX4_next, Cond.selects RX4 yX4_next yX4_next, Cond.initialized RX4, Cond.code yX4_next cX4_next 4 (some .int), Cond.fieldLink RX4 9 "FormationPlanner$Lattice" "neighbours" "[I", Cond.fieldLink RX4 15 "FormationPlanner$Lattice" "scene" "LFormationPlanner$Scene;", Cond.fieldLink RX4 30 "FormationPlanner$Scene" "obstacles" "[I", Cond.static yX10_isCell, Cond.initialized RX10, Cond.code yX10_isCell cX10_isCell 1 (some .boolean), Cond.static yX10_isAction, Cond.code yX10_isAction cX10_isAction 1 (some .boolean), Cond.methodLink RX9 52 yX9_timeFrom, Cond.instanceMethod yX9_timeFrom, Cond.selects RX9 yX9_timeFrom yX9_timeFrom, Cond.initialized RX9, Cond.code yX9_timeFrom cX9_timeFrom 2 (some .int), Cond.fieldLink RX9 9 "FormationPlanner$TimesTo" "times" "[I", Cond.methodLink RX9 56 yX4_ticks, Cond.instanceMethod yX4_ticks, Cond.selects RX4 yX4_ticks yX4_ticks, Cond.code yX4_ticks cX4_ticks 4 (some .int)]
def wsX9_firstAction_r2 : List Cond := [Cond.fieldLink RX4 35 "FormationPlanner$Scene" "winds" "[I"]
def wsX9_firstAction : List Cond := .code yX9_firstAction cX9_firstAction 4 (some .int) :: ((wsX9_firstAction_r1 ++ wsX9_firstAction_r2) ++ wsX90 ++ wsX40 ++ wsX80)
def wsX6_isMet_r1 : List Cond := [Cond.fieldLink RX6 32 "FormationPlanner$Plan" "lattice" "LFormationPlanner$Lattice;", Cond.methodLink RX6 171 yX4_next, Cond.instanceMethod yX4_next, Cond.selects RX4 yX4_next yX4_next, Cond.initialized RX4, Cond.code yX4_next cX4_next 4 (some .int), Cond.fieldLink RX4 9 "FormationPlanner$Lattice" "neighbours" "[I", Cond.fieldLink RX4 15 "FormationPlanner$Lattice" "scene" "LFormationPlanner$Scene;", Cond.fieldLink RX4 30 "FormationPlanner$Scene" "obstacles" "[I", Cond.static yX10_isCell, Cond.initialized RX10, Cond.code yX10_isCell cX10_isCell 1 (some .boolean), Cond.static yX10_isAction, Cond.code yX10_isAction cX10_isAction 1 (some .boolean), Cond.methodLink RX6 176 yX4_ticks, Cond.instanceMethod yX4_ticks, Cond.selects RX4 yX4_ticks yX4_ticks, Cond.code yX4_ticks cX4_ticks 4 (some .int), Cond.fieldLink RX4 35 "FormationPlanner$Scene" "winds" "[I", Cond.methodLink RX6 119 yX1_cellAt, Cond.instanceMethod yX1_cellAt, Cond.selects RX1 yX1_cellAt yX1_cellAt, Cond.initialized RX1, Cond.code yX1_cellAt cX1_cellAt 2 (some .int)]
def wsX6_isMet_r2 : List Cond := [Cond.fieldLink RX1 9 "FormationPlanner$Flight" "cells" "[I", Cond.methodLink RX1 34 Lib.Math.min.name, Cond.static Lib.Math.min.name, Cond.initialized "java/lang/Math", Cond.code Lib.Math.min.name Lib.Math.min.code 2 (some .int), Cond.methodLink RX1 28 Lib.Math.max.name, Cond.static Lib.Math.max.name, Cond.code Lib.Math.max.name Lib.Math.max.code 2 (some .int)]
def wsX6_isMet : List Cond := .code yX6_isMet cX6_isMet 8 (some .boolean) :: ((wsX6_isMet_r1 ++ wsX6_isMet_r2) ++ wsX60 ++ wsX40 ++ wsX80 ++ wsX10)
def wsX6_hinderer_r1 : List Cond := [Cond.fieldLink RX6 60 "FormationPlanner$Plan" "now" "I", Cond.fieldLink RX6 129 "FormationPlanner$Flight" "arrival" "I", Cond.fieldLink RX6 41 "FormationPlanner$Plan" "timesTo" "LFormationPlanner$TimesTo;", Cond.fieldLink RX6 74 "FormationPlanner$Plan" "size" "I", Cond.fieldLink RX6 11 "FormationPlanner$Plan" "flights" "[LFormationPlanner$Flight;", Cond.fieldLink RX6 123 "FormationPlanner$Flight" "position" "I", Cond.methodLink RX6 104 yX6_flightOf, Cond.instanceMethod yX6_flightOf, Cond.selects RX6 yX6_flightOf yX6_flightOf, Cond.initialized RX6, Cond.code yX6_flightOf cX6_flightOf 2 (some (.object "FormationPlanner$Flight")), Cond.methodLink RX6 68 Lib.Math.min.name, Cond.static Lib.Math.min.name, Cond.initialized "java/lang/Math", Cond.code Lib.Math.min.name Lib.Math.min.code 2 (some .int), Cond.methodLink RX6 116 Lib.Math.max.name, Cond.static Lib.Math.max.name, Cond.code Lib.Math.max.name Lib.Math.max.code 2 (some .int), Cond.methodLink RX6 120 yX1_actionAt, Cond.instanceMethod yX1_actionAt, Cond.selects RX1 yX1_actionAt yX1_actionAt, Cond.initialized RX1, Cond.code yX1_actionAt cX1_actionAt 2 (some .int), Cond.fieldLink RX1 18 "FormationPlanner$Flight" "arrival" "I"]
def wsX6_hinderer_r2 : List Cond := [Cond.fieldLink RX1 15 "FormationPlanner$Flight" "actions" "[I", Cond.methodLink RX6 94 yX6_goalOf, Cond.instanceMethod yX6_goalOf, Cond.selects RX6 yX6_goalOf yX6_goalOf, Cond.code yX6_goalOf cX6_goalOf 2 (some .int), Cond.fieldLink RX6 28 "FormationPlanner$Plan" "scene" "LFormationPlanner$Scene;", Cond.fieldLink RX6 168 "FormationPlanner$Scene" "slots" "LFormationPlanner$Places;", Cond.fieldLink RX6 126 "FormationPlanner$Flight" "slot" "I", Cond.methodLink RX6 88 yX5_cellAt, Cond.instanceMethod yX5_cellAt, Cond.selects RX5 yX5_cellAt yX5_cellAt, Cond.initialized RX5, Cond.code yX5_cellAt cX5_cellAt 2 (some .int), Cond.fieldLink RX5 9 "FormationPlanner$Places" "cells" "[I", Cond.methodLink RX5 19 yX5_has, Cond.instanceMethod yX5_has, Cond.selects RX5 yX5_has yX5_has, Cond.code yX5_has cX5_has 2 (some .boolean), Cond.fieldLink RX5 15 "FormationPlanner$Places" "size" "I", Cond.methodLink RX6 132 yX9_measure, Cond.instanceMethod yX9_measure, Cond.selects RX9 yX9_measure yX9_measure, Cond.initialized RX9, Cond.code yX9_measure cX9_measure 5 none]
def wsX6_hinderer_r3 : List Cond := [Cond.fieldLink RX9 9 "FormationPlanner$TimesTo" "times" "[I", Cond.fieldLink RX9 15 "FormationPlanner$TimesTo" "lattice" "LFormationPlanner$Lattice;", Cond.fieldLink RX9 29 "FormationPlanner$Lattice" "scene" "LFormationPlanner$Scene;", Cond.fieldLink RX9 35 "FormationPlanner$Scene" "obstacles" "[I", Cond.methodLink RX9 44 Lib.Math.max.name, Cond.methodLink RX9 19 yJ7_fill_53178, Cond.static yJ7_fill_53178, Cond.initialized RJ7, Cond.code yJ7_fill_53178 cJ7_fill_53178 4 none, Cond.static yX10_isCell, Cond.initialized RX10, Cond.code yX10_isCell cX10_isCell 1 (some .boolean), Cond.methodLink RX9 40 yX9_spreadBack, Cond.instanceMethod yX9_spreadBack, Cond.selects RX9 yX9_spreadBack yX9_spreadBack, Cond.code yX9_spreadBack cX9_spreadBack 7 (some .int), Cond.methodLink RX9 49 yX4_next, Cond.instanceMethod yX4_next, Cond.selects RX4 yX4_next yX4_next, Cond.initialized RX4, Cond.code yX4_next cX4_next 4 (some .int), Cond.fieldLink RX4 9 "FormationPlanner$Lattice" "neighbours" "[I", Cond.fieldLink RX4 15 "FormationPlanner$Lattice" "scene" "LFormationPlanner$Scene;", Cond.fieldLink RX4 30 "FormationPlanner$Scene" "obstacles" "[I"]
def wsX6_hinderer_r4 : List Cond := [Cond.static yX10_isAction, Cond.code yX10_isAction cX10_isAction 1 (some .boolean), Cond.methodLink RX9 56 yX4_ticks, Cond.instanceMethod yX4_ticks, Cond.selects RX4 yX4_ticks yX4_ticks, Cond.code yX4_ticks cX4_ticks 4 (some .int), Cond.fieldLink RX4 35 "FormationPlanner$Scene" "winds" "[I", Cond.methodLink RX6 119 yX1_cellAt, Cond.instanceMethod yX1_cellAt, Cond.selects RX1 yX1_cellAt yX1_cellAt, Cond.code yX1_cellAt cX1_cellAt 2 (some .int), Cond.fieldLink RX1 9 "FormationPlanner$Flight" "cells" "[I", Cond.methodLink RX1 34 Lib.Math.min.name, Cond.methodLink RX1 28 Lib.Math.max.name, Cond.methodLink RX6 139 yX9_firstAction, Cond.instanceMethod yX9_firstAction, Cond.selects RX9 yX9_firstAction yX9_firstAction, Cond.code yX9_firstAction cX9_firstAction 4 (some .int), Cond.methodLink RX9 52 yX9_timeFrom, Cond.instanceMethod yX9_timeFrom, Cond.selects RX9 yX9_timeFrom yX9_timeFrom, Cond.code yX9_timeFrom cX9_timeFrom 2 (some .int), Cond.methodLink RX6 142 yX6_isMet, Cond.instanceMethod yX6_isMet]
def wsX6_hinderer_r5 : List Cond := [Cond.selects RX6 yX6_isMet yX6_isMet, Cond.code yX6_isMet cX6_isMet 8 (some .boolean), Cond.fieldLink RX6 32 "FormationPlanner$Plan" "lattice" "LFormationPlanner$Lattice;", Cond.methodLink RX6 171 yX4_next, Cond.methodLink RX6 176 yX4_ticks]
def wsX6_hinderer : List Cond := .code yX6_hinderer cX6_hinderer 9 (some .int) :: ((wsX6_hinderer_r1 ++ (wsX6_hinderer_r2 ++ (wsX6_hinderer_r3 ++ (wsX6_hinderer_r4 ++ wsX6_hinderer_r5)))) ++ wsX60 ++ wsX10 ++ wsX80 ++ wsX50 ++ wsX90 ++ wsX40)
def wsX6_layWay_r1 : List Cond := [Cond.fieldLink RX6 41 "FormationPlanner$Plan" "timesTo" "LFormationPlanner$TimesTo;", Cond.fieldLink RX6 28 "FormationPlanner$Plan" "scene" "LFormationPlanner$Scene;", Cond.fieldLink RX6 82 "FormationPlanner$Scene" "drones" "LFormationPlanner$Places;", Cond.fieldLink RX6 17 "FormationPlanner$Plan" "ways" "[LFormationPlanner$Flight;", Cond.fieldLink RX6 32 "FormationPlanner$Plan" "lattice" "LFormationPlanner$Lattice;", Cond.methodLink RX6 94 yX6_goalOf, Cond.instanceMethod yX6_goalOf, Cond.selects RX6 yX6_goalOf yX6_goalOf, Cond.initialized RX6, Cond.code yX6_goalOf cX6_goalOf 2 (some .int), Cond.fieldLink RX6 168 "FormationPlanner$Scene" "slots" "LFormationPlanner$Places;", Cond.fieldLink RX6 126 "FormationPlanner$Flight" "slot" "I", Cond.methodLink RX6 104 yX6_flightOf, Cond.instanceMethod yX6_flightOf, Cond.selects RX6 yX6_flightOf yX6_flightOf, Cond.code yX6_flightOf cX6_flightOf 2 (some (.object "FormationPlanner$Flight")), Cond.fieldLink RX6 11 "FormationPlanner$Plan" "flights" "[LFormationPlanner$Flight;", Cond.methodLink RX6 68 Lib.Math.min.name, Cond.static Lib.Math.min.name, Cond.initialized "java/lang/Math", Cond.code Lib.Math.min.name Lib.Math.min.code 2 (some .int), Cond.methodLink RX6 116 Lib.Math.max.name, Cond.static Lib.Math.max.name, Cond.code Lib.Math.max.name Lib.Math.max.code 2 (some .int)]
def wsX6_layWay_r2 : List Cond := [Cond.methodLink RX6 88 yX5_cellAt, Cond.instanceMethod yX5_cellAt, Cond.selects RX5 yX5_cellAt yX5_cellAt, Cond.initialized RX5, Cond.code yX5_cellAt cX5_cellAt 2 (some .int), Cond.fieldLink RX5 9 "FormationPlanner$Places" "cells" "[I", Cond.methodLink RX5 19 yX5_has, Cond.instanceMethod yX5_has, Cond.selects RX5 yX5_has yX5_has, Cond.code yX5_has cX5_has 2 (some .boolean), Cond.fieldLink RX5 15 "FormationPlanner$Places" "size" "I", Cond.methodLink RX6 132 yX9_measure, Cond.instanceMethod yX9_measure, Cond.selects RX9 yX9_measure yX9_measure, Cond.initialized RX9, Cond.code yX9_measure cX9_measure 5 none, Cond.fieldLink RX9 9 "FormationPlanner$TimesTo" "times" "[I", Cond.fieldLink RX9 15 "FormationPlanner$TimesTo" "lattice" "LFormationPlanner$Lattice;", Cond.fieldLink RX9 29 "FormationPlanner$Lattice" "scene" "LFormationPlanner$Scene;", Cond.fieldLink RX9 35 "FormationPlanner$Scene" "obstacles" "[I", Cond.methodLink RX9 44 Lib.Math.max.name, Cond.methodLink RX9 19 yJ7_fill_53178, Cond.static yJ7_fill_53178, Cond.initialized RJ7]
def wsX6_layWay_r3 : List Cond := [Cond.code yJ7_fill_53178 cJ7_fill_53178 4 none, Cond.static yX10_isCell, Cond.initialized RX10, Cond.code yX10_isCell cX10_isCell 1 (some .boolean), Cond.methodLink RX9 40 yX9_spreadBack, Cond.instanceMethod yX9_spreadBack, Cond.selects RX9 yX9_spreadBack yX9_spreadBack, Cond.code yX9_spreadBack cX9_spreadBack 7 (some .int), Cond.methodLink RX9 49 yX4_next, Cond.instanceMethod yX4_next, Cond.selects RX4 yX4_next yX4_next, Cond.initialized RX4, Cond.code yX4_next cX4_next 4 (some .int), Cond.fieldLink RX4 9 "FormationPlanner$Lattice" "neighbours" "[I", Cond.fieldLink RX4 15 "FormationPlanner$Lattice" "scene" "LFormationPlanner$Scene;", Cond.fieldLink RX4 30 "FormationPlanner$Scene" "obstacles" "[I", Cond.static yX10_isAction, Cond.code yX10_isAction cX10_isAction 1 (some .boolean), Cond.methodLink RX9 56 yX4_ticks, Cond.instanceMethod yX4_ticks, Cond.selects RX4 yX4_ticks yX4_ticks, Cond.code yX4_ticks cX4_ticks 4 (some .int), Cond.fieldLink RX4 35 "FormationPlanner$Scene" "winds" "[I", Cond.methodLink RX6 179 yX1_begin]
def wsX6_layWay_r4 : List Cond := [Cond.instanceMethod yX1_begin, Cond.selects RX1 yX1_begin yX1_begin, Cond.initialized RX1, Cond.code yX1_begin cX1_begin 2 none, Cond.fieldLink RX1 18 "FormationPlanner$Flight" "arrival" "I", Cond.fieldLink RX1 9 "FormationPlanner$Flight" "cells" "[I", Cond.fieldLink RX1 15 "FormationPlanner$Flight" "actions" "[I", Cond.methodLink RX1 22 yJ7_fill_53178, Cond.methodLink RX6 139 yX9_firstAction, Cond.instanceMethod yX9_firstAction, Cond.selects RX9 yX9_firstAction yX9_firstAction, Cond.code yX9_firstAction cX9_firstAction 4 (some .int), Cond.methodLink RX9 52 yX9_timeFrom, Cond.instanceMethod yX9_timeFrom, Cond.selects RX9 yX9_timeFrom yX9_timeFrom, Cond.code yX9_timeFrom cX9_timeFrom 2 (some .int), Cond.methodLink RX6 171 yX4_next, Cond.methodLink RX6 176 yX4_ticks, Cond.methodLink RX6 182 yX1_add, Cond.instanceMethod yX1_add, Cond.selects RX1 yX1_add yX1_add, Cond.code yX1_add cX1_add 5 none, Cond.methodLink RX1 28 Lib.Math.max.name]
def wsX6_layWay : List Cond := .code yX6_layWay cX6_layWay 6 none :: ((wsX6_layWay_r1 ++ (wsX6_layWay_r2 ++ (wsX6_layWay_r3 ++ wsX6_layWay_r4))) ++ wsX60 ++ wsX80 ++ wsX10 ++ wsX50 ++ wsX90 ++ wsX40)
def wsX6_pairsInConflict_r1 : List Cond := [Cond.fieldLink RX6 74 "FormationPlanner$Plan" "size" "I", Cond.fieldLink RX6 17 "FormationPlanner$Plan" "ways" "[LFormationPlanner$Flight;", Cond.methodLink RX6 146 yX6_layWay, Cond.instanceMethod yX6_layWay, Cond.selects RX6 yX6_layWay yX6_layWay, Cond.initialized RX6, Cond.code yX6_layWay cX6_layWay 6 none, Cond.fieldLink RX6 41 "FormationPlanner$Plan" "timesTo" "LFormationPlanner$TimesTo;", Cond.fieldLink RX6 28 "FormationPlanner$Plan" "scene" "LFormationPlanner$Scene;", Cond.fieldLink RX6 82 "FormationPlanner$Scene" "drones" "LFormationPlanner$Places;", Cond.fieldLink RX6 32 "FormationPlanner$Plan" "lattice" "LFormationPlanner$Lattice;", Cond.methodLink RX6 94 yX6_goalOf, Cond.instanceMethod yX6_goalOf, Cond.selects RX6 yX6_goalOf yX6_goalOf, Cond.code yX6_goalOf cX6_goalOf 2 (some .int), Cond.fieldLink RX6 168 "FormationPlanner$Scene" "slots" "LFormationPlanner$Places;", Cond.fieldLink RX6 126 "FormationPlanner$Flight" "slot" "I", Cond.methodLink RX6 104 yX6_flightOf, Cond.instanceMethod yX6_flightOf, Cond.selects RX6 yX6_flightOf yX6_flightOf, Cond.code yX6_flightOf cX6_flightOf 2 (some (.object "FormationPlanner$Flight")), Cond.fieldLink RX6 11 "FormationPlanner$Plan" "flights" "[LFormationPlanner$Flight;", Cond.methodLink RX6 68 Lib.Math.min.name, Cond.static Lib.Math.min.name]
def wsX6_pairsInConflict_r2 : List Cond := [Cond.initialized "java/lang/Math", Cond.code Lib.Math.min.name Lib.Math.min.code 2 (some .int), Cond.methodLink RX6 116 Lib.Math.max.name, Cond.static Lib.Math.max.name, Cond.code Lib.Math.max.name Lib.Math.max.code 2 (some .int), Cond.methodLink RX6 88 yX5_cellAt, Cond.instanceMethod yX5_cellAt, Cond.selects RX5 yX5_cellAt yX5_cellAt, Cond.initialized RX5, Cond.code yX5_cellAt cX5_cellAt 2 (some .int), Cond.fieldLink RX5 9 "FormationPlanner$Places" "cells" "[I", Cond.methodLink RX5 19 yX5_has, Cond.instanceMethod yX5_has, Cond.selects RX5 yX5_has yX5_has, Cond.code yX5_has cX5_has 2 (some .boolean), Cond.fieldLink RX5 15 "FormationPlanner$Places" "size" "I", Cond.methodLink RX6 132 yX9_measure, Cond.instanceMethod yX9_measure, Cond.selects RX9 yX9_measure yX9_measure, Cond.initialized RX9, Cond.code yX9_measure cX9_measure 5 none, Cond.fieldLink RX9 9 "FormationPlanner$TimesTo" "times" "[I", Cond.fieldLink RX9 15 "FormationPlanner$TimesTo" "lattice" "LFormationPlanner$Lattice;", Cond.fieldLink RX9 29 "FormationPlanner$Lattice" "scene" "LFormationPlanner$Scene;"]
def wsX6_pairsInConflict_r3 : List Cond := [Cond.fieldLink RX9 35 "FormationPlanner$Scene" "obstacles" "[I", Cond.methodLink RX9 44 Lib.Math.max.name, Cond.methodLink RX9 19 yJ7_fill_53178, Cond.static yJ7_fill_53178, Cond.initialized RJ7, Cond.code yJ7_fill_53178 cJ7_fill_53178 4 none, Cond.static yX10_isCell, Cond.initialized RX10, Cond.code yX10_isCell cX10_isCell 1 (some .boolean), Cond.methodLink RX9 40 yX9_spreadBack, Cond.instanceMethod yX9_spreadBack, Cond.selects RX9 yX9_spreadBack yX9_spreadBack, Cond.code yX9_spreadBack cX9_spreadBack 7 (some .int), Cond.methodLink RX9 49 yX4_next, Cond.instanceMethod yX4_next, Cond.selects RX4 yX4_next yX4_next, Cond.initialized RX4, Cond.code yX4_next cX4_next 4 (some .int), Cond.fieldLink RX4 9 "FormationPlanner$Lattice" "neighbours" "[I", Cond.fieldLink RX4 15 "FormationPlanner$Lattice" "scene" "LFormationPlanner$Scene;", Cond.fieldLink RX4 30 "FormationPlanner$Scene" "obstacles" "[I", Cond.static yX10_isAction, Cond.code yX10_isAction cX10_isAction 1 (some .boolean), Cond.methodLink RX9 56 yX4_ticks]
def wsX6_pairsInConflict_r4 : List Cond := [Cond.instanceMethod yX4_ticks, Cond.selects RX4 yX4_ticks yX4_ticks, Cond.code yX4_ticks cX4_ticks 4 (some .int), Cond.fieldLink RX4 35 "FormationPlanner$Scene" "winds" "[I", Cond.methodLink RX6 179 yX1_begin, Cond.instanceMethod yX1_begin, Cond.selects RX1 yX1_begin yX1_begin, Cond.initialized RX1, Cond.code yX1_begin cX1_begin 2 none, Cond.fieldLink RX1 18 "FormationPlanner$Flight" "arrival" "I", Cond.fieldLink RX1 9 "FormationPlanner$Flight" "cells" "[I", Cond.fieldLink RX1 15 "FormationPlanner$Flight" "actions" "[I", Cond.methodLink RX1 22 yJ7_fill_53178, Cond.methodLink RX6 139 yX9_firstAction, Cond.instanceMethod yX9_firstAction, Cond.selects RX9 yX9_firstAction yX9_firstAction, Cond.code yX9_firstAction cX9_firstAction 4 (some .int), Cond.methodLink RX9 52 yX9_timeFrom, Cond.instanceMethod yX9_timeFrom, Cond.selects RX9 yX9_timeFrom yX9_timeFrom, Cond.code yX9_timeFrom cX9_timeFrom 2 (some .int), Cond.methodLink RX6 171 yX4_next, Cond.methodLink RX6 176 yX4_ticks, Cond.methodLink RX6 182 yX1_add]
def wsX6_pairsInConflict_r5 : List Cond := [Cond.instanceMethod yX1_add, Cond.selects RX1 yX1_add yX1_add, Cond.code yX1_add cX1_add 5 none, Cond.methodLink RX1 28 Lib.Math.max.name, Cond.methodLink RX6 149 yX1_meets, Cond.instanceMethod yX1_meets, Cond.selects RX1 yX1_meets yX1_meets, Cond.code yX1_meets cX1_meets 4 (some .boolean), Cond.methodLink RX1 37 yX1_cellAt, Cond.instanceMethod yX1_cellAt, Cond.selects RX1 yX1_cellAt yX1_cellAt, Cond.code yX1_cellAt cX1_cellAt 2 (some .int), Cond.methodLink RX1 34 Lib.Math.min.name]
def wsX6_pairsInConflict : List Cond := .code yX6_pairsInConflict cX6_pairsInConflict 4 (some .int) :: ((wsX6_pairsInConflict_r1 ++ (wsX6_pairsInConflict_r2 ++ (wsX6_pairsInConflict_r3 ++ (wsX6_pairsInConflict_r4 ++ wsX6_pairsInConflict_r5)))) ++ wsX60 ++ wsX80 ++ wsX10 ++ wsX50 ++ wsX90 ++ wsX40)
def wsX6_advance_r1 : List Cond := [Cond.fieldLink RX6 60 "FormationPlanner$Plan" "now" "I", Cond.methodLink RX6 68 Lib.Math.min.name, Cond.static Lib.Math.min.name, Cond.initialized "java/lang/Math", Cond.code Lib.Math.min.name Lib.Math.min.code 2 (some .int), Cond.fieldLink RX6 74 "FormationPlanner$Plan" "size" "I", Cond.fieldLink RX6 28 "FormationPlanner$Plan" "scene" "LFormationPlanner$Scene;", Cond.fieldLink RX6 82 "FormationPlanner$Scene" "drones" "LFormationPlanner$Places;", Cond.methodLink RX6 153 yX6_cellOfDrone, Cond.instanceMethod yX6_cellOfDrone, Cond.selects RX6 yX6_cellOfDrone yX6_cellOfDrone, Cond.initialized RX6, Cond.code yX6_cellOfDrone cX6_cellOfDrone 3 (some .int), Cond.methodLink RX6 104 yX6_flightOf, Cond.instanceMethod yX6_flightOf, Cond.selects RX6 yX6_flightOf yX6_flightOf, Cond.code yX6_flightOf cX6_flightOf 2 (some (.object "FormationPlanner$Flight")), Cond.fieldLink RX6 11 "FormationPlanner$Plan" "flights" "[LFormationPlanner$Flight;", Cond.methodLink RX6 116 Lib.Math.max.name, Cond.static Lib.Math.max.name, Cond.code Lib.Math.max.name Lib.Math.max.code 2 (some .int), Cond.methodLink RX6 119 yX1_cellAt, Cond.instanceMethod yX1_cellAt, Cond.selects RX1 yX1_cellAt yX1_cellAt]
def wsX6_advance_r2 : List Cond := [Cond.initialized RX1, Cond.code yX1_cellAt cX1_cellAt 2 (some .int), Cond.fieldLink RX1 9 "FormationPlanner$Flight" "cells" "[I", Cond.methodLink RX1 34 Lib.Math.min.name, Cond.methodLink RX1 28 Lib.Math.max.name, Cond.methodLink RX6 156 yX5_move, Cond.instanceMethod yX5_move, Cond.selects RX5 yX5_move yX5_move, Cond.initialized RX5, Cond.code yX5_move cX5_move 3 none, Cond.fieldLink RX5 9 "FormationPlanner$Places" "cells" "[I", Cond.methodLink RX5 19 yX5_has, Cond.instanceMethod yX5_has, Cond.selects RX5 yX5_has yX5_has, Cond.code yX5_has cX5_has 2 (some .boolean), Cond.fieldLink RX5 15 "FormationPlanner$Places" "size" "I", Cond.methodLink RX6 159 yX6_ticksLeft, Cond.instanceMethod yX6_ticksLeft, Cond.selects RX6 yX6_ticksLeft yX6_ticksLeft, Cond.code yX6_ticksLeft cX6_ticksLeft 2 (some .int), Cond.fieldLink RX6 129 "FormationPlanner$Flight" "arrival" "I"]
def wsX6_advance : List Cond := .code yX6_advance cX6_advance 4 (some .int) :: ((wsX6_advance_r1 ++ wsX6_advance_r2) ++ wsX60 ++ wsX80 ++ wsX10 ++ wsX50)
def wsX8_hasObstacleAt : List Cond := .code yX8_hasObstacleAt cX8_hasObstacleAt 2 (some .boolean) :: ([.fieldLink RX8 15 "FormationPlanner$Scene" "obstacles" "[I", .static yX10_isCell, .initialized RX10, .code yX10_isCell cX10_isCell 1 (some .boolean)] ++ wsX80)
def wsX8_obstacleCount : List Cond := .code yX8_obstacleCount cX8_obstacleCount 3 (some .int) :: ([.fieldLink RX8 15 "FormationPlanner$Scene" "obstacles" "[I"] ++ wsX80)
def wsX8_dronesAtSlots : List Cond := .code yX8_dronesAtSlots cX8_dronesAtSlots 3 (some .int) :: ([.fieldLink RX8 21 "FormationPlanner$Scene" "drones" "LFormationPlanner$Places;", .fieldLink RX8 32 "FormationPlanner$Places" "size" "I", .fieldLink RX8 25 "FormationPlanner$Scene" "slots" "LFormationPlanner$Places;", .methodLink RX8 36 yX5_cellAt, .instanceMethod yX5_cellAt, .selects RX5 yX5_cellAt yX5_cellAt, .initialized RX5, .code yX5_cellAt cX5_cellAt 2 (some .int), .fieldLink RX5 9 "FormationPlanner$Places" "cells" "[I", .methodLink RX5 19 yX5_has, .instanceMethod yX5_has, .selects RX5 yX5_has yX5_has, .code yX5_has cX5_has 2 (some .boolean), .fieldLink RX5 15 "FormationPlanner$Places" "size" "I", .methodLink RX8 40 yX5_find, .instanceMethod yX5_find, .selects RX5 yX5_find yX5_find, .code yX5_find cX5_find 3 (some .int)] ++ wsX80 ++ wsX50)
def wsX10_init_r1 : List Cond := [Cond.methodLink RX10 3 objectInit, Cond.instanceMethod objectInit, Cond.code objectInit ⟨#[0xb1]⟩ 1 none, Cond.classLink RX10 9 RX8, Cond.instantiable RX8 5, Cond.initialized RX8, Cond.fieldLink RX10 12 "FormationPlanner" "scene" "LFormationPlanner$Scene;", Cond.classLink RX10 16 RX3, Cond.instantiable RX3 3, Cond.initialized RX3, Cond.fieldLink RX10 19 "FormationPlanner" "history" "LFormationPlanner$History;", Cond.classLink RX10 23 RX2, Cond.instantiable RX2 5, Cond.initialized RX2, Cond.fieldLink RX10 26 "FormationPlanner" "text" "LFormationPlanner$Formation;", Cond.classLink RX10 30 RX4, Cond.instantiable RX4 2, Cond.initialized RX4, Cond.classLink RX10 35 RX9, Cond.instantiable RX9 2, Cond.initialized RX9, Cond.fieldLink RX10 40 "FormationPlanner" "timesTo" "LFormationPlanner$TimesTo;", Cond.classLink RX10 44 RX0, Cond.instantiable RX0 9]
def wsX10_init_r2 : List Cond := [Cond.initialized RX0, Cond.fieldLink RX10 49 "FormationPlanner" "assigner" "LFormationPlanner$Assigner;", Cond.classLink RX10 53 RX6, Cond.instantiable RX6 11, Cond.initialized RX6, Cond.fieldLink RX10 56 "FormationPlanner" "plan" "LFormationPlanner$Plan;", Cond.instanceMethod yX8_init, Cond.code yX8_init cX8_init 1 none, Cond.methodLink RX8 3 objectInit, Cond.arrayClass .int, Cond.fieldLink RX8 9 "FormationPlanner$Scene" "winds" "[I", Cond.fieldLink RX8 15 "FormationPlanner$Scene" "obstacles" "[I", Cond.classLink RX8 18 RX5, Cond.instantiable RX5 2, Cond.initialized RX5, Cond.fieldLink RX8 21 "FormationPlanner$Scene" "drones" "LFormationPlanner$Places;", Cond.fieldLink RX8 25 "FormationPlanner$Scene" "slots" "LFormationPlanner$Places;", Cond.instanceMethod yX5_init, Cond.code yX5_init cX5_init 1 none, Cond.methodLink RX5 3 objectInit, Cond.fieldLink RX5 9 "FormationPlanner$Places" "cells" "[I", Cond.methodLink RX10 18 yX3_init, Cond.instanceMethod yX3_init, Cond.code yX3_init cX3_init 2 none]
def wsX10_init_r3 : List Cond := [Cond.methodLink RX3 3 objectInit, Cond.classLink RX3 9 RX8, Cond.fieldLink RX3 11 "FormationPlanner$History" "scenes" "[LFormationPlanner$Scene;", Cond.instanceMethod yX2_init, Cond.code yX2_init cX2_init 1 none, Cond.methodLink RX2 3 objectInit, Cond.fieldLink RX2 9 "FormationPlanner$Formation" "signs" "[I", Cond.classLink RX2 15 RX5, Cond.fieldLink RX2 18 "FormationPlanner$Formation" "places" "LFormationPlanner$Places;", Cond.methodLink RX10 32 yX4_init, Cond.instanceMethod yX4_init, Cond.code yX4_init cX4_init 4 none, Cond.methodLink RX4 3 objectInit, Cond.fieldLink RX4 9 "FormationPlanner$Lattice" "neighbours" "[I", Cond.fieldLink RX4 15 "FormationPlanner$Lattice" "scene" "LFormationPlanner$Scene;", Cond.methodLink RX4 19 yX4_neighbour, Cond.static yX4_neighbour, Cond.code yX4_neighbour cX4_neighbour 6 (some .int), Cond.static yX10_isAction, Cond.initialized RX10, Cond.code yX10_isAction cX10_isAction 1 (some .boolean), Cond.static yX10_isLayer, Cond.code yX10_isLayer cX10_isLayer 1 (some .boolean), Cond.methodLink RX10 37 yX9_init]
def wsX10_init_r4 : List Cond := [Cond.instanceMethod yX9_init, Cond.code yX9_init cX9_init 2 none, Cond.methodLink RX9 3 objectInit, Cond.fieldLink RX9 9 "FormationPlanner$TimesTo" "times" "[I", Cond.fieldLink RX9 15 "FormationPlanner$TimesTo" "lattice" "LFormationPlanner$Lattice;", Cond.methodLink RX10 46 yX0_init, Cond.instanceMethod yX0_init, Cond.code yX0_init cX0_init 4 none, Cond.methodLink RX0 3 objectInit, Cond.classLink RX0 9 RX9, Cond.fieldLink RX0 11 "FormationPlanner$Assigner" "toSlot" "[LFormationPlanner$TimesTo;", Cond.fieldLink RX0 17 "FormationPlanner$Assigner" "trial" "[I", Cond.fieldLink RX0 21 "FormationPlanner$Assigner" "best" "[I", Cond.fieldLink RX0 24 "FormationPlanner$Assigner" "scene" "LFormationPlanner$Scene;", Cond.methodLink RX0 28 yX9_init, Cond.methodLink RX10 55 yX6_init, Cond.instanceMethod yX6_init, Cond.code yX6_init cX6_init 4 none, Cond.methodLink RX6 3 objectInit, Cond.classLink RX6 9 RX1, Cond.fieldLink RX6 11 "FormationPlanner$Plan" "flights" "[LFormationPlanner$Flight;", Cond.fieldLink RX6 17 "FormationPlanner$Plan" "ways" "[LFormationPlanner$Flight;", Cond.fieldLink RX6 20 "FormationPlanner$Plan" "order" "[I", Cond.fieldLink RX6 24 "FormationPlanner$Plan" "stuckDrone" "I"]
def wsX10_init_r5 : List Cond := [Cond.fieldLink RX6 28 "FormationPlanner$Plan" "scene" "LFormationPlanner$Scene;", Cond.fieldLink RX6 32 "FormationPlanner$Plan" "lattice" "LFormationPlanner$Lattice;", Cond.classLink RX6 36 RX9, Cond.fieldLink RX6 41 "FormationPlanner$Plan" "timesTo" "LFormationPlanner$TimesTo;", Cond.classLink RX6 45 RX7, Cond.instantiable RX7 3, Cond.initialized RX7, Cond.fieldLink RX6 48 "FormationPlanner$Plan" "router" "LFormationPlanner$Router;", Cond.instantiable RX1 5, Cond.initialized RX1, Cond.methodLink RX6 38 yX9_init, Cond.methodLink RX6 47 yX7_init, Cond.instanceMethod yX7_init, Cond.code yX7_init cX7_init 2 none, Cond.methodLink RX7 3 objectInit, Cond.fieldLink RX7 9 "FormationPlanner$Router" "holders" "[I", Cond.fieldLink RX7 15 "FormationPlanner$Router" "usable" "[I", Cond.fieldLink RX7 18 "FormationPlanner$Router" "lattice" "LFormationPlanner$Lattice;", Cond.instanceMethod yX1_init, Cond.code yX1_init cX1_init 1 none, Cond.methodLink RX1 3 objectInit, Cond.fieldLink RX1 9 "FormationPlanner$Flight" "cells" "[I", Cond.fieldLink RX1 15 "FormationPlanner$Flight" "actions" "[I"]
def wsX10_init : List Cond := .code yX10_init cX10_init 2 none :: ((wsX10_init_r1 ++ (wsX10_init_r2 ++ (wsX10_init_r3 ++ (wsX10_init_r4 ++ wsX10_init_r5)))) ++ wsX80 ++ wsX100 ++ wsX30 ++ wsX20 ++ wsX40 ++ wsX90 ++ wsX00 ++ wsX60 ++ wsX50 ++ wsX70 ++ wsX10)
def wsX10_isWind : List Cond := .code yX10_isWind cX10_isWind 1 (some .boolean) :: ([])
def wsX10_beginChange_r1 : List Cond := [Cond.fieldLink RX10 19 "FormationPlanner" "history" "LFormationPlanner$History;", Cond.fieldLink RX10 12 "FormationPlanner" "scene" "LFormationPlanner$Scene;", Cond.fieldLink RX10 56 "FormationPlanner" "plan" "LFormationPlanner$Plan;", Cond.methodLink RX10 201 yX3_keep, Cond.instanceMethod yX3_keep, Cond.selects RX3 yX3_keep yX3_keep, Cond.initialized RX3, Cond.code yX3_keep cX3_keep 2 none, Cond.fieldLink RX3 11 "FormationPlanner$History" "scenes" "[LFormationPlanner$Scene;", Cond.fieldLink RX3 18 "FormationPlanner$History" "next" "I", Cond.fieldLink RX3 32 "FormationPlanner$History" "size" "I", Cond.methodLink RX3 35 Lib.Math.min.name, Cond.static Lib.Math.min.name, Cond.initialized "java/lang/Math", Cond.code Lib.Math.min.name Lib.Math.min.code 2 (some .int), Cond.methodLink RX3 22 yJ9_floorMod_7cf53, Cond.static yJ9_floorMod_7cf53, Cond.initialized RJ9, Cond.code yJ9_floorMod_7cf53 cJ9_floorMod_7cf53 3 (some .int), Cond.methodLink RX3 28 yX8_copyFrom, Cond.instanceMethod yX8_copyFrom, Cond.selects RX8 yX8_copyFrom yX8_copyFrom, Cond.initialized RX8, Cond.code yX8_copyFrom cX8_copyFrom 2 none]
def wsX10_beginChange_r2 : List Cond := [Cond.fieldLink RX8 9 "FormationPlanner$Scene" "winds" "[I", Cond.methodLink RX8 43 arraycopyName, Cond.native arraycopyName, Cond.static arraycopyName, Cond.initialized "java/lang/System", Cond.fieldLink RX8 15 "FormationPlanner$Scene" "obstacles" "[I", Cond.fieldLink RX8 21 "FormationPlanner$Scene" "drones" "LFormationPlanner$Places;", Cond.fieldLink RX8 25 "FormationPlanner$Scene" "slots" "LFormationPlanner$Places;", Cond.fieldLink RX8 53 "FormationPlanner$Scene" "flown" "I", Cond.methodLink RX8 49 yX5_copyFrom, Cond.instanceMethod yX5_copyFrom, Cond.selects RX5 yX5_copyFrom yX5_copyFrom, Cond.initialized RX5, Cond.code yX5_copyFrom cX5_copyFrom 2 none, Cond.fieldLink RX5 9 "FormationPlanner$Places" "cells" "[I", Cond.methodLink RX5 23 arraycopyName, Cond.fieldLink RX5 15 "FormationPlanner$Places" "size" "I", Cond.methodLink RX10 220 yX6_discard, Cond.instanceMethod yX6_discard, Cond.selects RX6 yX6_discard yX6_discard, Cond.initialized RX6, Cond.code yX6_discard cX6_discard 1 none, Cond.fieldLink RX6 53 "FormationPlanner$Plan" "stands" "Z", Cond.fieldLink RX6 24 "FormationPlanner$Plan" "stuckDrone" "I"]
def wsX10_beginChange : List Cond := .code yX10_beginChange cX10_beginChange 1 none :: ((wsX10_beginChange_r1 ++ wsX10_beginChange_r2) ++ wsX100 ++ wsX30 ++ wsX80 ++ wsX50 ++ wsX60)
def wsX10_setWind_r1 : List Cond := [Cond.fieldLink RX10 12 "FormationPlanner" "scene" "LFormationPlanner$Scene;", Cond.fieldLink RX10 70 "FormationPlanner$Scene" "winds" "[I", Cond.methodLink RX10 60 yX10_isLayer, Cond.static yX10_isLayer, Cond.initialized RX10, Cond.code yX10_isLayer cX10_isLayer 1 (some .boolean), Cond.methodLink RX10 64 yX10_isWind, Cond.static yX10_isWind, Cond.code yX10_isWind cX10_isWind 1 (some .boolean), Cond.methodLink RX10 67 yX10_beginChange, Cond.instanceMethod yX10_beginChange, Cond.selects RX10 yX10_beginChange yX10_beginChange, Cond.code yX10_beginChange cX10_beginChange 1 none, Cond.fieldLink RX10 19 "FormationPlanner" "history" "LFormationPlanner$History;", Cond.fieldLink RX10 56 "FormationPlanner" "plan" "LFormationPlanner$Plan;", Cond.methodLink RX10 201 yX3_keep, Cond.instanceMethod yX3_keep, Cond.selects RX3 yX3_keep yX3_keep, Cond.initialized RX3, Cond.code yX3_keep cX3_keep 2 none, Cond.fieldLink RX3 11 "FormationPlanner$History" "scenes" "[LFormationPlanner$Scene;", Cond.fieldLink RX3 18 "FormationPlanner$History" "next" "I", Cond.fieldLink RX3 32 "FormationPlanner$History" "size" "I", Cond.methodLink RX3 35 Lib.Math.min.name]
def wsX10_setWind_r2 : List Cond := [Cond.static Lib.Math.min.name, Cond.initialized "java/lang/Math", Cond.code Lib.Math.min.name Lib.Math.min.code 2 (some .int), Cond.methodLink RX3 22 yJ9_floorMod_7cf53, Cond.static yJ9_floorMod_7cf53, Cond.initialized RJ9, Cond.code yJ9_floorMod_7cf53 cJ9_floorMod_7cf53 3 (some .int), Cond.methodLink RX3 28 yX8_copyFrom, Cond.instanceMethod yX8_copyFrom, Cond.selects RX8 yX8_copyFrom yX8_copyFrom, Cond.initialized RX8, Cond.code yX8_copyFrom cX8_copyFrom 2 none, Cond.fieldLink RX8 9 "FormationPlanner$Scene" "winds" "[I", Cond.methodLink RX8 43 arraycopyName, Cond.native arraycopyName, Cond.static arraycopyName, Cond.initialized "java/lang/System", Cond.fieldLink RX8 15 "FormationPlanner$Scene" "obstacles" "[I", Cond.fieldLink RX8 21 "FormationPlanner$Scene" "drones" "LFormationPlanner$Places;", Cond.fieldLink RX8 25 "FormationPlanner$Scene" "slots" "LFormationPlanner$Places;", Cond.fieldLink RX8 53 "FormationPlanner$Scene" "flown" "I", Cond.methodLink RX8 49 yX5_copyFrom, Cond.instanceMethod yX5_copyFrom, Cond.selects RX5 yX5_copyFrom yX5_copyFrom]
def wsX10_setWind_r3 : List Cond := [Cond.initialized RX5, Cond.code yX5_copyFrom cX5_copyFrom 2 none, Cond.fieldLink RX5 9 "FormationPlanner$Places" "cells" "[I", Cond.methodLink RX5 23 arraycopyName, Cond.fieldLink RX5 15 "FormationPlanner$Places" "size" "I", Cond.methodLink RX10 220 yX6_discard, Cond.instanceMethod yX6_discard, Cond.selects RX6 yX6_discard yX6_discard, Cond.initialized RX6, Cond.code yX6_discard cX6_discard 1 none, Cond.fieldLink RX6 53 "FormationPlanner$Plan" "stands" "Z", Cond.fieldLink RX6 24 "FormationPlanner$Plan" "stuckDrone" "I"]
def wsX10_setWind : List Cond := .code yX10_setWind cX10_setWind 4 (some .int) :: ((wsX10_setWind_r1 ++ (wsX10_setWind_r2 ++ wsX10_setWind_r3)) ++ wsX100 ++ wsX80 ++ wsX30 ++ wsX50 ++ wsX60)
def wsX10_setObstacle_r1 : List Cond := [Cond.fieldLink RX10 12 "FormationPlanner" "scene" "LFormationPlanner$Scene;", Cond.fieldLink RX10 77 "FormationPlanner$Scene" "drones" "LFormationPlanner$Places;", Cond.fieldLink RX10 87 "FormationPlanner$Scene" "slots" "LFormationPlanner$Places;", Cond.fieldLink RX10 90 "FormationPlanner$Scene" "obstacles" "[I", Cond.methodLink RX10 74 yX10_isCell, Cond.static yX10_isCell, Cond.initialized RX10, Cond.code yX10_isCell cX10_isCell 1 (some .boolean), Cond.methodLink RX10 81 yX5_find, Cond.instanceMethod yX5_find, Cond.selects RX5 yX5_find yX5_find, Cond.initialized RX5, Cond.code yX5_find cX5_find 3 (some .int), Cond.fieldLink RX5 15 "FormationPlanner$Places" "size" "I", Cond.fieldLink RX5 9 "FormationPlanner$Places" "cells" "[I", Cond.methodLink RX10 67 yX10_beginChange, Cond.instanceMethod yX10_beginChange, Cond.selects RX10 yX10_beginChange yX10_beginChange, Cond.code yX10_beginChange cX10_beginChange 1 none, Cond.fieldLink RX10 19 "FormationPlanner" "history" "LFormationPlanner$History;", Cond.fieldLink RX10 56 "FormationPlanner" "plan" "LFormationPlanner$Plan;", Cond.methodLink RX10 201 yX3_keep, Cond.instanceMethod yX3_keep, Cond.selects RX3 yX3_keep yX3_keep]
def wsX10_setObstacle_r2 : List Cond := [Cond.initialized RX3, Cond.code yX3_keep cX3_keep 2 none, Cond.fieldLink RX3 11 "FormationPlanner$History" "scenes" "[LFormationPlanner$Scene;", Cond.fieldLink RX3 18 "FormationPlanner$History" "next" "I", Cond.fieldLink RX3 32 "FormationPlanner$History" "size" "I", Cond.methodLink RX3 35 Lib.Math.min.name, Cond.static Lib.Math.min.name, Cond.initialized "java/lang/Math", Cond.code Lib.Math.min.name Lib.Math.min.code 2 (some .int), Cond.methodLink RX3 22 yJ9_floorMod_7cf53, Cond.static yJ9_floorMod_7cf53, Cond.initialized RJ9, Cond.code yJ9_floorMod_7cf53 cJ9_floorMod_7cf53 3 (some .int), Cond.methodLink RX3 28 yX8_copyFrom, Cond.instanceMethod yX8_copyFrom, Cond.selects RX8 yX8_copyFrom yX8_copyFrom, Cond.initialized RX8, Cond.code yX8_copyFrom cX8_copyFrom 2 none, Cond.fieldLink RX8 9 "FormationPlanner$Scene" "winds" "[I", Cond.methodLink RX8 43 arraycopyName, Cond.native arraycopyName, Cond.static arraycopyName, Cond.initialized "java/lang/System", Cond.fieldLink RX8 15 "FormationPlanner$Scene" "obstacles" "[I"]
def wsX10_setObstacle_r3 : List Cond := [Cond.fieldLink RX8 21 "FormationPlanner$Scene" "drones" "LFormationPlanner$Places;", Cond.fieldLink RX8 25 "FormationPlanner$Scene" "slots" "LFormationPlanner$Places;", Cond.fieldLink RX8 53 "FormationPlanner$Scene" "flown" "I", Cond.methodLink RX8 49 yX5_copyFrom, Cond.instanceMethod yX5_copyFrom, Cond.selects RX5 yX5_copyFrom yX5_copyFrom, Cond.code yX5_copyFrom cX5_copyFrom 2 none, Cond.methodLink RX5 23 arraycopyName, Cond.methodLink RX10 220 yX6_discard, Cond.instanceMethod yX6_discard, Cond.selects RX6 yX6_discard yX6_discard, Cond.initialized RX6, Cond.code yX6_discard cX6_discard 1 none, Cond.fieldLink RX6 53 "FormationPlanner$Plan" "stands" "Z", Cond.fieldLink RX6 24 "FormationPlanner$Plan" "stuckDrone" "I"]
def wsX10_setObstacle : List Cond := .code yX10_setObstacle cX10_setObstacle 4 (some .int) :: ((wsX10_setObstacle_r1 ++ (wsX10_setObstacle_r2 ++ wsX10_setObstacle_r3)) ++ wsX100 ++ wsX80 ++ wsX50 ++ wsX30 ++ wsX60)
def wsX10_addPlace_r1 : List Cond := [Cond.fieldLink RX10 100 "FormationPlanner$Places" "size" "I", Cond.fieldLink RX10 12 "FormationPlanner" "scene" "LFormationPlanner$Scene;", Cond.fieldLink RX10 90 "FormationPlanner$Scene" "obstacles" "[I", Cond.methodLink RX10 74 yX10_isCell, Cond.static yX10_isCell, Cond.initialized RX10, Cond.code yX10_isCell cX10_isCell 1 (some .boolean), Cond.methodLink RX10 81 yX5_find, Cond.instanceMethod yX5_find, Cond.selects RX5 yX5_find yX5_find, Cond.initialized RX5, Cond.code yX5_find cX5_find 3 (some .int), Cond.fieldLink RX5 15 "FormationPlanner$Places" "size" "I", Cond.fieldLink RX5 9 "FormationPlanner$Places" "cells" "[I", Cond.methodLink RX10 67 yX10_beginChange, Cond.instanceMethod yX10_beginChange, Cond.selects RX10 yX10_beginChange yX10_beginChange, Cond.code yX10_beginChange cX10_beginChange 1 none, Cond.fieldLink RX10 19 "FormationPlanner" "history" "LFormationPlanner$History;", Cond.fieldLink RX10 56 "FormationPlanner" "plan" "LFormationPlanner$Plan;", Cond.methodLink RX10 201 yX3_keep, Cond.instanceMethod yX3_keep, Cond.selects RX3 yX3_keep yX3_keep, Cond.initialized RX3]
def wsX10_addPlace_r2 : List Cond := [Cond.code yX3_keep cX3_keep 2 none, Cond.fieldLink RX3 11 "FormationPlanner$History" "scenes" "[LFormationPlanner$Scene;", Cond.fieldLink RX3 18 "FormationPlanner$History" "next" "I", Cond.fieldLink RX3 32 "FormationPlanner$History" "size" "I", Cond.methodLink RX3 35 Lib.Math.min.name, Cond.static Lib.Math.min.name, Cond.initialized "java/lang/Math", Cond.code Lib.Math.min.name Lib.Math.min.code 2 (some .int), Cond.methodLink RX3 22 yJ9_floorMod_7cf53, Cond.static yJ9_floorMod_7cf53, Cond.initialized RJ9, Cond.code yJ9_floorMod_7cf53 cJ9_floorMod_7cf53 3 (some .int), Cond.methodLink RX3 28 yX8_copyFrom, Cond.instanceMethod yX8_copyFrom, Cond.selects RX8 yX8_copyFrom yX8_copyFrom, Cond.initialized RX8, Cond.code yX8_copyFrom cX8_copyFrom 2 none, Cond.fieldLink RX8 9 "FormationPlanner$Scene" "winds" "[I", Cond.methodLink RX8 43 arraycopyName, Cond.native arraycopyName, Cond.static arraycopyName, Cond.initialized "java/lang/System", Cond.fieldLink RX8 15 "FormationPlanner$Scene" "obstacles" "[I", Cond.fieldLink RX8 21 "FormationPlanner$Scene" "drones" "LFormationPlanner$Places;"]
def wsX10_addPlace_r3 : List Cond := [Cond.fieldLink RX8 25 "FormationPlanner$Scene" "slots" "LFormationPlanner$Places;", Cond.fieldLink RX8 53 "FormationPlanner$Scene" "flown" "I", Cond.methodLink RX8 49 yX5_copyFrom, Cond.instanceMethod yX5_copyFrom, Cond.selects RX5 yX5_copyFrom yX5_copyFrom, Cond.code yX5_copyFrom cX5_copyFrom 2 none, Cond.methodLink RX5 23 arraycopyName, Cond.methodLink RX10 220 yX6_discard, Cond.instanceMethod yX6_discard, Cond.selects RX6 yX6_discard yX6_discard, Cond.initialized RX6, Cond.code yX6_discard cX6_discard 1 none, Cond.fieldLink RX6 53 "FormationPlanner$Plan" "stands" "Z", Cond.fieldLink RX6 24 "FormationPlanner$Plan" "stuckDrone" "I", Cond.methodLink RX10 227 yX5_add, Cond.instanceMethod yX5_add, Cond.selects RX5 yX5_add yX5_add, Cond.code yX5_add cX5_add 2 none]
def wsX10_addPlace : List Cond := .code yX10_addPlace cX10_addPlace 3 (some .int) :: ((wsX10_addPlace_r1 ++ (wsX10_addPlace_r2 ++ wsX10_addPlace_r3)) ++ wsX50 ++ wsX100 ++ wsX80 ++ wsX30 ++ wsX60)
def wsX10_addDrone_r1 : List Cond := [Cond.fieldLink RX10 12 "FormationPlanner" "scene" "LFormationPlanner$Scene;", Cond.fieldLink RX10 77 "FormationPlanner$Scene" "drones" "LFormationPlanner$Places;", Cond.methodLink RX10 93 yX10_addPlace, Cond.instanceMethod yX10_addPlace, Cond.selects RX10 yX10_addPlace yX10_addPlace, Cond.initialized RX10, Cond.code yX10_addPlace cX10_addPlace 3 (some .int), Cond.fieldLink RX10 100 "FormationPlanner$Places" "size" "I", Cond.fieldLink RX10 90 "FormationPlanner$Scene" "obstacles" "[I", Cond.methodLink RX10 74 yX10_isCell, Cond.static yX10_isCell, Cond.code yX10_isCell cX10_isCell 1 (some .boolean), Cond.methodLink RX10 81 yX5_find, Cond.instanceMethod yX5_find, Cond.selects RX5 yX5_find yX5_find, Cond.initialized RX5, Cond.code yX5_find cX5_find 3 (some .int), Cond.fieldLink RX5 15 "FormationPlanner$Places" "size" "I", Cond.fieldLink RX5 9 "FormationPlanner$Places" "cells" "[I", Cond.methodLink RX10 67 yX10_beginChange, Cond.instanceMethod yX10_beginChange, Cond.selects RX10 yX10_beginChange yX10_beginChange, Cond.code yX10_beginChange cX10_beginChange 1 none, Cond.fieldLink RX10 19 "FormationPlanner" "history" "LFormationPlanner$History;"]
def wsX10_addDrone_r2 : List Cond := [Cond.fieldLink RX10 56 "FormationPlanner" "plan" "LFormationPlanner$Plan;", Cond.methodLink RX10 201 yX3_keep, Cond.instanceMethod yX3_keep, Cond.selects RX3 yX3_keep yX3_keep, Cond.initialized RX3, Cond.code yX3_keep cX3_keep 2 none, Cond.fieldLink RX3 11 "FormationPlanner$History" "scenes" "[LFormationPlanner$Scene;", Cond.fieldLink RX3 18 "FormationPlanner$History" "next" "I", Cond.fieldLink RX3 32 "FormationPlanner$History" "size" "I", Cond.methodLink RX3 35 Lib.Math.min.name, Cond.static Lib.Math.min.name, Cond.initialized "java/lang/Math", Cond.code Lib.Math.min.name Lib.Math.min.code 2 (some .int), Cond.methodLink RX3 22 yJ9_floorMod_7cf53, Cond.static yJ9_floorMod_7cf53, Cond.initialized RJ9, Cond.code yJ9_floorMod_7cf53 cJ9_floorMod_7cf53 3 (some .int), Cond.methodLink RX3 28 yX8_copyFrom, Cond.instanceMethod yX8_copyFrom, Cond.selects RX8 yX8_copyFrom yX8_copyFrom, Cond.initialized RX8, Cond.code yX8_copyFrom cX8_copyFrom 2 none, Cond.fieldLink RX8 9 "FormationPlanner$Scene" "winds" "[I", Cond.methodLink RX8 43 arraycopyName]
def wsX10_addDrone_r3 : List Cond := [Cond.native arraycopyName, Cond.static arraycopyName, Cond.initialized "java/lang/System", Cond.fieldLink RX8 15 "FormationPlanner$Scene" "obstacles" "[I", Cond.fieldLink RX8 21 "FormationPlanner$Scene" "drones" "LFormationPlanner$Places;", Cond.fieldLink RX8 25 "FormationPlanner$Scene" "slots" "LFormationPlanner$Places;", Cond.fieldLink RX8 53 "FormationPlanner$Scene" "flown" "I", Cond.methodLink RX8 49 yX5_copyFrom, Cond.instanceMethod yX5_copyFrom, Cond.selects RX5 yX5_copyFrom yX5_copyFrom, Cond.code yX5_copyFrom cX5_copyFrom 2 none, Cond.methodLink RX5 23 arraycopyName, Cond.methodLink RX10 220 yX6_discard, Cond.instanceMethod yX6_discard, Cond.selects RX6 yX6_discard yX6_discard, Cond.initialized RX6, Cond.code yX6_discard cX6_discard 1 none, Cond.fieldLink RX6 53 "FormationPlanner$Plan" "stands" "Z", Cond.fieldLink RX6 24 "FormationPlanner$Plan" "stuckDrone" "I", Cond.methodLink RX10 227 yX5_add, Cond.instanceMethod yX5_add, Cond.selects RX5 yX5_add yX5_add, Cond.code yX5_add cX5_add 2 none]
def wsX10_addDrone : List Cond := .code yX10_addDrone cX10_addDrone 2 (some .int) :: ((wsX10_addDrone_r1 ++ (wsX10_addDrone_r2 ++ wsX10_addDrone_r3)) ++ wsX100 ++ wsX80 ++ wsX50 ++ wsX30 ++ wsX60)
def wsX10_removeDrone_r1 : List Cond := [Cond.fieldLink RX10 12 "FormationPlanner" "scene" "LFormationPlanner$Scene;", Cond.fieldLink RX10 77 "FormationPlanner$Scene" "drones" "LFormationPlanner$Places;", Cond.fieldLink RX10 100 "FormationPlanner$Places" "size" "I", Cond.methodLink RX10 67 yX10_beginChange, Cond.instanceMethod yX10_beginChange, Cond.selects RX10 yX10_beginChange yX10_beginChange, Cond.initialized RX10, Cond.code yX10_beginChange cX10_beginChange 1 none, Cond.fieldLink RX10 19 "FormationPlanner" "history" "LFormationPlanner$History;", Cond.fieldLink RX10 56 "FormationPlanner" "plan" "LFormationPlanner$Plan;", Cond.methodLink RX10 201 yX3_keep, Cond.instanceMethod yX3_keep, Cond.selects RX3 yX3_keep yX3_keep, Cond.initialized RX3, Cond.code yX3_keep cX3_keep 2 none, Cond.fieldLink RX3 11 "FormationPlanner$History" "scenes" "[LFormationPlanner$Scene;", Cond.fieldLink RX3 18 "FormationPlanner$History" "next" "I", Cond.fieldLink RX3 32 "FormationPlanner$History" "size" "I", Cond.methodLink RX3 35 Lib.Math.min.name, Cond.static Lib.Math.min.name, Cond.initialized "java/lang/Math", Cond.code Lib.Math.min.name Lib.Math.min.code 2 (some .int), Cond.methodLink RX3 22 yJ9_floorMod_7cf53, Cond.static yJ9_floorMod_7cf53]
def wsX10_removeDrone_r2 : List Cond := [Cond.initialized RJ9, Cond.code yJ9_floorMod_7cf53 cJ9_floorMod_7cf53 3 (some .int), Cond.methodLink RX3 28 yX8_copyFrom, Cond.instanceMethod yX8_copyFrom, Cond.selects RX8 yX8_copyFrom yX8_copyFrom, Cond.initialized RX8, Cond.code yX8_copyFrom cX8_copyFrom 2 none, Cond.fieldLink RX8 9 "FormationPlanner$Scene" "winds" "[I", Cond.methodLink RX8 43 arraycopyName, Cond.native arraycopyName, Cond.static arraycopyName, Cond.initialized "java/lang/System", Cond.fieldLink RX8 15 "FormationPlanner$Scene" "obstacles" "[I", Cond.fieldLink RX8 21 "FormationPlanner$Scene" "drones" "LFormationPlanner$Places;", Cond.fieldLink RX8 25 "FormationPlanner$Scene" "slots" "LFormationPlanner$Places;", Cond.fieldLink RX8 53 "FormationPlanner$Scene" "flown" "I", Cond.methodLink RX8 49 yX5_copyFrom, Cond.instanceMethod yX5_copyFrom, Cond.selects RX5 yX5_copyFrom yX5_copyFrom, Cond.initialized RX5, Cond.code yX5_copyFrom cX5_copyFrom 2 none, Cond.fieldLink RX5 9 "FormationPlanner$Places" "cells" "[I", Cond.methodLink RX5 23 arraycopyName, Cond.fieldLink RX5 15 "FormationPlanner$Places" "size" "I"]
def wsX10_removeDrone_r3 : List Cond := [Cond.methodLink RX10 220 yX6_discard, Cond.instanceMethod yX6_discard, Cond.selects RX6 yX6_discard yX6_discard, Cond.initialized RX6, Cond.code yX6_discard cX6_discard 1 none, Cond.fieldLink RX6 53 "FormationPlanner$Plan" "stands" "Z", Cond.fieldLink RX6 24 "FormationPlanner$Plan" "stuckDrone" "I", Cond.methodLink RX10 97 yX5_remove, Cond.instanceMethod yX5_remove, Cond.selects RX5 yX5_remove yX5_remove, Cond.code yX5_remove cX5_remove 3 (some .boolean), Cond.methodLink RX5 19 yX5_has, Cond.instanceMethod yX5_has, Cond.selects RX5 yX5_has yX5_has, Cond.code yX5_has cX5_has 2 (some .boolean)]
def wsX10_removeDrone : List Cond := .code yX10_removeDrone cX10_removeDrone 2 (some .int) :: ((wsX10_removeDrone_r1 ++ (wsX10_removeDrone_r2 ++ wsX10_removeDrone_r3)) ++ wsX100 ++ wsX80 ++ wsX50 ++ wsX30 ++ wsX60)
def wsX10_addSlot_r1 : List Cond := [Cond.fieldLink RX10 12 "FormationPlanner" "scene" "LFormationPlanner$Scene;", Cond.fieldLink RX10 87 "FormationPlanner$Scene" "slots" "LFormationPlanner$Places;", Cond.methodLink RX10 93 yX10_addPlace, Cond.instanceMethod yX10_addPlace, Cond.selects RX10 yX10_addPlace yX10_addPlace, Cond.initialized RX10, Cond.code yX10_addPlace cX10_addPlace 3 (some .int), Cond.fieldLink RX10 100 "FormationPlanner$Places" "size" "I", Cond.fieldLink RX10 90 "FormationPlanner$Scene" "obstacles" "[I", Cond.methodLink RX10 74 yX10_isCell, Cond.static yX10_isCell, Cond.code yX10_isCell cX10_isCell 1 (some .boolean), Cond.methodLink RX10 81 yX5_find, Cond.instanceMethod yX5_find, Cond.selects RX5 yX5_find yX5_find, Cond.initialized RX5, Cond.code yX5_find cX5_find 3 (some .int), Cond.fieldLink RX5 15 "FormationPlanner$Places" "size" "I", Cond.fieldLink RX5 9 "FormationPlanner$Places" "cells" "[I", Cond.methodLink RX10 67 yX10_beginChange, Cond.instanceMethod yX10_beginChange, Cond.selects RX10 yX10_beginChange yX10_beginChange, Cond.code yX10_beginChange cX10_beginChange 1 none, Cond.fieldLink RX10 19 "FormationPlanner" "history" "LFormationPlanner$History;"]
def wsX10_addSlot_r2 : List Cond := [Cond.fieldLink RX10 56 "FormationPlanner" "plan" "LFormationPlanner$Plan;", Cond.methodLink RX10 201 yX3_keep, Cond.instanceMethod yX3_keep, Cond.selects RX3 yX3_keep yX3_keep, Cond.initialized RX3, Cond.code yX3_keep cX3_keep 2 none, Cond.fieldLink RX3 11 "FormationPlanner$History" "scenes" "[LFormationPlanner$Scene;", Cond.fieldLink RX3 18 "FormationPlanner$History" "next" "I", Cond.fieldLink RX3 32 "FormationPlanner$History" "size" "I", Cond.methodLink RX3 35 Lib.Math.min.name, Cond.static Lib.Math.min.name, Cond.initialized "java/lang/Math", Cond.code Lib.Math.min.name Lib.Math.min.code 2 (some .int), Cond.methodLink RX3 22 yJ9_floorMod_7cf53, Cond.static yJ9_floorMod_7cf53, Cond.initialized RJ9, Cond.code yJ9_floorMod_7cf53 cJ9_floorMod_7cf53 3 (some .int), Cond.methodLink RX3 28 yX8_copyFrom, Cond.instanceMethod yX8_copyFrom, Cond.selects RX8 yX8_copyFrom yX8_copyFrom, Cond.initialized RX8, Cond.code yX8_copyFrom cX8_copyFrom 2 none, Cond.fieldLink RX8 9 "FormationPlanner$Scene" "winds" "[I", Cond.methodLink RX8 43 arraycopyName]
def wsX10_addSlot_r3 : List Cond := [Cond.native arraycopyName, Cond.static arraycopyName, Cond.initialized "java/lang/System", Cond.fieldLink RX8 15 "FormationPlanner$Scene" "obstacles" "[I", Cond.fieldLink RX8 21 "FormationPlanner$Scene" "drones" "LFormationPlanner$Places;", Cond.fieldLink RX8 25 "FormationPlanner$Scene" "slots" "LFormationPlanner$Places;", Cond.fieldLink RX8 53 "FormationPlanner$Scene" "flown" "I", Cond.methodLink RX8 49 yX5_copyFrom, Cond.instanceMethod yX5_copyFrom, Cond.selects RX5 yX5_copyFrom yX5_copyFrom, Cond.code yX5_copyFrom cX5_copyFrom 2 none, Cond.methodLink RX5 23 arraycopyName, Cond.methodLink RX10 220 yX6_discard, Cond.instanceMethod yX6_discard, Cond.selects RX6 yX6_discard yX6_discard, Cond.initialized RX6, Cond.code yX6_discard cX6_discard 1 none, Cond.fieldLink RX6 53 "FormationPlanner$Plan" "stands" "Z", Cond.fieldLink RX6 24 "FormationPlanner$Plan" "stuckDrone" "I", Cond.methodLink RX10 227 yX5_add, Cond.instanceMethod yX5_add, Cond.selects RX5 yX5_add yX5_add, Cond.code yX5_add cX5_add 2 none]
def wsX10_addSlot : List Cond := .code yX10_addSlot cX10_addSlot 2 (some .int) :: ((wsX10_addSlot_r1 ++ (wsX10_addSlot_r2 ++ wsX10_addSlot_r3)) ++ wsX100 ++ wsX80 ++ wsX50 ++ wsX30 ++ wsX60)
def wsX10_clearSlots_r1 : List Cond := [Cond.fieldLink RX10 12 "FormationPlanner" "scene" "LFormationPlanner$Scene;", Cond.fieldLink RX10 87 "FormationPlanner$Scene" "slots" "LFormationPlanner$Places;", Cond.fieldLink RX10 100 "FormationPlanner$Places" "size" "I", Cond.methodLink RX10 67 yX10_beginChange, Cond.instanceMethod yX10_beginChange, Cond.selects RX10 yX10_beginChange yX10_beginChange, Cond.initialized RX10, Cond.code yX10_beginChange cX10_beginChange 1 none, Cond.fieldLink RX10 19 "FormationPlanner" "history" "LFormationPlanner$History;", Cond.fieldLink RX10 56 "FormationPlanner" "plan" "LFormationPlanner$Plan;", Cond.methodLink RX10 201 yX3_keep, Cond.instanceMethod yX3_keep, Cond.selects RX3 yX3_keep yX3_keep, Cond.initialized RX3, Cond.code yX3_keep cX3_keep 2 none, Cond.fieldLink RX3 11 "FormationPlanner$History" "scenes" "[LFormationPlanner$Scene;", Cond.fieldLink RX3 18 "FormationPlanner$History" "next" "I", Cond.fieldLink RX3 32 "FormationPlanner$History" "size" "I", Cond.methodLink RX3 35 Lib.Math.min.name, Cond.static Lib.Math.min.name, Cond.initialized "java/lang/Math", Cond.code Lib.Math.min.name Lib.Math.min.code 2 (some .int), Cond.methodLink RX3 22 yJ9_floorMod_7cf53, Cond.static yJ9_floorMod_7cf53]
def wsX10_clearSlots_r2 : List Cond := [Cond.initialized RJ9, Cond.code yJ9_floorMod_7cf53 cJ9_floorMod_7cf53 3 (some .int), Cond.methodLink RX3 28 yX8_copyFrom, Cond.instanceMethod yX8_copyFrom, Cond.selects RX8 yX8_copyFrom yX8_copyFrom, Cond.initialized RX8, Cond.code yX8_copyFrom cX8_copyFrom 2 none, Cond.fieldLink RX8 9 "FormationPlanner$Scene" "winds" "[I", Cond.methodLink RX8 43 arraycopyName, Cond.native arraycopyName, Cond.static arraycopyName, Cond.initialized "java/lang/System", Cond.fieldLink RX8 15 "FormationPlanner$Scene" "obstacles" "[I", Cond.fieldLink RX8 21 "FormationPlanner$Scene" "drones" "LFormationPlanner$Places;", Cond.fieldLink RX8 25 "FormationPlanner$Scene" "slots" "LFormationPlanner$Places;", Cond.fieldLink RX8 53 "FormationPlanner$Scene" "flown" "I", Cond.methodLink RX8 49 yX5_copyFrom, Cond.instanceMethod yX5_copyFrom, Cond.selects RX5 yX5_copyFrom yX5_copyFrom, Cond.initialized RX5, Cond.code yX5_copyFrom cX5_copyFrom 2 none, Cond.fieldLink RX5 9 "FormationPlanner$Places" "cells" "[I", Cond.methodLink RX5 23 arraycopyName, Cond.fieldLink RX5 15 "FormationPlanner$Places" "size" "I"]
def wsX10_clearSlots_r3 : List Cond := [Cond.methodLink RX10 220 yX6_discard, Cond.instanceMethod yX6_discard, Cond.selects RX6 yX6_discard yX6_discard, Cond.initialized RX6, Cond.code yX6_discard cX6_discard 1 none, Cond.fieldLink RX6 53 "FormationPlanner$Plan" "stands" "Z", Cond.fieldLink RX6 24 "FormationPlanner$Plan" "stuckDrone" "I", Cond.methodLink RX10 104 yX5_clear, Cond.instanceMethod yX5_clear, Cond.selects RX5 yX5_clear yX5_clear, Cond.code yX5_clear cX5_clear 1 none]
def wsX10_clearSlots : List Cond := .code yX10_clearSlots cX10_clearSlots 2 (some .int) :: ((wsX10_clearSlots_r1 ++ (wsX10_clearSlots_r2 ++ wsX10_clearSlots_r3)) ++ wsX100 ++ wsX80 ++ wsX50 ++ wsX30 ++ wsX60)
def wsX10_append : List Cond := .code yX10_append cX10_append 3 (some .int) :: ([.fieldLink RX10 26 "FormationPlanner" "text" "LFormationPlanner$Formation;", .fieldLink RX10 111 "FormationPlanner$Formation" "length" "I", .methodLink RX10 107 yX2_lengthen, .instanceMethod yX2_lengthen, .selects RX2 yX2_lengthen yX2_lengthen, .initialized RX2, .code yX2_lengthen cX2_lengthen 4 (some .boolean), .fieldLink RX2 22 "FormationPlanner$Formation" "length" "I", .fieldLink RX2 9 "FormationPlanner$Formation" "signs" "[I"] ++ wsX100 ++ wsX20)
def wsX10_hasObstacle : List Cond := .code yX10_hasObstacle cX10_hasObstacle 3 (some .boolean) :: ([.fieldLink RX10 100 "FormationPlanner$Places" "size" "I", .fieldLink RX10 12 "FormationPlanner" "scene" "LFormationPlanner$Scene;", .methodLink RX10 210 yX5_cellAt, .instanceMethod yX5_cellAt, .selects RX5 yX5_cellAt yX5_cellAt, .initialized RX5, .code yX5_cellAt cX5_cellAt 2 (some .int), .fieldLink RX5 9 "FormationPlanner$Places" "cells" "[I", .methodLink RX5 19 yX5_has, .instanceMethod yX5_has, .selects RX5 yX5_has yX5_has, .code yX5_has cX5_has 2 (some .boolean), .fieldLink RX5 15 "FormationPlanner$Places" "size" "I", .methodLink RX10 230 yX8_hasObstacleAt, .instanceMethod yX8_hasObstacleAt, .selects RX8 yX8_hasObstacleAt yX8_hasObstacleAt, .initialized RX8, .code yX8_hasObstacleAt cX8_hasObstacleAt 2 (some .boolean), .fieldLink RX8 15 "FormationPlanner$Scene" "obstacles" "[I", .static yX10_isCell, .initialized RX10, .code yX10_isCell cX10_isCell 1 (some .boolean)] ++ wsX50 ++ wsX100 ++ wsX80)
def wsX10_readSlots_r1 : List Cond := [Cond.fieldLink RX10 26 "FormationPlanner" "text" "LFormationPlanner$Formation;", Cond.fieldLink RX10 118 "FormationPlanner$Formation" "repeats" "Z", Cond.fieldLink RX10 122 "FormationPlanner$Formation" "places" "LFormationPlanner$Places;", Cond.fieldLink RX10 12 "FormationPlanner" "scene" "LFormationPlanner$Scene;", Cond.fieldLink RX10 87 "FormationPlanner$Scene" "slots" "LFormationPlanner$Places;", Cond.methodLink RX10 114 yX2_read, Cond.instanceMethod yX2_read, Cond.selects RX2 yX2_read yX2_read, Cond.initialized RX2, Cond.code yX2_read cX2_read 2 (some .int), Cond.fieldLink RX2 26 "FormationPlanner$Formation" "offset" "I", Cond.fieldLink RX2 29 "FormationPlanner$Formation" "repeats" "Z", Cond.fieldLink RX2 18 "FormationPlanner$Formation" "places" "LFormationPlanner$Places;", Cond.fieldLink RX2 22 "FormationPlanner$Formation" "length" "I", Cond.methodLink RX2 33 yX5_clear, Cond.instanceMethod yX5_clear, Cond.selects RX5 yX5_clear yX5_clear, Cond.initialized RX5, Cond.code yX5_clear cX5_clear 1 none, Cond.fieldLink RX5 15 "FormationPlanner$Places" "size" "I", Cond.methodLink RX2 36 yX2_readPositions, Cond.instanceMethod yX2_readPositions, Cond.selects RX2 yX2_readPositions yX2_readPositions, Cond.code yX2_readPositions cX2_readPositions 2 (some .int)]
def wsX10_readSlots_r2 : List Cond := [Cond.methodLink RX2 40 yX2_readPosition, Cond.instanceMethod yX2_readPosition, Cond.selects RX2 yX2_readPosition yX2_readPosition, Cond.code yX2_readPosition cX2_readPosition 4 (some .boolean), Cond.methodLink RX2 44 yX2_signHere, Cond.instanceMethod yX2_signHere, Cond.selects RX2 yX2_signHere yX2_signHere, Cond.code yX2_signHere cX2_signHere 1 (some .int), Cond.fieldLink RX2 9 "FormationPlanner$Formation" "signs" "[I", Cond.methodLink RX2 47 yX2_note, Cond.instanceMethod yX2_note, Cond.selects RX2 yX2_note yX2_note, Cond.code yX2_note cX2_note 2 none, Cond.methodLink RX2 51 yX5_find, Cond.instanceMethod yX5_find, Cond.selects RX5 yX5_find yX5_find, Cond.code yX5_find cX5_find 3 (some .int), Cond.fieldLink RX5 9 "FormationPlanner$Places" "cells" "[I", Cond.methodLink RX2 55 yX5_add, Cond.instanceMethod yX5_add, Cond.selects RX5 yX5_add yX5_add, Cond.code yX5_add cX5_add 2 none, Cond.methodLink RX10 125 yX10_hasObstacle, Cond.instanceMethod yX10_hasObstacle]
def wsX10_readSlots_r3 : List Cond := [Cond.selects RX10 yX10_hasObstacle yX10_hasObstacle, Cond.initialized RX10, Cond.code yX10_hasObstacle cX10_hasObstacle 3 (some .boolean), Cond.fieldLink RX10 100 "FormationPlanner$Places" "size" "I", Cond.methodLink RX10 210 yX5_cellAt, Cond.instanceMethod yX5_cellAt, Cond.selects RX5 yX5_cellAt yX5_cellAt, Cond.code yX5_cellAt cX5_cellAt 2 (some .int), Cond.methodLink RX5 19 yX5_has, Cond.instanceMethod yX5_has, Cond.selects RX5 yX5_has yX5_has, Cond.code yX5_has cX5_has 2 (some .boolean), Cond.methodLink RX10 230 yX8_hasObstacleAt, Cond.instanceMethod yX8_hasObstacleAt, Cond.selects RX8 yX8_hasObstacleAt yX8_hasObstacleAt, Cond.initialized RX8, Cond.code yX8_hasObstacleAt cX8_hasObstacleAt 2 (some .boolean), Cond.fieldLink RX8 15 "FormationPlanner$Scene" "obstacles" "[I", Cond.static yX10_isCell, Cond.code yX10_isCell cX10_isCell 1 (some .boolean), Cond.methodLink RX10 67 yX10_beginChange, Cond.instanceMethod yX10_beginChange, Cond.selects RX10 yX10_beginChange yX10_beginChange, Cond.code yX10_beginChange cX10_beginChange 1 none]
def wsX10_readSlots_r4 : List Cond := [Cond.fieldLink RX10 19 "FormationPlanner" "history" "LFormationPlanner$History;", Cond.fieldLink RX10 56 "FormationPlanner" "plan" "LFormationPlanner$Plan;", Cond.methodLink RX10 201 yX3_keep, Cond.instanceMethod yX3_keep, Cond.selects RX3 yX3_keep yX3_keep, Cond.initialized RX3, Cond.code yX3_keep cX3_keep 2 none, Cond.fieldLink RX3 11 "FormationPlanner$History" "scenes" "[LFormationPlanner$Scene;", Cond.fieldLink RX3 18 "FormationPlanner$History" "next" "I", Cond.fieldLink RX3 32 "FormationPlanner$History" "size" "I", Cond.methodLink RX3 35 Lib.Math.min.name, Cond.static Lib.Math.min.name, Cond.initialized "java/lang/Math", Cond.code Lib.Math.min.name Lib.Math.min.code 2 (some .int), Cond.methodLink RX3 22 yJ9_floorMod_7cf53, Cond.static yJ9_floorMod_7cf53, Cond.initialized RJ9, Cond.code yJ9_floorMod_7cf53 cJ9_floorMod_7cf53 3 (some .int), Cond.methodLink RX3 28 yX8_copyFrom, Cond.instanceMethod yX8_copyFrom, Cond.selects RX8 yX8_copyFrom yX8_copyFrom, Cond.code yX8_copyFrom cX8_copyFrom 2 none, Cond.fieldLink RX8 9 "FormationPlanner$Scene" "winds" "[I", Cond.methodLink RX8 43 arraycopyName]
def wsX10_readSlots_r5 : List Cond := [Cond.native arraycopyName, Cond.static arraycopyName, Cond.initialized "java/lang/System", Cond.fieldLink RX8 21 "FormationPlanner$Scene" "drones" "LFormationPlanner$Places;", Cond.fieldLink RX8 25 "FormationPlanner$Scene" "slots" "LFormationPlanner$Places;", Cond.fieldLink RX8 53 "FormationPlanner$Scene" "flown" "I", Cond.methodLink RX8 49 yX5_copyFrom, Cond.instanceMethod yX5_copyFrom, Cond.selects RX5 yX5_copyFrom yX5_copyFrom, Cond.code yX5_copyFrom cX5_copyFrom 2 none, Cond.methodLink RX5 23 arraycopyName, Cond.methodLink RX10 220 yX6_discard, Cond.instanceMethod yX6_discard, Cond.selects RX6 yX6_discard yX6_discard, Cond.initialized RX6, Cond.code yX6_discard cX6_discard 1 none, Cond.fieldLink RX6 53 "FormationPlanner$Plan" "stands" "Z", Cond.fieldLink RX6 24 "FormationPlanner$Plan" "stuckDrone" "I", Cond.methodLink RX10 129 yX5_copyFrom]
def wsX10_readSlots : List Cond := .code yX10_readSlots cX10_readSlots 2 (some .int) :: ((wsX10_readSlots_r1 ++ (wsX10_readSlots_r2 ++ (wsX10_readSlots_r3 ++ (wsX10_readSlots_r4 ++ wsX10_readSlots_r5)))) ++ wsX100 ++ wsX20 ++ wsX80 ++ wsX50 ++ wsX30 ++ wsX60)
def wsX10_flightTime_r1 : List Cond := [Cond.fieldLink RX10 40 "FormationPlanner" "timesTo" "LFormationPlanner$TimesTo;", Cond.methodLink RX10 74 yX10_isCell, Cond.static yX10_isCell, Cond.initialized RX10, Cond.code yX10_isCell cX10_isCell 1 (some .boolean), Cond.methodLink RX10 133 yX9_measure, Cond.instanceMethod yX9_measure, Cond.selects RX9 yX9_measure yX9_measure, Cond.initialized RX9, Cond.code yX9_measure cX9_measure 5 none, Cond.fieldLink RX9 9 "FormationPlanner$TimesTo" "times" "[I", Cond.fieldLink RX9 15 "FormationPlanner$TimesTo" "lattice" "LFormationPlanner$Lattice;", Cond.fieldLink RX9 29 "FormationPlanner$Lattice" "scene" "LFormationPlanner$Scene;", Cond.fieldLink RX9 35 "FormationPlanner$Scene" "obstacles" "[I", Cond.methodLink RX9 44 Lib.Math.max.name, Cond.static Lib.Math.max.name, Cond.initialized "java/lang/Math", Cond.code Lib.Math.max.name Lib.Math.max.code 2 (some .int), Cond.methodLink RX9 19 yJ7_fill_53178, Cond.static yJ7_fill_53178, Cond.initialized RJ7, Cond.code yJ7_fill_53178 cJ7_fill_53178 4 none, Cond.methodLink RX9 40 yX9_spreadBack, Cond.instanceMethod yX9_spreadBack]
def wsX10_flightTime_r2 : List Cond := [Cond.selects RX9 yX9_spreadBack yX9_spreadBack, Cond.code yX9_spreadBack cX9_spreadBack 7 (some .int), Cond.methodLink RX9 49 yX4_next, Cond.instanceMethod yX4_next, Cond.selects RX4 yX4_next yX4_next, Cond.initialized RX4, Cond.code yX4_next cX4_next 4 (some .int), Cond.fieldLink RX4 9 "FormationPlanner$Lattice" "neighbours" "[I", Cond.fieldLink RX4 15 "FormationPlanner$Lattice" "scene" "LFormationPlanner$Scene;", Cond.fieldLink RX4 30 "FormationPlanner$Scene" "obstacles" "[I", Cond.static yX10_isAction, Cond.code yX10_isAction cX10_isAction 1 (some .boolean), Cond.methodLink RX9 56 yX4_ticks, Cond.instanceMethod yX4_ticks, Cond.selects RX4 yX4_ticks yX4_ticks, Cond.code yX4_ticks cX4_ticks 4 (some .int), Cond.fieldLink RX4 35 "FormationPlanner$Scene" "winds" "[I", Cond.methodLink RX10 137 yX9_timeFrom, Cond.instanceMethod yX9_timeFrom, Cond.selects RX9 yX9_timeFrom yX9_timeFrom, Cond.code yX9_timeFrom cX9_timeFrom 2 (some .int)]
def wsX10_flightTime : List Cond := .code yX10_flightTime cX10_flightTime 3 (some .int) :: ((wsX10_flightTime_r1 ++ wsX10_flightTime_r2) ++ wsX100 ++ wsX90 ++ wsX40 ++ wsX80)
def wsX10_assigned_r1 : List Cond := [Cond.fieldLink RX10 12 "FormationPlanner" "scene" "LFormationPlanner$Scene;", Cond.fieldLink RX10 77 "FormationPlanner$Scene" "drones" "LFormationPlanner$Places;", Cond.fieldLink RX10 49 "FormationPlanner" "assigner" "LFormationPlanner$Assigner;", Cond.methodLink RX10 140 yX5_has, Cond.instanceMethod yX5_has, Cond.selects RX5 yX5_has yX5_has, Cond.initialized RX5, Cond.code yX5_has cX5_has 2 (some .boolean), Cond.fieldLink RX5 15 "FormationPlanner$Places" "size" "I", Cond.methodLink RX10 143 yX0_assign, Cond.instanceMethod yX0_assign, Cond.selects RX0 yX0_assign yX0_assign, Cond.initialized RX0, Cond.code yX0_assign cX0_assign 3 (some .int), Cond.fieldLink RX0 24 "FormationPlanner$Assigner" "scene" "LFormationPlanner$Scene;", Cond.fieldLink RX0 31 "FormationPlanner$Scene" "drones" "LFormationPlanner$Places;", Cond.fieldLink RX0 37 "FormationPlanner$Places" "size" "I", Cond.fieldLink RX0 43 "FormationPlanner$Scene" "slots" "LFormationPlanner$Places;", Cond.methodLink RX0 46 Lib.Math.min.name, Cond.static Lib.Math.min.name, Cond.initialized "java/lang/Math", Cond.code Lib.Math.min.name Lib.Math.min.code 2 (some .int), Cond.fieldLink RX0 52 "FormationPlanner$Assigner" "size" "I", Cond.fieldLink RX0 53 "FormationPlanner$Assigner" "all" "I"]
def wsX10_assigned_r2 : List Cond := [Cond.fieldLink RX0 11 "FormationPlanner$Assigner" "toSlot" "[LFormationPlanner$TimesTo;", Cond.fieldLink RX0 17 "FormationPlanner$Assigner" "trial" "[I", Cond.methodLink RX0 56 yX5_cellAt, Cond.instanceMethod yX5_cellAt, Cond.selects RX5 yX5_cellAt yX5_cellAt, Cond.code yX5_cellAt cX5_cellAt 2 (some .int), Cond.fieldLink RX5 9 "FormationPlanner$Places" "cells" "[I", Cond.methodLink RX5 19 yX5_has, Cond.methodLink RX0 60 yX9_measure, Cond.instanceMethod yX9_measure, Cond.selects RX9 yX9_measure yX9_measure, Cond.initialized RX9, Cond.code yX9_measure cX9_measure 5 none, Cond.fieldLink RX9 9 "FormationPlanner$TimesTo" "times" "[I", Cond.fieldLink RX9 15 "FormationPlanner$TimesTo" "lattice" "LFormationPlanner$Lattice;", Cond.fieldLink RX9 29 "FormationPlanner$Lattice" "scene" "LFormationPlanner$Scene;", Cond.fieldLink RX9 35 "FormationPlanner$Scene" "obstacles" "[I", Cond.methodLink RX9 44 Lib.Math.max.name, Cond.static Lib.Math.max.name, Cond.code Lib.Math.max.name Lib.Math.max.code 2 (some .int), Cond.methodLink RX9 19 yJ7_fill_53178, Cond.static yJ7_fill_53178, Cond.initialized RJ7, Cond.code yJ7_fill_53178 cJ7_fill_53178 4 none]
def wsX10_assigned_r3 : List Cond := [Cond.static yX10_isCell, Cond.initialized RX10, Cond.code yX10_isCell cX10_isCell 1 (some .boolean), Cond.methodLink RX9 40 yX9_spreadBack, Cond.instanceMethod yX9_spreadBack, Cond.selects RX9 yX9_spreadBack yX9_spreadBack, Cond.code yX9_spreadBack cX9_spreadBack 7 (some .int), Cond.methodLink RX9 49 yX4_next, Cond.instanceMethod yX4_next, Cond.selects RX4 yX4_next yX4_next, Cond.initialized RX4, Cond.code yX4_next cX4_next 4 (some .int), Cond.fieldLink RX4 9 "FormationPlanner$Lattice" "neighbours" "[I", Cond.fieldLink RX4 15 "FormationPlanner$Lattice" "scene" "LFormationPlanner$Scene;", Cond.fieldLink RX4 30 "FormationPlanner$Scene" "obstacles" "[I", Cond.static yX10_isAction, Cond.code yX10_isAction cX10_isAction 1 (some .boolean), Cond.methodLink RX9 56 yX4_ticks, Cond.instanceMethod yX4_ticks, Cond.selects RX4 yX4_ticks yX4_ticks, Cond.code yX4_ticks cX4_ticks 4 (some .int), Cond.fieldLink RX4 35 "FormationPlanner$Scene" "winds" "[I", Cond.methodLink RX0 64 yX0_weigh, Cond.instanceMethod yX0_weigh]
def wsX10_assigned_r4 : List Cond := [Cond.selects RX0 yX0_weigh yX0_weigh, Cond.code yX0_weigh cX0_weigh 5 none, Cond.methodLink RX0 80 Lib.Math.max.name, Cond.fieldLink RX0 83 "FormationPlanner$Assigner" "greatest" "I", Cond.fieldLink RX0 86 "FormationPlanner$Assigner" "alike" "I", Cond.fieldLink RX0 93 "FormationPlanner$Assigner" "sum" "I", Cond.methodLink RX0 74 yX0_time, Cond.instanceMethod yX0_time, Cond.selects RX0 yX0_time yX0_time, Cond.code yX0_time cX0_time 3 (some .int), Cond.methodLink RX0 77 yX9_timeFrom, Cond.instanceMethod yX9_timeFrom, Cond.selects RX9 yX9_timeFrom yX9_timeFrom, Cond.code yX9_timeFrom cX9_timeFrom 2 (some .int), Cond.methodLink RX0 89 yX0_take, Cond.instanceMethod yX0_take, Cond.selects RX0 yX0_take yX0_take, Cond.code yX0_take cX0_take 3 none, Cond.fieldLink RX0 21 "FormationPlanner$Assigner" "best" "[I", Cond.methodLink RX0 96 arraycopyName, Cond.native arraycopyName, Cond.static arraycopyName, Cond.initialized "java/lang/System", Cond.methodLink RX0 67 yX0_nextTrial]
def wsX10_assigned_r5 : List Cond := [Cond.instanceMethod yX0_nextTrial, Cond.selects RX0 yX0_nextTrial yX0_nextTrial, Cond.code yX0_nextTrial cX0_nextTrial 5 (some .boolean), Cond.methodLink RX0 102 yX0_swap, Cond.instanceMethod yX0_swap, Cond.selects RX0 yX0_swap yX0_swap, Cond.code yX0_swap cX0_swap 4 none, Cond.methodLink RX10 146 yX0_slotOf, Cond.instanceMethod yX0_slotOf, Cond.selects RX0 yX0_slotOf yX0_slotOf, Cond.code yX0_slotOf cX0_slotOf 2 (some .int)]
def wsX10_assigned : List Cond := .code yX10_assigned cX10_assigned 3 (some .int) :: ((wsX10_assigned_r1 ++ (wsX10_assigned_r2 ++ (wsX10_assigned_r3 ++ (wsX10_assigned_r4 ++ wsX10_assigned_r5)))) ++ wsX100 ++ wsX80 ++ wsX50 ++ wsX00 ++ wsX90 ++ wsX40)
def wsX10_assignment_r1 : List Cond := [Cond.fieldLink RX10 49 "FormationPlanner" "assigner" "LFormationPlanner$Assigner;", Cond.fieldLink RX10 149 "FormationPlanner$Assigner" "greatest" "I", Cond.fieldLink RX10 152 "FormationPlanner$Assigner" "sum" "I", Cond.fieldLink RX10 155 "FormationPlanner$Assigner" "alike" "I", Cond.fieldLink RX10 158 "FormationPlanner$Assigner" "all" "I", Cond.methodLink RX10 143 yX0_assign, Cond.instanceMethod yX0_assign, Cond.selects RX0 yX0_assign yX0_assign, Cond.initialized RX0, Cond.code yX0_assign cX0_assign 3 (some .int), Cond.fieldLink RX0 24 "FormationPlanner$Assigner" "scene" "LFormationPlanner$Scene;", Cond.fieldLink RX0 31 "FormationPlanner$Scene" "drones" "LFormationPlanner$Places;", Cond.fieldLink RX0 37 "FormationPlanner$Places" "size" "I", Cond.fieldLink RX0 43 "FormationPlanner$Scene" "slots" "LFormationPlanner$Places;", Cond.methodLink RX0 46 Lib.Math.min.name, Cond.static Lib.Math.min.name, Cond.initialized "java/lang/Math", Cond.code Lib.Math.min.name Lib.Math.min.code 2 (some .int), Cond.fieldLink RX0 52 "FormationPlanner$Assigner" "size" "I", Cond.fieldLink RX0 53 "FormationPlanner$Assigner" "all" "I", Cond.fieldLink RX0 11 "FormationPlanner$Assigner" "toSlot" "[LFormationPlanner$TimesTo;", Cond.fieldLink RX0 17 "FormationPlanner$Assigner" "trial" "[I", Cond.methodLink RX0 56 yX5_cellAt, Cond.instanceMethod yX5_cellAt]
def wsX10_assignment_r2 : List Cond := [Cond.selects RX5 yX5_cellAt yX5_cellAt, Cond.initialized RX5, Cond.code yX5_cellAt cX5_cellAt 2 (some .int), Cond.fieldLink RX5 9 "FormationPlanner$Places" "cells" "[I", Cond.methodLink RX5 19 yX5_has, Cond.instanceMethod yX5_has, Cond.selects RX5 yX5_has yX5_has, Cond.code yX5_has cX5_has 2 (some .boolean), Cond.fieldLink RX5 15 "FormationPlanner$Places" "size" "I", Cond.methodLink RX0 60 yX9_measure, Cond.instanceMethod yX9_measure, Cond.selects RX9 yX9_measure yX9_measure, Cond.initialized RX9, Cond.code yX9_measure cX9_measure 5 none, Cond.fieldLink RX9 9 "FormationPlanner$TimesTo" "times" "[I", Cond.fieldLink RX9 15 "FormationPlanner$TimesTo" "lattice" "LFormationPlanner$Lattice;", Cond.fieldLink RX9 29 "FormationPlanner$Lattice" "scene" "LFormationPlanner$Scene;", Cond.fieldLink RX9 35 "FormationPlanner$Scene" "obstacles" "[I", Cond.methodLink RX9 44 Lib.Math.max.name, Cond.static Lib.Math.max.name, Cond.code Lib.Math.max.name Lib.Math.max.code 2 (some .int), Cond.methodLink RX9 19 yJ7_fill_53178, Cond.static yJ7_fill_53178, Cond.initialized RJ7]
def wsX10_assignment_r3 : List Cond := [Cond.code yJ7_fill_53178 cJ7_fill_53178 4 none, Cond.static yX10_isCell, Cond.initialized RX10, Cond.code yX10_isCell cX10_isCell 1 (some .boolean), Cond.methodLink RX9 40 yX9_spreadBack, Cond.instanceMethod yX9_spreadBack, Cond.selects RX9 yX9_spreadBack yX9_spreadBack, Cond.code yX9_spreadBack cX9_spreadBack 7 (some .int), Cond.methodLink RX9 49 yX4_next, Cond.instanceMethod yX4_next, Cond.selects RX4 yX4_next yX4_next, Cond.initialized RX4, Cond.code yX4_next cX4_next 4 (some .int), Cond.fieldLink RX4 9 "FormationPlanner$Lattice" "neighbours" "[I", Cond.fieldLink RX4 15 "FormationPlanner$Lattice" "scene" "LFormationPlanner$Scene;", Cond.fieldLink RX4 30 "FormationPlanner$Scene" "obstacles" "[I", Cond.static yX10_isAction, Cond.code yX10_isAction cX10_isAction 1 (some .boolean), Cond.methodLink RX9 56 yX4_ticks, Cond.instanceMethod yX4_ticks, Cond.selects RX4 yX4_ticks yX4_ticks, Cond.code yX4_ticks cX4_ticks 4 (some .int), Cond.fieldLink RX4 35 "FormationPlanner$Scene" "winds" "[I", Cond.methodLink RX0 64 yX0_weigh]
def wsX10_assignment_r4 : List Cond := [Cond.instanceMethod yX0_weigh, Cond.selects RX0 yX0_weigh yX0_weigh, Cond.code yX0_weigh cX0_weigh 5 none, Cond.methodLink RX0 80 Lib.Math.max.name, Cond.fieldLink RX0 83 "FormationPlanner$Assigner" "greatest" "I", Cond.fieldLink RX0 86 "FormationPlanner$Assigner" "alike" "I", Cond.fieldLink RX0 93 "FormationPlanner$Assigner" "sum" "I", Cond.methodLink RX0 74 yX0_time, Cond.instanceMethod yX0_time, Cond.selects RX0 yX0_time yX0_time, Cond.code yX0_time cX0_time 3 (some .int), Cond.methodLink RX0 77 yX9_timeFrom, Cond.instanceMethod yX9_timeFrom, Cond.selects RX9 yX9_timeFrom yX9_timeFrom, Cond.code yX9_timeFrom cX9_timeFrom 2 (some .int), Cond.methodLink RX0 89 yX0_take, Cond.instanceMethod yX0_take, Cond.selects RX0 yX0_take yX0_take, Cond.code yX0_take cX0_take 3 none, Cond.fieldLink RX0 21 "FormationPlanner$Assigner" "best" "[I", Cond.methodLink RX0 96 arraycopyName, Cond.native arraycopyName, Cond.static arraycopyName, Cond.initialized "java/lang/System"]
def wsX10_assignment_r5 : List Cond := [Cond.methodLink RX0 67 yX0_nextTrial, Cond.instanceMethod yX0_nextTrial, Cond.selects RX0 yX0_nextTrial yX0_nextTrial, Cond.code yX0_nextTrial cX0_nextTrial 5 (some .boolean), Cond.methodLink RX0 102 yX0_swap, Cond.instanceMethod yX0_swap, Cond.selects RX0 yX0_swap yX0_swap, Cond.code yX0_swap cX0_swap 4 none]
def wsX10_assignment : List Cond := .code yX10_assignment cX10_assignment 3 (some .int) :: ((wsX10_assignment_r1 ++ (wsX10_assignment_r2 ++ (wsX10_assignment_r3 ++ (wsX10_assignment_r4 ++ wsX10_assignment_r5)))) ++ wsX100 ++ wsX00 ++ wsX80 ++ wsX50 ++ wsX90 ++ wsX40)
def wsX10_plan_r1 : List Cond := [Cond.fieldLink RX10 49 "FormationPlanner" "assigner" "LFormationPlanner$Assigner;", Cond.fieldLink RX10 56 "FormationPlanner" "plan" "LFormationPlanner$Plan;", Cond.methodLink RX10 143 yX0_assign, Cond.instanceMethod yX0_assign, Cond.selects RX0 yX0_assign yX0_assign, Cond.initialized RX0, Cond.code yX0_assign cX0_assign 3 (some .int), Cond.fieldLink RX0 24 "FormationPlanner$Assigner" "scene" "LFormationPlanner$Scene;", Cond.fieldLink RX0 31 "FormationPlanner$Scene" "drones" "LFormationPlanner$Places;", Cond.fieldLink RX0 37 "FormationPlanner$Places" "size" "I", Cond.fieldLink RX0 43 "FormationPlanner$Scene" "slots" "LFormationPlanner$Places;", Cond.methodLink RX0 46 Lib.Math.min.name, Cond.static Lib.Math.min.name, Cond.initialized "java/lang/Math", Cond.code Lib.Math.min.name Lib.Math.min.code 2 (some .int), Cond.fieldLink RX0 52 "FormationPlanner$Assigner" "size" "I", Cond.fieldLink RX0 53 "FormationPlanner$Assigner" "all" "I", Cond.fieldLink RX0 11 "FormationPlanner$Assigner" "toSlot" "[LFormationPlanner$TimesTo;", Cond.fieldLink RX0 17 "FormationPlanner$Assigner" "trial" "[I", Cond.methodLink RX0 56 yX5_cellAt, Cond.instanceMethod yX5_cellAt, Cond.selects RX5 yX5_cellAt yX5_cellAt, Cond.initialized RX5, Cond.code yX5_cellAt cX5_cellAt 2 (some .int)]
def wsX10_plan_r2 : List Cond := [Cond.fieldLink RX5 9 "FormationPlanner$Places" "cells" "[I", Cond.methodLink RX5 19 yX5_has, Cond.instanceMethod yX5_has, Cond.selects RX5 yX5_has yX5_has, Cond.code yX5_has cX5_has 2 (some .boolean), Cond.fieldLink RX5 15 "FormationPlanner$Places" "size" "I", Cond.methodLink RX0 60 yX9_measure, Cond.instanceMethod yX9_measure, Cond.selects RX9 yX9_measure yX9_measure, Cond.initialized RX9, Cond.code yX9_measure cX9_measure 5 none, Cond.fieldLink RX9 9 "FormationPlanner$TimesTo" "times" "[I", Cond.fieldLink RX9 15 "FormationPlanner$TimesTo" "lattice" "LFormationPlanner$Lattice;", Cond.fieldLink RX9 29 "FormationPlanner$Lattice" "scene" "LFormationPlanner$Scene;", Cond.fieldLink RX9 35 "FormationPlanner$Scene" "obstacles" "[I", Cond.methodLink RX9 44 Lib.Math.max.name, Cond.static Lib.Math.max.name, Cond.code Lib.Math.max.name Lib.Math.max.code 2 (some .int), Cond.methodLink RX9 19 yJ7_fill_53178, Cond.static yJ7_fill_53178, Cond.initialized RJ7, Cond.code yJ7_fill_53178 cJ7_fill_53178 4 none, Cond.static yX10_isCell, Cond.initialized RX10]
def wsX10_plan_r3 : List Cond := [Cond.code yX10_isCell cX10_isCell 1 (some .boolean), Cond.methodLink RX9 40 yX9_spreadBack, Cond.instanceMethod yX9_spreadBack, Cond.selects RX9 yX9_spreadBack yX9_spreadBack, Cond.code yX9_spreadBack cX9_spreadBack 7 (some .int), Cond.methodLink RX9 49 yX4_next, Cond.instanceMethod yX4_next, Cond.selects RX4 yX4_next yX4_next, Cond.initialized RX4, Cond.code yX4_next cX4_next 4 (some .int), Cond.fieldLink RX4 9 "FormationPlanner$Lattice" "neighbours" "[I", Cond.fieldLink RX4 15 "FormationPlanner$Lattice" "scene" "LFormationPlanner$Scene;", Cond.fieldLink RX4 30 "FormationPlanner$Scene" "obstacles" "[I", Cond.static yX10_isAction, Cond.code yX10_isAction cX10_isAction 1 (some .boolean), Cond.methodLink RX9 56 yX4_ticks, Cond.instanceMethod yX4_ticks, Cond.selects RX4 yX4_ticks yX4_ticks, Cond.code yX4_ticks cX4_ticks 4 (some .int), Cond.fieldLink RX4 35 "FormationPlanner$Scene" "winds" "[I", Cond.methodLink RX0 64 yX0_weigh, Cond.instanceMethod yX0_weigh, Cond.selects RX0 yX0_weigh yX0_weigh, Cond.code yX0_weigh cX0_weigh 5 none]
def wsX10_plan_r4 : List Cond := [Cond.methodLink RX0 80 Lib.Math.max.name, Cond.fieldLink RX0 83 "FormationPlanner$Assigner" "greatest" "I", Cond.fieldLink RX0 86 "FormationPlanner$Assigner" "alike" "I", Cond.fieldLink RX0 93 "FormationPlanner$Assigner" "sum" "I", Cond.methodLink RX0 74 yX0_time, Cond.instanceMethod yX0_time, Cond.selects RX0 yX0_time yX0_time, Cond.code yX0_time cX0_time 3 (some .int), Cond.methodLink RX0 77 yX9_timeFrom, Cond.instanceMethod yX9_timeFrom, Cond.selects RX9 yX9_timeFrom yX9_timeFrom, Cond.code yX9_timeFrom cX9_timeFrom 2 (some .int), Cond.methodLink RX0 89 yX0_take, Cond.instanceMethod yX0_take, Cond.selects RX0 yX0_take yX0_take, Cond.code yX0_take cX0_take 3 none, Cond.fieldLink RX0 21 "FormationPlanner$Assigner" "best" "[I", Cond.methodLink RX0 96 arraycopyName, Cond.native arraycopyName, Cond.static arraycopyName, Cond.initialized "java/lang/System", Cond.methodLink RX0 67 yX0_nextTrial, Cond.instanceMethod yX0_nextTrial, Cond.selects RX0 yX0_nextTrial yX0_nextTrial]
def wsX10_plan_r5 : List Cond := [Cond.code yX0_nextTrial cX0_nextTrial 5 (some .boolean), Cond.methodLink RX0 102 yX0_swap, Cond.instanceMethod yX0_swap, Cond.selects RX0 yX0_swap yX0_swap, Cond.code yX0_swap cX0_swap 4 none, Cond.methodLink RX10 161 yX6_make, Cond.instanceMethod yX6_make, Cond.selects RX6 yX6_make yX6_make, Cond.initialized RX6, Cond.code yX6_make cX6_make 7 (some .int), Cond.fieldLink RX6 60 "FormationPlanner$Plan" "now" "I", Cond.fieldLink RX6 63 "FormationPlanner$Assigner" "size" "I", Cond.methodLink RX6 68 Lib.Math.min.name, Cond.fieldLink RX6 74 "FormationPlanner$Plan" "size" "I", Cond.fieldLink RX6 48 "FormationPlanner$Plan" "router" "LFormationPlanner$Router;", Cond.fieldLink RX6 20 "FormationPlanner$Plan" "order" "[I", Cond.fieldLink RX6 28 "FormationPlanner$Plan" "scene" "LFormationPlanner$Scene;", Cond.fieldLink RX6 82 "FormationPlanner$Scene" "drones" "LFormationPlanner$Places;", Cond.fieldLink RX6 24 "FormationPlanner$Plan" "stuckDrone" "I", Cond.methodLink RX6 116 Lib.Math.max.name, Cond.fieldLink RX6 53 "FormationPlanner$Plan" "stands" "Z", Cond.methodLink RX6 57 yX6_discard, Cond.instanceMethod yX6_discard, Cond.selects RX6 yX6_discard yX6_discard]
def wsX10_plan_r6 : List Cond := [Cond.code yX6_discard cX6_discard 1 none, Cond.methodLink RX6 75 yX6_takeOrder, Cond.instanceMethod yX6_takeOrder, Cond.selects RX6 yX6_takeOrder yX6_takeOrder, Cond.code yX6_takeOrder cX6_takeOrder 6 none, Cond.fieldLink RX6 123 "FormationPlanner$Flight" "position" "I", Cond.fieldLink RX6 126 "FormationPlanner$Flight" "slot" "I", Cond.methodLink RX6 162 yX0_timeOf, Cond.instanceMethod yX0_timeOf, Cond.selects RX0 yX0_timeOf yX0_timeOf, Cond.code yX0_timeOf cX0_timeOf 2 (some .int), Cond.methodLink RX0 71 yX0_slotOf, Cond.instanceMethod yX0_slotOf, Cond.selects RX0 yX0_slotOf yX0_slotOf, Cond.code yX0_slotOf cX0_slotOf 2 (some .int), Cond.methodLink RX6 104 yX6_flightOf, Cond.instanceMethod yX6_flightOf, Cond.selects RX6 yX6_flightOf yX6_flightOf, Cond.code yX6_flightOf cX6_flightOf 2 (some (.object "FormationPlanner$Flight")), Cond.fieldLink RX6 11 "FormationPlanner$Plan" "flights" "[LFormationPlanner$Flight;", Cond.methodLink RX6 165 yX0_slotOf, Cond.methodLink RX6 79 yX7_free, Cond.instanceMethod yX7_free, Cond.selects RX7 yX7_free yX7_free]
def wsX10_plan_r7 : List Cond := [Cond.initialized RX7, Cond.code yX7_free cX7_free 1 none, Cond.fieldLink RX7 9 "FormationPlanner$Router" "holders" "[I", Cond.methodLink RX7 22 yJ7_fill_53178, Cond.methodLink RX6 88 yX5_cellAt, Cond.methodLink RX6 94 yX6_goalOf, Cond.instanceMethod yX6_goalOf, Cond.selects RX6 yX6_goalOf yX6_goalOf, Cond.code yX6_goalOf cX6_goalOf 2 (some .int), Cond.fieldLink RX6 168 "FormationPlanner$Scene" "slots" "LFormationPlanner$Places;", Cond.methodLink RX6 97 yX7_earliestArrival, Cond.instanceMethod yX7_earliestArrival, Cond.selects RX7 yX7_earliestArrival yX7_earliestArrival, Cond.code yX7_earliestArrival cX7_earliestArrival 6 (some .int), Cond.fieldLink RX7 15 "FormationPlanner$Router" "usable" "[I", Cond.methodLink RX7 34 yX7_spot, Cond.static yX7_spot, Cond.code yX7_spot cX7_spot 2 (some .int), Cond.methodLink RX7 38 yX7_mark, Cond.instanceMethod yX7_mark, Cond.selects RX7 yX7_mark yX7_mark, Cond.code yX7_mark cX7_mark 3 none, Cond.methodLink RX7 42 yX7_freeFrom, Cond.instanceMethod yX7_freeFrom]
def wsX10_plan_r8 : List Cond := [Cond.selects RX7 yX7_freeFrom yX7_freeFrom, Cond.code yX7_freeFrom cX7_freeFrom 5 (some .int), Cond.methodLink RX7 45 yX7_isUsable, Cond.instanceMethod yX7_isUsable, Cond.selects RX7 yX7_isUsable yX7_isUsable, Cond.code yX7_isUsable cX7_isUsable 2 (some .boolean), Cond.methodLink RX7 49 yX7_spread, Cond.instanceMethod yX7_spread, Cond.selects RX7 yX7_spread yX7_spread, Cond.code yX7_spread cX7_spread 4 none, Cond.methodLink RX7 75 yX7_landing, Cond.instanceMethod yX7_landing, Cond.selects RX7 yX7_landing yX7_landing, Cond.code yX7_landing cX7_landing 6 (some .int), Cond.fieldLink RX7 18 "FormationPlanner$Router" "lattice" "LFormationPlanner$Lattice;", Cond.methodLink RX7 63 yX4_next, Cond.methodLink RX7 68 yX4_ticks, Cond.methodLink RX7 79 yX7_canStep, Cond.instanceMethod yX7_canStep, Cond.selects RX7 yX7_canStep yX7_canStep, Cond.code yX7_canStep cX7_canStep 7 (some .boolean), Cond.methodLink RX6 100 yX7_prune, Cond.instanceMethod yX7_prune, Cond.selects RX7 yX7_prune yX7_prune]
def wsX10_plan_r9 : List Cond := [Cond.code yX7_prune cX7_prune 7 none, Cond.methodLink RX7 52 yX7_leastAction, Cond.instanceMethod yX7_leastAction, Cond.selects RX7 yX7_leastAction yX7_leastAction, Cond.code yX7_leastAction cX7_leastAction 4 (some .int), Cond.methodLink RX6 108 yX7_follow, Cond.instanceMethod yX7_follow, Cond.selects RX7 yX7_follow yX7_follow, Cond.code yX7_follow cX7_follow 8 none, Cond.fieldLink RX7 59 "FormationPlanner$Flight" "arrival" "I", Cond.methodLink RX7 55 yX1_begin, Cond.instanceMethod yX1_begin, Cond.selects RX1 yX1_begin yX1_begin, Cond.initialized RX1, Cond.code yX1_begin cX1_begin 2 none, Cond.fieldLink RX1 18 "FormationPlanner$Flight" "arrival" "I", Cond.fieldLink RX1 9 "FormationPlanner$Flight" "cells" "[I", Cond.fieldLink RX1 15 "FormationPlanner$Flight" "actions" "[I", Cond.methodLink RX1 22 yJ7_fill_53178, Cond.methodLink RX7 71 yX1_add, Cond.instanceMethod yX1_add, Cond.selects RX1 yX1_add yX1_add, Cond.code yX1_add cX1_add 5 none, Cond.methodLink RX1 28 Lib.Math.max.name]
def wsX10_plan_r10 : List Cond := [Cond.methodLink RX6 112 yX7_hold, Cond.instanceMethod yX7_hold, Cond.selects RX7 yX7_hold yX7_hold, Cond.code yX7_hold cX7_hold 5 none, Cond.methodLink RX7 28 yX1_cellAt, Cond.instanceMethod yX1_cellAt, Cond.selects RX1 yX1_cellAt yX1_cellAt, Cond.code yX1_cellAt cX1_cellAt 2 (some .int), Cond.methodLink RX1 34 Lib.Math.min.name]
def wsX10_plan : List Cond := .code yX10_plan cX10_plan 2 (some .int) :: ((wsX10_plan_r1 ++ (wsX10_plan_r2 ++ (wsX10_plan_r3 ++ (wsX10_plan_r4 ++ (wsX10_plan_r5 ++ (wsX10_plan_r6 ++ (wsX10_plan_r7 ++ (wsX10_plan_r8 ++ (wsX10_plan_r9 ++ wsX10_plan_r10))))))))) ++ wsX100 ++ wsX00 ++ wsX80 ++ wsX50 ++ wsX90 ++ wsX40 ++ wsX60 ++ wsX10 ++ wsX70)
def wsX10_stuck : List Cond := .code yX10_stuck cX10_stuck 1 (some .int) :: ([.fieldLink RX10 56 "FormationPlanner" "plan" "LFormationPlanner$Plan;", .fieldLink RX10 165 "FormationPlanner$Plan" "stuckDrone" "I"] ++ wsX100 ++ wsX60)
def wsX10_planError : List Cond := .code yX10_planError cX10_planError 3 (some .int) :: ([.fieldLink RX10 12 "FormationPlanner" "scene" "LFormationPlanner$Scene;", .fieldLink RX10 77 "FormationPlanner$Scene" "drones" "LFormationPlanner$Places;", .fieldLink RX10 56 "FormationPlanner" "plan" "LFormationPlanner$Plan;", .fieldLink RX10 195 "FormationPlanner$Plan" "stands" "Z", .methodLink RX10 140 yX5_has, .instanceMethod yX5_has, .selects RX5 yX5_has yX5_has, .initialized RX5, .code yX5_has cX5_has 2 (some .boolean), .fieldLink RX5 15 "FormationPlanner$Places" "size" "I"] ++ wsX100 ++ wsX80 ++ wsX60 ++ wsX50)
def wsX10_at_r1 : List Cond := [Cond.fieldLink RX10 56 "FormationPlanner" "plan" "LFormationPlanner$Plan;", Cond.methodLink RX10 168 yX10_planError, Cond.instanceMethod yX10_planError, Cond.selects RX10 yX10_planError yX10_planError, Cond.initialized RX10, Cond.code yX10_planError cX10_planError 3 (some .int), Cond.fieldLink RX10 12 "FormationPlanner" "scene" "LFormationPlanner$Scene;", Cond.fieldLink RX10 77 "FormationPlanner$Scene" "drones" "LFormationPlanner$Places;", Cond.fieldLink RX10 195 "FormationPlanner$Plan" "stands" "Z", Cond.methodLink RX10 140 yX5_has, Cond.instanceMethod yX5_has, Cond.selects RX5 yX5_has yX5_has, Cond.initialized RX5, Cond.code yX5_has cX5_has 2 (some .boolean), Cond.fieldLink RX5 15 "FormationPlanner$Places" "size" "I", Cond.methodLink RX10 172 yX6_cellOfDrone, Cond.instanceMethod yX6_cellOfDrone, Cond.selects RX6 yX6_cellOfDrone yX6_cellOfDrone, Cond.initialized RX6, Cond.code yX6_cellOfDrone cX6_cellOfDrone 3 (some .int), Cond.fieldLink RX6 60 "FormationPlanner$Plan" "now" "I", Cond.methodLink RX6 104 yX6_flightOf, Cond.instanceMethod yX6_flightOf, Cond.selects RX6 yX6_flightOf yX6_flightOf]
def wsX10_at_r2 : List Cond := [Cond.code yX6_flightOf cX6_flightOf 2 (some (.object "FormationPlanner$Flight")), Cond.fieldLink RX6 11 "FormationPlanner$Plan" "flights" "[LFormationPlanner$Flight;", Cond.methodLink RX6 68 Lib.Math.min.name, Cond.static Lib.Math.min.name, Cond.initialized "java/lang/Math", Cond.code Lib.Math.min.name Lib.Math.min.code 2 (some .int), Cond.methodLink RX6 116 Lib.Math.max.name, Cond.static Lib.Math.max.name, Cond.code Lib.Math.max.name Lib.Math.max.code 2 (some .int), Cond.methodLink RX6 119 yX1_cellAt, Cond.instanceMethod yX1_cellAt, Cond.selects RX1 yX1_cellAt yX1_cellAt, Cond.initialized RX1, Cond.code yX1_cellAt cX1_cellAt 2 (some .int), Cond.fieldLink RX1 9 "FormationPlanner$Flight" "cells" "[I", Cond.methodLink RX1 34 Lib.Math.min.name, Cond.methodLink RX1 28 Lib.Math.max.name]
def wsX10_at : List Cond := .code yX10_at cX10_at 4 (some .int) :: ((wsX10_at_r1 ++ wsX10_at_r2) ++ wsX100 ++ wsX80 ++ wsX60 ++ wsX50 ++ wsX10)
def wsX10_action_r1 : List Cond := [Cond.fieldLink RX10 56 "FormationPlanner" "plan" "LFormationPlanner$Plan;", Cond.methodLink RX10 168 yX10_planError, Cond.instanceMethod yX10_planError, Cond.selects RX10 yX10_planError yX10_planError, Cond.initialized RX10, Cond.code yX10_planError cX10_planError 3 (some .int), Cond.fieldLink RX10 12 "FormationPlanner" "scene" "LFormationPlanner$Scene;", Cond.fieldLink RX10 77 "FormationPlanner$Scene" "drones" "LFormationPlanner$Places;", Cond.fieldLink RX10 195 "FormationPlanner$Plan" "stands" "Z", Cond.methodLink RX10 140 yX5_has, Cond.instanceMethod yX5_has, Cond.selects RX5 yX5_has yX5_has, Cond.initialized RX5, Cond.code yX5_has cX5_has 2 (some .boolean), Cond.fieldLink RX5 15 "FormationPlanner$Places" "size" "I", Cond.methodLink RX10 176 yX6_actionOfDrone, Cond.instanceMethod yX6_actionOfDrone, Cond.selects RX6 yX6_actionOfDrone yX6_actionOfDrone, Cond.initialized RX6, Cond.code yX6_actionOfDrone cX6_actionOfDrone 3 (some .int), Cond.fieldLink RX6 60 "FormationPlanner$Plan" "now" "I", Cond.methodLink RX6 104 yX6_flightOf, Cond.instanceMethod yX6_flightOf, Cond.selects RX6 yX6_flightOf yX6_flightOf]
def wsX10_action_r2 : List Cond := [Cond.code yX6_flightOf cX6_flightOf 2 (some (.object "FormationPlanner$Flight")), Cond.fieldLink RX6 11 "FormationPlanner$Plan" "flights" "[LFormationPlanner$Flight;", Cond.methodLink RX6 68 Lib.Math.min.name, Cond.static Lib.Math.min.name, Cond.initialized "java/lang/Math", Cond.code Lib.Math.min.name Lib.Math.min.code 2 (some .int), Cond.methodLink RX6 116 Lib.Math.max.name, Cond.static Lib.Math.max.name, Cond.code Lib.Math.max.name Lib.Math.max.code 2 (some .int), Cond.methodLink RX6 120 yX1_actionAt, Cond.instanceMethod yX1_actionAt, Cond.selects RX1 yX1_actionAt yX1_actionAt, Cond.initialized RX1, Cond.code yX1_actionAt cX1_actionAt 2 (some .int), Cond.fieldLink RX1 18 "FormationPlanner$Flight" "arrival" "I", Cond.fieldLink RX1 15 "FormationPlanner$Flight" "actions" "[I"]
def wsX10_action : List Cond := .code yX10_action cX10_action 4 (some .int) :: ((wsX10_action_r1 ++ wsX10_action_r2) ++ wsX100 ++ wsX80 ++ wsX60 ++ wsX50 ++ wsX10)
def wsX10_flight_r1 : List Cond := [Cond.fieldLink RX10 56 "FormationPlanner" "plan" "LFormationPlanner$Plan;", Cond.methodLink RX10 168 yX10_planError, Cond.instanceMethod yX10_planError, Cond.selects RX10 yX10_planError yX10_planError, Cond.initialized RX10, Cond.code yX10_planError cX10_planError 3 (some .int), Cond.fieldLink RX10 12 "FormationPlanner" "scene" "LFormationPlanner$Scene;", Cond.fieldLink RX10 77 "FormationPlanner$Scene" "drones" "LFormationPlanner$Places;", Cond.fieldLink RX10 195 "FormationPlanner$Plan" "stands" "Z", Cond.methodLink RX10 140 yX5_has, Cond.instanceMethod yX5_has, Cond.selects RX5 yX5_has yX5_has, Cond.initialized RX5, Cond.code yX5_has cX5_has 2 (some .boolean), Cond.fieldLink RX5 15 "FormationPlanner$Places" "size" "I", Cond.methodLink RX10 179 yX6_ticksLeft, Cond.instanceMethod yX6_ticksLeft, Cond.selects RX6 yX6_ticksLeft yX6_ticksLeft, Cond.initialized RX6, Cond.code yX6_ticksLeft cX6_ticksLeft 2 (some .int), Cond.fieldLink RX6 129 "FormationPlanner$Flight" "arrival" "I", Cond.fieldLink RX6 60 "FormationPlanner$Plan" "now" "I", Cond.methodLink RX6 116 Lib.Math.max.name, Cond.static Lib.Math.max.name]
def wsX10_flight_r2 : List Cond := [Cond.initialized "java/lang/Math", Cond.code Lib.Math.max.name Lib.Math.max.code 2 (some .int), Cond.methodLink RX6 104 yX6_flightOf, Cond.instanceMethod yX6_flightOf, Cond.selects RX6 yX6_flightOf yX6_flightOf, Cond.code yX6_flightOf cX6_flightOf 2 (some (.object "FormationPlanner$Flight")), Cond.fieldLink RX6 11 "FormationPlanner$Plan" "flights" "[LFormationPlanner$Flight;", Cond.methodLink RX6 68 Lib.Math.min.name, Cond.static Lib.Math.min.name, Cond.code Lib.Math.min.name Lib.Math.min.code 2 (some .int), Cond.methodLink RX10 182 yX6_waitsLeft, Cond.instanceMethod yX6_waitsLeft, Cond.selects RX6 yX6_waitsLeft yX6_waitsLeft, Cond.code yX6_waitsLeft cX6_waitsLeft 5 (some .int), Cond.methodLink RX6 120 yX1_actionAt, Cond.instanceMethod yX1_actionAt, Cond.selects RX1 yX1_actionAt yX1_actionAt, Cond.initialized RX1, Cond.code yX1_actionAt cX1_actionAt 2 (some .int), Cond.fieldLink RX1 18 "FormationPlanner$Flight" "arrival" "I", Cond.fieldLink RX1 15 "FormationPlanner$Flight" "actions" "[I", Cond.methodLink RX10 185 yX6_timeWithoutOthers, Cond.instanceMethod yX6_timeWithoutOthers, Cond.selects RX6 yX6_timeWithoutOthers yX6_timeWithoutOthers]
def wsX10_flight_r3 : List Cond := [Cond.code yX6_timeWithoutOthers cX6_timeWithoutOthers 2 (some .int), Cond.fieldLink RX6 41 "FormationPlanner$Plan" "timesTo" "LFormationPlanner$TimesTo;", Cond.fieldLink RX6 28 "FormationPlanner$Plan" "scene" "LFormationPlanner$Scene;", Cond.fieldLink RX6 82 "FormationPlanner$Scene" "drones" "LFormationPlanner$Places;", Cond.methodLink RX6 94 yX6_goalOf, Cond.instanceMethod yX6_goalOf, Cond.selects RX6 yX6_goalOf yX6_goalOf, Cond.code yX6_goalOf cX6_goalOf 2 (some .int), Cond.fieldLink RX6 168 "FormationPlanner$Scene" "slots" "LFormationPlanner$Places;", Cond.fieldLink RX6 126 "FormationPlanner$Flight" "slot" "I", Cond.methodLink RX6 88 yX5_cellAt, Cond.instanceMethod yX5_cellAt, Cond.selects RX5 yX5_cellAt yX5_cellAt, Cond.code yX5_cellAt cX5_cellAt 2 (some .int), Cond.fieldLink RX5 9 "FormationPlanner$Places" "cells" "[I", Cond.methodLink RX5 19 yX5_has, Cond.methodLink RX6 132 yX9_measure, Cond.instanceMethod yX9_measure, Cond.selects RX9 yX9_measure yX9_measure, Cond.initialized RX9, Cond.code yX9_measure cX9_measure 5 none, Cond.fieldLink RX9 9 "FormationPlanner$TimesTo" "times" "[I", Cond.fieldLink RX9 15 "FormationPlanner$TimesTo" "lattice" "LFormationPlanner$Lattice;", Cond.fieldLink RX9 29 "FormationPlanner$Lattice" "scene" "LFormationPlanner$Scene;"]
def wsX10_flight_r4 : List Cond := [Cond.fieldLink RX9 35 "FormationPlanner$Scene" "obstacles" "[I", Cond.methodLink RX9 44 Lib.Math.max.name, Cond.methodLink RX9 19 yJ7_fill_53178, Cond.static yJ7_fill_53178, Cond.initialized RJ7, Cond.code yJ7_fill_53178 cJ7_fill_53178 4 none, Cond.static yX10_isCell, Cond.code yX10_isCell cX10_isCell 1 (some .boolean), Cond.methodLink RX9 40 yX9_spreadBack, Cond.instanceMethod yX9_spreadBack, Cond.selects RX9 yX9_spreadBack yX9_spreadBack, Cond.code yX9_spreadBack cX9_spreadBack 7 (some .int), Cond.methodLink RX9 49 yX4_next, Cond.instanceMethod yX4_next, Cond.selects RX4 yX4_next yX4_next, Cond.initialized RX4, Cond.code yX4_next cX4_next 4 (some .int), Cond.fieldLink RX4 9 "FormationPlanner$Lattice" "neighbours" "[I", Cond.fieldLink RX4 15 "FormationPlanner$Lattice" "scene" "LFormationPlanner$Scene;", Cond.fieldLink RX4 30 "FormationPlanner$Scene" "obstacles" "[I", Cond.static yX10_isAction, Cond.code yX10_isAction cX10_isAction 1 (some .boolean), Cond.methodLink RX9 56 yX4_ticks, Cond.instanceMethod yX4_ticks]
def wsX10_flight_r5 : List Cond := [Cond.selects RX4 yX4_ticks yX4_ticks, Cond.code yX4_ticks cX4_ticks 4 (some .int), Cond.fieldLink RX4 35 "FormationPlanner$Scene" "winds" "[I", Cond.methodLink RX6 136 yX9_timeFrom, Cond.instanceMethod yX9_timeFrom, Cond.selects RX9 yX9_timeFrom yX9_timeFrom, Cond.code yX9_timeFrom cX9_timeFrom 2 (some .int), Cond.methodLink RX10 188 yX6_positionOf, Cond.instanceMethod yX6_positionOf, Cond.selects RX6 yX6_positionOf yX6_positionOf, Cond.code yX6_positionOf cX6_positionOf 2 (some .int), Cond.fieldLink RX6 123 "FormationPlanner$Flight" "position" "I", Cond.methodLink RX10 191 yX6_slotOf, Cond.instanceMethod yX6_slotOf, Cond.selects RX6 yX6_slotOf yX6_slotOf, Cond.code yX6_slotOf cX6_slotOf 2 (some .int)]
def wsX10_flight : List Cond := .code yX10_flight cX10_flight 4 (some .int) :: ((wsX10_flight_r1 ++ (wsX10_flight_r2 ++ (wsX10_flight_r3 ++ (wsX10_flight_r4 ++ wsX10_flight_r5)))) ++ wsX100 ++ wsX80 ++ wsX60 ++ wsX50 ++ wsX10 ++ wsX90 ++ wsX40)
def wsX10_explain_r1 : List Cond := [Cond.fieldLink RX10 56 "FormationPlanner" "plan" "LFormationPlanner$Plan;", Cond.methodLink RX10 168 yX10_planError, Cond.instanceMethod yX10_planError, Cond.selects RX10 yX10_planError yX10_planError, Cond.initialized RX10, Cond.code yX10_planError cX10_planError 3 (some .int), Cond.fieldLink RX10 12 "FormationPlanner" "scene" "LFormationPlanner$Scene;", Cond.fieldLink RX10 77 "FormationPlanner$Scene" "drones" "LFormationPlanner$Places;", Cond.fieldLink RX10 195 "FormationPlanner$Plan" "stands" "Z", Cond.methodLink RX10 140 yX5_has, Cond.instanceMethod yX5_has, Cond.selects RX5 yX5_has yX5_has, Cond.initialized RX5, Cond.code yX5_has cX5_has 2 (some .boolean), Cond.fieldLink RX5 15 "FormationPlanner$Places" "size" "I", Cond.methodLink RX10 192 yX6_hinderer, Cond.instanceMethod yX6_hinderer, Cond.selects RX6 yX6_hinderer yX6_hinderer, Cond.initialized RX6, Cond.code yX6_hinderer cX6_hinderer 9 (some .int), Cond.fieldLink RX6 60 "FormationPlanner$Plan" "now" "I", Cond.fieldLink RX6 129 "FormationPlanner$Flight" "arrival" "I", Cond.fieldLink RX6 41 "FormationPlanner$Plan" "timesTo" "LFormationPlanner$TimesTo;", Cond.fieldLink RX6 74 "FormationPlanner$Plan" "size" "I"]
def wsX10_explain_r2 : List Cond := [Cond.fieldLink RX6 11 "FormationPlanner$Plan" "flights" "[LFormationPlanner$Flight;", Cond.fieldLink RX6 123 "FormationPlanner$Flight" "position" "I", Cond.methodLink RX6 104 yX6_flightOf, Cond.instanceMethod yX6_flightOf, Cond.selects RX6 yX6_flightOf yX6_flightOf, Cond.code yX6_flightOf cX6_flightOf 2 (some (.object "FormationPlanner$Flight")), Cond.methodLink RX6 68 Lib.Math.min.name, Cond.static Lib.Math.min.name, Cond.initialized "java/lang/Math", Cond.code Lib.Math.min.name Lib.Math.min.code 2 (some .int), Cond.methodLink RX6 116 Lib.Math.max.name, Cond.static Lib.Math.max.name, Cond.code Lib.Math.max.name Lib.Math.max.code 2 (some .int), Cond.methodLink RX6 120 yX1_actionAt, Cond.instanceMethod yX1_actionAt, Cond.selects RX1 yX1_actionAt yX1_actionAt, Cond.initialized RX1, Cond.code yX1_actionAt cX1_actionAt 2 (some .int), Cond.fieldLink RX1 18 "FormationPlanner$Flight" "arrival" "I", Cond.fieldLink RX1 15 "FormationPlanner$Flight" "actions" "[I", Cond.methodLink RX6 94 yX6_goalOf, Cond.instanceMethod yX6_goalOf, Cond.selects RX6 yX6_goalOf yX6_goalOf, Cond.code yX6_goalOf cX6_goalOf 2 (some .int)]
def wsX10_explain_r3 : List Cond := [Cond.fieldLink RX6 28 "FormationPlanner$Plan" "scene" "LFormationPlanner$Scene;", Cond.fieldLink RX6 168 "FormationPlanner$Scene" "slots" "LFormationPlanner$Places;", Cond.fieldLink RX6 126 "FormationPlanner$Flight" "slot" "I", Cond.methodLink RX6 88 yX5_cellAt, Cond.instanceMethod yX5_cellAt, Cond.selects RX5 yX5_cellAt yX5_cellAt, Cond.code yX5_cellAt cX5_cellAt 2 (some .int), Cond.fieldLink RX5 9 "FormationPlanner$Places" "cells" "[I", Cond.methodLink RX5 19 yX5_has, Cond.methodLink RX6 132 yX9_measure, Cond.instanceMethod yX9_measure, Cond.selects RX9 yX9_measure yX9_measure, Cond.initialized RX9, Cond.code yX9_measure cX9_measure 5 none, Cond.fieldLink RX9 9 "FormationPlanner$TimesTo" "times" "[I", Cond.fieldLink RX9 15 "FormationPlanner$TimesTo" "lattice" "LFormationPlanner$Lattice;", Cond.fieldLink RX9 29 "FormationPlanner$Lattice" "scene" "LFormationPlanner$Scene;", Cond.fieldLink RX9 35 "FormationPlanner$Scene" "obstacles" "[I", Cond.methodLink RX9 44 Lib.Math.max.name, Cond.methodLink RX9 19 yJ7_fill_53178, Cond.static yJ7_fill_53178, Cond.initialized RJ7, Cond.code yJ7_fill_53178 cJ7_fill_53178 4 none, Cond.static yX10_isCell]
def wsX10_explain_r4 : List Cond := [Cond.code yX10_isCell cX10_isCell 1 (some .boolean), Cond.methodLink RX9 40 yX9_spreadBack, Cond.instanceMethod yX9_spreadBack, Cond.selects RX9 yX9_spreadBack yX9_spreadBack, Cond.code yX9_spreadBack cX9_spreadBack 7 (some .int), Cond.methodLink RX9 49 yX4_next, Cond.instanceMethod yX4_next, Cond.selects RX4 yX4_next yX4_next, Cond.initialized RX4, Cond.code yX4_next cX4_next 4 (some .int), Cond.fieldLink RX4 9 "FormationPlanner$Lattice" "neighbours" "[I", Cond.fieldLink RX4 15 "FormationPlanner$Lattice" "scene" "LFormationPlanner$Scene;", Cond.fieldLink RX4 30 "FormationPlanner$Scene" "obstacles" "[I", Cond.static yX10_isAction, Cond.code yX10_isAction cX10_isAction 1 (some .boolean), Cond.methodLink RX9 56 yX4_ticks, Cond.instanceMethod yX4_ticks, Cond.selects RX4 yX4_ticks yX4_ticks, Cond.code yX4_ticks cX4_ticks 4 (some .int), Cond.fieldLink RX4 35 "FormationPlanner$Scene" "winds" "[I", Cond.methodLink RX6 119 yX1_cellAt, Cond.instanceMethod yX1_cellAt, Cond.selects RX1 yX1_cellAt yX1_cellAt, Cond.code yX1_cellAt cX1_cellAt 2 (some .int)]
def wsX10_explain_r5 : List Cond := [Cond.fieldLink RX1 9 "FormationPlanner$Flight" "cells" "[I", Cond.methodLink RX1 34 Lib.Math.min.name, Cond.methodLink RX1 28 Lib.Math.max.name, Cond.methodLink RX6 139 yX9_firstAction, Cond.instanceMethod yX9_firstAction, Cond.selects RX9 yX9_firstAction yX9_firstAction, Cond.code yX9_firstAction cX9_firstAction 4 (some .int), Cond.methodLink RX9 52 yX9_timeFrom, Cond.instanceMethod yX9_timeFrom, Cond.selects RX9 yX9_timeFrom yX9_timeFrom, Cond.code yX9_timeFrom cX9_timeFrom 2 (some .int), Cond.methodLink RX6 142 yX6_isMet, Cond.instanceMethod yX6_isMet, Cond.selects RX6 yX6_isMet yX6_isMet, Cond.code yX6_isMet cX6_isMet 8 (some .boolean), Cond.fieldLink RX6 32 "FormationPlanner$Plan" "lattice" "LFormationPlanner$Lattice;", Cond.methodLink RX6 171 yX4_next, Cond.methodLink RX6 176 yX4_ticks]
def wsX10_explain : List Cond := .code yX10_explain cX10_explain 4 (some .int) :: ((wsX10_explain_r1 ++ (wsX10_explain_r2 ++ (wsX10_explain_r3 ++ (wsX10_explain_r4 ++ wsX10_explain_r5)))) ++ wsX100 ++ wsX80 ++ wsX60 ++ wsX50 ++ wsX10 ++ wsX90 ++ wsX40)
def wsX10_conflictsWithout_r1 : List Cond := [Cond.fieldLink RX10 56 "FormationPlanner" "plan" "LFormationPlanner$Plan;", Cond.fieldLink RX10 195 "FormationPlanner$Plan" "stands" "Z", Cond.methodLink RX10 198 yX6_pairsInConflict, Cond.instanceMethod yX6_pairsInConflict, Cond.selects RX6 yX6_pairsInConflict yX6_pairsInConflict, Cond.initialized RX6, Cond.code yX6_pairsInConflict cX6_pairsInConflict 4 (some .int), Cond.fieldLink RX6 74 "FormationPlanner$Plan" "size" "I", Cond.fieldLink RX6 17 "FormationPlanner$Plan" "ways" "[LFormationPlanner$Flight;", Cond.methodLink RX6 146 yX6_layWay, Cond.instanceMethod yX6_layWay, Cond.selects RX6 yX6_layWay yX6_layWay, Cond.code yX6_layWay cX6_layWay 6 none, Cond.fieldLink RX6 41 "FormationPlanner$Plan" "timesTo" "LFormationPlanner$TimesTo;", Cond.fieldLink RX6 28 "FormationPlanner$Plan" "scene" "LFormationPlanner$Scene;", Cond.fieldLink RX6 82 "FormationPlanner$Scene" "drones" "LFormationPlanner$Places;", Cond.fieldLink RX6 32 "FormationPlanner$Plan" "lattice" "LFormationPlanner$Lattice;", Cond.methodLink RX6 94 yX6_goalOf, Cond.instanceMethod yX6_goalOf, Cond.selects RX6 yX6_goalOf yX6_goalOf, Cond.code yX6_goalOf cX6_goalOf 2 (some .int), Cond.fieldLink RX6 168 "FormationPlanner$Scene" "slots" "LFormationPlanner$Places;", Cond.fieldLink RX6 126 "FormationPlanner$Flight" "slot" "I", Cond.methodLink RX6 104 yX6_flightOf]
def wsX10_conflictsWithout_r2 : List Cond := [Cond.instanceMethod yX6_flightOf, Cond.selects RX6 yX6_flightOf yX6_flightOf, Cond.code yX6_flightOf cX6_flightOf 2 (some (.object "FormationPlanner$Flight")), Cond.fieldLink RX6 11 "FormationPlanner$Plan" "flights" "[LFormationPlanner$Flight;", Cond.methodLink RX6 68 Lib.Math.min.name, Cond.static Lib.Math.min.name, Cond.initialized "java/lang/Math", Cond.code Lib.Math.min.name Lib.Math.min.code 2 (some .int), Cond.methodLink RX6 116 Lib.Math.max.name, Cond.static Lib.Math.max.name, Cond.code Lib.Math.max.name Lib.Math.max.code 2 (some .int), Cond.methodLink RX6 88 yX5_cellAt, Cond.instanceMethod yX5_cellAt, Cond.selects RX5 yX5_cellAt yX5_cellAt, Cond.initialized RX5, Cond.code yX5_cellAt cX5_cellAt 2 (some .int), Cond.fieldLink RX5 9 "FormationPlanner$Places" "cells" "[I", Cond.methodLink RX5 19 yX5_has, Cond.instanceMethod yX5_has, Cond.selects RX5 yX5_has yX5_has, Cond.code yX5_has cX5_has 2 (some .boolean), Cond.fieldLink RX5 15 "FormationPlanner$Places" "size" "I", Cond.methodLink RX6 132 yX9_measure, Cond.instanceMethod yX9_measure]
def wsX10_conflictsWithout_r3 : List Cond := [Cond.selects RX9 yX9_measure yX9_measure, Cond.initialized RX9, Cond.code yX9_measure cX9_measure 5 none, Cond.fieldLink RX9 9 "FormationPlanner$TimesTo" "times" "[I", Cond.fieldLink RX9 15 "FormationPlanner$TimesTo" "lattice" "LFormationPlanner$Lattice;", Cond.fieldLink RX9 29 "FormationPlanner$Lattice" "scene" "LFormationPlanner$Scene;", Cond.fieldLink RX9 35 "FormationPlanner$Scene" "obstacles" "[I", Cond.methodLink RX9 44 Lib.Math.max.name, Cond.methodLink RX9 19 yJ7_fill_53178, Cond.static yJ7_fill_53178, Cond.initialized RJ7, Cond.code yJ7_fill_53178 cJ7_fill_53178 4 none, Cond.static yX10_isCell, Cond.initialized RX10, Cond.code yX10_isCell cX10_isCell 1 (some .boolean), Cond.methodLink RX9 40 yX9_spreadBack, Cond.instanceMethod yX9_spreadBack, Cond.selects RX9 yX9_spreadBack yX9_spreadBack, Cond.code yX9_spreadBack cX9_spreadBack 7 (some .int), Cond.methodLink RX9 49 yX4_next, Cond.instanceMethod yX4_next, Cond.selects RX4 yX4_next yX4_next, Cond.initialized RX4, Cond.code yX4_next cX4_next 4 (some .int)]
def wsX10_conflictsWithout_r4 : List Cond := [Cond.fieldLink RX4 9 "FormationPlanner$Lattice" "neighbours" "[I", Cond.fieldLink RX4 15 "FormationPlanner$Lattice" "scene" "LFormationPlanner$Scene;", Cond.fieldLink RX4 30 "FormationPlanner$Scene" "obstacles" "[I", Cond.static yX10_isAction, Cond.code yX10_isAction cX10_isAction 1 (some .boolean), Cond.methodLink RX9 56 yX4_ticks, Cond.instanceMethod yX4_ticks, Cond.selects RX4 yX4_ticks yX4_ticks, Cond.code yX4_ticks cX4_ticks 4 (some .int), Cond.fieldLink RX4 35 "FormationPlanner$Scene" "winds" "[I", Cond.methodLink RX6 179 yX1_begin, Cond.instanceMethod yX1_begin, Cond.selects RX1 yX1_begin yX1_begin, Cond.initialized RX1, Cond.code yX1_begin cX1_begin 2 none, Cond.fieldLink RX1 18 "FormationPlanner$Flight" "arrival" "I", Cond.fieldLink RX1 9 "FormationPlanner$Flight" "cells" "[I", Cond.fieldLink RX1 15 "FormationPlanner$Flight" "actions" "[I", Cond.methodLink RX1 22 yJ7_fill_53178, Cond.methodLink RX6 139 yX9_firstAction, Cond.instanceMethod yX9_firstAction, Cond.selects RX9 yX9_firstAction yX9_firstAction, Cond.code yX9_firstAction cX9_firstAction 4 (some .int), Cond.methodLink RX9 52 yX9_timeFrom]
def wsX10_conflictsWithout_r5 : List Cond := [Cond.instanceMethod yX9_timeFrom, Cond.selects RX9 yX9_timeFrom yX9_timeFrom, Cond.code yX9_timeFrom cX9_timeFrom 2 (some .int), Cond.methodLink RX6 171 yX4_next, Cond.methodLink RX6 176 yX4_ticks, Cond.methodLink RX6 182 yX1_add, Cond.instanceMethod yX1_add, Cond.selects RX1 yX1_add yX1_add, Cond.code yX1_add cX1_add 5 none, Cond.methodLink RX1 28 Lib.Math.max.name, Cond.methodLink RX6 149 yX1_meets, Cond.instanceMethod yX1_meets, Cond.selects RX1 yX1_meets yX1_meets, Cond.code yX1_meets cX1_meets 4 (some .boolean), Cond.methodLink RX1 37 yX1_cellAt, Cond.instanceMethod yX1_cellAt, Cond.selects RX1 yX1_cellAt yX1_cellAt, Cond.code yX1_cellAt cX1_cellAt 2 (some .int), Cond.methodLink RX1 34 Lib.Math.min.name]
def wsX10_conflictsWithout : List Cond := .code yX10_conflictsWithout cX10_conflictsWithout 1 (some .int) :: ((wsX10_conflictsWithout_r1 ++ (wsX10_conflictsWithout_r2 ++ (wsX10_conflictsWithout_r3 ++ (wsX10_conflictsWithout_r4 ++ wsX10_conflictsWithout_r5)))) ++ wsX100 ++ wsX60 ++ wsX80 ++ wsX10 ++ wsX50 ++ wsX90 ++ wsX40)
def wsX10_fly_r1 : List Cond := [Cond.fieldLink RX10 56 "FormationPlanner" "plan" "LFormationPlanner$Plan;", Cond.fieldLink RX10 195 "FormationPlanner$Plan" "stands" "Z", Cond.fieldLink RX10 19 "FormationPlanner" "history" "LFormationPlanner$History;", Cond.fieldLink RX10 12 "FormationPlanner" "scene" "LFormationPlanner$Scene;", Cond.fieldLink RX10 204 "FormationPlanner$Scene" "flown" "I", Cond.methodLink RX10 201 yX3_keep, Cond.instanceMethod yX3_keep, Cond.selects RX3 yX3_keep yX3_keep, Cond.initialized RX3, Cond.code yX3_keep cX3_keep 2 none, Cond.fieldLink RX3 11 "FormationPlanner$History" "scenes" "[LFormationPlanner$Scene;", Cond.fieldLink RX3 18 "FormationPlanner$History" "next" "I", Cond.fieldLink RX3 32 "FormationPlanner$History" "size" "I", Cond.methodLink RX3 35 Lib.Math.min.name, Cond.static Lib.Math.min.name, Cond.initialized "java/lang/Math", Cond.code Lib.Math.min.name Lib.Math.min.code 2 (some .int), Cond.methodLink RX3 22 yJ9_floorMod_7cf53, Cond.static yJ9_floorMod_7cf53, Cond.initialized RJ9, Cond.code yJ9_floorMod_7cf53 cJ9_floorMod_7cf53 3 (some .int), Cond.methodLink RX3 28 yX8_copyFrom, Cond.instanceMethod yX8_copyFrom, Cond.selects RX8 yX8_copyFrom yX8_copyFrom]
def wsX10_fly_r2 : List Cond := [Cond.initialized RX8, Cond.code yX8_copyFrom cX8_copyFrom 2 none, Cond.fieldLink RX8 9 "FormationPlanner$Scene" "winds" "[I", Cond.methodLink RX8 43 arraycopyName, Cond.native arraycopyName, Cond.static arraycopyName, Cond.initialized "java/lang/System", Cond.fieldLink RX8 15 "FormationPlanner$Scene" "obstacles" "[I", Cond.fieldLink RX8 21 "FormationPlanner$Scene" "drones" "LFormationPlanner$Places;", Cond.fieldLink RX8 25 "FormationPlanner$Scene" "slots" "LFormationPlanner$Places;", Cond.fieldLink RX8 53 "FormationPlanner$Scene" "flown" "I", Cond.methodLink RX8 49 yX5_copyFrom, Cond.instanceMethod yX5_copyFrom, Cond.selects RX5 yX5_copyFrom yX5_copyFrom, Cond.initialized RX5, Cond.code yX5_copyFrom cX5_copyFrom 2 none, Cond.fieldLink RX5 9 "FormationPlanner$Places" "cells" "[I", Cond.methodLink RX5 23 arraycopyName, Cond.fieldLink RX5 15 "FormationPlanner$Places" "size" "I", Cond.methodLink RX10 207 yX6_advance, Cond.instanceMethod yX6_advance, Cond.selects RX6 yX6_advance yX6_advance, Cond.initialized RX6, Cond.code yX6_advance cX6_advance 4 (some .int)]
def wsX10_fly_r3 : List Cond := [Cond.fieldLink RX6 60 "FormationPlanner$Plan" "now" "I", Cond.methodLink RX6 68 Lib.Math.min.name, Cond.fieldLink RX6 74 "FormationPlanner$Plan" "size" "I", Cond.fieldLink RX6 28 "FormationPlanner$Plan" "scene" "LFormationPlanner$Scene;", Cond.fieldLink RX6 82 "FormationPlanner$Scene" "drones" "LFormationPlanner$Places;", Cond.methodLink RX6 153 yX6_cellOfDrone, Cond.instanceMethod yX6_cellOfDrone, Cond.selects RX6 yX6_cellOfDrone yX6_cellOfDrone, Cond.code yX6_cellOfDrone cX6_cellOfDrone 3 (some .int), Cond.methodLink RX6 104 yX6_flightOf, Cond.instanceMethod yX6_flightOf, Cond.selects RX6 yX6_flightOf yX6_flightOf, Cond.code yX6_flightOf cX6_flightOf 2 (some (.object "FormationPlanner$Flight")), Cond.fieldLink RX6 11 "FormationPlanner$Plan" "flights" "[LFormationPlanner$Flight;", Cond.methodLink RX6 116 Lib.Math.max.name, Cond.static Lib.Math.max.name, Cond.code Lib.Math.max.name Lib.Math.max.code 2 (some .int), Cond.methodLink RX6 119 yX1_cellAt, Cond.instanceMethod yX1_cellAt, Cond.selects RX1 yX1_cellAt yX1_cellAt, Cond.initialized RX1, Cond.code yX1_cellAt cX1_cellAt 2 (some .int), Cond.fieldLink RX1 9 "FormationPlanner$Flight" "cells" "[I", Cond.methodLink RX1 34 Lib.Math.min.name]
def wsX10_fly_r4 : List Cond := [Cond.methodLink RX1 28 Lib.Math.max.name, Cond.methodLink RX6 156 yX5_move, Cond.instanceMethod yX5_move, Cond.selects RX5 yX5_move yX5_move, Cond.code yX5_move cX5_move 3 none, Cond.methodLink RX5 19 yX5_has, Cond.instanceMethod yX5_has, Cond.selects RX5 yX5_has yX5_has, Cond.code yX5_has cX5_has 2 (some .boolean), Cond.methodLink RX6 159 yX6_ticksLeft, Cond.instanceMethod yX6_ticksLeft, Cond.selects RX6 yX6_ticksLeft yX6_ticksLeft, Cond.code yX6_ticksLeft cX6_ticksLeft 2 (some .int), Cond.fieldLink RX6 129 "FormationPlanner$Flight" "arrival" "I"]
def wsX10_fly : List Cond := .code yX10_fly cX10_fly 2 (some .int) :: ((wsX10_fly_r1 ++ (wsX10_fly_r2 ++ (wsX10_fly_r3 ++ wsX10_fly_r4))) ++ wsX100 ++ wsX60 ++ wsX80 ++ wsX30 ++ wsX50 ++ wsX10)
def wsX10_greatestWith_r1 : List Cond := [Cond.fieldLink RX10 12 "FormationPlanner" "scene" "LFormationPlanner$Scene;", Cond.fieldLink RX10 70 "FormationPlanner$Scene" "winds" "[I", Cond.fieldLink RX10 49 "FormationPlanner" "assigner" "LFormationPlanner$Assigner;", Cond.fieldLink RX10 149 "FormationPlanner$Assigner" "greatest" "I", Cond.methodLink RX10 60 yX10_isLayer, Cond.static yX10_isLayer, Cond.initialized RX10, Cond.code yX10_isLayer cX10_isLayer 1 (some .boolean), Cond.methodLink RX10 64 yX10_isWind, Cond.static yX10_isWind, Cond.code yX10_isWind cX10_isWind 1 (some .boolean), Cond.methodLink RX10 143 yX0_assign, Cond.instanceMethod yX0_assign, Cond.selects RX0 yX0_assign yX0_assign, Cond.initialized RX0, Cond.code yX0_assign cX0_assign 3 (some .int), Cond.fieldLink RX0 24 "FormationPlanner$Assigner" "scene" "LFormationPlanner$Scene;", Cond.fieldLink RX0 31 "FormationPlanner$Scene" "drones" "LFormationPlanner$Places;", Cond.fieldLink RX0 37 "FormationPlanner$Places" "size" "I", Cond.fieldLink RX0 43 "FormationPlanner$Scene" "slots" "LFormationPlanner$Places;", Cond.methodLink RX0 46 Lib.Math.min.name, Cond.static Lib.Math.min.name, Cond.initialized "java/lang/Math", Cond.code Lib.Math.min.name Lib.Math.min.code 2 (some .int)]
def wsX10_greatestWith_r2 : List Cond := [Cond.fieldLink RX0 52 "FormationPlanner$Assigner" "size" "I", Cond.fieldLink RX0 53 "FormationPlanner$Assigner" "all" "I", Cond.fieldLink RX0 11 "FormationPlanner$Assigner" "toSlot" "[LFormationPlanner$TimesTo;", Cond.fieldLink RX0 17 "FormationPlanner$Assigner" "trial" "[I", Cond.methodLink RX0 56 yX5_cellAt, Cond.instanceMethod yX5_cellAt, Cond.selects RX5 yX5_cellAt yX5_cellAt, Cond.initialized RX5, Cond.code yX5_cellAt cX5_cellAt 2 (some .int), Cond.fieldLink RX5 9 "FormationPlanner$Places" "cells" "[I", Cond.methodLink RX5 19 yX5_has, Cond.instanceMethod yX5_has, Cond.selects RX5 yX5_has yX5_has, Cond.code yX5_has cX5_has 2 (some .boolean), Cond.fieldLink RX5 15 "FormationPlanner$Places" "size" "I", Cond.methodLink RX0 60 yX9_measure, Cond.instanceMethod yX9_measure, Cond.selects RX9 yX9_measure yX9_measure, Cond.initialized RX9, Cond.code yX9_measure cX9_measure 5 none, Cond.fieldLink RX9 9 "FormationPlanner$TimesTo" "times" "[I", Cond.fieldLink RX9 15 "FormationPlanner$TimesTo" "lattice" "LFormationPlanner$Lattice;", Cond.fieldLink RX9 29 "FormationPlanner$Lattice" "scene" "LFormationPlanner$Scene;", Cond.fieldLink RX9 35 "FormationPlanner$Scene" "obstacles" "[I"]
def wsX10_greatestWith_r3 : List Cond := [Cond.methodLink RX9 44 Lib.Math.max.name, Cond.static Lib.Math.max.name, Cond.code Lib.Math.max.name Lib.Math.max.code 2 (some .int), Cond.methodLink RX9 19 yJ7_fill_53178, Cond.static yJ7_fill_53178, Cond.initialized RJ7, Cond.code yJ7_fill_53178 cJ7_fill_53178 4 none, Cond.static yX10_isCell, Cond.code yX10_isCell cX10_isCell 1 (some .boolean), Cond.methodLink RX9 40 yX9_spreadBack, Cond.instanceMethod yX9_spreadBack, Cond.selects RX9 yX9_spreadBack yX9_spreadBack, Cond.code yX9_spreadBack cX9_spreadBack 7 (some .int), Cond.methodLink RX9 49 yX4_next, Cond.instanceMethod yX4_next, Cond.selects RX4 yX4_next yX4_next, Cond.initialized RX4, Cond.code yX4_next cX4_next 4 (some .int), Cond.fieldLink RX4 9 "FormationPlanner$Lattice" "neighbours" "[I", Cond.fieldLink RX4 15 "FormationPlanner$Lattice" "scene" "LFormationPlanner$Scene;", Cond.fieldLink RX4 30 "FormationPlanner$Scene" "obstacles" "[I", Cond.static yX10_isAction, Cond.code yX10_isAction cX10_isAction 1 (some .boolean), Cond.methodLink RX9 56 yX4_ticks]
def wsX10_greatestWith_r4 : List Cond := [Cond.instanceMethod yX4_ticks, Cond.selects RX4 yX4_ticks yX4_ticks, Cond.code yX4_ticks cX4_ticks 4 (some .int), Cond.fieldLink RX4 35 "FormationPlanner$Scene" "winds" "[I", Cond.methodLink RX0 64 yX0_weigh, Cond.instanceMethod yX0_weigh, Cond.selects RX0 yX0_weigh yX0_weigh, Cond.code yX0_weigh cX0_weigh 5 none, Cond.methodLink RX0 80 Lib.Math.max.name, Cond.fieldLink RX0 83 "FormationPlanner$Assigner" "greatest" "I", Cond.fieldLink RX0 86 "FormationPlanner$Assigner" "alike" "I", Cond.fieldLink RX0 93 "FormationPlanner$Assigner" "sum" "I", Cond.methodLink RX0 74 yX0_time, Cond.instanceMethod yX0_time, Cond.selects RX0 yX0_time yX0_time, Cond.code yX0_time cX0_time 3 (some .int), Cond.methodLink RX0 77 yX9_timeFrom, Cond.instanceMethod yX9_timeFrom, Cond.selects RX9 yX9_timeFrom yX9_timeFrom, Cond.code yX9_timeFrom cX9_timeFrom 2 (some .int), Cond.methodLink RX0 89 yX0_take, Cond.instanceMethod yX0_take, Cond.selects RX0 yX0_take yX0_take, Cond.code yX0_take cX0_take 3 none]
def wsX10_greatestWith_r5 : List Cond := [Cond.fieldLink RX0 21 "FormationPlanner$Assigner" "best" "[I", Cond.methodLink RX0 96 arraycopyName, Cond.native arraycopyName, Cond.static arraycopyName, Cond.initialized "java/lang/System", Cond.methodLink RX0 67 yX0_nextTrial, Cond.instanceMethod yX0_nextTrial, Cond.selects RX0 yX0_nextTrial yX0_nextTrial, Cond.code yX0_nextTrial cX0_nextTrial 5 (some .boolean), Cond.methodLink RX0 102 yX0_swap, Cond.instanceMethod yX0_swap, Cond.selects RX0 yX0_swap yX0_swap, Cond.code yX0_swap cX0_swap 4 none]
def wsX10_greatestWith : List Cond := .code yX10_greatestWith cX10_greatestWith 5 (some .int) :: ((wsX10_greatestWith_r1 ++ (wsX10_greatestWith_r2 ++ (wsX10_greatestWith_r3 ++ (wsX10_greatestWith_r4 ++ wsX10_greatestWith_r5)))) ++ wsX100 ++ wsX80 ++ wsX00 ++ wsX50 ++ wsX90 ++ wsX40)
def wsX10_cellOf : List Cond := .code yX10_cellOf cX10_cellOf 3 (some .int) :: ([.fieldLink RX10 12 "FormationPlanner" "scene" "LFormationPlanner$Scene;", .fieldLink RX10 77 "FormationPlanner$Scene" "drones" "LFormationPlanner$Places;", .fieldLink RX10 87 "FormationPlanner$Scene" "slots" "LFormationPlanner$Places;", .methodLink RX10 210 yX5_cellAt, .instanceMethod yX5_cellAt, .selects RX5 yX5_cellAt yX5_cellAt, .initialized RX5, .code yX5_cellAt cX5_cellAt 2 (some .int), .fieldLink RX5 9 "FormationPlanner$Places" "cells" "[I", .methodLink RX5 19 yX5_has, .instanceMethod yX5_has, .selects RX5 yX5_has yX5_has, .code yX5_has cX5_has 2 (some .boolean), .fieldLink RX5 15 "FormationPlanner$Places" "size" "I"] ++ wsX100 ++ wsX80 ++ wsX50)
def wsX10_look : List Cond := .code yX10_look cX10_look 2 (some .int) :: ([.fieldLink RX10 12 "FormationPlanner" "scene" "LFormationPlanner$Scene;", .fieldLink RX10 90 "FormationPlanner$Scene" "obstacles" "[I", .fieldLink RX10 77 "FormationPlanner$Scene" "drones" "LFormationPlanner$Places;", .fieldLink RX10 87 "FormationPlanner$Scene" "slots" "LFormationPlanner$Places;", .methodLink RX10 74 yX10_isCell, .static yX10_isCell, .initialized RX10, .code yX10_isCell cX10_isCell 1 (some .boolean), .methodLink RX10 81 yX5_find, .instanceMethod yX5_find, .selects RX5 yX5_find yX5_find, .initialized RX5, .code yX5_find cX5_find 3 (some .int), .fieldLink RX5 15 "FormationPlanner$Places" "size" "I", .fieldLink RX5 9 "FormationPlanner$Places" "cells" "[I"] ++ wsX100 ++ wsX80 ++ wsX50)
def wsX10_count_r1 : List Cond := [Cond.fieldLink RX10 12 "FormationPlanner" "scene" "LFormationPlanner$Scene;", Cond.fieldLink RX10 77 "FormationPlanner$Scene" "drones" "LFormationPlanner$Places;", Cond.fieldLink RX10 100 "FormationPlanner$Places" "size" "I", Cond.fieldLink RX10 87 "FormationPlanner$Scene" "slots" "LFormationPlanner$Places;", Cond.fieldLink RX10 204 "FormationPlanner$Scene" "flown" "I", Cond.fieldLink RX10 19 "FormationPlanner" "history" "LFormationPlanner$History;", Cond.fieldLink RX10 219 "FormationPlanner$History" "size" "I", Cond.fieldLink RX10 26 "FormationPlanner" "text" "LFormationPlanner$Formation;", Cond.fieldLink RX10 111 "FormationPlanner$Formation" "length" "I", Cond.fieldLink RX10 56 "FormationPlanner" "plan" "LFormationPlanner$Plan;", Cond.fieldLink RX10 195 "FormationPlanner$Plan" "stands" "Z", Cond.methodLink RX10 213 yX8_obstacleCount, Cond.instanceMethod yX8_obstacleCount, Cond.selects RX8 yX8_obstacleCount yX8_obstacleCount, Cond.initialized RX8, Cond.code yX8_obstacleCount cX8_obstacleCount 3 (some .int), Cond.fieldLink RX8 15 "FormationPlanner$Scene" "obstacles" "[I", Cond.methodLink RX10 216 yX8_dronesAtSlots, Cond.instanceMethod yX8_dronesAtSlots, Cond.selects RX8 yX8_dronesAtSlots yX8_dronesAtSlots, Cond.code yX8_dronesAtSlots cX8_dronesAtSlots 3 (some .int), Cond.fieldLink RX8 21 "FormationPlanner$Scene" "drones" "LFormationPlanner$Places;", Cond.fieldLink RX8 32 "FormationPlanner$Places" "size" "I", Cond.fieldLink RX8 25 "FormationPlanner$Scene" "slots" "LFormationPlanner$Places;"]
def wsX10_count_r2 : List Cond := [Cond.methodLink RX8 36 yX5_cellAt, Cond.instanceMethod yX5_cellAt, Cond.selects RX5 yX5_cellAt yX5_cellAt, Cond.initialized RX5, Cond.code yX5_cellAt cX5_cellAt 2 (some .int), Cond.fieldLink RX5 9 "FormationPlanner$Places" "cells" "[I", Cond.methodLink RX5 19 yX5_has, Cond.instanceMethod yX5_has, Cond.selects RX5 yX5_has yX5_has, Cond.code yX5_has cX5_has 2 (some .boolean), Cond.fieldLink RX5 15 "FormationPlanner$Places" "size" "I", Cond.methodLink RX8 40 yX5_find, Cond.instanceMethod yX5_find, Cond.selects RX5 yX5_find yX5_find, Cond.code yX5_find cX5_find 3 (some .int)]
def wsX10_count : List Cond := .code yX10_count cX10_count 2 (some .int) :: ((wsX10_count_r1 ++ wsX10_count_r2) ++ wsX100 ++ wsX80 ++ wsX50 ++ wsX30 ++ wsX20 ++ wsX60)
def wsX10_undo_r1 : List Cond := [Cond.fieldLink RX10 56 "FormationPlanner" "plan" "LFormationPlanner$Plan;", Cond.fieldLink RX10 19 "FormationPlanner" "history" "LFormationPlanner$History;", Cond.fieldLink RX10 12 "FormationPlanner" "scene" "LFormationPlanner$Scene;", Cond.fieldLink RX10 219 "FormationPlanner$History" "size" "I", Cond.methodLink RX10 220 yX6_discard, Cond.instanceMethod yX6_discard, Cond.selects RX6 yX6_discard yX6_discard, Cond.initialized RX6, Cond.code yX6_discard cX6_discard 1 none, Cond.fieldLink RX6 53 "FormationPlanner$Plan" "stands" "Z", Cond.fieldLink RX6 24 "FormationPlanner$Plan" "stuckDrone" "I", Cond.methodLink RX10 223 yX3_bringBack, Cond.instanceMethod yX3_bringBack, Cond.selects RX3 yX3_bringBack yX3_bringBack, Cond.initialized RX3, Cond.code yX3_bringBack cX3_bringBack 2 (some .boolean), Cond.fieldLink RX3 32 "FormationPlanner$History" "size" "I", Cond.fieldLink RX3 18 "FormationPlanner$History" "next" "I", Cond.fieldLink RX3 11 "FormationPlanner$History" "scenes" "[LFormationPlanner$Scene;", Cond.methodLink RX3 22 yJ9_floorMod_7cf53, Cond.static yJ9_floorMod_7cf53, Cond.initialized RJ9, Cond.code yJ9_floorMod_7cf53 cJ9_floorMod_7cf53 3 (some .int), Cond.methodLink RX3 28 yX8_copyFrom]
def wsX10_undo_r2 : List Cond := [Cond.instanceMethod yX8_copyFrom, Cond.selects RX8 yX8_copyFrom yX8_copyFrom, Cond.initialized RX8, Cond.code yX8_copyFrom cX8_copyFrom 2 none, Cond.fieldLink RX8 9 "FormationPlanner$Scene" "winds" "[I", Cond.methodLink RX8 43 arraycopyName, Cond.native arraycopyName, Cond.static arraycopyName, Cond.initialized "java/lang/System", Cond.fieldLink RX8 15 "FormationPlanner$Scene" "obstacles" "[I", Cond.fieldLink RX8 21 "FormationPlanner$Scene" "drones" "LFormationPlanner$Places;", Cond.fieldLink RX8 25 "FormationPlanner$Scene" "slots" "LFormationPlanner$Places;", Cond.fieldLink RX8 53 "FormationPlanner$Scene" "flown" "I", Cond.methodLink RX8 49 yX5_copyFrom, Cond.instanceMethod yX5_copyFrom, Cond.selects RX5 yX5_copyFrom yX5_copyFrom, Cond.initialized RX5, Cond.code yX5_copyFrom cX5_copyFrom 2 none, Cond.fieldLink RX5 9 "FormationPlanner$Places" "cells" "[I", Cond.methodLink RX5 23 arraycopyName, Cond.fieldLink RX5 15 "FormationPlanner$Places" "size" "I"]
def wsX10_undo : List Cond := .code yX10_undo cX10_undo 1 (some .int) :: ((wsX10_undo_r1 ++ wsX10_undo_r2) ++ wsX100 ++ wsX30 ++ wsX60 ++ wsX80 ++ wsX50)
def wsX11_init_r1 : List Cond := [Cond.methodLink RX11 3 objectInit, Cond.instanceMethod objectInit, Cond.code objectInit ⟨#[0xb1]⟩ 1 none, Cond.arrayClass .int, Cond.fieldLink RX11 9 "FormationPlannerModel" "s" "[I", Cond.fieldLink RX11 13 "FormationPlannerModel" "past" "[I", Cond.fieldLink RX11 16 "FormationPlannerModel" "text" "[I", Cond.fieldLink RX11 19 "FormationPlannerModel" "read" "[I", Cond.fieldLink RX11 22 "FormationPlannerModel" "times" "[I", Cond.arrayClass .boolean, Cond.fieldLink RX11 25 "FormationPlannerModel" "isKnown" "[Z", Cond.fieldLink RX11 29 "FormationPlannerModel" "tried" "[I", Cond.fieldLink RX11 32 "FormationPlannerModel" "best" "[I", Cond.fieldLink RX11 35 "FormationPlannerModel" "stuck" "I", Cond.fieldLink RX11 39 "FormationPlannerModel" "cellAt" "[I", Cond.fieldLink RX11 42 "FormationPlannerModel" "actionAt" "[I", Cond.fieldLink RX11 45 "FormationPlannerModel" "arrival" "[I", Cond.fieldLink RX11 48 "FormationPlannerModel" "position" "[I", Cond.fieldLink RX11 51 "FormationPlannerModel" "order" "[I", Cond.fieldLink RX11 54 "FormationPlannerModel" "goal" "[I", Cond.fieldLink RX11 57 "FormationPlannerModel" "taken" "[I", Cond.fieldLink RX11 60 "FormationPlannerModel" "isReached" "[Z", Cond.fieldLink RX11 63 "FormationPlannerModel" "canEnd" "[Z", Cond.fieldLink RX11 66 "FormationPlannerModel" "way" "[I"]
def wsX11_init_r2 : List Cond := [Cond.fieldLink RX11 69 "FormationPlannerModel" "hasPlan" "Z"]
def wsX11_init : List Cond := .code yX11_init cX11_init 1 none :: ((wsX11_init_r1 ++ wsX11_init_r2) ++ wsX110)
def wsX11_isIn : List Cond := .code yX11_isIn cX11_isIn 3 (some .boolean) :: ([])
def wsX11_isCell : List Cond := .code yX11_isCell cX11_isCell 1 (some .boolean) :: ([.methodLink RX11 73 yX11_isIn, .static yX11_isIn, .initialized RX11, .code yX11_isIn cX11_isIn 3 (some .boolean)])
def wsX11_layerOf : List Cond := .code yX11_layerOf cX11_layerOf 1 (some .int) :: ([])
def wsX11_isObstacle : List Cond := .code yX11_isObstacle cX11_isObstacle 2 (some .boolean) :: ([.fieldLink RX11 9 "FormationPlannerModel" "s" "[I"] ++ wsX110)
def wsX11_isDrone : List Cond := .code yX11_isDrone cX11_isDrone 2 (some .boolean) :: ([.fieldLink RX11 9 "FormationPlannerModel" "s" "[I", .methodLink RX11 73 yX11_isIn, .static yX11_isIn, .initialized RX11, .code yX11_isIn cX11_isIn 3 (some .boolean)] ++ wsX110)
def wsX11_droneAt : List Cond := .code yX11_droneAt cX11_droneAt 3 (some .int) :: ([.fieldLink RX11 9 "FormationPlannerModel" "s" "[I"] ++ wsX110)
def wsX11_slotAt : List Cond := .code yX11_slotAt cX11_slotAt 3 (some .int) :: ([.fieldLink RX11 9 "FormationPlannerModel" "s" "[I"] ++ wsX110)
def wsX11_keeps : List Cond := .code yX11_keeps cX11_keeps 2 none :: ([.fieldLink RX11 77 "FormationPlannerModel" "changes" "I", .fieldLink RX11 13 "FormationPlannerModel" "past" "[I", .fieldLink RX11 9 "FormationPlannerModel" "s" "[I"] ++ wsX110)
def wsX11_discards : List Cond := .code yX11_discards cX11_discards 2 none :: ([.fieldLink RX11 69 "FormationPlannerModel" "hasPlan" "Z", .fieldLink RX11 35 "FormationPlannerModel" "stuck" "I", .fieldLink RX11 25 "FormationPlannerModel" "isKnown" "[Z"] ++ wsX110)
def wsX11_changes : List Cond := .code yX11_changes cX11_changes 1 none :: ([.methodLink RX11 80 yX11_keeps, .instanceMethod yX11_keeps, .selects RX11 yX11_keeps yX11_keeps, .initialized RX11, .code yX11_keeps cX11_keeps 2 none, .fieldLink RX11 77 "FormationPlannerModel" "changes" "I", .fieldLink RX11 13 "FormationPlannerModel" "past" "[I", .fieldLink RX11 9 "FormationPlannerModel" "s" "[I", .methodLink RX11 83 yX11_discards, .instanceMethod yX11_discards, .selects RX11 yX11_discards yX11_discards, .code yX11_discards cX11_discards 2 none, .fieldLink RX11 69 "FormationPlannerModel" "hasPlan" "Z", .fieldLink RX11 35 "FormationPlannerModel" "stuck" "I", .fieldLink RX11 25 "FormationPlannerModel" "isKnown" "[Z"] ++ wsX110)
def wsX11_undo : List Cond := .code yX11_undo cX11_undo 2 (some .int) :: ([.fieldLink RX11 77 "FormationPlannerModel" "changes" "I", .fieldLink RX11 9 "FormationPlannerModel" "s" "[I", .fieldLink RX11 13 "FormationPlannerModel" "past" "[I", .methodLink RX11 83 yX11_discards, .instanceMethod yX11_discards, .selects RX11 yX11_discards yX11_discards, .initialized RX11, .code yX11_discards cX11_discards 2 none, .fieldLink RX11 69 "FormationPlannerModel" "hasPlan" "Z", .fieldLink RX11 35 "FormationPlannerModel" "stuck" "I", .fieldLink RX11 25 "FormationPlannerModel" "isKnown" "[Z"] ++ wsX110)
def wsX11_setWind : List Cond := .code yX11_setWind cX11_setWind 4 (some .int) :: ([.fieldLink RX11 9 "FormationPlannerModel" "s" "[I", .methodLink RX11 73 yX11_isIn, .static yX11_isIn, .initialized RX11, .code yX11_isIn cX11_isIn 3 (some .boolean), .methodLink RX11 86 yX11_changes, .instanceMethod yX11_changes, .selects RX11 yX11_changes yX11_changes, .code yX11_changes cX11_changes 1 none, .methodLink RX11 80 yX11_keeps, .instanceMethod yX11_keeps, .selects RX11 yX11_keeps yX11_keeps, .code yX11_keeps cX11_keeps 2 none, .fieldLink RX11 77 "FormationPlannerModel" "changes" "I", .fieldLink RX11 13 "FormationPlannerModel" "past" "[I", .methodLink RX11 83 yX11_discards, .instanceMethod yX11_discards, .selects RX11 yX11_discards yX11_discards, .code yX11_discards cX11_discards 2 none, .fieldLink RX11 69 "FormationPlannerModel" "hasPlan" "Z", .fieldLink RX11 35 "FormationPlannerModel" "stuck" "I", .fieldLink RX11 25 "FormationPlannerModel" "isKnown" "[Z"] ++ wsX110)
def wsX11_setObstacle_r1 : List Cond := [Cond.fieldLink RX11 9 "FormationPlannerModel" "s" "[I", Cond.methodLink RX11 88 yX11_isCell, Cond.static yX11_isCell, Cond.initialized RX11, Cond.code yX11_isCell cX11_isCell 1 (some .boolean), Cond.methodLink RX11 73 yX11_isIn, Cond.static yX11_isIn, Cond.code yX11_isIn cX11_isIn 3 (some .boolean), Cond.methodLink RX11 92 yX11_droneAt, Cond.instanceMethod yX11_droneAt, Cond.selects RX11 yX11_droneAt yX11_droneAt, Cond.code yX11_droneAt cX11_droneAt 3 (some .int), Cond.methodLink RX11 96 yX11_slotAt, Cond.instanceMethod yX11_slotAt, Cond.selects RX11 yX11_slotAt yX11_slotAt, Cond.code yX11_slotAt cX11_slotAt 3 (some .int), Cond.methodLink RX11 86 yX11_changes, Cond.instanceMethod yX11_changes, Cond.selects RX11 yX11_changes yX11_changes, Cond.code yX11_changes cX11_changes 1 none, Cond.methodLink RX11 80 yX11_keeps, Cond.instanceMethod yX11_keeps, Cond.selects RX11 yX11_keeps yX11_keeps, Cond.code yX11_keeps cX11_keeps 2 none]
def wsX11_setObstacle_r2 : List Cond := [Cond.fieldLink RX11 77 "FormationPlannerModel" "changes" "I", Cond.fieldLink RX11 13 "FormationPlannerModel" "past" "[I", Cond.methodLink RX11 83 yX11_discards, Cond.instanceMethod yX11_discards, Cond.selects RX11 yX11_discards yX11_discards, Cond.code yX11_discards cX11_discards 2 none, Cond.fieldLink RX11 69 "FormationPlannerModel" "hasPlan" "Z", Cond.fieldLink RX11 35 "FormationPlannerModel" "stuck" "I", Cond.fieldLink RX11 25 "FormationPlannerModel" "isKnown" "[Z"]
def wsX11_setObstacle : List Cond := .code yX11_setObstacle cX11_setObstacle 4 (some .int) :: ((wsX11_setObstacle_r1 ++ wsX11_setObstacle_r2) ++ wsX110)
def wsX11_addDrone_r1 : List Cond := [Cond.fieldLink RX11 9 "FormationPlannerModel" "s" "[I", Cond.methodLink RX11 88 yX11_isCell, Cond.static yX11_isCell, Cond.initialized RX11, Cond.code yX11_isCell cX11_isCell 1 (some .boolean), Cond.methodLink RX11 73 yX11_isIn, Cond.static yX11_isIn, Cond.code yX11_isIn cX11_isIn 3 (some .boolean), Cond.methodLink RX11 99 yX11_isObstacle, Cond.instanceMethod yX11_isObstacle, Cond.selects RX11 yX11_isObstacle yX11_isObstacle, Cond.code yX11_isObstacle cX11_isObstacle 2 (some .boolean), Cond.methodLink RX11 92 yX11_droneAt, Cond.instanceMethod yX11_droneAt, Cond.selects RX11 yX11_droneAt yX11_droneAt, Cond.code yX11_droneAt cX11_droneAt 3 (some .int), Cond.methodLink RX11 86 yX11_changes, Cond.instanceMethod yX11_changes, Cond.selects RX11 yX11_changes yX11_changes, Cond.code yX11_changes cX11_changes 1 none, Cond.methodLink RX11 80 yX11_keeps, Cond.instanceMethod yX11_keeps, Cond.selects RX11 yX11_keeps yX11_keeps, Cond.code yX11_keeps cX11_keeps 2 none]
def wsX11_addDrone_r2 : List Cond := [Cond.fieldLink RX11 77 "FormationPlannerModel" "changes" "I", Cond.fieldLink RX11 13 "FormationPlannerModel" "past" "[I", Cond.methodLink RX11 83 yX11_discards, Cond.instanceMethod yX11_discards, Cond.selects RX11 yX11_discards yX11_discards, Cond.code yX11_discards cX11_discards 2 none, Cond.fieldLink RX11 69 "FormationPlannerModel" "hasPlan" "Z", Cond.fieldLink RX11 35 "FormationPlannerModel" "stuck" "I", Cond.fieldLink RX11 25 "FormationPlannerModel" "isKnown" "[Z"]
def wsX11_addDrone : List Cond := .code yX11_addDrone cX11_addDrone 2 (some .int) :: ((wsX11_addDrone_r1 ++ wsX11_addDrone_r2) ++ wsX110)
def wsX11_removeDrone_r1 : List Cond := [Cond.fieldLink RX11 9 "FormationPlannerModel" "s" "[I", Cond.methodLink RX11 102 yX11_isDrone, Cond.instanceMethod yX11_isDrone, Cond.selects RX11 yX11_isDrone yX11_isDrone, Cond.initialized RX11, Cond.code yX11_isDrone cX11_isDrone 2 (some .boolean), Cond.methodLink RX11 73 yX11_isIn, Cond.static yX11_isIn, Cond.code yX11_isIn cX11_isIn 3 (some .boolean), Cond.methodLink RX11 86 yX11_changes, Cond.instanceMethod yX11_changes, Cond.selects RX11 yX11_changes yX11_changes, Cond.code yX11_changes cX11_changes 1 none, Cond.methodLink RX11 80 yX11_keeps, Cond.instanceMethod yX11_keeps, Cond.selects RX11 yX11_keeps yX11_keeps, Cond.code yX11_keeps cX11_keeps 2 none, Cond.fieldLink RX11 77 "FormationPlannerModel" "changes" "I", Cond.fieldLink RX11 13 "FormationPlannerModel" "past" "[I", Cond.methodLink RX11 83 yX11_discards, Cond.instanceMethod yX11_discards, Cond.selects RX11 yX11_discards yX11_discards, Cond.code yX11_discards cX11_discards 2 none, Cond.fieldLink RX11 69 "FormationPlannerModel" "hasPlan" "Z"]
def wsX11_removeDrone_r2 : List Cond := [Cond.fieldLink RX11 35 "FormationPlannerModel" "stuck" "I", Cond.fieldLink RX11 25 "FormationPlannerModel" "isKnown" "[Z"]
def wsX11_removeDrone : List Cond := .code yX11_removeDrone cX11_removeDrone 3 (some .int) :: ((wsX11_removeDrone_r1 ++ wsX11_removeDrone_r2) ++ wsX110)
def wsX11_addSlot_r1 : List Cond := [Cond.fieldLink RX11 9 "FormationPlannerModel" "s" "[I", Cond.methodLink RX11 88 yX11_isCell, Cond.static yX11_isCell, Cond.initialized RX11, Cond.code yX11_isCell cX11_isCell 1 (some .boolean), Cond.methodLink RX11 73 yX11_isIn, Cond.static yX11_isIn, Cond.code yX11_isIn cX11_isIn 3 (some .boolean), Cond.methodLink RX11 99 yX11_isObstacle, Cond.instanceMethod yX11_isObstacle, Cond.selects RX11 yX11_isObstacle yX11_isObstacle, Cond.code yX11_isObstacle cX11_isObstacle 2 (some .boolean), Cond.methodLink RX11 96 yX11_slotAt, Cond.instanceMethod yX11_slotAt, Cond.selects RX11 yX11_slotAt yX11_slotAt, Cond.code yX11_slotAt cX11_slotAt 3 (some .int), Cond.methodLink RX11 86 yX11_changes, Cond.instanceMethod yX11_changes, Cond.selects RX11 yX11_changes yX11_changes, Cond.code yX11_changes cX11_changes 1 none, Cond.methodLink RX11 80 yX11_keeps, Cond.instanceMethod yX11_keeps, Cond.selects RX11 yX11_keeps yX11_keeps, Cond.code yX11_keeps cX11_keeps 2 none]
def wsX11_addSlot_r2 : List Cond := [Cond.fieldLink RX11 77 "FormationPlannerModel" "changes" "I", Cond.fieldLink RX11 13 "FormationPlannerModel" "past" "[I", Cond.methodLink RX11 83 yX11_discards, Cond.instanceMethod yX11_discards, Cond.selects RX11 yX11_discards yX11_discards, Cond.code yX11_discards cX11_discards 2 none, Cond.fieldLink RX11 69 "FormationPlannerModel" "hasPlan" "Z", Cond.fieldLink RX11 35 "FormationPlannerModel" "stuck" "I", Cond.fieldLink RX11 25 "FormationPlannerModel" "isKnown" "[Z"]
def wsX11_addSlot : List Cond := .code yX11_addSlot cX11_addSlot 2 (some .int) :: ((wsX11_addSlot_r1 ++ wsX11_addSlot_r2) ++ wsX110)
def wsX11_clearSlots : List Cond := .code yX11_clearSlots cX11_clearSlots 2 (some .int) :: ([.fieldLink RX11 9 "FormationPlannerModel" "s" "[I", .methodLink RX11 86 yX11_changes, .instanceMethod yX11_changes, .selects RX11 yX11_changes yX11_changes, .initialized RX11, .code yX11_changes cX11_changes 1 none, .methodLink RX11 80 yX11_keeps, .instanceMethod yX11_keeps, .selects RX11 yX11_keeps yX11_keeps, .code yX11_keeps cX11_keeps 2 none, .fieldLink RX11 77 "FormationPlannerModel" "changes" "I", .fieldLink RX11 13 "FormationPlannerModel" "past" "[I", .methodLink RX11 83 yX11_discards, .instanceMethod yX11_discards, .selects RX11 yX11_discards yX11_discards, .code yX11_discards cX11_discards 2 none, .fieldLink RX11 69 "FormationPlannerModel" "hasPlan" "Z", .fieldLink RX11 35 "FormationPlannerModel" "stuck" "I", .fieldLink RX11 25 "FormationPlannerModel" "isKnown" "[Z"] ++ wsX110)
def wsX11_append : List Cond := .code yX11_append cX11_append 4 (some .int) :: ([.fieldLink RX11 105 "FormationPlannerModel" "written" "I", .fieldLink RX11 16 "FormationPlannerModel" "text" "[I", .methodLink RX11 73 yX11_isIn, .static yX11_isIn, .initialized RX11, .code yX11_isIn cX11_isIn 3 (some .boolean)] ++ wsX110)
def wsX11_here : List Cond := .code yX11_here cX11_here 1 (some .int) :: ([.fieldLink RX11 108 "FormationPlannerModel" "at" "I", .fieldLink RX11 105 "FormationPlannerModel" "written" "I", .fieldLink RX11 16 "FormationPlannerModel" "text" "[I"] ++ wsX110)
def wsX11_readsAll : List Cond := .code yX11_readsAll cX11_readsAll 5 (some .int) :: ([.fieldLink RX11 108 "FormationPlannerModel" "at" "I", .fieldLink RX11 19 "FormationPlannerModel" "read" "[I", .fieldLink RX11 105 "FormationPlannerModel" "written" "I", .methodLink RX11 111 yX11_here, .instanceMethod yX11_here, .selects RX11 yX11_here yX11_here, .initialized RX11, .code yX11_here cX11_here 1 (some .int), .fieldLink RX11 16 "FormationPlannerModel" "text" "[I", .methodLink RX11 73 yX11_isIn, .static yX11_isIn, .code yX11_isIn cX11_isIn 3 (some .boolean)] ++ wsX110)
def wsX11_isTaken : List Cond := .code yX11_isTaken cX11_isTaken 5 (some .boolean) :: ([.fieldLink RX11 19 "FormationPlannerModel" "read" "[I", .methodLink RX11 99 yX11_isObstacle, .instanceMethod yX11_isObstacle, .selects RX11 yX11_isObstacle yX11_isObstacle, .initialized RX11, .code yX11_isObstacle cX11_isObstacle 2 (some .boolean), .fieldLink RX11 9 "FormationPlannerModel" "s" "[I"] ++ wsX110)
def wsX11_readSlots_r1 : List Cond := [Cond.fieldLink RX11 105 "FormationPlannerModel" "written" "I", Cond.fieldLink RX11 108 "FormationPlannerModel" "at" "I", Cond.fieldLink RX11 9 "FormationPlannerModel" "s" "[I", Cond.fieldLink RX11 19 "FormationPlannerModel" "read" "[I", Cond.methodLink RX11 115 yX11_readsAll, Cond.instanceMethod yX11_readsAll, Cond.selects RX11 yX11_readsAll yX11_readsAll, Cond.initialized RX11, Cond.code yX11_readsAll cX11_readsAll 5 (some .int), Cond.methodLink RX11 111 yX11_here, Cond.instanceMethod yX11_here, Cond.selects RX11 yX11_here yX11_here, Cond.code yX11_here cX11_here 1 (some .int), Cond.fieldLink RX11 16 "FormationPlannerModel" "text" "[I", Cond.methodLink RX11 73 yX11_isIn, Cond.static yX11_isIn, Cond.code yX11_isIn cX11_isIn 3 (some .boolean), Cond.methodLink RX11 118 yX11_isTaken, Cond.instanceMethod yX11_isTaken, Cond.selects RX11 yX11_isTaken yX11_isTaken, Cond.code yX11_isTaken cX11_isTaken 5 (some .boolean), Cond.methodLink RX11 99 yX11_isObstacle, Cond.instanceMethod yX11_isObstacle, Cond.selects RX11 yX11_isObstacle yX11_isObstacle]
def wsX11_readSlots_r2 : List Cond := [Cond.code yX11_isObstacle cX11_isObstacle 2 (some .boolean), Cond.methodLink RX11 86 yX11_changes, Cond.instanceMethod yX11_changes, Cond.selects RX11 yX11_changes yX11_changes, Cond.code yX11_changes cX11_changes 1 none, Cond.methodLink RX11 80 yX11_keeps, Cond.instanceMethod yX11_keeps, Cond.selects RX11 yX11_keeps yX11_keeps, Cond.code yX11_keeps cX11_keeps 2 none, Cond.fieldLink RX11 77 "FormationPlannerModel" "changes" "I", Cond.fieldLink RX11 13 "FormationPlannerModel" "past" "[I", Cond.methodLink RX11 83 yX11_discards, Cond.instanceMethod yX11_discards, Cond.selects RX11 yX11_discards yX11_discards, Cond.code yX11_discards cX11_discards 2 none, Cond.fieldLink RX11 69 "FormationPlannerModel" "hasPlan" "Z", Cond.fieldLink RX11 35 "FormationPlannerModel" "stuck" "I", Cond.fieldLink RX11 25 "FormationPlannerModel" "isKnown" "[Z"]
def wsX11_readSlots : List Cond := .code yX11_readSlots cX11_readSlots 3 (some .int) :: ((wsX11_readSlots_r1 ++ wsX11_readSlots_r2) ++ wsX110)
def wsX11_next : List Cond := .code yX11_next cX11_next 7 (some .int) :: ([.methodLink RX11 121 yX11_layerOf, .static yX11_layerOf, .initialized RX11, .code yX11_layerOf cX11_layerOf 1 (some .int), .methodLink RX11 73 yX11_isIn, .static yX11_isIn, .code yX11_isIn cX11_isIn 3 (some .boolean), .methodLink RX11 99 yX11_isObstacle, .instanceMethod yX11_isObstacle, .selects RX11 yX11_isObstacle yX11_isObstacle, .code yX11_isObstacle cX11_isObstacle 2 (some .boolean), .fieldLink RX11 9 "FormationPlannerModel" "s" "[I"] ++ wsX110)
def wsX11_ticks : List Cond := .code yX11_ticks cX11_ticks 5 (some .int) :: ([.fieldLink RX11 9 "FormationPlannerModel" "s" "[I", .methodLink RX11 121 yX11_layerOf, .static yX11_layerOf, .initialized RX11, .code yX11_layerOf cX11_layerOf 1 (some .int)] ++ wsX110)
def wsX11_measures : List Cond := .code yX11_measures cX11_measures 7 none :: ([.fieldLink RX11 22 "FormationPlannerModel" "times" "[I", .constant RX11 124 (100000), .fieldLink RX11 25 "FormationPlannerModel" "isKnown" "[Z", .methodLink RX11 99 yX11_isObstacle, .instanceMethod yX11_isObstacle, .selects RX11 yX11_isObstacle yX11_isObstacle, .initialized RX11, .code yX11_isObstacle cX11_isObstacle 2 (some .boolean), .fieldLink RX11 9 "FormationPlannerModel" "s" "[I", .methodLink RX11 125 yX11_next, .instanceMethod yX11_next, .selects RX11 yX11_next yX11_next, .code yX11_next cX11_next 7 (some .int), .methodLink RX11 121 yX11_layerOf, .static yX11_layerOf, .code yX11_layerOf cX11_layerOf 1 (some .int), .methodLink RX11 73 yX11_isIn, .static yX11_isIn, .code yX11_isIn cX11_isIn 3 (some .boolean), .methodLink RX11 129 yX11_ticks, .instanceMethod yX11_ticks, .selects RX11 yX11_ticks yX11_ticks, .code yX11_ticks cX11_ticks 5 (some .int)] ++ wsX110)
def wsX11_time_r1 : List Cond := [Cond.fieldLink RX11 25 "FormationPlannerModel" "isKnown" "[Z", Cond.fieldLink RX11 22 "FormationPlannerModel" "times" "[I", Cond.methodLink RX11 132 yX11_measures, Cond.instanceMethod yX11_measures, Cond.selects RX11 yX11_measures yX11_measures, Cond.initialized RX11, Cond.code yX11_measures cX11_measures 7 none, Cond.constant RX11 124 (100000), Cond.methodLink RX11 99 yX11_isObstacle, Cond.instanceMethod yX11_isObstacle, Cond.selects RX11 yX11_isObstacle yX11_isObstacle, Cond.code yX11_isObstacle cX11_isObstacle 2 (some .boolean), Cond.fieldLink RX11 9 "FormationPlannerModel" "s" "[I", Cond.methodLink RX11 125 yX11_next, Cond.instanceMethod yX11_next, Cond.selects RX11 yX11_next yX11_next, Cond.code yX11_next cX11_next 7 (some .int), Cond.methodLink RX11 121 yX11_layerOf, Cond.static yX11_layerOf, Cond.code yX11_layerOf cX11_layerOf 1 (some .int), Cond.methodLink RX11 73 yX11_isIn, Cond.static yX11_isIn, Cond.code yX11_isIn cX11_isIn 3 (some .boolean), Cond.methodLink RX11 129 yX11_ticks]
def wsX11_time_r2 : List Cond := [Cond.instanceMethod yX11_ticks, Cond.selects RX11 yX11_ticks yX11_ticks, Cond.code yX11_ticks cX11_ticks 5 (some .int)]
def wsX11_time : List Cond := .code yX11_time cX11_time 3 (some .int) :: ((wsX11_time_r1 ++ wsX11_time_r2) ++ wsX110)
def wsX11_flightTime_r1 : List Cond := [Cond.constant RX11 124 (100000), Cond.methodLink RX11 88 yX11_isCell, Cond.static yX11_isCell, Cond.initialized RX11, Cond.code yX11_isCell cX11_isCell 1 (some .boolean), Cond.methodLink RX11 73 yX11_isIn, Cond.static yX11_isIn, Cond.code yX11_isIn cX11_isIn 3 (some .boolean), Cond.methodLink RX11 136 yX11_time, Cond.instanceMethod yX11_time, Cond.selects RX11 yX11_time yX11_time, Cond.code yX11_time cX11_time 3 (some .int), Cond.fieldLink RX11 25 "FormationPlannerModel" "isKnown" "[Z", Cond.fieldLink RX11 22 "FormationPlannerModel" "times" "[I", Cond.methodLink RX11 132 yX11_measures, Cond.instanceMethod yX11_measures, Cond.selects RX11 yX11_measures yX11_measures, Cond.code yX11_measures cX11_measures 7 none, Cond.methodLink RX11 99 yX11_isObstacle, Cond.instanceMethod yX11_isObstacle, Cond.selects RX11 yX11_isObstacle yX11_isObstacle, Cond.code yX11_isObstacle cX11_isObstacle 2 (some .boolean), Cond.fieldLink RX11 9 "FormationPlannerModel" "s" "[I", Cond.methodLink RX11 125 yX11_next]
def wsX11_flightTime_r2 : List Cond := [Cond.instanceMethod yX11_next, Cond.selects RX11 yX11_next yX11_next, Cond.code yX11_next cX11_next 7 (some .int), Cond.methodLink RX11 121 yX11_layerOf, Cond.static yX11_layerOf, Cond.code yX11_layerOf cX11_layerOf 1 (some .int), Cond.methodLink RX11 129 yX11_ticks, Cond.instanceMethod yX11_ticks, Cond.selects RX11 yX11_ticks yX11_ticks, Cond.code yX11_ticks cX11_ticks 5 (some .int)]
def wsX11_flightTime : List Cond := .code yX11_flightTime cX11_flightTime 3 (some .int) :: ((wsX11_flightTime_r1 ++ wsX11_flightTime_r2) ++ wsX110)
def wsX11_firstAction_r1 : List Cond := [Cond.methodLink RX11 125 yX11_next, Cond.instanceMethod yX11_next, Cond.selects RX11 yX11_next yX11_next, Cond.initialized RX11, Cond.code yX11_next cX11_next 7 (some .int), Cond.methodLink RX11 121 yX11_layerOf, Cond.static yX11_layerOf, Cond.code yX11_layerOf cX11_layerOf 1 (some .int), Cond.methodLink RX11 73 yX11_isIn, Cond.static yX11_isIn, Cond.code yX11_isIn cX11_isIn 3 (some .boolean), Cond.methodLink RX11 99 yX11_isObstacle, Cond.instanceMethod yX11_isObstacle, Cond.selects RX11 yX11_isObstacle yX11_isObstacle, Cond.code yX11_isObstacle cX11_isObstacle 2 (some .boolean), Cond.fieldLink RX11 9 "FormationPlannerModel" "s" "[I", Cond.methodLink RX11 129 yX11_ticks, Cond.instanceMethod yX11_ticks, Cond.selects RX11 yX11_ticks yX11_ticks, Cond.code yX11_ticks cX11_ticks 5 (some .int), Cond.methodLink RX11 136 yX11_time, Cond.instanceMethod yX11_time, Cond.selects RX11 yX11_time yX11_time, Cond.code yX11_time cX11_time 3 (some .int)]
def wsX11_firstAction_r2 : List Cond := [Cond.fieldLink RX11 25 "FormationPlannerModel" "isKnown" "[Z", Cond.fieldLink RX11 22 "FormationPlannerModel" "times" "[I", Cond.methodLink RX11 132 yX11_measures, Cond.instanceMethod yX11_measures, Cond.selects RX11 yX11_measures yX11_measures, Cond.code yX11_measures cX11_measures 7 none, Cond.constant RX11 124 (100000)]
def wsX11_firstAction : List Cond := .code yX11_firstAction cX11_firstAction 5 (some .int) :: ((wsX11_firstAction_r1 ++ wsX11_firstAction_r2) ++ wsX110)
def wsX11_tries_r1 : List Cond := [Cond.fieldLink RX11 9 "FormationPlannerModel" "s" "[I", Cond.fieldLink RX11 139 "FormationPlannerModel" "assignments" "I", Cond.fieldLink RX11 142 "FormationPlannerModel" "greatest" "I", Cond.fieldLink RX11 145 "FormationPlannerModel" "sum" "I", Cond.fieldLink RX11 148 "FormationPlannerModel" "withGreatest" "I", Cond.fieldLink RX11 32 "FormationPlannerModel" "best" "[I", Cond.fieldLink RX11 29 "FormationPlannerModel" "tried" "[I", Cond.constant RX11 124 (100000), Cond.methodLink RX11 151 Lib.Math.max.name, Cond.static Lib.Math.max.name, Cond.initialized "java/lang/Math", Cond.code Lib.Math.max.name Lib.Math.max.code 2 (some .int), Cond.methodLink RX11 136 yX11_time, Cond.instanceMethod yX11_time, Cond.selects RX11 yX11_time yX11_time, Cond.initialized RX11, Cond.code yX11_time cX11_time 3 (some .int), Cond.fieldLink RX11 25 "FormationPlannerModel" "isKnown" "[Z", Cond.fieldLink RX11 22 "FormationPlannerModel" "times" "[I", Cond.methodLink RX11 132 yX11_measures, Cond.instanceMethod yX11_measures, Cond.selects RX11 yX11_measures yX11_measures, Cond.code yX11_measures cX11_measures 7 none, Cond.methodLink RX11 99 yX11_isObstacle]
def wsX11_tries_r2 : List Cond := [Cond.instanceMethod yX11_isObstacle, Cond.selects RX11 yX11_isObstacle yX11_isObstacle, Cond.code yX11_isObstacle cX11_isObstacle 2 (some .boolean), Cond.methodLink RX11 125 yX11_next, Cond.instanceMethod yX11_next, Cond.selects RX11 yX11_next yX11_next, Cond.code yX11_next cX11_next 7 (some .int), Cond.methodLink RX11 121 yX11_layerOf, Cond.static yX11_layerOf, Cond.code yX11_layerOf cX11_layerOf 1 (some .int), Cond.methodLink RX11 73 yX11_isIn, Cond.static yX11_isIn, Cond.code yX11_isIn cX11_isIn 3 (some .boolean), Cond.methodLink RX11 129 yX11_ticks, Cond.instanceMethod yX11_ticks, Cond.selects RX11 yX11_ticks yX11_ticks, Cond.code yX11_ticks cX11_ticks 5 (some .int), Cond.methodLink RX11 156 yX11_tries, Cond.instanceMethod yX11_tries, Cond.selects RX11 yX11_tries yX11_tries]
def wsX11_tries : List Cond := .code yX11_tries cX11_tries 7 none :: ((wsX11_tries_r1 ++ wsX11_tries_r2) ++ wsX110)
def wsX11_assigns_r1 : List Cond := [Cond.fieldLink RX11 9 "FormationPlannerModel" "s" "[I", Cond.fieldLink RX11 139 "FormationPlannerModel" "assignments" "I", Cond.methodLink RX11 156 yX11_tries, Cond.instanceMethod yX11_tries, Cond.selects RX11 yX11_tries yX11_tries, Cond.initialized RX11, Cond.code yX11_tries cX11_tries 7 none, Cond.fieldLink RX11 142 "FormationPlannerModel" "greatest" "I", Cond.fieldLink RX11 145 "FormationPlannerModel" "sum" "I", Cond.fieldLink RX11 148 "FormationPlannerModel" "withGreatest" "I", Cond.fieldLink RX11 32 "FormationPlannerModel" "best" "[I", Cond.fieldLink RX11 29 "FormationPlannerModel" "tried" "[I", Cond.constant RX11 124 (100000), Cond.methodLink RX11 151 Lib.Math.max.name, Cond.static Lib.Math.max.name, Cond.initialized "java/lang/Math", Cond.code Lib.Math.max.name Lib.Math.max.code 2 (some .int), Cond.methodLink RX11 136 yX11_time, Cond.instanceMethod yX11_time, Cond.selects RX11 yX11_time yX11_time, Cond.code yX11_time cX11_time 3 (some .int), Cond.fieldLink RX11 25 "FormationPlannerModel" "isKnown" "[Z", Cond.fieldLink RX11 22 "FormationPlannerModel" "times" "[I", Cond.methodLink RX11 132 yX11_measures]
def wsX11_assigns_r2 : List Cond := [Cond.instanceMethod yX11_measures, Cond.selects RX11 yX11_measures yX11_measures, Cond.code yX11_measures cX11_measures 7 none, Cond.methodLink RX11 99 yX11_isObstacle, Cond.instanceMethod yX11_isObstacle, Cond.selects RX11 yX11_isObstacle yX11_isObstacle, Cond.code yX11_isObstacle cX11_isObstacle 2 (some .boolean), Cond.methodLink RX11 125 yX11_next, Cond.instanceMethod yX11_next, Cond.selects RX11 yX11_next yX11_next, Cond.code yX11_next cX11_next 7 (some .int), Cond.methodLink RX11 121 yX11_layerOf, Cond.static yX11_layerOf, Cond.code yX11_layerOf cX11_layerOf 1 (some .int), Cond.methodLink RX11 73 yX11_isIn, Cond.static yX11_isIn, Cond.code yX11_isIn cX11_isIn 3 (some .boolean), Cond.methodLink RX11 129 yX11_ticks, Cond.instanceMethod yX11_ticks, Cond.selects RX11 yX11_ticks yX11_ticks, Cond.code yX11_ticks cX11_ticks 5 (some .int)]
def wsX11_assigns : List Cond := .code yX11_assigns cX11_assigns 1 (some .int) :: ((wsX11_assigns_r1 ++ wsX11_assigns_r2) ++ wsX110)
def wsX11_assigned_r1 : List Cond := [Cond.fieldLink RX11 32 "FormationPlannerModel" "best" "[I", Cond.methodLink RX11 102 yX11_isDrone, Cond.instanceMethod yX11_isDrone, Cond.selects RX11 yX11_isDrone yX11_isDrone, Cond.initialized RX11, Cond.code yX11_isDrone cX11_isDrone 2 (some .boolean), Cond.fieldLink RX11 9 "FormationPlannerModel" "s" "[I", Cond.methodLink RX11 73 yX11_isIn, Cond.static yX11_isIn, Cond.code yX11_isIn cX11_isIn 3 (some .boolean), Cond.methodLink RX11 160 yX11_assigns, Cond.instanceMethod yX11_assigns, Cond.selects RX11 yX11_assigns yX11_assigns, Cond.code yX11_assigns cX11_assigns 1 (some .int), Cond.fieldLink RX11 139 "FormationPlannerModel" "assignments" "I", Cond.methodLink RX11 156 yX11_tries, Cond.instanceMethod yX11_tries, Cond.selects RX11 yX11_tries yX11_tries, Cond.code yX11_tries cX11_tries 7 none, Cond.fieldLink RX11 142 "FormationPlannerModel" "greatest" "I", Cond.fieldLink RX11 145 "FormationPlannerModel" "sum" "I", Cond.fieldLink RX11 148 "FormationPlannerModel" "withGreatest" "I", Cond.fieldLink RX11 29 "FormationPlannerModel" "tried" "[I", Cond.constant RX11 124 (100000)]
def wsX11_assigned_r2 : List Cond := [Cond.methodLink RX11 151 Lib.Math.max.name, Cond.static Lib.Math.max.name, Cond.initialized "java/lang/Math", Cond.code Lib.Math.max.name Lib.Math.max.code 2 (some .int), Cond.methodLink RX11 136 yX11_time, Cond.instanceMethod yX11_time, Cond.selects RX11 yX11_time yX11_time, Cond.code yX11_time cX11_time 3 (some .int), Cond.fieldLink RX11 25 "FormationPlannerModel" "isKnown" "[Z", Cond.fieldLink RX11 22 "FormationPlannerModel" "times" "[I", Cond.methodLink RX11 132 yX11_measures, Cond.instanceMethod yX11_measures, Cond.selects RX11 yX11_measures yX11_measures, Cond.code yX11_measures cX11_measures 7 none, Cond.methodLink RX11 99 yX11_isObstacle, Cond.instanceMethod yX11_isObstacle, Cond.selects RX11 yX11_isObstacle yX11_isObstacle, Cond.code yX11_isObstacle cX11_isObstacle 2 (some .boolean), Cond.methodLink RX11 125 yX11_next, Cond.instanceMethod yX11_next, Cond.selects RX11 yX11_next yX11_next, Cond.code yX11_next cX11_next 7 (some .int), Cond.methodLink RX11 121 yX11_layerOf, Cond.static yX11_layerOf]
def wsX11_assigned_r3 : List Cond := [Cond.code yX11_layerOf cX11_layerOf 1 (some .int), Cond.methodLink RX11 129 yX11_ticks, Cond.instanceMethod yX11_ticks, Cond.selects RX11 yX11_ticks yX11_ticks, Cond.code yX11_ticks cX11_ticks 5 (some .int)]
def wsX11_assigned : List Cond := .code yX11_assigned cX11_assigned 3 (some .int) :: ((wsX11_assigned_r1 ++ (wsX11_assigned_r2 ++ wsX11_assigned_r3)) ++ wsX110)
def wsX11_assignment_r1 : List Cond := [Cond.fieldLink RX11 142 "FormationPlannerModel" "greatest" "I", Cond.fieldLink RX11 145 "FormationPlannerModel" "sum" "I", Cond.fieldLink RX11 148 "FormationPlannerModel" "withGreatest" "I", Cond.fieldLink RX11 139 "FormationPlannerModel" "assignments" "I", Cond.methodLink RX11 73 yX11_isIn, Cond.static yX11_isIn, Cond.initialized RX11, Cond.code yX11_isIn cX11_isIn 3 (some .boolean), Cond.methodLink RX11 160 yX11_assigns, Cond.instanceMethod yX11_assigns, Cond.selects RX11 yX11_assigns yX11_assigns, Cond.code yX11_assigns cX11_assigns 1 (some .int), Cond.fieldLink RX11 9 "FormationPlannerModel" "s" "[I", Cond.methodLink RX11 156 yX11_tries, Cond.instanceMethod yX11_tries, Cond.selects RX11 yX11_tries yX11_tries, Cond.code yX11_tries cX11_tries 7 none, Cond.fieldLink RX11 32 "FormationPlannerModel" "best" "[I", Cond.fieldLink RX11 29 "FormationPlannerModel" "tried" "[I", Cond.constant RX11 124 (100000), Cond.methodLink RX11 151 Lib.Math.max.name, Cond.static Lib.Math.max.name, Cond.initialized "java/lang/Math", Cond.code Lib.Math.max.name Lib.Math.max.code 2 (some .int)]
def wsX11_assignment_r2 : List Cond := [Cond.methodLink RX11 136 yX11_time, Cond.instanceMethod yX11_time, Cond.selects RX11 yX11_time yX11_time, Cond.code yX11_time cX11_time 3 (some .int), Cond.fieldLink RX11 25 "FormationPlannerModel" "isKnown" "[Z", Cond.fieldLink RX11 22 "FormationPlannerModel" "times" "[I", Cond.methodLink RX11 132 yX11_measures, Cond.instanceMethod yX11_measures, Cond.selects RX11 yX11_measures yX11_measures, Cond.code yX11_measures cX11_measures 7 none, Cond.methodLink RX11 99 yX11_isObstacle, Cond.instanceMethod yX11_isObstacle, Cond.selects RX11 yX11_isObstacle yX11_isObstacle, Cond.code yX11_isObstacle cX11_isObstacle 2 (some .boolean), Cond.methodLink RX11 125 yX11_next, Cond.instanceMethod yX11_next, Cond.selects RX11 yX11_next yX11_next, Cond.code yX11_next cX11_next 7 (some .int), Cond.methodLink RX11 121 yX11_layerOf, Cond.static yX11_layerOf, Cond.code yX11_layerOf cX11_layerOf 1 (some .int), Cond.methodLink RX11 129 yX11_ticks, Cond.instanceMethod yX11_ticks, Cond.selects RX11 yX11_ticks yX11_ticks]
def wsX11_assignment_r3 : List Cond := [Cond.code yX11_ticks cX11_ticks 5 (some .int)]
def wsX11_assignment : List Cond := .code yX11_assignment cX11_assignment 3 (some .int) :: ((wsX11_assignment_r1 ++ (wsX11_assignment_r2 ++ wsX11_assignment_r3)) ++ wsX110)
def wsX11_forgets : List Cond := .code yX11_forgets cX11_forgets 2 none :: ([.fieldLink RX11 25 "FormationPlannerModel" "isKnown" "[Z"] ++ wsX110)
def wsX11_greatestWith_r1 : List Cond := [Cond.fieldLink RX11 9 "FormationPlannerModel" "s" "[I", Cond.fieldLink RX11 142 "FormationPlannerModel" "greatest" "I", Cond.methodLink RX11 73 yX11_isIn, Cond.static yX11_isIn, Cond.initialized RX11, Cond.code yX11_isIn cX11_isIn 3 (some .boolean), Cond.methodLink RX11 163 yX11_forgets, Cond.instanceMethod yX11_forgets, Cond.selects RX11 yX11_forgets yX11_forgets, Cond.code yX11_forgets cX11_forgets 2 none, Cond.fieldLink RX11 25 "FormationPlannerModel" "isKnown" "[Z", Cond.methodLink RX11 160 yX11_assigns, Cond.instanceMethod yX11_assigns, Cond.selects RX11 yX11_assigns yX11_assigns, Cond.code yX11_assigns cX11_assigns 1 (some .int), Cond.fieldLink RX11 139 "FormationPlannerModel" "assignments" "I", Cond.methodLink RX11 156 yX11_tries, Cond.instanceMethod yX11_tries, Cond.selects RX11 yX11_tries yX11_tries, Cond.code yX11_tries cX11_tries 7 none, Cond.fieldLink RX11 145 "FormationPlannerModel" "sum" "I", Cond.fieldLink RX11 148 "FormationPlannerModel" "withGreatest" "I", Cond.fieldLink RX11 32 "FormationPlannerModel" "best" "[I", Cond.fieldLink RX11 29 "FormationPlannerModel" "tried" "[I"]
def wsX11_greatestWith_r2 : List Cond := [Cond.constant RX11 124 (100000), Cond.methodLink RX11 151 Lib.Math.max.name, Cond.static Lib.Math.max.name, Cond.initialized "java/lang/Math", Cond.code Lib.Math.max.name Lib.Math.max.code 2 (some .int), Cond.methodLink RX11 136 yX11_time, Cond.instanceMethod yX11_time, Cond.selects RX11 yX11_time yX11_time, Cond.code yX11_time cX11_time 3 (some .int), Cond.fieldLink RX11 22 "FormationPlannerModel" "times" "[I", Cond.methodLink RX11 132 yX11_measures, Cond.instanceMethod yX11_measures, Cond.selects RX11 yX11_measures yX11_measures, Cond.code yX11_measures cX11_measures 7 none, Cond.methodLink RX11 99 yX11_isObstacle, Cond.instanceMethod yX11_isObstacle, Cond.selects RX11 yX11_isObstacle yX11_isObstacle, Cond.code yX11_isObstacle cX11_isObstacle 2 (some .boolean), Cond.methodLink RX11 125 yX11_next, Cond.instanceMethod yX11_next, Cond.selects RX11 yX11_next yX11_next, Cond.code yX11_next cX11_next 7 (some .int), Cond.methodLink RX11 121 yX11_layerOf, Cond.static yX11_layerOf]
def wsX11_greatestWith_r3 : List Cond := [Cond.code yX11_layerOf cX11_layerOf 1 (some .int), Cond.methodLink RX11 129 yX11_ticks, Cond.instanceMethod yX11_ticks, Cond.selects RX11 yX11_ticks yX11_ticks, Cond.code yX11_ticks cX11_ticks 5 (some .int)]
def wsX11_greatestWith : List Cond := .code yX11_greatestWith cX11_greatestWith 5 (some .int) :: ((wsX11_greatestWith_r1 ++ (wsX11_greatestWith_r2 ++ wsX11_greatestWith_r3)) ++ wsX110)
def wsX11_cell : List Cond := .code yX11_cell cX11_cell 3 (some .int) :: ([.fieldLink RX11 39 "FormationPlannerModel" "cellAt" "[I", .methodLink RX11 166 Lib.Math.min.name, .static Lib.Math.min.name, .initialized "java/lang/Math", .code Lib.Math.min.name Lib.Math.min.code 2 (some .int)] ++ wsX110)
def wsX11_isTakenAt : List Cond := .code yX11_isTakenAt cX11_isTakenAt 3 (some .boolean) :: ([.fieldLink RX11 57 "FormationPlannerModel" "taken" "[I"] ++ wsX110)
def wsX11_isMet : List Cond := .code yX11_isMet cX11_isMet 5 (some .boolean) :: ([.fieldLink RX11 57 "FormationPlannerModel" "taken" "[I"] ++ wsX110)
def wsX11_mayDo_r1 : List Cond := [Cond.methodLink RX11 169 yX11_isTakenAt, Cond.instanceMethod yX11_isTakenAt, Cond.selects RX11 yX11_isTakenAt yX11_isTakenAt, Cond.initialized RX11, Cond.code yX11_isTakenAt cX11_isTakenAt 3 (some .boolean), Cond.fieldLink RX11 57 "FormationPlannerModel" "taken" "[I", Cond.methodLink RX11 125 yX11_next, Cond.instanceMethod yX11_next, Cond.selects RX11 yX11_next yX11_next, Cond.code yX11_next cX11_next 7 (some .int), Cond.methodLink RX11 121 yX11_layerOf, Cond.static yX11_layerOf, Cond.code yX11_layerOf cX11_layerOf 1 (some .int), Cond.methodLink RX11 73 yX11_isIn, Cond.static yX11_isIn, Cond.code yX11_isIn cX11_isIn 3 (some .boolean), Cond.methodLink RX11 99 yX11_isObstacle, Cond.instanceMethod yX11_isObstacle, Cond.selects RX11 yX11_isObstacle yX11_isObstacle, Cond.code yX11_isObstacle cX11_isObstacle 2 (some .boolean), Cond.fieldLink RX11 9 "FormationPlannerModel" "s" "[I", Cond.methodLink RX11 129 yX11_ticks, Cond.instanceMethod yX11_ticks, Cond.selects RX11 yX11_ticks yX11_ticks]
def wsX11_mayDo_r2 : List Cond := [Cond.code yX11_ticks cX11_ticks 5 (some .int), Cond.methodLink RX11 173 yX11_isMet, Cond.instanceMethod yX11_isMet, Cond.selects RX11 yX11_isMet yX11_isMet, Cond.code yX11_isMet cX11_isMet 5 (some .boolean)]
def wsX11_mayDo : List Cond := .code yX11_mayDo cX11_mayDo 6 (some .boolean) :: ((wsX11_mayDo_r1 ++ wsX11_mayDo_r2) ++ wsX110)
def wsX11_where : List Cond := .code yX11_where cX11_where 3 (some .int) :: ([])
def wsX11_mayStay : List Cond := .code yX11_mayStay cX11_mayStay 4 (some .boolean) :: ([.methodLink RX11 169 yX11_isTakenAt, .instanceMethod yX11_isTakenAt, .selects RX11 yX11_isTakenAt yX11_isTakenAt, .initialized RX11, .code yX11_isTakenAt cX11_isTakenAt 3 (some .boolean), .fieldLink RX11 57 "FormationPlannerModel" "taken" "[I"] ++ wsX110)
def wsX11_earliest_r1 : List Cond := [Cond.fieldLink RX11 60 "FormationPlannerModel" "isReached" "[Z", Cond.fieldLink RX11 9 "FormationPlannerModel" "s" "[I", Cond.fieldLink RX11 54 "FormationPlannerModel" "goal" "[I", Cond.methodLink RX11 176 yX11_mayStay, Cond.instanceMethod yX11_mayStay, Cond.selects RX11 yX11_mayStay yX11_mayStay, Cond.initialized RX11, Cond.code yX11_mayStay cX11_mayStay 4 (some .boolean), Cond.methodLink RX11 169 yX11_isTakenAt, Cond.instanceMethod yX11_isTakenAt, Cond.selects RX11 yX11_isTakenAt yX11_isTakenAt, Cond.code yX11_isTakenAt cX11_isTakenAt 3 (some .boolean), Cond.fieldLink RX11 57 "FormationPlannerModel" "taken" "[I", Cond.methodLink RX11 179 yX11_mayDo, Cond.instanceMethod yX11_mayDo, Cond.selects RX11 yX11_mayDo yX11_mayDo, Cond.code yX11_mayDo cX11_mayDo 6 (some .boolean), Cond.methodLink RX11 125 yX11_next, Cond.instanceMethod yX11_next, Cond.selects RX11 yX11_next yX11_next, Cond.code yX11_next cX11_next 7 (some .int), Cond.methodLink RX11 121 yX11_layerOf, Cond.static yX11_layerOf, Cond.code yX11_layerOf cX11_layerOf 1 (some .int)]
def wsX11_earliest_r2 : List Cond := [Cond.methodLink RX11 73 yX11_isIn, Cond.static yX11_isIn, Cond.code yX11_isIn cX11_isIn 3 (some .boolean), Cond.methodLink RX11 99 yX11_isObstacle, Cond.instanceMethod yX11_isObstacle, Cond.selects RX11 yX11_isObstacle yX11_isObstacle, Cond.code yX11_isObstacle cX11_isObstacle 2 (some .boolean), Cond.methodLink RX11 129 yX11_ticks, Cond.instanceMethod yX11_ticks, Cond.selects RX11 yX11_ticks yX11_ticks, Cond.code yX11_ticks cX11_ticks 5 (some .int), Cond.methodLink RX11 173 yX11_isMet, Cond.instanceMethod yX11_isMet, Cond.selects RX11 yX11_isMet yX11_isMet, Cond.code yX11_isMet cX11_isMet 5 (some .boolean), Cond.methodLink RX11 182 yX11_where, Cond.static yX11_where, Cond.code yX11_where cX11_where 3 (some .int)]
def wsX11_earliest : List Cond := .code yX11_earliest cX11_earliest 5 (some .int) :: ((wsX11_earliest_r1 ++ wsX11_earliest_r2) ++ wsX110)
def wsX11_goesBack_r1 : List Cond := [Cond.fieldLink RX11 45 "FormationPlannerModel" "arrival" "[I", Cond.fieldLink RX11 63 "FormationPlannerModel" "canEnd" "[Z", Cond.fieldLink RX11 54 "FormationPlannerModel" "goal" "[I", Cond.fieldLink RX11 60 "FormationPlannerModel" "isReached" "[Z", Cond.methodLink RX11 129 yX11_ticks, Cond.instanceMethod yX11_ticks, Cond.selects RX11 yX11_ticks yX11_ticks, Cond.initialized RX11, Cond.code yX11_ticks cX11_ticks 5 (some .int), Cond.fieldLink RX11 9 "FormationPlannerModel" "s" "[I", Cond.methodLink RX11 121 yX11_layerOf, Cond.static yX11_layerOf, Cond.code yX11_layerOf cX11_layerOf 1 (some .int), Cond.methodLink RX11 179 yX11_mayDo, Cond.instanceMethod yX11_mayDo, Cond.selects RX11 yX11_mayDo yX11_mayDo, Cond.code yX11_mayDo cX11_mayDo 6 (some .boolean), Cond.methodLink RX11 169 yX11_isTakenAt, Cond.instanceMethod yX11_isTakenAt, Cond.selects RX11 yX11_isTakenAt yX11_isTakenAt, Cond.code yX11_isTakenAt cX11_isTakenAt 3 (some .boolean), Cond.fieldLink RX11 57 "FormationPlannerModel" "taken" "[I", Cond.methodLink RX11 125 yX11_next, Cond.instanceMethod yX11_next]
def wsX11_goesBack_r2 : List Cond := [Cond.selects RX11 yX11_next yX11_next, Cond.code yX11_next cX11_next 7 (some .int), Cond.methodLink RX11 73 yX11_isIn, Cond.static yX11_isIn, Cond.code yX11_isIn cX11_isIn 3 (some .boolean), Cond.methodLink RX11 99 yX11_isObstacle, Cond.instanceMethod yX11_isObstacle, Cond.selects RX11 yX11_isObstacle yX11_isObstacle, Cond.code yX11_isObstacle cX11_isObstacle 2 (some .boolean), Cond.methodLink RX11 173 yX11_isMet, Cond.instanceMethod yX11_isMet, Cond.selects RX11 yX11_isMet yX11_isMet, Cond.code yX11_isMet cX11_isMet 5 (some .boolean), Cond.methodLink RX11 182 yX11_where, Cond.static yX11_where, Cond.code yX11_where cX11_where 3 (some .int)]
def wsX11_goesBack : List Cond := .code yX11_goesBack cX11_goesBack 7 none :: ((wsX11_goesBack_r1 ++ wsX11_goesBack_r2) ++ wsX110)
def wsX11_put : List Cond := .code yX11_put cX11_put 5 none :: ([.fieldLink RX11 39 "FormationPlannerModel" "cellAt" "[I", .fieldLink RX11 42 "FormationPlannerModel" "actionAt" "[I"] ++ wsX110)
def wsX11_writes_r1 : List Cond := [Cond.fieldLink RX11 45 "FormationPlannerModel" "arrival" "[I", Cond.fieldLink RX11 9 "FormationPlannerModel" "s" "[I", Cond.fieldLink RX11 63 "FormationPlannerModel" "canEnd" "[Z", Cond.methodLink RX11 129 yX11_ticks, Cond.instanceMethod yX11_ticks, Cond.selects RX11 yX11_ticks yX11_ticks, Cond.initialized RX11, Cond.code yX11_ticks cX11_ticks 5 (some .int), Cond.methodLink RX11 121 yX11_layerOf, Cond.static yX11_layerOf, Cond.code yX11_layerOf cX11_layerOf 1 (some .int), Cond.methodLink RX11 179 yX11_mayDo, Cond.instanceMethod yX11_mayDo, Cond.selects RX11 yX11_mayDo yX11_mayDo, Cond.code yX11_mayDo cX11_mayDo 6 (some .boolean), Cond.methodLink RX11 169 yX11_isTakenAt, Cond.instanceMethod yX11_isTakenAt, Cond.selects RX11 yX11_isTakenAt yX11_isTakenAt, Cond.code yX11_isTakenAt cX11_isTakenAt 3 (some .boolean), Cond.fieldLink RX11 57 "FormationPlannerModel" "taken" "[I", Cond.methodLink RX11 125 yX11_next, Cond.instanceMethod yX11_next, Cond.selects RX11 yX11_next yX11_next, Cond.code yX11_next cX11_next 7 (some .int)]
def wsX11_writes_r2 : List Cond := [Cond.methodLink RX11 73 yX11_isIn, Cond.static yX11_isIn, Cond.code yX11_isIn cX11_isIn 3 (some .boolean), Cond.methodLink RX11 99 yX11_isObstacle, Cond.instanceMethod yX11_isObstacle, Cond.selects RX11 yX11_isObstacle yX11_isObstacle, Cond.code yX11_isObstacle cX11_isObstacle 2 (some .boolean), Cond.methodLink RX11 173 yX11_isMet, Cond.instanceMethod yX11_isMet, Cond.selects RX11 yX11_isMet yX11_isMet, Cond.code yX11_isMet cX11_isMet 5 (some .boolean), Cond.methodLink RX11 182 yX11_where, Cond.static yX11_where, Cond.code yX11_where cX11_where 3 (some .int), Cond.methodLink RX11 186 yX11_put, Cond.instanceMethod yX11_put, Cond.selects RX11 yX11_put yX11_put, Cond.code yX11_put cX11_put 5 none, Cond.fieldLink RX11 39 "FormationPlannerModel" "cellAt" "[I", Cond.fieldLink RX11 42 "FormationPlannerModel" "actionAt" "[I"]
def wsX11_writes : List Cond := .code yX11_writes cX11_writes 8 none :: ((wsX11_writes_r1 ++ wsX11_writes_r2) ++ wsX110)
def wsX11_nextDrone_r1 : List Cond := [Cond.fieldLink RX11 9 "FormationPlannerModel" "s" "[I", Cond.fieldLink RX11 54 "FormationPlannerModel" "goal" "[I", Cond.methodLink RX11 136 yX11_time, Cond.instanceMethod yX11_time, Cond.selects RX11 yX11_time yX11_time, Cond.initialized RX11, Cond.code yX11_time cX11_time 3 (some .int), Cond.fieldLink RX11 25 "FormationPlannerModel" "isKnown" "[Z", Cond.fieldLink RX11 22 "FormationPlannerModel" "times" "[I", Cond.methodLink RX11 132 yX11_measures, Cond.instanceMethod yX11_measures, Cond.selects RX11 yX11_measures yX11_measures, Cond.code yX11_measures cX11_measures 7 none, Cond.constant RX11 124 (100000), Cond.methodLink RX11 99 yX11_isObstacle, Cond.instanceMethod yX11_isObstacle, Cond.selects RX11 yX11_isObstacle yX11_isObstacle, Cond.code yX11_isObstacle cX11_isObstacle 2 (some .boolean), Cond.methodLink RX11 125 yX11_next, Cond.instanceMethod yX11_next, Cond.selects RX11 yX11_next yX11_next, Cond.code yX11_next cX11_next 7 (some .int), Cond.methodLink RX11 121 yX11_layerOf, Cond.static yX11_layerOf]
def wsX11_nextDrone_r2 : List Cond := [Cond.code yX11_layerOf cX11_layerOf 1 (some .int), Cond.methodLink RX11 73 yX11_isIn, Cond.static yX11_isIn, Cond.code yX11_isIn cX11_isIn 3 (some .boolean), Cond.methodLink RX11 129 yX11_ticks, Cond.instanceMethod yX11_ticks, Cond.selects RX11 yX11_ticks yX11_ticks, Cond.code yX11_ticks cX11_ticks 5 (some .int)]
def wsX11_nextDrone : List Cond := .code yX11_nextDrone cX11_nextDrone 6 (some .int) :: ((wsX11_nextDrone_r1 ++ wsX11_nextDrone_r2) ++ wsX110)
def wsX11_plan_r1 : List Cond := [Cond.fieldLink RX11 69 "FormationPlannerModel" "hasPlan" "Z", Cond.fieldLink RX11 35 "FormationPlannerModel" "stuck" "I", Cond.fieldLink RX11 189 "FormationPlannerModel" "planned" "I", Cond.fieldLink RX11 192 "FormationPlannerModel" "present" "I", Cond.fieldLink RX11 195 "FormationPlannerModel" "end" "I", Cond.fieldLink RX11 57 "FormationPlannerModel" "taken" "[I", Cond.fieldLink RX11 9 "FormationPlannerModel" "s" "[I", Cond.fieldLink RX11 54 "FormationPlannerModel" "goal" "[I", Cond.fieldLink RX11 32 "FormationPlannerModel" "best" "[I", Cond.fieldLink RX11 45 "FormationPlannerModel" "arrival" "[I", Cond.fieldLink RX11 51 "FormationPlannerModel" "order" "[I", Cond.fieldLink RX11 48 "FormationPlannerModel" "position" "[I", Cond.methodLink RX11 151 Lib.Math.max.name, Cond.static Lib.Math.max.name, Cond.initialized "java/lang/Math", Cond.code Lib.Math.max.name Lib.Math.max.code 2 (some .int), Cond.methodLink RX11 160 yX11_assigns, Cond.instanceMethod yX11_assigns, Cond.selects RX11 yX11_assigns yX11_assigns, Cond.initialized RX11, Cond.code yX11_assigns cX11_assigns 1 (some .int), Cond.fieldLink RX11 139 "FormationPlannerModel" "assignments" "I", Cond.methodLink RX11 156 yX11_tries, Cond.instanceMethod yX11_tries]
def wsX11_plan_r2 : List Cond := [Cond.selects RX11 yX11_tries yX11_tries, Cond.code yX11_tries cX11_tries 7 none, Cond.fieldLink RX11 142 "FormationPlannerModel" "greatest" "I", Cond.fieldLink RX11 145 "FormationPlannerModel" "sum" "I", Cond.fieldLink RX11 148 "FormationPlannerModel" "withGreatest" "I", Cond.fieldLink RX11 29 "FormationPlannerModel" "tried" "[I", Cond.constant RX11 124 (100000), Cond.methodLink RX11 136 yX11_time, Cond.instanceMethod yX11_time, Cond.selects RX11 yX11_time yX11_time, Cond.code yX11_time cX11_time 3 (some .int), Cond.fieldLink RX11 25 "FormationPlannerModel" "isKnown" "[Z", Cond.fieldLink RX11 22 "FormationPlannerModel" "times" "[I", Cond.methodLink RX11 132 yX11_measures, Cond.instanceMethod yX11_measures, Cond.selects RX11 yX11_measures yX11_measures, Cond.code yX11_measures cX11_measures 7 none, Cond.methodLink RX11 99 yX11_isObstacle, Cond.instanceMethod yX11_isObstacle, Cond.selects RX11 yX11_isObstacle yX11_isObstacle, Cond.code yX11_isObstacle cX11_isObstacle 2 (some .boolean), Cond.methodLink RX11 125 yX11_next, Cond.instanceMethod yX11_next, Cond.selects RX11 yX11_next yX11_next]
def wsX11_plan_r3 : List Cond := [Cond.code yX11_next cX11_next 7 (some .int), Cond.methodLink RX11 121 yX11_layerOf, Cond.static yX11_layerOf, Cond.code yX11_layerOf cX11_layerOf 1 (some .int), Cond.methodLink RX11 73 yX11_isIn, Cond.static yX11_isIn, Cond.code yX11_isIn cX11_isIn 3 (some .boolean), Cond.methodLink RX11 129 yX11_ticks, Cond.instanceMethod yX11_ticks, Cond.selects RX11 yX11_ticks yX11_ticks, Cond.code yX11_ticks cX11_ticks 5 (some .int), Cond.methodLink RX11 198 yX11_nextDrone, Cond.instanceMethod yX11_nextDrone, Cond.selects RX11 yX11_nextDrone yX11_nextDrone, Cond.code yX11_nextDrone cX11_nextDrone 6 (some .int), Cond.methodLink RX11 201 yX11_earliest, Cond.instanceMethod yX11_earliest, Cond.selects RX11 yX11_earliest yX11_earliest, Cond.code yX11_earliest cX11_earliest 5 (some .int), Cond.fieldLink RX11 60 "FormationPlannerModel" "isReached" "[Z", Cond.methodLink RX11 176 yX11_mayStay, Cond.instanceMethod yX11_mayStay, Cond.selects RX11 yX11_mayStay yX11_mayStay, Cond.code yX11_mayStay cX11_mayStay 4 (some .boolean)]
def wsX11_plan_r4 : List Cond := [Cond.methodLink RX11 169 yX11_isTakenAt, Cond.instanceMethod yX11_isTakenAt, Cond.selects RX11 yX11_isTakenAt yX11_isTakenAt, Cond.code yX11_isTakenAt cX11_isTakenAt 3 (some .boolean), Cond.methodLink RX11 179 yX11_mayDo, Cond.instanceMethod yX11_mayDo, Cond.selects RX11 yX11_mayDo yX11_mayDo, Cond.code yX11_mayDo cX11_mayDo 6 (some .boolean), Cond.methodLink RX11 173 yX11_isMet, Cond.instanceMethod yX11_isMet, Cond.selects RX11 yX11_isMet yX11_isMet, Cond.code yX11_isMet cX11_isMet 5 (some .boolean), Cond.methodLink RX11 182 yX11_where, Cond.static yX11_where, Cond.code yX11_where cX11_where 3 (some .int), Cond.methodLink RX11 204 yX11_goesBack, Cond.instanceMethod yX11_goesBack, Cond.selects RX11 yX11_goesBack yX11_goesBack, Cond.code yX11_goesBack cX11_goesBack 7 none, Cond.fieldLink RX11 63 "FormationPlannerModel" "canEnd" "[Z", Cond.methodLink RX11 207 yX11_writes, Cond.instanceMethod yX11_writes, Cond.selects RX11 yX11_writes yX11_writes, Cond.code yX11_writes cX11_writes 8 none]
def wsX11_plan_r5 : List Cond := [Cond.methodLink RX11 186 yX11_put, Cond.instanceMethod yX11_put, Cond.selects RX11 yX11_put yX11_put, Cond.code yX11_put cX11_put 5 none, Cond.fieldLink RX11 39 "FormationPlannerModel" "cellAt" "[I", Cond.fieldLink RX11 42 "FormationPlannerModel" "actionAt" "[I", Cond.methodLink RX11 210 yX11_cell, Cond.instanceMethod yX11_cell, Cond.selects RX11 yX11_cell yX11_cell, Cond.code yX11_cell cX11_cell 3 (some .int), Cond.methodLink RX11 166 Lib.Math.min.name, Cond.static Lib.Math.min.name, Cond.code Lib.Math.min.name Lib.Math.min.code 2 (some .int)]
def wsX11_plan : List Cond := .code yX11_plan cX11_plan 5 (some .int) :: ((wsX11_plan_r1 ++ (wsX11_plan_r2 ++ (wsX11_plan_r3 ++ (wsX11_plan_r4 ++ wsX11_plan_r5)))) ++ wsX110)
def wsX11_stuck : List Cond := .code yX11_stuck cX11_stuck 1 (some .int) :: ([.fieldLink RX11 35 "FormationPlannerModel" "stuck" "I"] ++ wsX110)
def wsX11_at : List Cond := .code yX11_at cX11_at 3 (some .int) :: ([.fieldLink RX11 69 "FormationPlannerModel" "hasPlan" "Z", .fieldLink RX11 192 "FormationPlannerModel" "present" "I", .methodLink RX11 102 yX11_isDrone, .instanceMethod yX11_isDrone, .selects RX11 yX11_isDrone yX11_isDrone, .initialized RX11, .code yX11_isDrone cX11_isDrone 2 (some .boolean), .fieldLink RX11 9 "FormationPlannerModel" "s" "[I", .methodLink RX11 73 yX11_isIn, .static yX11_isIn, .code yX11_isIn cX11_isIn 3 (some .boolean), .methodLink RX11 210 yX11_cell, .instanceMethod yX11_cell, .selects RX11 yX11_cell yX11_cell, .code yX11_cell cX11_cell 3 (some .int), .fieldLink RX11 39 "FormationPlannerModel" "cellAt" "[I", .methodLink RX11 166 Lib.Math.min.name, .static Lib.Math.min.name, .initialized "java/lang/Math", .code Lib.Math.min.name Lib.Math.min.code 2 (some .int)] ++ wsX110)
def wsX11_actionOf : List Cond := .code yX11_actionOf cX11_actionOf 3 (some .int) :: ([.fieldLink RX11 45 "FormationPlannerModel" "arrival" "[I", .fieldLink RX11 42 "FormationPlannerModel" "actionAt" "[I"] ++ wsX110)
def wsX11_action : List Cond := .code yX11_action cX11_action 3 (some .int) :: ([.fieldLink RX11 69 "FormationPlannerModel" "hasPlan" "Z", .fieldLink RX11 192 "FormationPlannerModel" "present" "I", .methodLink RX11 102 yX11_isDrone, .instanceMethod yX11_isDrone, .selects RX11 yX11_isDrone yX11_isDrone, .initialized RX11, .code yX11_isDrone cX11_isDrone 2 (some .boolean), .fieldLink RX11 9 "FormationPlannerModel" "s" "[I", .methodLink RX11 73 yX11_isIn, .static yX11_isIn, .code yX11_isIn cX11_isIn 3 (some .boolean), .methodLink RX11 213 yX11_actionOf, .instanceMethod yX11_actionOf, .selects RX11 yX11_actionOf yX11_actionOf, .code yX11_actionOf cX11_actionOf 3 (some .int), .fieldLink RX11 45 "FormationPlannerModel" "arrival" "[I", .fieldLink RX11 42 "FormationPlannerModel" "actionAt" "[I"] ++ wsX110)
def wsX11_waits : List Cond := .code yX11_waits cX11_waits 4 (some .int) :: ([.fieldLink RX11 192 "FormationPlannerModel" "present" "I", .fieldLink RX11 45 "FormationPlannerModel" "arrival" "[I", .methodLink RX11 213 yX11_actionOf, .instanceMethod yX11_actionOf, .selects RX11 yX11_actionOf yX11_actionOf, .initialized RX11, .code yX11_actionOf cX11_actionOf 3 (some .int), .fieldLink RX11 42 "FormationPlannerModel" "actionAt" "[I"] ++ wsX110)
def wsX11_flight_r1 : List Cond := [Cond.fieldLink RX11 69 "FormationPlannerModel" "hasPlan" "Z", Cond.fieldLink RX11 45 "FormationPlannerModel" "arrival" "[I", Cond.fieldLink RX11 192 "FormationPlannerModel" "present" "I", Cond.methodLink RX11 151 Lib.Math.max.name, Cond.static Lib.Math.max.name, Cond.initialized "java/lang/Math", Cond.code Lib.Math.max.name Lib.Math.max.code 2 (some .int), Cond.fieldLink RX11 54 "FormationPlannerModel" "goal" "[I", Cond.fieldLink RX11 48 "FormationPlannerModel" "position" "[I", Cond.methodLink RX11 102 yX11_isDrone, Cond.instanceMethod yX11_isDrone, Cond.selects RX11 yX11_isDrone yX11_isDrone, Cond.initialized RX11, Cond.code yX11_isDrone cX11_isDrone 2 (some .boolean), Cond.fieldLink RX11 9 "FormationPlannerModel" "s" "[I", Cond.methodLink RX11 73 yX11_isIn, Cond.static yX11_isIn, Cond.code yX11_isIn cX11_isIn 3 (some .boolean), Cond.methodLink RX11 216 yX11_waits, Cond.instanceMethod yX11_waits, Cond.selects RX11 yX11_waits yX11_waits, Cond.code yX11_waits cX11_waits 4 (some .int), Cond.methodLink RX11 213 yX11_actionOf, Cond.instanceMethod yX11_actionOf]
def wsX11_flight_r2 : List Cond := [Cond.selects RX11 yX11_actionOf yX11_actionOf, Cond.code yX11_actionOf cX11_actionOf 3 (some .int), Cond.fieldLink RX11 42 "FormationPlannerModel" "actionAt" "[I", Cond.methodLink RX11 210 yX11_cell, Cond.instanceMethod yX11_cell, Cond.selects RX11 yX11_cell yX11_cell, Cond.code yX11_cell cX11_cell 3 (some .int), Cond.fieldLink RX11 39 "FormationPlannerModel" "cellAt" "[I", Cond.methodLink RX11 166 Lib.Math.min.name, Cond.static Lib.Math.min.name, Cond.code Lib.Math.min.name Lib.Math.min.code 2 (some .int), Cond.methodLink RX11 136 yX11_time, Cond.instanceMethod yX11_time, Cond.selects RX11 yX11_time yX11_time, Cond.code yX11_time cX11_time 3 (some .int), Cond.fieldLink RX11 25 "FormationPlannerModel" "isKnown" "[Z", Cond.fieldLink RX11 22 "FormationPlannerModel" "times" "[I", Cond.methodLink RX11 132 yX11_measures, Cond.instanceMethod yX11_measures, Cond.selects RX11 yX11_measures yX11_measures, Cond.code yX11_measures cX11_measures 7 none, Cond.constant RX11 124 (100000), Cond.methodLink RX11 99 yX11_isObstacle, Cond.instanceMethod yX11_isObstacle]
def wsX11_flight_r3 : List Cond := [Cond.selects RX11 yX11_isObstacle yX11_isObstacle, Cond.code yX11_isObstacle cX11_isObstacle 2 (some .boolean), Cond.methodLink RX11 125 yX11_next, Cond.instanceMethod yX11_next, Cond.selects RX11 yX11_next yX11_next, Cond.code yX11_next cX11_next 7 (some .int), Cond.methodLink RX11 121 yX11_layerOf, Cond.static yX11_layerOf, Cond.code yX11_layerOf cX11_layerOf 1 (some .int), Cond.methodLink RX11 129 yX11_ticks, Cond.instanceMethod yX11_ticks, Cond.selects RX11 yX11_ticks yX11_ticks, Cond.code yX11_ticks cX11_ticks 5 (some .int), Cond.methodLink RX11 96 yX11_slotAt, Cond.instanceMethod yX11_slotAt, Cond.selects RX11 yX11_slotAt yX11_slotAt, Cond.code yX11_slotAt cX11_slotAt 3 (some .int)]
def wsX11_flight : List Cond := .code yX11_flight cX11_flight 3 (some .int) :: ((wsX11_flight_r1 ++ (wsX11_flight_r2 ++ wsX11_flight_r3)) ++ wsX110)
def wsX11_isMetBy_r1 : List Cond := [Cond.methodLink RX11 129 yX11_ticks, Cond.instanceMethod yX11_ticks, Cond.selects RX11 yX11_ticks yX11_ticks, Cond.initialized RX11, Cond.code yX11_ticks cX11_ticks 5 (some .int), Cond.fieldLink RX11 9 "FormationPlannerModel" "s" "[I", Cond.methodLink RX11 121 yX11_layerOf, Cond.static yX11_layerOf, Cond.code yX11_layerOf cX11_layerOf 1 (some .int), Cond.methodLink RX11 125 yX11_next, Cond.instanceMethod yX11_next, Cond.selects RX11 yX11_next yX11_next, Cond.code yX11_next cX11_next 7 (some .int), Cond.methodLink RX11 73 yX11_isIn, Cond.static yX11_isIn, Cond.code yX11_isIn cX11_isIn 3 (some .boolean), Cond.methodLink RX11 99 yX11_isObstacle, Cond.instanceMethod yX11_isObstacle, Cond.selects RX11 yX11_isObstacle yX11_isObstacle, Cond.code yX11_isObstacle cX11_isObstacle 2 (some .boolean), Cond.methodLink RX11 210 yX11_cell, Cond.instanceMethod yX11_cell, Cond.selects RX11 yX11_cell yX11_cell, Cond.code yX11_cell cX11_cell 3 (some .int)]
def wsX11_isMetBy_r2 : List Cond := [Cond.fieldLink RX11 39 "FormationPlannerModel" "cellAt" "[I", Cond.methodLink RX11 166 Lib.Math.min.name, Cond.static Lib.Math.min.name, Cond.initialized "java/lang/Math", Cond.code Lib.Math.min.name Lib.Math.min.code 2 (some .int)]
def wsX11_isMetBy : List Cond := .code yX11_isMetBy cX11_isMetBy 8 (some .boolean) :: ((wsX11_isMetBy_r1 ++ wsX11_isMetBy_r2) ++ wsX110)
def wsX11_explain_r1 : List Cond := [Cond.fieldLink RX11 69 "FormationPlannerModel" "hasPlan" "Z", Cond.fieldLink RX11 192 "FormationPlannerModel" "present" "I", Cond.fieldLink RX11 45 "FormationPlannerModel" "arrival" "[I", Cond.fieldLink RX11 54 "FormationPlannerModel" "goal" "[I", Cond.fieldLink RX11 9 "FormationPlannerModel" "s" "[I", Cond.fieldLink RX11 48 "FormationPlannerModel" "position" "[I", Cond.methodLink RX11 102 yX11_isDrone, Cond.instanceMethod yX11_isDrone, Cond.selects RX11 yX11_isDrone yX11_isDrone, Cond.initialized RX11, Cond.code yX11_isDrone cX11_isDrone 2 (some .boolean), Cond.methodLink RX11 73 yX11_isIn, Cond.static yX11_isIn, Cond.code yX11_isIn cX11_isIn 3 (some .boolean), Cond.methodLink RX11 213 yX11_actionOf, Cond.instanceMethod yX11_actionOf, Cond.selects RX11 yX11_actionOf yX11_actionOf, Cond.code yX11_actionOf cX11_actionOf 3 (some .int), Cond.fieldLink RX11 42 "FormationPlannerModel" "actionAt" "[I", Cond.methodLink RX11 210 yX11_cell, Cond.instanceMethod yX11_cell, Cond.selects RX11 yX11_cell yX11_cell, Cond.code yX11_cell cX11_cell 3 (some .int), Cond.fieldLink RX11 39 "FormationPlannerModel" "cellAt" "[I"]
def wsX11_explain_r2 : List Cond := [Cond.methodLink RX11 166 Lib.Math.min.name, Cond.static Lib.Math.min.name, Cond.initialized "java/lang/Math", Cond.code Lib.Math.min.name Lib.Math.min.code 2 (some .int), Cond.methodLink RX11 219 yX11_firstAction, Cond.instanceMethod yX11_firstAction, Cond.selects RX11 yX11_firstAction yX11_firstAction, Cond.code yX11_firstAction cX11_firstAction 5 (some .int), Cond.methodLink RX11 125 yX11_next, Cond.instanceMethod yX11_next, Cond.selects RX11 yX11_next yX11_next, Cond.code yX11_next cX11_next 7 (some .int), Cond.methodLink RX11 121 yX11_layerOf, Cond.static yX11_layerOf, Cond.code yX11_layerOf cX11_layerOf 1 (some .int), Cond.methodLink RX11 99 yX11_isObstacle, Cond.instanceMethod yX11_isObstacle, Cond.selects RX11 yX11_isObstacle yX11_isObstacle, Cond.code yX11_isObstacle cX11_isObstacle 2 (some .boolean), Cond.methodLink RX11 129 yX11_ticks, Cond.instanceMethod yX11_ticks, Cond.selects RX11 yX11_ticks yX11_ticks, Cond.code yX11_ticks cX11_ticks 5 (some .int), Cond.methodLink RX11 136 yX11_time]
def wsX11_explain_r3 : List Cond := [Cond.instanceMethod yX11_time, Cond.selects RX11 yX11_time yX11_time, Cond.code yX11_time cX11_time 3 (some .int), Cond.fieldLink RX11 25 "FormationPlannerModel" "isKnown" "[Z", Cond.fieldLink RX11 22 "FormationPlannerModel" "times" "[I", Cond.methodLink RX11 132 yX11_measures, Cond.instanceMethod yX11_measures, Cond.selects RX11 yX11_measures yX11_measures, Cond.code yX11_measures cX11_measures 7 none, Cond.constant RX11 124 (100000), Cond.methodLink RX11 222 yX11_isMetBy, Cond.instanceMethod yX11_isMetBy, Cond.selects RX11 yX11_isMetBy yX11_isMetBy, Cond.code yX11_isMetBy cX11_isMetBy 8 (some .boolean)]
def wsX11_explain : List Cond := .code yX11_explain cX11_explain 7 (some .int) :: ((wsX11_explain_r1 ++ (wsX11_explain_r2 ++ wsX11_explain_r3)) ++ wsX110)
def wsX11_goesAlone_r1 : List Cond := [Cond.fieldLink RX11 192 "FormationPlannerModel" "present" "I", Cond.fieldLink RX11 66 "FormationPlannerModel" "way" "[I", Cond.fieldLink RX11 54 "FormationPlannerModel" "goal" "[I", Cond.methodLink RX11 210 yX11_cell, Cond.instanceMethod yX11_cell, Cond.selects RX11 yX11_cell yX11_cell, Cond.initialized RX11, Cond.code yX11_cell cX11_cell 3 (some .int), Cond.fieldLink RX11 39 "FormationPlannerModel" "cellAt" "[I", Cond.methodLink RX11 166 Lib.Math.min.name, Cond.static Lib.Math.min.name, Cond.initialized "java/lang/Math", Cond.code Lib.Math.min.name Lib.Math.min.code 2 (some .int), Cond.methodLink RX11 219 yX11_firstAction, Cond.instanceMethod yX11_firstAction, Cond.selects RX11 yX11_firstAction yX11_firstAction, Cond.code yX11_firstAction cX11_firstAction 5 (some .int), Cond.methodLink RX11 125 yX11_next, Cond.instanceMethod yX11_next, Cond.selects RX11 yX11_next yX11_next, Cond.code yX11_next cX11_next 7 (some .int), Cond.methodLink RX11 121 yX11_layerOf, Cond.static yX11_layerOf, Cond.code yX11_layerOf cX11_layerOf 1 (some .int)]
def wsX11_goesAlone_r2 : List Cond := [Cond.methodLink RX11 73 yX11_isIn, Cond.static yX11_isIn, Cond.code yX11_isIn cX11_isIn 3 (some .boolean), Cond.methodLink RX11 99 yX11_isObstacle, Cond.instanceMethod yX11_isObstacle, Cond.selects RX11 yX11_isObstacle yX11_isObstacle, Cond.code yX11_isObstacle cX11_isObstacle 2 (some .boolean), Cond.fieldLink RX11 9 "FormationPlannerModel" "s" "[I", Cond.methodLink RX11 129 yX11_ticks, Cond.instanceMethod yX11_ticks, Cond.selects RX11 yX11_ticks yX11_ticks, Cond.code yX11_ticks cX11_ticks 5 (some .int), Cond.methodLink RX11 136 yX11_time, Cond.instanceMethod yX11_time, Cond.selects RX11 yX11_time yX11_time, Cond.code yX11_time cX11_time 3 (some .int), Cond.fieldLink RX11 25 "FormationPlannerModel" "isKnown" "[Z", Cond.fieldLink RX11 22 "FormationPlannerModel" "times" "[I", Cond.methodLink RX11 132 yX11_measures, Cond.instanceMethod yX11_measures, Cond.selects RX11 yX11_measures yX11_measures, Cond.code yX11_measures cX11_measures 7 none, Cond.constant RX11 124 (100000)]
def wsX11_goesAlone : List Cond := .code yX11_goesAlone cX11_goesAlone 6 none :: ((wsX11_goesAlone_r1 ++ wsX11_goesAlone_r2) ++ wsX110)
def wsX11_areInConflict : List Cond := .code yX11_areInConflict cX11_areInConflict 4 (some .boolean) :: ([.fieldLink RX11 66 "FormationPlannerModel" "way" "[I"] ++ wsX110)
def wsX11_conflictsWithout_r1 : List Cond := [Cond.fieldLink RX11 69 "FormationPlannerModel" "hasPlan" "Z", Cond.fieldLink RX11 9 "FormationPlannerModel" "s" "[I", Cond.methodLink RX11 226 yX11_goesAlone, Cond.instanceMethod yX11_goesAlone, Cond.selects RX11 yX11_goesAlone yX11_goesAlone, Cond.initialized RX11, Cond.code yX11_goesAlone cX11_goesAlone 6 none, Cond.fieldLink RX11 192 "FormationPlannerModel" "present" "I", Cond.fieldLink RX11 66 "FormationPlannerModel" "way" "[I", Cond.fieldLink RX11 54 "FormationPlannerModel" "goal" "[I", Cond.methodLink RX11 210 yX11_cell, Cond.instanceMethod yX11_cell, Cond.selects RX11 yX11_cell yX11_cell, Cond.code yX11_cell cX11_cell 3 (some .int), Cond.fieldLink RX11 39 "FormationPlannerModel" "cellAt" "[I", Cond.methodLink RX11 166 Lib.Math.min.name, Cond.static Lib.Math.min.name, Cond.initialized "java/lang/Math", Cond.code Lib.Math.min.name Lib.Math.min.code 2 (some .int), Cond.methodLink RX11 219 yX11_firstAction, Cond.instanceMethod yX11_firstAction, Cond.selects RX11 yX11_firstAction yX11_firstAction, Cond.code yX11_firstAction cX11_firstAction 5 (some .int), Cond.methodLink RX11 125 yX11_next]
def wsX11_conflictsWithout_r2 : List Cond := [Cond.instanceMethod yX11_next, Cond.selects RX11 yX11_next yX11_next, Cond.code yX11_next cX11_next 7 (some .int), Cond.methodLink RX11 121 yX11_layerOf, Cond.static yX11_layerOf, Cond.code yX11_layerOf cX11_layerOf 1 (some .int), Cond.methodLink RX11 73 yX11_isIn, Cond.static yX11_isIn, Cond.code yX11_isIn cX11_isIn 3 (some .boolean), Cond.methodLink RX11 99 yX11_isObstacle, Cond.instanceMethod yX11_isObstacle, Cond.selects RX11 yX11_isObstacle yX11_isObstacle, Cond.code yX11_isObstacle cX11_isObstacle 2 (some .boolean), Cond.methodLink RX11 129 yX11_ticks, Cond.instanceMethod yX11_ticks, Cond.selects RX11 yX11_ticks yX11_ticks, Cond.code yX11_ticks cX11_ticks 5 (some .int), Cond.methodLink RX11 136 yX11_time, Cond.instanceMethod yX11_time, Cond.selects RX11 yX11_time yX11_time, Cond.code yX11_time cX11_time 3 (some .int), Cond.fieldLink RX11 25 "FormationPlannerModel" "isKnown" "[Z", Cond.fieldLink RX11 22 "FormationPlannerModel" "times" "[I", Cond.methodLink RX11 132 yX11_measures]
def wsX11_conflictsWithout_r3 : List Cond := [Cond.instanceMethod yX11_measures, Cond.selects RX11 yX11_measures yX11_measures, Cond.code yX11_measures cX11_measures 7 none, Cond.constant RX11 124 (100000), Cond.methodLink RX11 229 yX11_areInConflict, Cond.instanceMethod yX11_areInConflict, Cond.selects RX11 yX11_areInConflict yX11_areInConflict, Cond.code yX11_areInConflict cX11_areInConflict 4 (some .boolean)]
def wsX11_conflictsWithout : List Cond := .code yX11_conflictsWithout cX11_conflictsWithout 4 (some .int) :: ((wsX11_conflictsWithout_r1 ++ (wsX11_conflictsWithout_r2 ++ wsX11_conflictsWithout_r3)) ++ wsX110)
def wsX11_fly : List Cond := .code yX11_fly cX11_fly 4 (some .int) :: ([.fieldLink RX11 69 "FormationPlannerModel" "hasPlan" "Z", .fieldLink RX11 192 "FormationPlannerModel" "present" "I", .fieldLink RX11 9 "FormationPlannerModel" "s" "[I", .fieldLink RX11 45 "FormationPlannerModel" "arrival" "[I", .methodLink RX11 73 yX11_isIn, .static yX11_isIn, .initialized RX11, .code yX11_isIn cX11_isIn 3 (some .boolean), .methodLink RX11 80 yX11_keeps, .instanceMethod yX11_keeps, .selects RX11 yX11_keeps yX11_keeps, .code yX11_keeps cX11_keeps 2 none, .fieldLink RX11 77 "FormationPlannerModel" "changes" "I", .fieldLink RX11 13 "FormationPlannerModel" "past" "[I", .methodLink RX11 210 yX11_cell, .instanceMethod yX11_cell, .selects RX11 yX11_cell yX11_cell, .code yX11_cell cX11_cell 3 (some .int), .fieldLink RX11 39 "FormationPlannerModel" "cellAt" "[I", .methodLink RX11 166 Lib.Math.min.name, .static Lib.Math.min.name, .initialized "java/lang/Math", .code Lib.Math.min.name Lib.Math.min.code 2 (some .int)] ++ wsX110)
def wsX11_cellOf : List Cond := .code yX11_cellOf cX11_cellOf 3 (some .int) :: ([.fieldLink RX11 9 "FormationPlannerModel" "s" "[I", .methodLink RX11 73 yX11_isIn, .static yX11_isIn, .initialized RX11, .code yX11_isIn cX11_isIn 3 (some .boolean), .methodLink RX11 102 yX11_isDrone, .instanceMethod yX11_isDrone, .selects RX11 yX11_isDrone yX11_isDrone, .code yX11_isDrone cX11_isDrone 2 (some .boolean)] ++ wsX110)
def wsX11_look : List Cond := .code yX11_look cX11_look 2 (some .int) :: ([.methodLink RX11 88 yX11_isCell, .static yX11_isCell, .initialized RX11, .code yX11_isCell cX11_isCell 1 (some .boolean), .methodLink RX11 73 yX11_isIn, .static yX11_isIn, .code yX11_isIn cX11_isIn 3 (some .boolean), .methodLink RX11 99 yX11_isObstacle, .instanceMethod yX11_isObstacle, .selects RX11 yX11_isObstacle yX11_isObstacle, .code yX11_isObstacle cX11_isObstacle 2 (some .boolean), .fieldLink RX11 9 "FormationPlannerModel" "s" "[I", .methodLink RX11 92 yX11_droneAt, .instanceMethod yX11_droneAt, .selects RX11 yX11_droneAt yX11_droneAt, .code yX11_droneAt cX11_droneAt 3 (some .int), .methodLink RX11 96 yX11_slotAt, .instanceMethod yX11_slotAt, .selects RX11 yX11_slotAt yX11_slotAt, .code yX11_slotAt cX11_slotAt 3 (some .int)] ++ wsX110)
def wsX11_obstacles : List Cond := .code yX11_obstacles cX11_obstacles 3 (some .int) :: ([.fieldLink RX11 9 "FormationPlannerModel" "s" "[I"] ++ wsX110)
def wsX11_dronesAtSlots : List Cond := .code yX11_dronesAtSlots cX11_dronesAtSlots 3 (some .int) :: ([.fieldLink RX11 9 "FormationPlannerModel" "s" "[I", .methodLink RX11 96 yX11_slotAt, .instanceMethod yX11_slotAt, .selects RX11 yX11_slotAt yX11_slotAt, .initialized RX11, .code yX11_slotAt cX11_slotAt 3 (some .int)] ++ wsX110)
def wsX11_count : List Cond := .code yX11_count cX11_count 2 (some .int) :: ([.fieldLink RX11 9 "FormationPlannerModel" "s" "[I", .fieldLink RX11 77 "FormationPlannerModel" "changes" "I", .fieldLink RX11 105 "FormationPlannerModel" "written" "I", .fieldLink RX11 69 "FormationPlannerModel" "hasPlan" "Z", .methodLink RX11 232 yX11_obstacles, .instanceMethod yX11_obstacles, .selects RX11 yX11_obstacles yX11_obstacles, .initialized RX11, .code yX11_obstacles cX11_obstacles 3 (some .int), .methodLink RX11 235 yX11_dronesAtSlots, .instanceMethod yX11_dronesAtSlots, .selects RX11 yX11_dronesAtSlots yX11_dronesAtSlots, .code yX11_dronesAtSlots cX11_dronesAtSlots 3 (some .int), .methodLink RX11 96 yX11_slotAt, .instanceMethod yX11_slotAt, .selects RX11 yX11_slotAt yX11_slotAt, .code yX11_slotAt cX11_slotAt 3 (some .int)] ++ wsX110)
def wsJ9_max_7cf53 : List Cond := .code yJ9_max_7cf53 cJ9_max_7cf53 2 (some .int) :: ([])
def wsJ9_min_7cf53 : List Cond := .code yJ9_min_7cf53 cJ9_min_7cf53 2 (some .int) :: ([])
abbrev vwCl : List vw_C := [(RX0, TX0, 9), (RX1, TX1, 5), (RX2, TX2, 5), (RX3, TX3, 3), (RX4, TX4, 2), (RX5, TX5, 2), (RX6, TX6, 11), (RX7, TX7, 3), (RX8, TX8, 5), (RX9, TX9, 2), (RX10, TX10, 6), (RX11, TX11, 30)]
end
section
set_option maxRecDepth 20000 in
theorem ggX0_init_X9_init : GoodIn wsX0_init wsX9_init := goodIn_r _ [14, 15, 2, 3, 6, 16, 17, 27, 28] (by decide +kernel) (by decide +kernel)
set_option maxRecDepth 20000 in
theorem gX0_init_X9_init : GoodIn wsX0_init (wsX9_init) := ggX0_init_X9_init
set_option maxRecDepth 20000 in
theorem ggX0_assign_X5_cellAt : GoodIn wsX0_assign wsX5_cellAt := goodIn_r _ [17, 18, 19, 20, 21, 16, 22, 23, 110, 111] (by decide +kernel) (by decide +kernel)
set_option maxRecDepth 20000 in
theorem gX0_assign_X5_cellAt : GoodIn wsX0_assign (wsV RX0 56 RX5 yX5_cellAt wsX5_cellAt) := goodIn_app (goodIn_of _ (by decide +kernel)) ggX0_assign_X5_cellAt
set_option maxRecDepth 20000 in
theorem ggX0_assign_X9_measure : GoodIn wsX0_assign wsX9_measure := goodIn_r _ [28, 29, 30, 31, 32, 33, 34, 7, 35, 36, 37, 38, 39, 40, 41, 42, 43, 44, 45, 27, 46, 47, 48, 49, 50, 51, 52, 53, 54, 55, 56, 57, 58, 59, 60, 61, 112, 113, 114, 115, 105, 106, 107, 108, 109] (by decide +kernel) (by decide +kernel)
set_option maxRecDepth 20000 in
theorem gX0_assign_X9_measure : GoodIn wsX0_assign (wsV RX0 60 RX9 yX9_measure wsX9_measure) := goodIn_app (goodIn_of _ (by decide +kernel)) ggX0_assign_X9_measure
set_option maxRecDepth 20000 in
theorem ggX0_assign_X0_weigh : GoodIn wsX0_assign wsX0_weigh := goodIn_r _ [66, 9, 12, 67, 34, 7, 35, 10, 68, 69, 70, 71, 72, 73, 65, 74, 11, 1, 2, 13, 14, 15, 16, 17, 18, 19, 20, 21, 22, 23, 75, 76, 77, 27, 78, 29, 40, 41, 42, 79, 80, 81, 82, 83, 84, 85, 86, 87, 96, 97, 98, 99, 100, 101, 102, 103, 104, 105, 106, 107, 108, 109, 110, 111, 112, 113] (by decide +kernel) (by decide +kernel)
set_option maxRecDepth 20000 in
theorem gX0_assign_X0_weigh : GoodIn wsX0_assign (wsV RX0 64 RX0 yX0_weigh wsX0_weigh) := goodIn_app (goodIn_of _ (by decide +kernel)) ggX0_assign_X0_weigh
set_option maxRecDepth 20000 in
theorem ggX0_assign_X0_nextTrial : GoodIn wsX0_assign wsX0_nextTrial := goodIn_r _ [91, 9, 5, 6, 7, 8, 12, 92, 93, 94, 65, 95, 96, 97, 98, 99, 100, 101, 102, 103, 104] (by decide +kernel) (by decide +kernel)
set_option maxRecDepth 20000 in
theorem gX0_assign_X0_nextTrial : GoodIn wsX0_assign (wsV RX0 67 RX0 yX0_nextTrial wsX0_nextTrial) := goodIn_app (goodIn_of _ (by decide +kernel)) ggX0_assign_X0_nextTrial
set_option maxRecDepth 20000 in
theorem ggX0_timeOf_X0_slotOf : GoodIn wsX0_timeOf wsX0_slotOf := goodIn_r _ [5, 6, 34, 35, 36, 37, 38, 39, 40, 41, 42] (by decide +kernel) (by decide +kernel)
set_option maxRecDepth 20000 in
theorem gX0_timeOf_X0_slotOf : GoodIn wsX0_timeOf (wsV RX0 71 RX0 yX0_slotOf wsX0_slotOf) := goodIn_app (goodIn_of _ (by decide +kernel)) ggX0_timeOf_X0_slotOf
set_option maxRecDepth 20000 in
theorem ggX0_timeOf_X0_time : GoodIn wsX0_timeOf wsX0_time := goodIn_r _ [10, 11, 12, 13, 14, 15, 16, 17, 18, 19, 20, 21, 22, 23, 24, 25, 26, 27, 28, 29, 30, 31, 32, 33, 34, 35, 36, 37, 38, 39, 40, 41, 42, 43, 44, 45, 46, 47, 48, 49, 50, 51] (by decide +kernel) (by decide +kernel)
set_option maxRecDepth 20000 in
theorem gX0_timeOf_X0_time : GoodIn wsX0_timeOf (wsV RX0 74 RX0 yX0_time wsX0_time) := goodIn_app (goodIn_of _ (by decide +kernel)) ggX0_timeOf_X0_time
set_option maxRecDepth 20000 in
theorem ggX0_time_X5_cellAt : GoodIn wsX0_time wsX5_cellAt := goodIn_r _ [8, 9, 10, 11, 12, 7, 13, 14, 38, 39] (by decide +kernel) (by decide +kernel)
set_option maxRecDepth 20000 in
theorem gX0_time_X5_cellAt : GoodIn wsX0_time (wsV RX0 56 RX5 yX5_cellAt wsX5_cellAt) := goodIn_app (goodIn_of _ (by decide +kernel)) ggX0_time_X5_cellAt
set_option maxRecDepth 20000 in
theorem ggX0_time_X9_timeFrom : GoodIn wsX0_time wsX9_timeFrom := goodIn_r _ [19, 20, 21, 22, 23, 40, 41] (by decide +kernel) (by decide +kernel)
set_option maxRecDepth 20000 in
theorem gX0_time_X9_timeFrom : GoodIn wsX0_time (wsV RX0 77 RX9 yX9_timeFrom wsX9_timeFrom) := goodIn_app (goodIn_of _ (by decide +kernel)) ggX0_time_X9_timeFrom
set_option maxRecDepth 20000 in
theorem ggX0_weigh_X0_time : GoodIn wsX0_weigh wsX0_time := goodIn_r _ [15, 16, 17, 18, 19, 20, 21, 22, 23, 24, 25, 26, 27, 28, 29, 30, 31, 32, 33, 34, 35, 36, 37, 38, 48, 49, 50, 51, 52, 53, 54, 55, 56, 57, 58, 59, 60, 61, 62, 63, 64, 65] (by decide +kernel) (by decide +kernel)
set_option maxRecDepth 20000 in
theorem gX0_weigh_X0_time : GoodIn wsX0_weigh (wsV RX0 74 RX0 yX0_time wsX0_time) := goodIn_app (goodIn_of _ (by decide +kernel)) ggX0_weigh_X0_time
set_option maxRecDepth 20000 in
theorem ggX0_weigh_X0_take : GoodIn wsX0_weigh wsX0_take := goodIn_r _ [42, 8, 10, 2, 43, 44, 45, 46, 47, 48, 49, 50, 51, 52, 53, 54, 55, 56] (by decide +kernel) (by decide +kernel)
set_option maxRecDepth 20000 in
theorem gX0_weigh_X0_take : GoodIn wsX0_weigh (wsV RX0 89 RX0 yX0_take wsX0_take) := goodIn_app (goodIn_of _ (by decide +kernel)) ggX0_weigh_X0_take
set_option maxRecDepth 20000 in
theorem ggX0_nextTrial_X0_swap : GoodIn wsX0_nextTrial wsX0_swap := goodIn_r _ [11, 6, 12, 13, 14, 15, 16, 17, 18, 19, 20] (by decide +kernel) (by decide +kernel)
set_option maxRecDepth 20000 in
theorem gX0_nextTrial_X0_swap : GoodIn wsX0_nextTrial (wsV RX0 102 RX0 yX0_swap wsX0_swap) := goodIn_app (goodIn_of _ (by decide +kernel)) ggX0_nextTrial_X0_swap
set_option maxRecDepth 20000 in
theorem ggX1_begin_J7_fill_53178 : GoodIn wsX1_begin wsJ7_fill_53178 := goodIn_r _ [7] (by decide +kernel) (by decide +kernel)
set_option maxRecDepth 20000 in
theorem gX1_begin_J7_fill_53178 : GoodIn wsX1_begin (va_wsS RX1 22 yJ7_fill_53178 wsJ7_fill_53178) := goodIn_app (goodIn_of _ (by decide +kernel)) ggX1_begin_J7_fill_53178
set_option maxRecDepth 20000 in
theorem ggX1_meets_X1_cellAt : GoodIn wsX1_meets wsX1_cellAt := goodIn_r _ [5, 6, 7, 8, 9, 10, 11, 12, 13, 14, 15, 16, 17, 18] (by decide +kernel) (by decide +kernel)
set_option maxRecDepth 20000 in
theorem gX1_meets_X1_cellAt : GoodIn wsX1_meets (wsV RX1 37 RX1 yX1_cellAt wsX1_cellAt) := goodIn_app (goodIn_of _ (by decide +kernel)) ggX1_meets_X1_cellAt
set_option maxRecDepth 20000 in
theorem ggX2_init_X5_init : GoodIn wsX2_init wsX5_init := goodIn_r _ [11, 12, 2, 3, 4, 13, 19, 20] (by decide +kernel) (by decide +kernel)
set_option maxRecDepth 20000 in
theorem gX2_init_X5_init_n17 : GoodIn wsX2_init (wsX5_init) := ggX2_init_X5_init
set_option maxRecDepth 20000 in
theorem ggX2_read_X5_clear : GoodIn wsX2_read wsX5_clear := goodIn_r _ [9, 10, 43, 44] (by decide +kernel) (by decide +kernel)
set_option maxRecDepth 20000 in
theorem gX2_read_X5_clear : GoodIn wsX2_read (wsV RX2 33 RX5 yX5_clear wsX5_clear) := goodIn_app (goodIn_of _ (by decide +kernel)) ggX2_read_X5_clear
set_option maxRecDepth 20000 in
theorem ggX2_read_X2_readPositions : GoodIn wsX2_read wsX2_readPositions := goodIn_r _ [15, 1, 4, 16, 17, 18, 14, 19, 20, 21, 22, 23, 24, 25, 26, 27, 28, 3, 2, 29, 30, 31, 8, 32, 10, 33, 34, 35, 36, 37, 38, 39, 40, 41, 42, 43, 44] (by decide +kernel) (by decide +kernel)
set_option maxRecDepth 20000 in
theorem gX2_read_X2_readPositions : GoodIn wsX2_read (wsV RX2 36 RX2 yX2_readPositions wsX2_readPositions) := goodIn_app (goodIn_of _ (by decide +kernel)) ggX2_read_X2_readPositions
set_option maxRecDepth 20000 in
theorem ggX2_readPositions_X2_readPosition : GoodIn wsX2_readPositions wsX2_readPosition := goodIn_r _ [7, 1, 8, 9, 10, 6, 11, 2, 12, 13, 14, 15, 16, 17, 18, 19, 20, 21, 22, 23, 24, 25, 26, 27, 28, 29, 30, 31, 32, 33, 34, 35, 36] (by decide +kernel) (by decide +kernel)
set_option maxRecDepth 20000 in
theorem gX2_readPositions_X2_readPosition : GoodIn wsX2_readPositions (wsV RX2 40 RX2 yX2_readPosition wsX2_readPosition) := goodIn_app (goodIn_of _ (by decide +kernel)) ggX2_readPositions_X2_readPosition
set_option maxRecDepth 20000 in
theorem ggX2_readPositions_X2_signHere : GoodIn wsX2_readPositions wsX2_signHere := goodIn_r _ [11, 1, 2, 12, 30, 31, 32, 33, 34] (by decide +kernel) (by decide +kernel)
set_option maxRecDepth 20000 in
theorem gX2_readPositions_X2_signHere : GoodIn wsX2_readPositions (wsV RX2 44 RX2 yX2_signHere wsX2_signHere) := goodIn_app (goodIn_of _ (by decide +kernel)) ggX2_readPositions_X2_signHere
set_option maxRecDepth 20000 in
theorem ggX2_readPosition_X2_signHere : GoodIn wsX2_readPosition wsX2_signHere := goodIn_r _ [6, 1, 7, 8, 26, 27, 28, 29, 30] (by decide +kernel) (by decide +kernel)
set_option maxRecDepth 20000 in
theorem gX2_readPosition_X2_signHere : GoodIn wsX2_readPosition (wsV RX2 44 RX2 yX2_signHere wsX2_signHere) := goodIn_app (goodIn_of _ (by decide +kernel)) ggX2_readPosition_X2_signHere
set_option maxRecDepth 20000 in
theorem ggX2_readPosition_X2_note : GoodIn wsX2_readPosition wsX2_note := goodIn_r _ [12, 13, 14, 15, 16, 17, 18, 19, 20, 21, 22, 23, 24, 25, 26, 27, 28, 29, 30, 31, 32] (by decide +kernel) (by decide +kernel)
set_option maxRecDepth 20000 in
theorem gX2_readPosition_X2_note : GoodIn wsX2_readPosition (wsV RX2 47 RX2 yX2_note wsX2_note) := goodIn_app (goodIn_of _ (by decide +kernel)) ggX2_readPosition_X2_note
set_option maxRecDepth 20000 in
theorem ggX2_note_X5_find : GoodIn wsX2_note wsX5_find := goodIn_r _ [7, 8, 9, 19, 20] (by decide +kernel) (by decide +kernel)
set_option maxRecDepth 20000 in
theorem gX2_note_X5_find : GoodIn wsX2_note (wsV RX2 51 RX5 yX5_find wsX5_find) := goodIn_app (goodIn_of _ (by decide +kernel)) ggX2_note_X5_find
set_option maxRecDepth 20000 in
theorem ggX2_note_X5_add : GoodIn wsX2_note wsX5_add := goodIn_r _ [13, 8, 9, 19, 20] (by decide +kernel) (by decide +kernel)
set_option maxRecDepth 20000 in
theorem gX2_note_X5_add : GoodIn wsX2_note (wsV RX2 55 RX5 yX5_add wsX5_add) := goodIn_app (goodIn_of _ (by decide +kernel)) ggX2_note_X5_add
set_option maxRecDepth 20000 in
theorem ggX3_init_X8_init : GoodIn wsX3_init wsX8_init := goodIn_r _ [9, 10, 2, 3, 11, 12, 13, 14, 15, 16, 17, 18, 19, 20, 21, 22, 26, 27, 28, 29, 30, 31, 32] (by decide +kernel) (by decide +kernel)
set_option maxRecDepth 20000 in
theorem gX3_init_X8_init_n17 : GoodIn wsX3_init (wsX8_init) := ggX3_init_X8_init
set_option maxRecDepth 20000 in
theorem ggX3_keep_J9_floorMod_7cf53 : GoodIn wsX3_keep wsJ9_floorMod_7cf53 := goodIn_r _ [11] (by decide +kernel) (by decide +kernel)
set_option maxRecDepth 20000 in
theorem gX3_keep_J9_floorMod_7cf53 : GoodIn wsX3_keep (va_wsS RX3 22 yJ9_floorMod_7cf53 wsJ9_floorMod_7cf53) := goodIn_app (goodIn_of _ (by decide +kernel)) ggX3_keep_J9_floorMod_7cf53
set_option maxRecDepth 20000 in
theorem ggX3_keep_X8_copyFrom : GoodIn wsX3_keep wsX8_copyFrom := goodIn_r _ [16, 17, 18, 19, 20, 21, 22, 23, 24, 25, 26, 27, 28, 29, 30, 31, 32, 33, 37, 38, 39, 40, 41, 42, 43] (by decide +kernel) (by decide +kernel)
set_option maxRecDepth 20000 in
theorem gX3_keep_X8_copyFrom : GoodIn wsX3_keep (wsV RX3 28 RX8 yX8_copyFrom wsX8_copyFrom) := goodIn_app (goodIn_of _ (by decide +kernel)) ggX3_keep_X8_copyFrom
set_option maxRecDepth 20000 in
theorem ggX3_bringBack_J9_floorMod_7cf53 : GoodIn wsX3_bringBack wsJ9_floorMod_7cf53 := goodIn_r _ [7] (by decide +kernel) (by decide +kernel)
set_option maxRecDepth 20000 in
theorem gX3_bringBack_J9_floorMod_7cf53 : GoodIn wsX3_bringBack (va_wsS RX3 22 yJ9_floorMod_7cf53 wsJ9_floorMod_7cf53) := goodIn_app (goodIn_of _ (by decide +kernel)) ggX3_bringBack_J9_floorMod_7cf53
set_option maxRecDepth 20000 in
theorem ggX3_bringBack_X8_copyFrom : GoodIn wsX3_bringBack wsX8_copyFrom := goodIn_r _ [12, 13, 14, 15, 16, 17, 18, 19, 20, 21, 22, 23, 24, 25, 26, 27, 28, 29, 33, 34, 35, 36, 37, 38, 39] (by decide +kernel) (by decide +kernel)
set_option maxRecDepth 20000 in
theorem gX3_bringBack_X8_copyFrom : GoodIn wsX3_bringBack (wsV RX3 28 RX8 yX8_copyFrom wsX8_copyFrom) := goodIn_app (goodIn_of _ (by decide +kernel)) ggX3_bringBack_X8_copyFrom
set_option maxRecDepth 20000 in
theorem ggX4_init_X4_neighbour : GoodIn wsX4_init wsX4_neighbour := goodIn_r _ [10, 11, 12, 13, 14, 15] (by decide +kernel) (by decide +kernel)
set_option maxRecDepth 20000 in
theorem gX4_init_X4_neighbour : GoodIn wsX4_init (va_wsS RX4 19 yX4_neighbour wsX4_neighbour) := goodIn_app (goodIn_of _ (by decide +kernel)) ggX4_init_X4_neighbour
set_option maxRecDepth 20000 in
theorem ggX4_next_X10_isCell : GoodIn wsX4_next wsX10_isCell := goodIn_r _ [6] (by decide +kernel) (by decide +kernel)
set_option maxRecDepth 20000 in
theorem gX4_next_X10_isCell_n23 : GoodIn wsX4_next (wsX10_isCell) := ggX4_next_X10_isCell
set_option maxRecDepth 20000 in
theorem ggX4_next_X10_isAction : GoodIn wsX4_next wsX10_isAction := goodIn_r _ [8] (by decide +kernel) (by decide +kernel)
set_option maxRecDepth 20000 in
theorem gX4_next_X10_isAction_n27 : GoodIn wsX4_next (wsX10_isAction) := ggX4_next_X10_isAction
set_option maxRecDepth 20000 in
theorem ggX4_ticks_X10_isCell : GoodIn wsX4_ticks wsX10_isCell := goodIn_r _ [5] (by decide +kernel) (by decide +kernel)
set_option maxRecDepth 20000 in
theorem gX4_ticks_X10_isCell_n23 : GoodIn wsX4_ticks (wsX10_isCell) := ggX4_ticks_X10_isCell
set_option maxRecDepth 20000 in
theorem ggX4_ticks_X10_isAction : GoodIn wsX4_ticks wsX10_isAction := goodIn_r _ [7] (by decide +kernel) (by decide +kernel)
set_option maxRecDepth 20000 in
theorem gX4_ticks_X10_isAction_n27 : GoodIn wsX4_ticks (wsX10_isAction) := ggX4_ticks_X10_isAction
set_option maxRecDepth 20000 in
theorem ggX4_neighbour_X10_isAction : GoodIn wsX4_neighbour wsX10_isAction := goodIn_r _ [3] (by decide +kernel) (by decide +kernel)
set_option maxRecDepth 20000 in
theorem gX4_neighbour_X10_isAction_n27 : GoodIn wsX4_neighbour (wsX10_isAction) := ggX4_neighbour_X10_isAction
set_option maxRecDepth 20000 in
theorem ggX4_neighbour_X10_isLayer : GoodIn wsX4_neighbour wsX10_isLayer := goodIn_r _ [5] (by decide +kernel) (by decide +kernel)
set_option maxRecDepth 20000 in
theorem gX4_neighbour_X10_isLayer_n50 : GoodIn wsX4_neighbour (wsX10_isLayer) := ggX4_neighbour_X10_isLayer
set_option maxRecDepth 20000 in
theorem ggX5_cellAt_X5_has : GoodIn wsX5_cellAt wsX5_has := goodIn_r _ [6, 7, 8, 9] (by decide +kernel) (by decide +kernel)
set_option maxRecDepth 20000 in
theorem gX5_cellAt_X5_has : GoodIn wsX5_cellAt (wsV RX5 19 RX5 yX5_has wsX5_has) := goodIn_app (goodIn_of _ (by decide +kernel)) ggX5_cellAt_X5_has
set_option maxRecDepth 20000 in
theorem ggX5_remove_X5_has : GoodIn wsX5_remove wsX5_has := goodIn_r _ [7, 1, 8, 9] (by decide +kernel) (by decide +kernel)
set_option maxRecDepth 20000 in
theorem gX5_remove_X5_has : GoodIn wsX5_remove (wsV RX5 19 RX5 yX5_has wsX5_has) := goodIn_app (goodIn_of _ (by decide +kernel)) ggX5_remove_X5_has
set_option maxRecDepth 20000 in
theorem ggX5_move_X5_has : GoodIn wsX5_move wsX5_has := goodIn_r _ [6, 7, 8, 9] (by decide +kernel) (by decide +kernel)
set_option maxRecDepth 20000 in
theorem gX5_move_X5_has : GoodIn wsX5_move (wsV RX5 19 RX5 yX5_has wsX5_has) := goodIn_app (goodIn_of _ (by decide +kernel)) ggX5_move_X5_has
set_option maxRecDepth 20000 in
theorem ggX6_init_X9_init : GoodIn wsX6_init wsX9_init := goodIn_r _ [24, 25, 2, 3, 7, 26, 27, 51, 52] (by decide +kernel) (by decide +kernel)
set_option maxRecDepth 20000 in
theorem gX6_init_X9_init : GoodIn wsX6_init (wsX9_init) := ggX6_init_X9_init
set_option maxRecDepth 20000 in
theorem ggX6_init_X7_init : GoodIn wsX6_init wsX7_init := goodIn_r _ [30, 31, 2, 3, 7, 32, 33, 34, 53, 54, 55] (by decide +kernel) (by decide +kernel)
set_option maxRecDepth 20000 in
theorem gX6_init_X7_init : GoodIn wsX6_init (wsX7_init) := ggX6_init_X7_init
set_option maxRecDepth 20000 in
theorem ggX6_init_X1_init : GoodIn wsX6_init wsX1_init := goodIn_r _ [36, 37, 2, 3, 7, 38, 39, 56, 57, 58, 59, 60] (by decide +kernel) (by decide +kernel)
set_option maxRecDepth 20000 in
theorem gX6_init_X1_init_n52 : GoodIn wsX6_init (wsX1_init) := ggX6_init_X1_init
set_option maxRecDepth 20000 in
theorem ggX6_make_X6_discard : GoodIn wsX6_make wsX6_discard := goodIn_r _ [21, 16, 12, 171, 172, 173, 174, 175, 176, 177, 178, 179, 180, 181] (by decide +kernel) (by decide +kernel)
set_option maxRecDepth 20000 in
theorem gX6_make_X6_discard : GoodIn wsX6_make (wsV RX6 57 RX6 yX6_discard wsX6_discard) := goodIn_app (goodIn_of _ (by decide +kernel)) ggX6_make_X6_discard
set_option maxRecDepth 20000 in
theorem ggX6_make_X6_takeOrder : GoodIn wsX6_make wsX6_takeOrder := goodIn_r _ [25, 7, 26, 27, 9, 28, 29, 30, 31, 32, 33, 34, 35, 36, 37, 38, 39, 40, 41, 42, 43, 44, 45, 46, 47, 48, 49, 50, 51, 52, 53, 54, 55, 56, 57, 58, 59, 60, 61, 62, 63, 64, 65, 66, 67, 20, 68, 69, 3, 4, 5, 6, 13, 14, 15, 70, 171, 172, 173, 174, 175, 176, 177, 178, 179, 180, 181, 196, 197, 198, 199, 200, 182, 183, 184, 185, 186, 187, 188, 189, 190, 191, 192, 193, 194, 195, 201, 202, 203, 204] (by decide +kernel) (by decide +kernel)
set_option maxRecDepth 20000 in
theorem gX6_make_X6_takeOrder : GoodIn wsX6_make (wsV RX6 75 RX6 yX6_takeOrder wsX6_takeOrder) := goodIn_app (goodIn_of _ (by decide +kernel)) ggX6_make_X6_takeOrder
set_option maxRecDepth 20000 in
theorem ggX6_make_X7_free : GoodIn wsX6_make wsX7_free := goodIn_r _ [75, 76, 77, 78, 79, 80, 205, 206, 207] (by decide +kernel) (by decide +kernel)
set_option maxRecDepth 20000 in
theorem gX6_make_X7_free : GoodIn wsX6_make (wsV RX6 79 RX7 yX7_free wsX7_free) := goodIn_app (goodIn_of _ (by decide +kernel)) ggX6_make_X7_free
set_option maxRecDepth 20000 in
theorem ggX6_make_X5_cellAt : GoodIn wsX6_make wsX5_cellAt := goodIn_r _ [49, 50, 51, 52, 53, 48, 54, 55, 201, 202] (by decide +kernel) (by decide +kernel)
set_option maxRecDepth 20000 in
theorem gX6_make_X5_cellAt : GoodIn wsX6_make (wsV RX6 88 RX5 yX5_cellAt wsX5_cellAt) := goodIn_app (goodIn_of _ (by decide +kernel)) ggX6_make_X5_cellAt
set_option maxRecDepth 20000 in
theorem ggX6_make_X6_goalOf : GoodIn wsX6_make wsX6_goalOf := goodIn_r _ [85, 10, 86, 27, 65, 66, 67, 20, 68, 69, 3, 4, 5, 6, 13, 14, 15, 81, 46, 47, 48, 49, 50, 51, 52, 53, 54, 55, 171, 172, 173, 174, 175, 176, 177, 178, 179, 180, 181, 191, 192, 193, 194, 195, 196, 197, 198, 199, 200, 201, 202] (by decide +kernel) (by decide +kernel)
set_option maxRecDepth 20000 in
theorem gX6_make_X6_goalOf : GoodIn wsX6_make (wsV RX6 94 RX6 yX6_goalOf wsX6_goalOf) := goodIn_app (goodIn_of _ (by decide +kernel)) ggX6_make_X6_goalOf
set_option maxRecDepth 20000 in
theorem ggX6_make_X7_earliestArrival : GoodIn wsX6_make wsX7_earliestArrival := goodIn_r _ [90, 91, 77, 78, 79, 80, 92, 93, 74, 94, 62, 63, 64, 95, 96, 97, 98, 99, 100, 101, 102, 76, 103, 104, 105, 106, 107, 108, 109, 110, 111, 112, 113, 114, 115, 116, 117, 118, 119, 120, 121, 122, 123, 124, 125, 126, 127, 128, 129, 130, 131, 132, 133, 134, 205, 206, 207, 208, 209, 191, 192, 193, 194, 195] (by decide +kernel) (by decide +kernel)
set_option maxRecDepth 20000 in
theorem gX6_make_X7_earliestArrival : GoodIn wsX6_make (wsV RX6 97 RX7 yX7_earliestArrival wsX7_earliestArrival) := goodIn_app (goodIn_of _ (by decide +kernel)) ggX6_make_X7_earliestArrival
set_option maxRecDepth 20000 in
theorem ggX6_make_X7_prune : GoodIn wsX6_make wsX7_prune := goodIn_r _ [138, 92, 93, 74, 94, 62, 63, 64, 103, 104, 105, 106, 91, 139, 140, 141, 142, 111, 112, 113, 114, 115, 116, 117, 118, 119, 120, 121, 122, 123, 124, 125, 126, 127, 128, 129, 130, 131, 132, 133, 134, 76, 95, 96, 97, 98, 205, 206, 207, 208, 209, 191, 192, 193, 194, 195] (by decide +kernel) (by decide +kernel)
set_option maxRecDepth 20000 in
theorem gX6_make_X7_prune : GoodIn wsX6_make (wsV RX6 100 RX7 yX7_prune wsX7_prune) := goodIn_app (goodIn_of _ (by decide +kernel)) ggX6_make_X7_prune
set_option maxRecDepth 20000 in
theorem ggX6_make_X6_flightOf : GoodIn wsX6_make wsX6_flightOf := goodIn_r _ [68, 69, 3, 4, 5, 6, 13, 14, 15, 171, 172, 173, 174, 175, 176, 177, 178, 179, 180, 181] (by decide +kernel) (by decide +kernel)
set_option maxRecDepth 20000 in
theorem gX6_make_X6_flightOf : GoodIn wsX6_make (wsV RX6 104 RX6 yX6_flightOf wsX6_flightOf) := goodIn_app (goodIn_of _ (by decide +kernel)) ggX6_make_X6_flightOf
set_option maxRecDepth 20000 in
theorem ggX6_make_X7_follow : GoodIn wsX6_make wsX7_follow := goodIn_r _ [146, 147, 115, 148, 149, 150, 151, 152, 153, 154, 155, 156, 78, 79, 80, 139, 140, 141, 74, 142, 111, 112, 113, 114, 116, 117, 118, 119, 120, 121, 122, 123, 62, 63, 64, 124, 125, 126, 127, 128, 129, 130, 131, 132, 133, 134, 76, 92, 93, 94, 103, 104, 105, 106, 91, 157, 158, 159, 160, 161, 14, 5, 15, 196, 197, 198, 199, 200, 205, 206, 207, 208, 209, 191, 192, 193, 194, 195] (by decide +kernel) (by decide +kernel)
set_option maxRecDepth 20000 in
theorem gX6_make_X7_follow : GoodIn wsX6_make (wsV RX6 108 RX7 yX7_follow wsX7_follow) := goodIn_app (goodIn_of _ (by decide +kernel)) ggX6_make_X7_follow
set_option maxRecDepth 20000 in
theorem ggX6_make_X7_hold : GoodIn wsX6_make wsX7_hold := goodIn_r _ [165, 76, 166, 167, 168, 151, 169, 154, 170, 4, 5, 6, 161, 14, 15, 92, 93, 74, 94, 62, 63, 64, 205, 206, 207, 196, 197, 198, 199, 200] (by decide +kernel) (by decide +kernel)
set_option maxRecDepth 20000 in
theorem gX6_make_X7_hold : GoodIn wsX6_make (wsV RX6 112 RX7 yX7_hold wsX7_hold) := goodIn_app (goodIn_of _ (by decide +kernel)) ggX6_make_X7_hold
set_option maxRecDepth 20000 in
theorem ggX6_cellOfDrone_X6_flightOf : GoodIn wsX6_cellOfDrone wsX6_flightOf := goodIn_r _ [6, 7, 8, 9, 10, 11, 12, 13, 14, 23, 24, 25, 26, 27, 28, 29, 30, 31, 32, 33] (by decide +kernel) (by decide +kernel)
set_option maxRecDepth 20000 in
theorem gX6_cellOfDrone_X6_flightOf : GoodIn wsX6_cellOfDrone (wsV RX6 104 RX6 yX6_flightOf wsX6_flightOf) := goodIn_app (goodIn_of _ (by decide +kernel)) ggX6_cellOfDrone_X6_flightOf
set_option maxRecDepth 20000 in
theorem ggX6_cellOfDrone_X1_cellAt : GoodIn wsX6_cellOfDrone wsX1_cellAt := goodIn_r _ [19, 20, 21, 9, 10, 11, 22, 13, 14, 34, 35, 36, 37, 38] (by decide +kernel) (by decide +kernel)
set_option maxRecDepth 20000 in
theorem gX6_cellOfDrone_X1_cellAt : GoodIn wsX6_cellOfDrone (wsV RX6 119 RX1 yX1_cellAt wsX1_cellAt) := goodIn_app (goodIn_of _ (by decide +kernel)) ggX6_cellOfDrone_X1_cellAt
set_option maxRecDepth 20000 in
theorem ggX6_actionOfDrone_X6_flightOf : GoodIn wsX6_actionOfDrone wsX6_flightOf := goodIn_r _ [6, 7, 8, 9, 10, 11, 12, 13, 14, 22, 23, 24, 25, 26, 27, 28, 29, 30, 31, 32] (by decide +kernel) (by decide +kernel)
set_option maxRecDepth 20000 in
theorem gX6_actionOfDrone_X6_flightOf : GoodIn wsX6_actionOfDrone (wsV RX6 104 RX6 yX6_flightOf wsX6_flightOf) := goodIn_app (goodIn_of _ (by decide +kernel)) ggX6_actionOfDrone_X6_flightOf
set_option maxRecDepth 20000 in
theorem ggX6_actionOfDrone_X1_actionAt : GoodIn wsX6_actionOfDrone wsX1_actionAt := goodIn_r _ [19, 20, 21, 33, 34, 35, 36, 37] (by decide +kernel) (by decide +kernel)
set_option maxRecDepth 20000 in
theorem gX6_actionOfDrone_X1_actionAt : GoodIn wsX6_actionOfDrone (wsV RX6 120 RX1 yX1_actionAt wsX1_actionAt) := goodIn_app (goodIn_of _ (by decide +kernel)) ggX6_actionOfDrone_X1_actionAt
set_option maxRecDepth 20000 in
theorem ggX6_positionOf_X6_flightOf : GoodIn wsX6_positionOf wsX6_flightOf := goodIn_r _ [6, 7, 8, 9, 10, 11, 12, 13, 14, 20, 21, 22, 23, 24, 25, 26, 27, 28, 29, 30] (by decide +kernel) (by decide +kernel)
set_option maxRecDepth 20000 in
theorem gX6_positionOf_X6_flightOf : GoodIn wsX6_positionOf (wsV RX6 104 RX6 yX6_flightOf wsX6_flightOf) := goodIn_app (goodIn_of _ (by decide +kernel)) ggX6_positionOf_X6_flightOf
set_option maxRecDepth 20000 in
theorem ggX6_slotOf_X6_flightOf : GoodIn wsX6_slotOf wsX6_flightOf := goodIn_r _ [6, 7, 8, 9, 10, 11, 12, 13, 14, 20, 21, 22, 23, 24, 25, 26, 27, 28, 29, 30] (by decide +kernel) (by decide +kernel)
set_option maxRecDepth 20000 in
theorem gX6_slotOf_X6_flightOf : GoodIn wsX6_slotOf (wsV RX6 104 RX6 yX6_flightOf wsX6_flightOf) := goodIn_app (goodIn_of _ (by decide +kernel)) ggX6_slotOf_X6_flightOf
set_option maxRecDepth 20000 in
theorem ggX6_ticksLeft_X6_flightOf : GoodIn wsX6_ticksLeft wsX6_flightOf := goodIn_r _ [11, 12, 13, 14, 5, 15, 3, 4, 6, 21, 22, 23, 24, 25, 26, 27, 28, 29, 30, 31] (by decide +kernel) (by decide +kernel)
set_option maxRecDepth 20000 in
theorem gX6_ticksLeft_X6_flightOf : GoodIn wsX6_ticksLeft (wsV RX6 104 RX6 yX6_flightOf wsX6_flightOf) := goodIn_app (goodIn_of _ (by decide +kernel)) ggX6_ticksLeft_X6_flightOf
set_option maxRecDepth 20000 in
theorem ggX6_waitsLeft_X6_flightOf : GoodIn wsX6_waitsLeft wsX6_flightOf := goodIn_r _ [7, 8, 9, 10, 11, 12, 13, 14, 15, 23, 24, 25, 26, 27, 28, 29, 30, 31, 32, 33] (by decide +kernel) (by decide +kernel)
set_option maxRecDepth 20000 in
theorem gX6_waitsLeft_X6_flightOf : GoodIn wsX6_waitsLeft (wsV RX6 104 RX6 yX6_flightOf wsX6_flightOf) := goodIn_app (goodIn_of _ (by decide +kernel)) ggX6_waitsLeft_X6_flightOf
set_option maxRecDepth 20000 in
theorem ggX6_waitsLeft_X1_actionAt : GoodIn wsX6_waitsLeft wsX1_actionAt := goodIn_r _ [20, 21, 22, 34, 35, 36, 37, 38] (by decide +kernel) (by decide +kernel)
set_option maxRecDepth 20000 in
theorem gX6_waitsLeft_X1_actionAt : GoodIn wsX6_waitsLeft (wsV RX6 120 RX1 yX1_actionAt wsX1_actionAt) := goodIn_app (goodIn_of _ (by decide +kernel)) ggX6_waitsLeft_X1_actionAt
set_option maxRecDepth 20000 in
theorem ggX6_timeWithoutOthers_X6_goalOf : GoodIn wsX6_timeWithoutOthers wsX6_goalOf := goodIn_r _ [8, 2, 9, 10, 11, 12, 13, 7, 14, 15, 16, 17, 18, 19, 20, 21, 22, 23, 24, 25, 26, 27, 28, 29, 30, 31, 32, 33, 74, 75, 76, 77, 78, 79, 80, 81, 82, 83, 84, 85, 86, 87, 88, 89, 90, 91, 92, 93, 94, 95, 96] (by decide +kernel) (by decide +kernel)
set_option maxRecDepth 20000 in
theorem gX6_timeWithoutOthers_X6_goalOf : GoodIn wsX6_timeWithoutOthers (wsV RX6 94 RX6 yX6_goalOf wsX6_goalOf) := goodIn_app (goodIn_of _ (by decide +kernel)) ggX6_timeWithoutOthers_X6_goalOf
set_option maxRecDepth 20000 in
theorem ggX6_timeWithoutOthers_X9_measure : GoodIn wsX6_timeWithoutOthers wsX9_measure := goodIn_r _ [38, 39, 40, 41, 42, 43, 21, 18, 22, 44, 45, 46, 47, 48, 49, 50, 51, 52, 53, 37, 54, 55, 56, 57, 58, 59, 60, 61, 62, 63, 64, 65, 66, 67, 68, 69, 97, 98, 99, 100, 85, 86, 87, 88, 89] (by decide +kernel) (by decide +kernel)
set_option maxRecDepth 20000 in
theorem gX6_timeWithoutOthers_X9_measure : GoodIn wsX6_timeWithoutOthers (wsV RX6 132 RX9 yX9_measure wsX9_measure) := goodIn_app (goodIn_of _ (by decide +kernel)) ggX6_timeWithoutOthers_X9_measure
set_option maxRecDepth 20000 in
theorem ggX6_timeWithoutOthers_X5_cellAt : GoodIn wsX6_timeWithoutOthers wsX5_cellAt := goodIn_r _ [27, 28, 29, 30, 31, 26, 32, 33, 95, 96] (by decide +kernel) (by decide +kernel)
set_option maxRecDepth 20000 in
theorem gX6_timeWithoutOthers_X5_cellAt : GoodIn wsX6_timeWithoutOthers (wsV RX6 88 RX5 yX5_cellAt wsX5_cellAt) := goodIn_app (goodIn_of _ (by decide +kernel)) ggX6_timeWithoutOthers_X5_cellAt
set_option maxRecDepth 20000 in
theorem ggX6_timeWithoutOthers_X9_timeFrom : GoodIn wsX6_timeWithoutOthers wsX9_timeFrom := goodIn_r _ [73, 39, 48, 49, 50, 97, 98] (by decide +kernel) (by decide +kernel)
set_option maxRecDepth 20000 in
theorem gX6_timeWithoutOthers_X9_timeFrom : GoodIn wsX6_timeWithoutOthers (wsV RX6 136 RX9 yX9_timeFrom wsX9_timeFrom) := goodIn_app (goodIn_of _ (by decide +kernel)) ggX6_timeWithoutOthers_X9_timeFrom
set_option maxRecDepth 20000 in
theorem ggX6_hinderer_X6_flightOf : GoodIn wsX6_hinderer wsX6_flightOf := goodIn_r _ [11, 5, 12, 13, 14, 15, 16, 17, 18, 102, 103, 104, 105, 106, 107, 108, 109, 110, 111, 112] (by decide +kernel) (by decide +kernel)
set_option maxRecDepth 20000 in
theorem gX6_hinderer_X6_flightOf : GoodIn wsX6_hinderer (wsV RX6 104 RX6 yX6_flightOf wsX6_flightOf) := goodIn_app (goodIn_of _ (by decide +kernel)) ggX6_hinderer_X6_flightOf
set_option maxRecDepth 20000 in
theorem ggX6_hinderer_X1_actionAt : GoodIn wsX6_hinderer wsX1_actionAt := goodIn_r _ [23, 24, 25, 113, 114, 115, 116, 117] (by decide +kernel) (by decide +kernel)
set_option maxRecDepth 20000 in
theorem gX6_hinderer_X1_actionAt : GoodIn wsX6_hinderer (wsV RX6 120 RX1 yX1_actionAt wsX1_actionAt) := goodIn_app (goodIn_of _ (by decide +kernel)) ggX6_hinderer_X1_actionAt
set_option maxRecDepth 20000 in
theorem ggX6_hinderer_X6_goalOf : GoodIn wsX6_hinderer wsX6_goalOf := goodIn_r _ [29, 30, 31, 32, 7, 8, 9, 10, 11, 5, 12, 13, 14, 15, 16, 17, 18, 33, 34, 35, 36, 37, 38, 39, 40, 41, 42, 43, 102, 103, 104, 105, 106, 107, 108, 109, 110, 111, 112, 118, 119, 120, 121, 122, 113, 114, 115, 116, 117, 123, 124] (by decide +kernel) (by decide +kernel)
set_option maxRecDepth 20000 in
theorem gX6_hinderer_X6_goalOf : GoodIn wsX6_hinderer (wsV RX6 94 RX6 yX6_goalOf wsX6_goalOf) := goodIn_app (goodIn_of _ (by decide +kernel)) ggX6_hinderer_X6_goalOf
set_option maxRecDepth 20000 in
theorem ggX6_hinderer_X9_measure : GoodIn wsX6_hinderer wsX9_measure := goodIn_r _ [48, 49, 50, 51, 52, 53, 17, 14, 18, 54, 55, 56, 57, 58, 59, 60, 61, 62, 63, 47, 64, 65, 66, 67, 68, 69, 70, 71, 72, 73, 74, 75, 76, 77, 78, 79, 125, 126, 127, 128, 118, 119, 120, 121, 122] (by decide +kernel) (by decide +kernel)
set_option maxRecDepth 20000 in
theorem gX6_hinderer_X9_measure : GoodIn wsX6_hinderer (wsV RX6 132 RX9 yX9_measure wsX9_measure) := goodIn_app (goodIn_of _ (by decide +kernel)) ggX6_hinderer_X9_measure
set_option maxRecDepth 20000 in
theorem ggX6_hinderer_X1_cellAt : GoodIn wsX6_hinderer wsX1_cellAt := goodIn_r _ [83, 84, 85, 13, 14, 15, 86, 17, 18, 113, 114, 115, 116, 117] (by decide +kernel) (by decide +kernel)
set_option maxRecDepth 20000 in
theorem gX6_hinderer_X1_cellAt : GoodIn wsX6_hinderer (wsV RX6 119 RX1 yX1_cellAt wsX1_cellAt) := goodIn_app (goodIn_of _ (by decide +kernel)) ggX6_hinderer_X1_cellAt
set_option maxRecDepth 20000 in
theorem ggX6_hinderer_X9_firstAction : GoodIn wsX6_hinderer wsX9_firstAction := goodIn_r _ [90, 50, 65, 66, 67, 68, 69, 70, 71, 72, 58, 59, 60, 73, 74, 91, 92, 93, 47, 94, 49, 75, 76, 77, 78, 79, 125, 126, 127, 128, 118, 119, 120, 121, 122] (by decide +kernel) (by decide +kernel)
set_option maxRecDepth 20000 in
theorem gX6_hinderer_X9_firstAction : GoodIn wsX6_hinderer (wsV RX6 139 RX9 yX9_firstAction wsX9_firstAction) := goodIn_app (goodIn_of _ (by decide +kernel)) ggX6_hinderer_X9_firstAction
set_option maxRecDepth 20000 in
theorem ggX6_hinderer_X6_isMet : GoodIn wsX6_hinderer wsX6_isMet := goodIn_r _ [98, 99, 100, 66, 67, 68, 69, 70, 71, 72, 58, 59, 60, 73, 74, 101, 76, 77, 78, 79, 80, 81, 82, 22, 83, 84, 85, 13, 14, 15, 86, 17, 18, 102, 103, 104, 105, 106, 107, 108, 109, 110, 111, 112, 127, 128, 118, 119, 120, 121, 122, 113, 114, 115, 116, 117] (by decide +kernel) (by decide +kernel)
set_option maxRecDepth 20000 in
theorem gX6_hinderer_X6_isMet : GoodIn wsX6_hinderer (wsV RX6 142 RX6 yX6_isMet wsX6_isMet) := goodIn_app (goodIn_of _ (by decide +kernel)) ggX6_hinderer_X6_isMet
set_option maxRecDepth 20000 in
theorem ggX6_pairsInConflict_X6_layWay : GoodIn wsX6_pairsInConflict wsX6_layWay := goodIn_r _ [7, 8, 9, 10, 2, 11, 12, 13, 14, 6, 15, 16, 17, 18, 19, 20, 21, 22, 23, 24, 25, 26, 27, 28, 29, 30, 31, 32, 33, 34, 35, 36, 37, 38, 39, 40, 41, 42, 43, 44, 45, 46, 47, 48, 49, 50, 51, 52, 53, 54, 55, 56, 57, 58, 59, 60, 61, 62, 63, 64, 65, 66, 67, 68, 69, 70, 71, 72, 73, 74, 75, 76, 77, 78, 79, 80, 81, 82, 83, 84, 85, 86, 87, 88, 89, 90, 91, 92, 93, 94, 95, 96, 97, 98, 99, 100, 110, 111, 112, 113, 114, 115, 116, 117, 118, 119, 120, 121, 122, 123, 124, 125, 126, 127, 128, 129, 130, 131, 132, 133, 134, 135, 136] (by decide +kernel) (by decide +kernel)
set_option maxRecDepth 20000 in
theorem gX6_pairsInConflict_X6_layWay : GoodIn wsX6_pairsInConflict (wsV RX6 146 RX6 yX6_layWay wsX6_layWay) := goodIn_app (goodIn_of _ (by decide +kernel)) ggX6_pairsInConflict_X6_layWay
set_option maxRecDepth 20000 in
theorem ggX6_pairsInConflict_X1_meets : GoodIn wsX6_pairsInConflict wsX1_meets := goodIn_r _ [104, 105, 106, 107, 80, 108, 83, 109, 24, 25, 26, 100, 28, 29, 126, 127, 128, 129, 130] (by decide +kernel) (by decide +kernel)
set_option maxRecDepth 20000 in
theorem gX6_pairsInConflict_X1_meets : GoodIn wsX6_pairsInConflict (wsV RX6 149 RX1 yX1_meets wsX1_meets) := goodIn_app (goodIn_of _ (by decide +kernel)) ggX6_pairsInConflict_X1_meets
set_option maxRecDepth 20000 in
theorem ggX6_advance_X6_cellOfDrone : GoodIn wsX6_advance wsX6_cellOfDrone := goodIn_r _ [13, 1, 14, 15, 16, 12, 17, 18, 2, 3, 4, 5, 19, 20, 21, 22, 23, 24, 25, 26, 27, 28, 29, 46, 47, 48, 49, 50, 51, 52, 53, 54, 55, 56, 62, 63, 64, 65, 66] (by decide +kernel) (by decide +kernel)
set_option maxRecDepth 20000 in
theorem gX6_advance_X6_cellOfDrone : GoodIn wsX6_advance (wsV RX6 153 RX6 yX6_cellOfDrone wsX6_cellOfDrone) := goodIn_app (goodIn_of _ (by decide +kernel)) ggX6_advance_X6_cellOfDrone
set_option maxRecDepth 20000 in
theorem ggX6_advance_X5_move : GoodIn wsX6_advance wsX5_move := goodIn_r _ [34, 35, 36, 37, 38, 33, 39, 40, 67, 68] (by decide +kernel) (by decide +kernel)
set_option maxRecDepth 20000 in
theorem gX6_advance_X5_move : GoodIn wsX6_advance (wsV RX6 156 RX5 yX5_move wsX5_move) := goodIn_app (goodIn_of _ (by decide +kernel)) ggX6_advance_X5_move
set_option maxRecDepth 20000 in
theorem ggX6_advance_X6_ticksLeft : GoodIn wsX6_advance wsX6_ticksLeft := goodIn_r _ [44, 45, 1, 19, 20, 4, 21, 14, 15, 16, 12, 17, 18, 2, 3, 5, 62, 63, 64, 65, 66, 46, 47, 48, 49, 50, 51, 52, 53, 54, 55, 56] (by decide +kernel) (by decide +kernel)
set_option maxRecDepth 20000 in
theorem gX6_advance_X6_ticksLeft : GoodIn wsX6_advance (wsV RX6 159 RX6 yX6_ticksLeft wsX6_ticksLeft) := goodIn_app (goodIn_of _ (by decide +kernel)) ggX6_advance_X6_ticksLeft
set_option maxRecDepth 20000 in
theorem ggX6_takeOrder_X0_timeOf : GoodIn wsX6_takeOrder wsX0_timeOf := goodIn_r _ [9, 10, 11, 12, 8, 13, 14, 15, 16, 17, 18, 19, 20, 21, 22, 23, 24, 25, 26, 27, 28, 29, 30, 31, 32, 33, 34, 35, 36, 37, 38, 39, 40, 41, 72, 73, 74, 75, 76, 77, 78, 79, 80, 81, 82, 83, 84, 85, 86, 87, 88, 89] (by decide +kernel) (by decide +kernel)
set_option maxRecDepth 20000 in
theorem gX6_takeOrder_X0_timeOf : GoodIn wsX6_takeOrder (wsV RX6 162 RX0 yX0_timeOf wsX0_timeOf) := goodIn_app (goodIn_of _ (by decide +kernel)) ggX6_takeOrder_X0_timeOf
set_option maxRecDepth 20000 in
theorem ggX6_takeOrder_X6_flightOf : GoodIn wsX6_takeOrder wsX6_flightOf := goodIn_r _ [46, 47, 48, 49, 50, 51, 52, 53, 54, 56, 57, 58, 59, 60, 61, 62, 63, 64, 65, 66] (by decide +kernel) (by decide +kernel)
set_option maxRecDepth 20000 in
theorem gX6_takeOrder_X6_flightOf : GoodIn wsX6_takeOrder (wsV RX6 104 RX6 yX6_flightOf wsX6_flightOf) := goodIn_app (goodIn_of _ (by decide +kernel)) ggX6_takeOrder_X6_flightOf
set_option maxRecDepth 20000 in
theorem ggX6_takeOrder_X0_slotOf : GoodIn wsX6_takeOrder wsX0_slotOf := goodIn_r _ [13, 14, 72, 73, 74, 75, 76, 77, 78, 79, 80] (by decide +kernel) (by decide +kernel)
set_option maxRecDepth 20000 in
theorem gX6_takeOrder_X0_slotOf : GoodIn wsX6_takeOrder (wsV RX6 165 RX0 yX0_slotOf wsX0_slotOf) := goodIn_app (goodIn_of _ (by decide +kernel)) ggX6_takeOrder_X0_slotOf
set_option maxRecDepth 20000 in
theorem ggX6_goalOf_X6_flightOf : GoodIn wsX6_goalOf wsX6_flightOf := goodIn_r _ [8, 9, 10, 11, 12, 13, 14, 15, 16, 28, 29, 30, 31, 32, 33, 34, 35, 36, 37, 38] (by decide +kernel) (by decide +kernel)
set_option maxRecDepth 20000 in
theorem gX6_goalOf_X6_flightOf : GoodIn wsX6_goalOf (wsV RX6 104 RX6 yX6_flightOf wsX6_flightOf) := goodIn_app (goodIn_of _ (by decide +kernel)) ggX6_goalOf_X6_flightOf
set_option maxRecDepth 20000 in
theorem ggX6_goalOf_X5_cellAt : GoodIn wsX6_goalOf wsX5_cellAt := goodIn_r _ [21, 22, 23, 24, 25, 20, 26, 27, 49, 50] (by decide +kernel) (by decide +kernel)
set_option maxRecDepth 20000 in
theorem gX6_goalOf_X5_cellAt : GoodIn wsX6_goalOf (wsV RX6 88 RX5 yX5_cellAt wsX5_cellAt) := goodIn_app (goodIn_of _ (by decide +kernel)) ggX6_goalOf_X5_cellAt
set_option maxRecDepth 20000 in
theorem ggX6_isMet_X4_next : GoodIn wsX6_isMet wsX4_next := goodIn_r _ [6, 7, 8, 9, 10, 11, 12, 13, 14, 44, 45, 46, 47, 48, 49, 50] (by decide +kernel) (by decide +kernel)
set_option maxRecDepth 20000 in
theorem gX6_isMet_X4_next : GoodIn wsX6_isMet (wsV RX6 171 RX4 yX4_next wsX4_next) := goodIn_app (goodIn_of _ (by decide +kernel)) ggX6_isMet_X4_next
set_option maxRecDepth 20000 in
theorem ggX6_isMet_X4_ticks : GoodIn wsX6_isMet wsX4_ticks := goodIn_r _ [18, 8, 19, 10, 11, 12, 13, 14, 44, 45, 46, 47, 48, 49, 50] (by decide +kernel) (by decide +kernel)
set_option maxRecDepth 20000 in
theorem gX6_isMet_X4_ticks : GoodIn wsX6_isMet (wsV RX6 176 RX4 yX4_ticks wsX4_ticks) := goodIn_app (goodIn_of _ (by decide +kernel)) ggX6_isMet_X4_ticks
set_option maxRecDepth 20000 in
theorem ggX6_isMet_X1_cellAt : GoodIn wsX6_isMet wsX1_cellAt := goodIn_r _ [24, 25, 26, 27, 28, 29, 30, 31, 32, 51, 52, 53, 54, 55] (by decide +kernel) (by decide +kernel)
set_option maxRecDepth 20000 in
theorem gX6_isMet_X1_cellAt : GoodIn wsX6_isMet (wsV RX6 119 RX1 yX1_cellAt wsX1_cellAt) := goodIn_app (goodIn_of _ (by decide +kernel)) ggX6_isMet_X1_cellAt
set_option maxRecDepth 20000 in
theorem ggX6_layWay_X6_goalOf : GoodIn wsX6_layWay wsX6_goalOf := goodIn_r _ [10, 2, 11, 12, 13, 14, 15, 9, 16, 17, 18, 19, 20, 21, 22, 23, 24, 25, 26, 27, 28, 29, 30, 31, 32, 33, 34, 35, 96, 97, 98, 99, 100, 101, 102, 103, 104, 105, 106, 107, 108, 109, 110, 111, 112, 113, 114, 115, 116, 117, 118] (by decide +kernel) (by decide +kernel)
set_option maxRecDepth 20000 in
theorem gX6_layWay_X6_goalOf : GoodIn wsX6_layWay (wsV RX6 94 RX6 yX6_goalOf wsX6_goalOf) := goodIn_app (goodIn_of _ (by decide +kernel)) ggX6_layWay_X6_goalOf
set_option maxRecDepth 20000 in
theorem ggX6_layWay_X9_measure : GoodIn wsX6_layWay wsX9_measure := goodIn_r _ [40, 41, 42, 43, 44, 45, 23, 20, 24, 46, 47, 48, 49, 50, 51, 52, 53, 54, 55, 39, 56, 57, 58, 59, 60, 61, 62, 63, 64, 65, 66, 67, 68, 69, 70, 71, 119, 120, 121, 122, 107, 108, 109, 110, 111] (by decide +kernel) (by decide +kernel)
set_option maxRecDepth 20000 in
theorem gX6_layWay_X9_measure : GoodIn wsX6_layWay (wsV RX6 132 RX9 yX9_measure wsX9_measure) := goodIn_app (goodIn_of _ (by decide +kernel)) ggX6_layWay_X9_measure
set_option maxRecDepth 20000 in
theorem ggX6_layWay_X5_cellAt : GoodIn wsX6_layWay wsX5_cellAt := goodIn_r _ [29, 30, 31, 32, 33, 28, 34, 35, 117, 118] (by decide +kernel) (by decide +kernel)
set_option maxRecDepth 20000 in
theorem gX6_layWay_X5_cellAt : GoodIn wsX6_layWay (wsV RX6 88 RX5 yX5_cellAt wsX5_cellAt) := goodIn_app (goodIn_of _ (by decide +kernel)) ggX6_layWay_X5_cellAt
set_option maxRecDepth 20000 in
theorem ggX6_layWay_X1_begin : GoodIn wsX6_layWay wsX1_begin := goodIn_r _ [76, 77, 78, 79, 80, 47, 48, 49, 112, 113, 114, 115, 116] (by decide +kernel) (by decide +kernel)
set_option maxRecDepth 20000 in
theorem gX6_layWay_X1_begin : GoodIn wsX6_layWay (wsV RX6 179 RX1 yX1_begin wsX1_begin) := goodIn_app (goodIn_of _ (by decide +kernel)) ggX6_layWay_X1_begin
set_option maxRecDepth 20000 in
theorem ggX6_layWay_X9_firstAction : GoodIn wsX6_layWay wsX9_firstAction := goodIn_r _ [84, 42, 57, 58, 59, 60, 61, 62, 63, 64, 50, 51, 52, 65, 66, 85, 86, 87, 39, 88, 41, 67, 68, 69, 70, 71, 119, 120, 121, 122, 107, 108, 109, 110, 111] (by decide +kernel) (by decide +kernel)
set_option maxRecDepth 20000 in
theorem gX6_layWay_X9_firstAction : GoodIn wsX6_layWay (wsV RX6 139 RX9 yX9_firstAction wsX9_firstAction) := goodIn_app (goodIn_of _ (by decide +kernel)) ggX6_layWay_X9_firstAction
set_option maxRecDepth 20000 in
theorem ggX6_layWay_X4_next : GoodIn wsX6_layWay wsX4_next := goodIn_r _ [61, 62, 63, 64, 50, 51, 52, 65, 66, 121, 122, 107, 108, 109, 110, 111] (by decide +kernel) (by decide +kernel)
set_option maxRecDepth 20000 in
theorem gX6_layWay_X4_next : GoodIn wsX6_layWay (wsV RX6 171 RX4 yX4_next wsX4_next) := goodIn_app (goodIn_of _ (by decide +kernel)) ggX6_layWay_X4_next
set_option maxRecDepth 20000 in
theorem ggX6_layWay_X4_ticks : GoodIn wsX6_layWay wsX4_ticks := goodIn_r _ [70, 63, 71, 50, 51, 52, 65, 66, 121, 122, 107, 108, 109, 110, 111] (by decide +kernel) (by decide +kernel)
set_option maxRecDepth 20000 in
theorem gX6_layWay_X4_ticks : GoodIn wsX6_layWay (wsV RX6 176 RX4 yX4_ticks wsX4_ticks) := goodIn_app (goodIn_of _ (by decide +kernel)) ggX6_layWay_X4_ticks
set_option maxRecDepth 20000 in
theorem ggX6_layWay_X1_add : GoodIn wsX6_layWay wsX1_add := goodIn_r _ [94, 77, 79, 95, 23, 20, 24, 78, 112, 113, 114, 115, 116] (by decide +kernel) (by decide +kernel)
set_option maxRecDepth 20000 in
theorem gX6_layWay_X1_add : GoodIn wsX6_layWay (wsV RX6 182 RX1 yX1_add wsX1_add) := goodIn_app (goodIn_of _ (by decide +kernel)) ggX6_layWay_X1_add
set_option maxRecDepth 20000 in
theorem ggX7_free_J7_fill_53178 : GoodIn wsX7_free wsJ7_fill_53178 := goodIn_r _ [5] (by decide +kernel) (by decide +kernel)
set_option maxRecDepth 20000 in
theorem gX7_free_J7_fill_53178 : GoodIn wsX7_free (va_wsS RX7 22 yJ7_fill_53178 wsJ7_fill_53178) := goodIn_app (goodIn_of _ (by decide +kernel)) ggX7_free_J7_fill_53178
set_option maxRecDepth 20000 in
theorem ggX7_hold_X1_cellAt : GoodIn wsX7_hold wsX1_cellAt := goodIn_r _ [6, 7, 8, 9, 10, 11, 12, 13, 14, 25, 26, 27, 28, 29] (by decide +kernel) (by decide +kernel)
set_option maxRecDepth 20000 in
theorem gX7_hold_X1_cellAt : GoodIn wsX7_hold (wsV RX7 28 RX1 yX1_cellAt wsX1_cellAt) := goodIn_app (goodIn_of _ (by decide +kernel)) ggX7_hold_X1_cellAt
set_option maxRecDepth 20000 in
theorem ggX7_hold_X7_spot : GoodIn wsX7_hold wsX7_spot := goodIn_r _ [18, 19, 20, 21] (by decide +kernel) (by decide +kernel)
set_option maxRecDepth 20000 in
theorem gX7_hold_X7_spot : GoodIn wsX7_hold (va_wsS RX7 34 yX7_spot wsX7_spot) := goodIn_app (goodIn_of _ (by decide +kernel)) ggX7_hold_X7_spot
set_option maxRecDepth 20000 in
theorem ggX7_earliestArrival_J7_fill_53178 : GoodIn wsX7_earliestArrival wsJ7_fill_53178 := goodIn_r _ [5] (by decide +kernel) (by decide +kernel)
set_option maxRecDepth 20000 in
theorem gX7_earliestArrival_J7_fill_53178 : GoodIn wsX7_earliestArrival (va_wsS RX7 22 yJ7_fill_53178 wsJ7_fill_53178) := goodIn_app (goodIn_of _ (by decide +kernel)) ggX7_earliestArrival_J7_fill_53178
set_option maxRecDepth 20000 in
theorem ggX7_earliestArrival_X7_spot : GoodIn wsX7_earliestArrival wsX7_spot := goodIn_r _ [9, 10, 11, 12] (by decide +kernel) (by decide +kernel)
set_option maxRecDepth 20000 in
theorem gX7_earliestArrival_X7_spot : GoodIn wsX7_earliestArrival (va_wsS RX7 34 yX7_spot wsX7_spot) := goodIn_app (goodIn_of _ (by decide +kernel)) ggX7_earliestArrival_X7_spot
set_option maxRecDepth 20000 in
theorem ggX7_earliestArrival_X7_mark : GoodIn wsX7_earliestArrival wsX7_mark := goodIn_r _ [16, 1, 54, 55, 56] (by decide +kernel) (by decide +kernel)
set_option maxRecDepth 20000 in
theorem gX7_earliestArrival_X7_mark : GoodIn wsX7_earliestArrival (wsV RX7 38 RX7 yX7_mark wsX7_mark) := goodIn_app (goodIn_of _ (by decide +kernel)) ggX7_earliestArrival_X7_mark
set_option maxRecDepth 20000 in
theorem ggX7_earliestArrival_X7_freeFrom : GoodIn wsX7_earliestArrival wsX7_freeFrom := goodIn_r _ [20, 21, 6, 7, 8, 9, 10, 11, 12, 54, 55, 56] (by decide +kernel) (by decide +kernel)
set_option maxRecDepth 20000 in
theorem gX7_earliestArrival_X7_freeFrom : GoodIn wsX7_earliestArrival (wsV RX7 42 RX7 yX7_freeFrom wsX7_freeFrom) := goodIn_app (goodIn_of _ (by decide +kernel)) ggX7_earliestArrival_X7_freeFrom
set_option maxRecDepth 20000 in
theorem ggX7_earliestArrival_X7_isUsable : GoodIn wsX7_earliestArrival wsX7_isUsable := goodIn_r _ [25, 1, 54, 55, 56] (by decide +kernel) (by decide +kernel)
set_option maxRecDepth 20000 in
theorem gX7_earliestArrival_X7_isUsable : GoodIn wsX7_earliestArrival (wsV RX7 45 RX7 yX7_isUsable wsX7_isUsable) := goodIn_app (goodIn_of _ (by decide +kernel)) ggX7_earliestArrival_X7_isUsable
set_option maxRecDepth 20000 in
theorem ggX7_earliestArrival_X7_spread : GoodIn wsX7_earliestArrival wsX7_spread := goodIn_r _ [29, 30, 31, 32, 8, 33, 34, 35, 36, 37, 38, 39, 40, 41, 42, 10, 11, 12, 43, 44, 45, 46, 47, 48, 49, 50, 51, 52, 53, 21, 6, 7, 9, 13, 14, 15, 16, 1, 54, 55, 56, 57, 58, 59, 60, 61, 62, 63] (by decide +kernel) (by decide +kernel)
set_option maxRecDepth 20000 in
theorem gX7_earliestArrival_X7_spread : GoodIn wsX7_earliestArrival (wsV RX7 49 RX7 yX7_spread wsX7_spread) := goodIn_app (goodIn_of _ (by decide +kernel)) ggX7_earliestArrival_X7_spread
set_option maxRecDepth 20000 in
theorem ggX7_prune_X7_spot : GoodIn wsX7_prune wsX7_spot := goodIn_r _ [4, 5, 6, 7] (by decide +kernel) (by decide +kernel)
set_option maxRecDepth 20000 in
theorem gX7_prune_X7_spot : GoodIn wsX7_prune (va_wsS RX7 34 yX7_spot wsX7_spot) := goodIn_app (goodIn_of _ (by decide +kernel)) ggX7_prune_X7_spot
set_option maxRecDepth 20000 in
theorem ggX7_prune_X7_isUsable : GoodIn wsX7_prune wsX7_isUsable := goodIn_r _ [11, 12, 46, 47, 48] (by decide +kernel) (by decide +kernel)
set_option maxRecDepth 20000 in
theorem gX7_prune_X7_isUsable : GoodIn wsX7_prune (wsV RX7 45 RX7 yX7_isUsable wsX7_isUsable) := goodIn_app (goodIn_of _ (by decide +kernel)) ggX7_prune_X7_isUsable
set_option maxRecDepth 20000 in
theorem ggX7_prune_X7_leastAction : GoodIn wsX7_prune wsX7_leastAction := goodIn_r _ [16, 17, 18, 19, 3, 20, 21, 22, 23, 24, 25, 26, 27, 28, 29, 5, 6, 7, 30, 31, 32, 33, 34, 35, 36, 37, 38, 39, 40, 41, 1, 2, 4, 8, 9, 10, 11, 12, 46, 47, 48, 49, 50, 51, 52, 53, 54, 55] (by decide +kernel) (by decide +kernel)
set_option maxRecDepth 20000 in
theorem gX7_prune_X7_leastAction : GoodIn wsX7_prune (wsV RX7 52 RX7 yX7_leastAction wsX7_leastAction) := goodIn_app (goodIn_of _ (by decide +kernel)) ggX7_prune_X7_leastAction
set_option maxRecDepth 20000 in
theorem ggX7_prune_X7_mark : GoodIn wsX7_prune wsX7_mark := goodIn_r _ [45, 12, 46, 47, 48] (by decide +kernel) (by decide +kernel)
set_option maxRecDepth 20000 in
theorem gX7_prune_X7_mark : GoodIn wsX7_prune (wsV RX7 38 RX7 yX7_mark wsX7_mark) := goodIn_app (goodIn_of _ (by decide +kernel)) ggX7_prune_X7_mark
set_option maxRecDepth 20000 in
theorem ggX7_follow_X1_begin : GoodIn wsX7_follow wsX1_begin := goodIn_r _ [7, 8, 9, 10, 11, 12, 13, 14, 63, 64, 65, 66, 67] (by decide +kernel) (by decide +kernel)
set_option maxRecDepth 20000 in
theorem gX7_follow_X1_begin : GoodIn wsX7_follow (wsV RX7 55 RX1 yX1_begin wsX1_begin) := goodIn_app (goodIn_of _ (by decide +kernel)) ggX7_follow_X1_begin
set_option maxRecDepth 20000 in
theorem ggX7_follow_X7_leastAction : GoodIn wsX7_follow wsX7_leastAction := goodIn_r _ [19, 20, 21, 22, 18, 23, 2, 24, 25, 26, 27, 28, 29, 30, 31, 32, 33, 34, 35, 36, 37, 38, 39, 40, 41, 42, 43, 44, 45, 46, 47, 48, 49, 50, 51, 52, 53, 54, 68, 69, 70, 71, 72, 73, 74, 75, 76, 77] (by decide +kernel) (by decide +kernel)
set_option maxRecDepth 20000 in
theorem gX7_follow_X7_leastAction : GoodIn wsX7_follow (wsV RX7 52 RX7 yX7_leastAction wsX7_leastAction) := goodIn_app (goodIn_of _ (by decide +kernel)) ggX7_follow_X7_leastAction
set_option maxRecDepth 20000 in
theorem ggX7_follow_X4_next : GoodIn wsX7_follow wsX4_next := goodIn_r _ [28, 29, 30, 31, 32, 33, 34, 35, 36, 71, 72, 73, 74, 75, 76, 77] (by decide +kernel) (by decide +kernel)
set_option maxRecDepth 20000 in
theorem gX7_follow_X4_next : GoodIn wsX7_follow (wsV RX7 63 RX4 yX4_next wsX4_next) := goodIn_app (goodIn_of _ (by decide +kernel)) ggX7_follow_X4_next
set_option maxRecDepth 20000 in
theorem ggX7_follow_X4_ticks : GoodIn wsX7_follow wsX4_ticks := goodIn_r _ [40, 30, 41, 32, 33, 34, 35, 36, 71, 72, 73, 74, 75, 76, 77] (by decide +kernel) (by decide +kernel)
set_option maxRecDepth 20000 in
theorem gX7_follow_X4_ticks : GoodIn wsX7_follow (wsV RX7 68 RX4 yX4_ticks wsX4_ticks) := goodIn_app (goodIn_of _ (by decide +kernel)) ggX7_follow_X4_ticks
set_option maxRecDepth 20000 in
theorem ggX7_follow_X1_add : GoodIn wsX7_follow wsX1_add := goodIn_r _ [58, 8, 10, 59, 60, 61, 62, 9, 63, 64, 65, 66, 67] (by decide +kernel) (by decide +kernel)
set_option maxRecDepth 20000 in
theorem gX7_follow_X1_add : GoodIn wsX7_follow (wsV RX7 71 RX1 yX1_add wsX1_add) := goodIn_app (goodIn_of _ (by decide +kernel)) ggX7_follow_X1_add
set_option maxRecDepth 20000 in
theorem ggX7_freeFrom_X7_spot : GoodIn wsX7_freeFrom wsX7_spot := goodIn_r _ [5, 6, 7, 8] (by decide +kernel) (by decide +kernel)
set_option maxRecDepth 20000 in
theorem gX7_freeFrom_X7_spot : GoodIn wsX7_freeFrom (va_wsS RX7 34 yX7_spot wsX7_spot) := goodIn_app (goodIn_of _ (by decide +kernel)) ggX7_freeFrom_X7_spot
set_option maxRecDepth 20000 in
theorem ggX7_spread_X7_landing : GoodIn wsX7_spread wsX7_landing := goodIn_r _ [5, 6, 7, 8, 9, 10, 11, 12, 13, 14, 15, 16, 17, 18, 19, 20, 21, 22, 23, 24, 25, 26, 27, 4, 28, 29, 30, 31, 32, 38, 39, 40, 41, 42, 43, 44, 45, 46, 47] (by decide +kernel) (by decide +kernel)
set_option maxRecDepth 20000 in
theorem gX7_spread_X7_landing : GoodIn wsX7_spread (wsV RX7 75 RX7 yX7_landing wsX7_landing) := goodIn_app (goodIn_of _ (by decide +kernel)) ggX7_spread_X7_landing
set_option maxRecDepth 20000 in
theorem ggX7_spread_X7_mark : GoodIn wsX7_spread wsX7_mark := goodIn_r _ [36, 37, 38, 39, 40] (by decide +kernel) (by decide +kernel)
set_option maxRecDepth 20000 in
theorem gX7_spread_X7_mark : GoodIn wsX7_spread (wsV RX7 38 RX7 yX7_mark wsX7_mark) := goodIn_app (goodIn_of _ (by decide +kernel)) ggX7_spread_X7_mark
set_option maxRecDepth 20000 in
theorem ggX7_leastAction_X7_landing : GoodIn wsX7_leastAction wsX7_landing := goodIn_r _ [5, 6, 7, 8, 9, 10, 11, 12, 13, 14, 15, 16, 17, 18, 19, 20, 21, 22, 23, 24, 25, 26, 27, 4, 28, 29, 30, 31, 32, 38, 39, 40, 41, 42, 43, 44, 45, 46, 47] (by decide +kernel) (by decide +kernel)
set_option maxRecDepth 20000 in
theorem gX7_leastAction_X7_landing : GoodIn wsX7_leastAction (wsV RX7 75 RX7 yX7_landing wsX7_landing) := goodIn_app (goodIn_of _ (by decide +kernel)) ggX7_leastAction_X7_landing
set_option maxRecDepth 20000 in
theorem ggX7_leastAction_X7_isUsable : GoodIn wsX7_leastAction wsX7_isUsable := goodIn_r _ [36, 37, 38, 39, 40] (by decide +kernel) (by decide +kernel)
set_option maxRecDepth 20000 in
theorem gX7_leastAction_X7_isUsable : GoodIn wsX7_leastAction (wsV RX7 45 RX7 yX7_isUsable wsX7_isUsable) := goodIn_app (goodIn_of _ (by decide +kernel)) ggX7_leastAction_X7_isUsable
set_option maxRecDepth 20000 in
theorem ggX7_landing_X4_next : GoodIn wsX7_landing wsX4_next := goodIn_r _ [6, 7, 8, 9, 10, 11, 12, 13, 14, 32, 33, 34, 35, 36, 37, 38] (by decide +kernel) (by decide +kernel)
set_option maxRecDepth 20000 in
theorem gX7_landing_X4_next : GoodIn wsX7_landing (wsV RX7 63 RX4 yX4_next wsX4_next) := goodIn_app (goodIn_of _ (by decide +kernel)) ggX7_landing_X4_next
set_option maxRecDepth 20000 in
theorem ggX7_landing_X4_ticks : GoodIn wsX7_landing wsX4_ticks := goodIn_r _ [18, 8, 19, 10, 11, 12, 13, 14, 32, 33, 34, 35, 36, 37, 38] (by decide +kernel) (by decide +kernel)
set_option maxRecDepth 20000 in
theorem gX7_landing_X4_ticks : GoodIn wsX7_landing (wsV RX7 68 RX4 yX4_ticks wsX4_ticks) := goodIn_app (goodIn_of _ (by decide +kernel)) ggX7_landing_X4_ticks
set_option maxRecDepth 20000 in
theorem ggX7_landing_X7_canStep : GoodIn wsX7_landing wsX7_canStep := goodIn_r _ [24, 25, 10, 11, 12, 29, 30, 31] (by decide +kernel) (by decide +kernel)
set_option maxRecDepth 20000 in
theorem gX7_landing_X7_canStep : GoodIn wsX7_landing (wsV RX7 79 RX7 yX7_canStep wsX7_canStep) := goodIn_app (goodIn_of _ (by decide +kernel)) ggX7_landing_X7_canStep
set_option maxRecDepth 20000 in
theorem ggX7_landing_X7_spot : GoodIn wsX7_landing wsX7_spot := goodIn_r _ [28, 10, 11, 12] (by decide +kernel) (by decide +kernel)
set_option maxRecDepth 20000 in
theorem gX7_landing_X7_spot : GoodIn wsX7_landing (va_wsS RX7 34 yX7_spot wsX7_spot) := goodIn_app (goodIn_of _ (by decide +kernel)) ggX7_landing_X7_spot
set_option maxRecDepth 20000 in
theorem ggX7_canStep_X10_isCell : GoodIn wsX7_canStep wsX10_isCell := goodIn_r _ [4] (by decide +kernel) (by decide +kernel)
set_option maxRecDepth 20000 in
theorem gX7_canStep_X10_isCell_n83 : GoodIn wsX7_canStep (wsX10_isCell) := ggX7_canStep_X10_isCell
set_option maxRecDepth 20000 in
theorem ggX7_spot_X10_isCell : GoodIn wsX7_spot wsX10_isCell := goodIn_r _ [3] (by decide +kernel) (by decide +kernel)
set_option maxRecDepth 20000 in
theorem gX7_spot_X10_isCell_n83 : GoodIn wsX7_spot (wsX10_isCell) := ggX7_spot_X10_isCell
set_option maxRecDepth 20000 in
theorem ggX8_init_X5_init : GoodIn wsX8_init wsX5_init := goodIn_r _ [13, 14, 2, 3, 4, 15, 21, 22] (by decide +kernel) (by decide +kernel)
set_option maxRecDepth 20000 in
theorem gX8_init_X5_init_n20 : GoodIn wsX8_init (wsX5_init) := ggX8_init_X5_init
set_option maxRecDepth 20000 in
theorem ggX8_hasObstacleAt_X10_isCell : GoodIn wsX8_hasObstacleAt wsX10_isCell := goodIn_r _ [4] (by decide +kernel) (by decide +kernel)
set_option maxRecDepth 20000 in
theorem gX8_hasObstacleAt_X10_isCell_n28 : GoodIn wsX8_hasObstacleAt (wsX10_isCell) := ggX8_hasObstacleAt_X10_isCell
set_option maxRecDepth 20000 in
theorem ggX8_dronesAtSlots_X5_cellAt : GoodIn wsX8_dronesAtSlots wsX5_cellAt := goodIn_r _ [8, 9, 10, 11, 12, 7, 13, 14, 24, 25] (by decide +kernel) (by decide +kernel)
set_option maxRecDepth 20000 in
theorem gX8_dronesAtSlots_X5_cellAt : GoodIn wsX8_dronesAtSlots (wsV RX8 36 RX5 yX5_cellAt wsX5_cellAt) := goodIn_app (goodIn_of _ (by decide +kernel)) ggX8_dronesAtSlots_X5_cellAt
set_option maxRecDepth 20000 in
theorem ggX8_dronesAtSlots_X5_find : GoodIn wsX8_dronesAtSlots wsX5_find := goodIn_r _ [18, 14, 9, 24, 25] (by decide +kernel) (by decide +kernel)
set_option maxRecDepth 20000 in
theorem gX8_dronesAtSlots_X5_find : GoodIn wsX8_dronesAtSlots (wsV RX8 40 RX5 yX5_find wsX5_find) := goodIn_app (goodIn_of _ (by decide +kernel)) ggX8_dronesAtSlots_X5_find
set_option maxRecDepth 20000 in
theorem ggX8_copyFrom_X5_copyFrom : GoodIn wsX8_copyFrom wsX5_copyFrom := goodIn_r _ [14, 15, 16, 3, 4, 5, 17, 23, 24] (by decide +kernel) (by decide +kernel)
set_option maxRecDepth 20000 in
theorem gX8_copyFrom_X5_copyFrom : GoodIn wsX8_copyFrom (wsV RX8 49 RX5 yX5_copyFrom wsX5_copyFrom) := goodIn_app (goodIn_of _ (by decide +kernel)) ggX8_copyFrom_X5_copyFrom
set_option maxRecDepth 20000 in
theorem ggX9_measure_J7_fill_53178 : GoodIn wsX9_measure wsJ7_fill_53178 := goodIn_r _ [12] (by decide +kernel) (by decide +kernel)
set_option maxRecDepth 20000 in
theorem gX9_measure_J7_fill_53178 : GoodIn wsX9_measure (va_wsS RX9 19 yJ7_fill_53178 wsJ7_fill_53178) := goodIn_app (goodIn_of _ (by decide +kernel)) ggX9_measure_J7_fill_53178
set_option maxRecDepth 20000 in
theorem ggX9_measure_X10_isCell : GoodIn wsX9_measure wsX10_isCell := goodIn_r _ [15] (by decide +kernel) (by decide +kernel)
set_option maxRecDepth 20000 in
theorem gX9_measure_X10_isCell_n25 : GoodIn wsX9_measure (wsX10_isCell) := ggX9_measure_X10_isCell
set_option maxRecDepth 20000 in
theorem ggX9_measure_X9_spreadBack : GoodIn wsX9_measure wsX9_spreadBack := goodIn_r _ [20, 2, 1, 5, 6, 7, 8, 21, 22, 23, 24, 25, 26, 27, 28, 13, 14, 15, 29, 30, 31, 32, 33, 34, 35, 36, 37, 38, 39, 40, 41, 42, 43, 44] (by decide +kernel) (by decide +kernel)
set_option maxRecDepth 20000 in
theorem gX9_measure_X9_spreadBack : GoodIn wsX9_measure (wsV RX9 40 RX9 yX9_spreadBack wsX9_spreadBack) := goodIn_app (goodIn_of _ (by decide +kernel)) ggX9_measure_X9_spreadBack
set_option maxRecDepth 20000 in
theorem ggX9_timeFrom_X10_isCell : GoodIn wsX9_timeFrom wsX10_isCell := goodIn_r _ [4] (by decide +kernel) (by decide +kernel)
set_option maxRecDepth 20000 in
theorem gX9_timeFrom_X10_isCell_n25 : GoodIn wsX9_timeFrom (wsX10_isCell) := ggX9_timeFrom_X10_isCell
set_option maxRecDepth 20000 in
theorem ggX9_firstAction_X4_next : GoodIn wsX9_firstAction wsX4_next := goodIn_r _ [6, 7, 8, 9, 10, 11, 12, 13, 14, 28, 29, 30, 31, 32, 33, 34] (by decide +kernel) (by decide +kernel)
set_option maxRecDepth 20000 in
theorem gX9_firstAction_X4_next : GoodIn wsX9_firstAction (wsV RX9 49 RX4 yX4_next wsX4_next) := goodIn_app (goodIn_of _ (by decide +kernel)) ggX9_firstAction_X4_next
set_option maxRecDepth 20000 in
theorem ggX9_firstAction_X9_timeFrom : GoodIn wsX9_firstAction wsX9_timeFrom := goodIn_r _ [19, 20, 10, 11, 12, 26, 27] (by decide +kernel) (by decide +kernel)
set_option maxRecDepth 20000 in
theorem gX9_firstAction_X9_timeFrom : GoodIn wsX9_firstAction (wsV RX9 52 RX9 yX9_timeFrom wsX9_timeFrom) := goodIn_app (goodIn_of _ (by decide +kernel)) ggX9_firstAction_X9_timeFrom
set_option maxRecDepth 20000 in
theorem ggX9_firstAction_X4_ticks : GoodIn wsX9_firstAction wsX4_ticks := goodIn_r _ [24, 8, 25, 10, 11, 12, 13, 14, 28, 29, 30, 31, 32, 33, 34] (by decide +kernel) (by decide +kernel)
set_option maxRecDepth 20000 in
theorem gX9_firstAction_X4_ticks : GoodIn wsX9_firstAction (wsV RX9 56 RX4 yX4_ticks wsX4_ticks) := goodIn_app (goodIn_of _ (by decide +kernel)) ggX9_firstAction_X4_ticks
set_option maxRecDepth 20000 in
theorem ggX9_spreadBack_X4_next : GoodIn wsX9_spreadBack wsX4_next := goodIn_r _ [11, 12, 13, 14, 15, 16, 17, 18, 19, 27, 28, 29, 30, 31, 32, 33] (by decide +kernel) (by decide +kernel)
set_option maxRecDepth 20000 in
theorem gX9_spreadBack_X4_next : GoodIn wsX9_spreadBack (wsV RX9 49 RX4 yX4_next wsX4_next) := goodIn_app (goodIn_of _ (by decide +kernel)) ggX9_spreadBack_X4_next
set_option maxRecDepth 20000 in
theorem ggX9_spreadBack_X10_isCell : GoodIn wsX9_spreadBack wsX10_isCell := goodIn_r _ [17] (by decide +kernel) (by decide +kernel)
set_option maxRecDepth 20000 in
theorem gX9_spreadBack_X10_isCell_n25 : GoodIn wsX9_spreadBack (wsX10_isCell) := ggX9_spreadBack_X10_isCell
set_option maxRecDepth 20000 in
theorem ggX9_spreadBack_X4_ticks : GoodIn wsX9_spreadBack wsX4_ticks := goodIn_r _ [23, 13, 24, 15, 16, 17, 18, 19, 27, 28, 29, 30, 31, 32, 33] (by decide +kernel) (by decide +kernel)
set_option maxRecDepth 20000 in
theorem gX9_spreadBack_X4_ticks : GoodIn wsX9_spreadBack (wsV RX9 56 RX4 yX4_ticks wsX4_ticks) := goodIn_app (goodIn_of _ (by decide +kernel)) ggX9_spreadBack_X4_ticks
set_option maxRecDepth 20000 in
theorem ggX10_init_X8_init : GoodIn wsX10_init wsX8_init := goodIn_r _ [32, 33, 2, 3, 34, 35, 36, 37, 38, 39, 40, 41, 42, 43, 44, 45, 120, 121, 122, 123, 124, 163, 164] (by decide +kernel) (by decide +kernel)
set_option maxRecDepth 20000 in
theorem gX10_init_X8_init_n11 : GoodIn wsX10_init (wsX8_init) := ggX10_init_X8_init
set_option maxRecDepth 20000 in
theorem ggX10_init_X3_init : GoodIn wsX10_init wsX3_init := goodIn_r _ [48, 49, 2, 3, 50, 51, 5, 6, 31, 32, 33, 34, 35, 36, 37, 38, 39, 40, 41, 42, 43, 44, 45, 131, 132, 133, 120, 121, 122, 123, 124, 163, 164] (by decide +kernel) (by decide +kernel)
set_option maxRecDepth 20000 in
theorem gX10_init_X3_init : GoodIn wsX10_init (wsX3_init) := ggX10_init_X3_init
set_option maxRecDepth 20000 in
theorem ggX10_init_X2_init : GoodIn wsX10_init wsX2_init := goodIn_r _ [53, 54, 2, 3, 34, 55, 56, 38, 39, 57, 42, 43, 44, 45, 134, 135, 136, 137, 138, 163, 164] (by decide +kernel) (by decide +kernel)
set_option maxRecDepth 20000 in
theorem gX10_init_X2_init_n25 : GoodIn wsX10_init (wsX2_init) := ggX10_init_X2_init
set_option maxRecDepth 20000 in
theorem ggX10_init_X4_init : GoodIn wsX10_init wsX4_init := goodIn_r _ [60, 61, 2, 3, 34, 62, 63, 64, 65, 18, 66, 67, 68, 69, 70, 71, 139, 140] (by decide +kernel) (by decide +kernel)
set_option maxRecDepth 20000 in
theorem gX10_init_X4_init : GoodIn wsX10_init (wsX4_init) := ggX10_init_X4_init
set_option maxRecDepth 20000 in
theorem ggX10_init_X9_init : GoodIn wsX10_init wsX9_init := goodIn_r _ [74, 75, 2, 3, 34, 76, 77, 141, 142] (by decide +kernel) (by decide +kernel)
set_option maxRecDepth 20000 in
theorem gX10_init_X9_init : GoodIn wsX10_init (wsX9_init) := ggX10_init_X9_init
set_option maxRecDepth 20000 in
theorem ggX10_init_X0_init : GoodIn wsX10_init wsX0_init := goodIn_r _ [80, 81, 2, 3, 82, 83, 34, 84, 85, 86, 20, 21, 87, 73, 74, 75, 76, 77, 143, 144, 145, 146, 147, 148, 149, 150, 151, 141, 142] (by decide +kernel) (by decide +kernel)
set_option maxRecDepth 20000 in
theorem gX10_init_X0_init : GoodIn wsX10_init (wsX0_init) := ggX10_init_X0_init
set_option maxRecDepth 20000 in
theorem ggX10_init_X6_init : GoodIn wsX10_init wsX6_init := goodIn_r _ [90, 91, 2, 3, 92, 93, 94, 34, 95, 96, 97, 98, 99, 20, 21, 100, 101, 102, 103, 104, 105, 106, 107, 73, 74, 75, 76, 77, 108, 109, 110, 111, 112, 113, 114, 115, 116, 117, 118, 119, 152, 153, 154, 155, 156, 157, 158, 159, 160, 161, 162, 141, 142, 165, 166, 167, 168, 169, 170, 171, 172] (by decide +kernel) (by decide +kernel)
set_option maxRecDepth 20000 in
theorem gX10_init_X6_init : GoodIn wsX10_init (wsX6_init) := ggX10_init_X6_init
set_option maxRecDepth 20000 in
theorem ggX10_setWind_X10_isLayer : GoodIn wsX10_setWind wsX10_isLayer := goodIn_r _ [6] (by decide +kernel) (by decide +kernel)
set_option maxRecDepth 20000 in
theorem gX10_setWind_X10_isLayer : GoodIn wsX10_setWind (va_wsS RX10 60 yX10_isLayer wsX10_isLayer) := goodIn_app (goodIn_of _ (by decide +kernel)) ggX10_setWind_X10_isLayer
set_option maxRecDepth 20000 in
theorem ggX10_setWind_X10_isWind : GoodIn wsX10_setWind wsX10_isWind := goodIn_r _ [9] (by decide +kernel) (by decide +kernel)
set_option maxRecDepth 20000 in
theorem gX10_setWind_X10_isWind : GoodIn wsX10_setWind (va_wsS RX10 64 yX10_isWind wsX10_isWind) := goodIn_app (goodIn_of _ (by decide +kernel)) ggX10_setWind_X10_isWind
set_option maxRecDepth 20000 in
theorem ggX10_setWind_X10_beginChange : GoodIn wsX10_setWind wsX10_beginChange := goodIn_r _ [13, 14, 1, 15, 16, 17, 18, 19, 20, 21, 22, 23, 24, 25, 26, 27, 28, 29, 30, 31, 32, 33, 34, 35, 36, 37, 38, 39, 40, 41, 42, 43, 44, 45, 46, 47, 48, 49, 50, 51, 52, 53, 54, 55, 56, 57, 58, 59, 60, 61, 62, 63, 64, 65, 66, 72, 73, 74, 67, 68, 69, 70, 71, 75, 76, 77, 78, 79, 80, 81, 82, 83, 84, 85, 86, 87] (by decide +kernel) (by decide +kernel)
set_option maxRecDepth 20000 in
theorem gX10_setWind_X10_beginChange : GoodIn wsX10_setWind (wsV RX10 67 RX10 yX10_beginChange wsX10_beginChange) := goodIn_app (goodIn_of _ (by decide +kernel)) ggX10_setWind_X10_beginChange
set_option maxRecDepth 20000 in
theorem ggX10_setObstacle_X10_isCell : GoodIn wsX10_setObstacle wsX10_isCell := goodIn_r _ [8] (by decide +kernel) (by decide +kernel)
set_option maxRecDepth 20000 in
theorem gX10_setObstacle_X10_isCell : GoodIn wsX10_setObstacle (va_wsS RX10 74 yX10_isCell wsX10_isCell) := goodIn_app (goodIn_of _ (by decide +kernel)) ggX10_setObstacle_X10_isCell
set_option maxRecDepth 20000 in
theorem ggX10_setObstacle_X5_find : GoodIn wsX10_setObstacle wsX5_find := goodIn_r _ [13, 14, 15, 75, 76] (by decide +kernel) (by decide +kernel)
set_option maxRecDepth 20000 in
theorem gX10_setObstacle_X5_find : GoodIn wsX10_setObstacle (wsV RX10 81 RX5 yX5_find wsX5_find) := goodIn_app (goodIn_of _ (by decide +kernel)) ggX10_setObstacle_X5_find
set_option maxRecDepth 20000 in
theorem ggX10_setObstacle_X10_beginChange : GoodIn wsX10_setObstacle wsX10_beginChange := goodIn_r _ [19, 20, 1, 21, 22, 23, 24, 25, 26, 27, 28, 29, 30, 31, 32, 33, 34, 35, 36, 37, 38, 39, 40, 41, 42, 43, 44, 45, 46, 47, 48, 49, 50, 51, 52, 53, 54, 12, 55, 15, 56, 14, 57, 58, 59, 60, 61, 62, 63, 64, 65, 66, 67, 68, 69, 77, 78, 79, 70, 71, 72, 73, 74, 75, 76, 80, 81, 82, 83, 84, 85, 86, 87, 88, 89, 90] (by decide +kernel) (by decide +kernel)
set_option maxRecDepth 20000 in
theorem gX10_setObstacle_X10_beginChange : GoodIn wsX10_setObstacle (wsV RX10 67 RX10 yX10_beginChange wsX10_beginChange) := goodIn_app (goodIn_of _ (by decide +kernel)) ggX10_setObstacle_X10_beginChange
set_option maxRecDepth 20000 in
theorem ggX10_addDrone_X10_addPlace : GoodIn wsX10_addDrone wsX10_addPlace := goodIn_r _ [7, 8, 1, 9, 10, 11, 6, 12, 13, 14, 15, 16, 17, 18, 19, 20, 21, 22, 23, 24, 25, 26, 27, 28, 29, 30, 31, 32, 33, 34, 35, 36, 37, 38, 39, 40, 41, 42, 43, 44, 45, 46, 47, 48, 49, 50, 51, 52, 53, 54, 55, 56, 57, 58, 59, 60, 61, 62, 63, 64, 65, 66, 67, 68, 69, 70, 71, 83, 84, 72, 73, 74, 75, 76, 77, 78, 79, 80, 81, 82, 85, 86, 87, 88, 89, 90, 91, 92, 93, 94, 95, 96, 97, 98] (by decide +kernel) (by decide +kernel)
set_option maxRecDepth 20000 in
theorem gX10_addDrone_X10_addPlace : GoodIn wsX10_addDrone (wsV RX10 93 RX10 yX10_addPlace wsX10_addPlace) := goodIn_app (goodIn_of _ (by decide +kernel)) ggX10_addDrone_X10_addPlace
set_option maxRecDepth 20000 in
theorem ggX10_removeDrone_X10_beginChange : GoodIn wsX10_removeDrone wsX10_beginChange := goodIn_r _ [8, 9, 1, 10, 11, 12, 13, 14, 15, 16, 17, 18, 19, 20, 21, 22, 23, 24, 25, 26, 27, 28, 29, 30, 31, 32, 33, 34, 35, 36, 37, 38, 39, 40, 41, 42, 43, 44, 45, 46, 47, 48, 49, 50, 51, 52, 53, 54, 55, 64, 65, 66, 67, 68, 69, 77, 78, 79, 70, 71, 72, 73, 74, 75, 76, 80, 81, 82, 83, 84, 85, 86, 87, 88, 89, 90] (by decide +kernel) (by decide +kernel)
set_option maxRecDepth 20000 in
theorem gX10_removeDrone_X10_beginChange : GoodIn wsX10_removeDrone (wsV RX10 67 RX10 yX10_beginChange wsX10_beginChange) := goodIn_app (goodIn_of _ (by decide +kernel)) ggX10_removeDrone_X10_beginChange
set_option maxRecDepth 20000 in
theorem ggX10_removeDrone_X5_remove : GoodIn wsX10_removeDrone wsX5_remove := goodIn_r _ [59, 48, 46, 60, 61, 62, 44, 63, 75, 76] (by decide +kernel) (by decide +kernel)
set_option maxRecDepth 20000 in
theorem gX10_removeDrone_X5_remove : GoodIn wsX10_removeDrone (wsV RX10 97 RX5 yX5_remove wsX5_remove) := goodIn_app (goodIn_of _ (by decide +kernel)) ggX10_removeDrone_X5_remove
set_option maxRecDepth 20000 in
theorem ggX10_addSlot_X10_addPlace : GoodIn wsX10_addSlot wsX10_addPlace := goodIn_r _ [7, 8, 1, 9, 10, 11, 6, 12, 13, 14, 15, 16, 17, 18, 19, 20, 21, 22, 23, 24, 25, 26, 27, 28, 29, 30, 31, 32, 33, 34, 35, 36, 37, 38, 39, 40, 41, 42, 43, 44, 45, 46, 47, 48, 49, 50, 51, 52, 53, 54, 55, 56, 57, 58, 59, 60, 61, 62, 63, 64, 65, 66, 67, 68, 69, 70, 71, 83, 84, 72, 73, 74, 75, 76, 77, 78, 79, 80, 81, 82, 85, 86, 87, 88, 89, 90, 91, 92, 93, 94, 95, 96, 97, 98] (by decide +kernel) (by decide +kernel)
set_option maxRecDepth 20000 in
theorem gX10_addSlot_X10_addPlace : GoodIn wsX10_addSlot (wsV RX10 93 RX10 yX10_addPlace wsX10_addPlace) := goodIn_app (goodIn_of _ (by decide +kernel)) ggX10_addSlot_X10_addPlace
set_option maxRecDepth 20000 in
theorem ggX10_clearSlots_X10_beginChange : GoodIn wsX10_clearSlots wsX10_beginChange := goodIn_r _ [8, 9, 1, 10, 11, 12, 13, 14, 15, 16, 17, 18, 19, 20, 21, 22, 23, 24, 25, 26, 27, 28, 29, 30, 31, 32, 33, 34, 35, 36, 37, 38, 39, 40, 41, 42, 43, 44, 45, 46, 47, 48, 49, 50, 51, 52, 53, 54, 55, 60, 61, 62, 63, 64, 65, 73, 74, 75, 66, 67, 68, 69, 70, 71, 72, 76, 77, 78, 79, 80, 81, 82, 83, 84, 85, 86] (by decide +kernel) (by decide +kernel)
set_option maxRecDepth 20000 in
theorem gX10_clearSlots_X10_beginChange : GoodIn wsX10_clearSlots (wsV RX10 67 RX10 yX10_beginChange wsX10_beginChange) := goodIn_app (goodIn_of _ (by decide +kernel)) ggX10_clearSlots_X10_beginChange
set_option maxRecDepth 20000 in
theorem ggX10_clearSlots_X5_clear : GoodIn wsX10_clearSlots wsX5_clear := goodIn_r _ [59, 48, 71, 72] (by decide +kernel) (by decide +kernel)
set_option maxRecDepth 20000 in
theorem gX10_clearSlots_X5_clear : GoodIn wsX10_clearSlots (wsV RX10 104 RX5 yX5_clear wsX5_clear) := goodIn_app (goodIn_of _ (by decide +kernel)) ggX10_clearSlots_X5_clear
set_option maxRecDepth 20000 in
theorem ggX10_append_X2_lengthen : GoodIn wsX10_append wsX2_lengthen := goodIn_r _ [7, 8, 9, 16, 17, 18, 19, 20] (by decide +kernel) (by decide +kernel)
set_option maxRecDepth 20000 in
theorem gX10_append_X2_lengthen : GoodIn wsX10_append (wsV RX10 107 RX2 yX2_lengthen wsX2_lengthen) := goodIn_app (goodIn_of _ (by decide +kernel)) ggX10_append_X2_lengthen
set_option maxRecDepth 20000 in
theorem ggX10_readSlots_X2_read : GoodIn wsX10_readSlots wsX2_read := goodIn_r _ [10, 11, 12, 13, 14, 15, 16, 17, 18, 19, 20, 21, 22, 23, 9, 24, 25, 26, 27, 28, 29, 30, 31, 32, 33, 34, 35, 36, 37, 38, 39, 40, 41, 42, 43, 44, 45, 46, 122, 123, 124, 125, 126, 132, 133] (by decide +kernel) (by decide +kernel)
set_option maxRecDepth 20000 in
theorem gX10_readSlots_X2_read : GoodIn wsX10_readSlots (wsV RX10 114 RX2 yX2_read wsX2_read) := goodIn_app (goodIn_of _ (by decide +kernel)) ggX10_readSlots_X2_read
set_option maxRecDepth 20000 in
theorem ggX10_readSlots_X10_hasObstacle : GoodIn wsX10_readSlots wsX10_hasObstacle := goodIn_r _ [51, 52, 4, 53, 54, 55, 18, 56, 42, 57, 58, 59, 60, 20, 61, 62, 63, 64, 65, 66, 67, 50, 68, 132, 133, 116, 117, 118, 119, 120, 121, 127, 128, 129, 130, 131] (by decide +kernel) (by decide +kernel)
set_option maxRecDepth 20000 in
theorem gX10_readSlots_X10_hasObstacle : GoodIn wsX10_readSlots (wsV RX10 125 RX10 yX10_hasObstacle wsX10_hasObstacle) := goodIn_app (goodIn_of _ (by decide +kernel)) ggX10_readSlots_X10_hasObstacle
set_option maxRecDepth 20000 in
theorem ggX10_readSlots_X10_beginChange : GoodIn wsX10_readSlots wsX10_beginChange := goodIn_r _ [72, 73, 4, 74, 75, 76, 77, 78, 79, 80, 81, 82, 83, 84, 85, 86, 87, 88, 89, 90, 91, 92, 93, 64, 94, 95, 96, 97, 98, 99, 66, 100, 101, 102, 103, 104, 105, 18, 106, 42, 107, 20, 108, 109, 110, 111, 112, 113, 114, 116, 117, 118, 119, 120, 121, 134, 135, 136, 127, 128, 129, 130, 131, 132, 133, 137, 138, 139, 140, 141, 142, 143, 144, 145, 146, 147] (by decide +kernel) (by decide +kernel)
set_option maxRecDepth 20000 in
theorem gX10_readSlots_X10_beginChange : GoodIn wsX10_readSlots (wsV RX10 67 RX10 yX10_beginChange wsX10_beginChange) := goodIn_app (goodIn_of _ (by decide +kernel)) ggX10_readSlots_X10_beginChange
set_option maxRecDepth 20000 in
theorem ggX10_readSlots_X5_copyFrom : GoodIn wsX10_readSlots wsX5_copyFrom := goodIn_r _ [106, 42, 107, 97, 98, 99, 20, 132, 133] (by decide +kernel) (by decide +kernel)
set_option maxRecDepth 20000 in
theorem gX10_readSlots_X5_copyFrom : GoodIn wsX10_readSlots (wsV RX10 129 RX5 yX5_copyFrom wsX5_copyFrom) := goodIn_app (goodIn_of _ (by decide +kernel)) ggX10_readSlots_X5_copyFrom
set_option maxRecDepth 20000 in
theorem ggX10_flightTime_X10_isCell : GoodIn wsX10_flightTime wsX10_isCell := goodIn_r _ [5] (by decide +kernel) (by decide +kernel)
set_option maxRecDepth 20000 in
theorem gX10_flightTime_X10_isCell : GoodIn wsX10_flightTime (va_wsS RX10 74 yX10_isCell wsX10_isCell) := goodIn_app (goodIn_of _ (by decide +kernel)) ggX10_flightTime_X10_isCell
set_option maxRecDepth 20000 in
theorem ggX10_flightTime_X9_measure : GoodIn wsX10_flightTime wsX9_measure := goodIn_r _ [10, 11, 12, 13, 14, 15, 16, 17, 18, 19, 20, 21, 22, 3, 4, 5, 23, 24, 25, 9, 26, 27, 28, 29, 30, 31, 32, 33, 34, 35, 36, 37, 38, 39, 40, 41, 52, 53, 54, 55, 56, 57, 58, 59, 60] (by decide +kernel) (by decide +kernel)
set_option maxRecDepth 20000 in
theorem gX10_flightTime_X9_measure : GoodIn wsX10_flightTime (wsV RX10 133 RX9 yX9_measure wsX9_measure) := goodIn_app (goodIn_of _ (by decide +kernel)) ggX10_flightTime_X9_measure
set_option maxRecDepth 20000 in
theorem ggX10_flightTime_X9_timeFrom : GoodIn wsX10_flightTime wsX9_timeFrom := goodIn_r _ [45, 11, 3, 4, 5, 52, 53] (by decide +kernel) (by decide +kernel)
set_option maxRecDepth 20000 in
theorem gX10_flightTime_X9_timeFrom : GoodIn wsX10_flightTime (wsV RX10 137 RX9 yX9_timeFrom wsX9_timeFrom) := goodIn_app (goodIn_of _ (by decide +kernel)) ggX10_flightTime_X9_timeFrom
set_option maxRecDepth 20000 in
theorem ggX10_assigned_X5_has : GoodIn wsX10_assigned wsX5_has := goodIn_r _ [8, 9, 119, 120] (by decide +kernel) (by decide +kernel)
set_option maxRecDepth 20000 in
theorem gX10_assigned_X5_has : GoodIn wsX10_assigned (wsV RX10 140 RX5 yX5_has wsX5_has) := goodIn_app (goodIn_of _ (by decide +kernel)) ggX10_assigned_X5_has
set_option maxRecDepth 20000 in
theorem ggX10_assigned_X0_assign : GoodIn wsX10_assigned wsX0_assign := goodIn_r _ [14, 15, 16, 17, 18, 19, 20, 21, 22, 23, 24, 25, 26, 27, 28, 29, 7, 30, 31, 32, 5, 6, 8, 9, 33, 34, 35, 36, 37, 38, 39, 40, 41, 42, 43, 44, 45, 46, 47, 48, 49, 50, 51, 52, 53, 54, 55, 56, 57, 58, 59, 60, 61, 62, 63, 64, 65, 66, 67, 68, 69, 70, 71, 72, 73, 13, 74, 75, 76, 77, 78, 79, 80, 81, 82, 83, 84, 85, 86, 87, 88, 89, 90, 91, 92, 93, 94, 95, 96, 97, 98, 99, 100, 101, 102, 103, 121, 122, 123, 124, 125, 126, 127, 128, 129, 114, 115, 116, 117, 118, 119, 120, 130, 131, 132, 133] (by decide +kernel) (by decide +kernel)
set_option maxRecDepth 20000 in
theorem gX10_assigned_X0_assign : GoodIn wsX10_assigned (wsV RX10 143 RX0 yX0_assign wsX0_assign) := goodIn_app (goodIn_of _ (by decide +kernel)) ggX10_assigned_X0_assign
set_option maxRecDepth 20000 in
theorem ggX10_assigned_X0_slotOf : GoodIn wsX10_assigned wsX0_slotOf := goodIn_r _ [107, 91, 121, 122, 123, 124, 125, 126, 127, 128, 129] (by decide +kernel) (by decide +kernel)
set_option maxRecDepth 20000 in
theorem gX10_assigned_X0_slotOf : GoodIn wsX10_assigned (wsV RX10 146 RX0 yX0_slotOf wsX0_slotOf) := goodIn_app (goodIn_of _ (by decide +kernel)) ggX10_assigned_X0_slotOf
set_option maxRecDepth 20000 in
theorem ggX10_assignment_X0_assign : GoodIn wsX10_assignment wsX0_assign := goodIn_r _ [10, 11, 12, 13, 14, 15, 16, 17, 18, 19, 20, 21, 22, 23, 24, 25, 26, 27, 28, 29, 30, 31, 32, 33, 34, 35, 36, 37, 38, 39, 40, 41, 42, 43, 44, 45, 46, 47, 48, 49, 50, 51, 52, 53, 54, 55, 56, 57, 58, 59, 60, 61, 62, 63, 64, 65, 66, 67, 68, 69, 70, 71, 72, 73, 74, 9, 75, 76, 77, 78, 79, 80, 81, 82, 83, 84, 85, 86, 87, 88, 89, 90, 91, 92, 93, 94, 95, 96, 97, 98, 99, 100, 101, 102, 103, 104, 111, 112, 113, 114, 115, 116, 117, 118, 119, 120, 121, 122, 123, 124, 125, 126, 127, 128, 129, 130] (by decide +kernel) (by decide +kernel)
set_option maxRecDepth 20000 in
theorem gX10_assignment_X0_assign : GoodIn wsX10_assignment (wsV RX10 143 RX0 yX0_assign wsX0_assign) := goodIn_app (goodIn_of _ (by decide +kernel)) ggX10_assignment_X0_assign
set_option maxRecDepth 20000 in
theorem ggX10_plan_X0_assign : GoodIn wsX10_plan wsX0_assign := goodIn_r _ [7, 8, 9, 10, 11, 12, 13, 14, 15, 16, 17, 18, 19, 20, 21, 22, 23, 24, 25, 26, 27, 28, 29, 30, 31, 32, 33, 34, 35, 36, 37, 38, 39, 40, 41, 42, 43, 44, 45, 46, 47, 48, 49, 50, 51, 52, 53, 54, 55, 56, 57, 58, 59, 60, 61, 62, 63, 64, 65, 66, 67, 68, 69, 70, 71, 6, 72, 73, 74, 75, 76, 77, 78, 79, 80, 81, 82, 83, 84, 85, 86, 87, 88, 89, 90, 91, 92, 93, 94, 95, 96, 97, 98, 99, 100, 101, 232, 233, 234, 235, 236, 237, 238, 239, 240, 241, 242, 243, 244, 245, 246, 247, 248, 249, 250, 251] (by decide +kernel) (by decide +kernel)
set_option maxRecDepth 20000 in
theorem gX10_plan_X0_assign : GoodIn wsX10_plan (wsV RX10 143 RX0 yX0_assign wsX0_assign) := goodIn_app (goodIn_of _ (by decide +kernel)) ggX10_plan_X0_assign
set_option maxRecDepth 20000 in
theorem ggX10_plan_X6_make : GoodIn wsX10_plan wsX6_make := goodIn_r _ [106, 107, 108, 109, 13, 14, 15, 110, 111, 112, 113, 114, 115, 116, 41, 42, 117, 118, 119, 120, 105, 121, 122, 123, 124, 125, 126, 127, 128, 129, 130, 6, 131, 132, 133, 134, 135, 89, 77, 78, 79, 80, 18, 8, 9, 20, 21, 22, 23, 24, 25, 26, 27, 28, 29, 30, 81, 82, 83, 34, 84, 36, 47, 48, 49, 136, 137, 138, 139, 140, 141, 142, 143, 144, 145, 146, 147, 148, 44, 45, 46, 149, 150, 151, 152, 153, 154, 155, 156, 157, 158, 159, 160, 161, 162, 163, 164, 165, 166, 167, 168, 169, 170, 171, 172, 173, 174, 175, 176, 177, 178, 179, 180, 181, 182, 183, 184, 55, 56, 57, 58, 59, 60, 61, 62, 63, 185, 65, 66, 67, 68, 186, 187, 188, 189, 190, 191, 192, 193, 194, 195, 196, 197, 198, 199, 200, 201, 202, 203, 204, 205, 206, 207, 208, 209, 210, 211, 212, 213, 214, 215, 216, 217, 218, 219, 220, 221, 222, 223, 224, 225, 252, 253, 254, 255, 256, 257, 258, 259, 260, 261, 262, 232, 233, 234, 235, 236, 237, 238, 239, 240, 241, 242, 243, 244, 245, 263, 264, 265, 266, 267, 246, 247, 248, 249, 268, 269, 270, 250, 251] (by decide +kernel) (by decide +kernel)
set_option maxRecDepth 20000 in
theorem gX10_plan_X6_make : GoodIn wsX10_plan (wsV RX10 161 RX6 yX6_make wsX6_make) := goodIn_app (goodIn_of _ (by decide +kernel)) ggX10_plan_X6_make
set_option maxRecDepth 20000 in
theorem ggX10_at_X10_planError : GoodIn wsX10_at wsX10_planError := goodIn_r _ [6, 7, 8, 1, 9, 10, 11, 12, 13, 14, 15, 42, 43, 44, 45, 46, 47, 48, 49, 50, 51, 52, 53, 54, 55, 56, 57, 58, 59, 60, 61, 62, 63, 64, 65] (by decide +kernel) (by decide +kernel)
set_option maxRecDepth 20000 in
theorem gX10_at_X10_planError : GoodIn wsX10_at (wsV RX10 168 RX10 yX10_planError wsX10_planError) := goodIn_app (goodIn_of _ (by decide +kernel)) ggX10_at_X10_planError
set_option maxRecDepth 20000 in
theorem ggX10_at_X6_cellOfDrone : GoodIn wsX10_at wsX6_cellOfDrone := goodIn_r _ [20, 21, 22, 23, 24, 19, 25, 26, 27, 28, 29, 30, 31, 32, 33, 34, 35, 36, 37, 38, 39, 40, 41, 53, 54, 55, 56, 57, 58, 59, 60, 61, 62, 63, 66, 67, 68, 69, 70] (by decide +kernel) (by decide +kernel)
set_option maxRecDepth 20000 in
theorem gX10_at_X6_cellOfDrone : GoodIn wsX10_at (wsV RX10 172 RX6 yX6_cellOfDrone wsX6_cellOfDrone) := goodIn_app (goodIn_of _ (by decide +kernel)) ggX10_at_X6_cellOfDrone
set_option maxRecDepth 20000 in
theorem ggX10_action_X10_planError : GoodIn wsX10_action wsX10_planError := goodIn_r _ [6, 7, 8, 1, 9, 10, 11, 12, 13, 14, 15, 41, 42, 43, 44, 45, 46, 47, 48, 49, 50, 51, 52, 53, 54, 55, 56, 57, 58, 59, 60, 61, 62, 63, 64] (by decide +kernel) (by decide +kernel)
set_option maxRecDepth 20000 in
theorem gX10_action_X10_planError : GoodIn wsX10_action (wsV RX10 168 RX10 yX10_planError wsX10_planError) := goodIn_app (goodIn_of _ (by decide +kernel)) ggX10_action_X10_planError
set_option maxRecDepth 20000 in
theorem ggX10_action_X6_actionOfDrone : GoodIn wsX10_action wsX6_actionOfDrone := goodIn_r _ [20, 21, 22, 23, 24, 19, 25, 26, 27, 28, 29, 30, 31, 32, 33, 34, 35, 36, 37, 38, 39, 40, 52, 53, 54, 55, 56, 57, 58, 59, 60, 61, 62, 65, 66, 67, 68, 69] (by decide +kernel) (by decide +kernel)
set_option maxRecDepth 20000 in
theorem gX10_action_X6_actionOfDrone : GoodIn wsX10_action (wsV RX10 176 RX6 yX6_actionOfDrone wsX6_actionOfDrone) := goodIn_app (goodIn_of _ (by decide +kernel)) ggX10_action_X6_actionOfDrone
set_option maxRecDepth 20000 in
theorem ggX10_flight_X10_planError : GoodIn wsX10_flight wsX10_planError := goodIn_r _ [6, 7, 8, 1, 9, 10, 11, 12, 13, 14, 15, 113, 114, 115, 116, 117, 118, 119, 120, 121, 122, 123, 124, 125, 126, 127, 128, 129, 130, 131, 132, 133, 134, 135, 136] (by decide +kernel) (by decide +kernel)
set_option maxRecDepth 20000 in
theorem gX10_flight_X10_planError : GoodIn wsX10_flight (wsV RX10 168 RX10 yX10_planError wsX10_planError) := goodIn_app (goodIn_of _ (by decide +kernel)) ggX10_flight_X10_planError
set_option maxRecDepth 20000 in
theorem ggX10_flight_X6_ticksLeft : GoodIn wsX10_flight wsX6_ticksLeft := goodIn_r _ [20, 21, 22, 23, 24, 25, 26, 27, 28, 29, 19, 30, 31, 32, 33, 34, 137, 138, 139, 140, 141, 124, 125, 126, 127, 128, 129, 130, 131, 132, 133, 134] (by decide +kernel) (by decide +kernel)
set_option maxRecDepth 20000 in
theorem gX10_flight_X6_ticksLeft : GoodIn wsX10_flight (wsV RX10 179 RX6 yX6_ticksLeft wsX6_ticksLeft) := goodIn_app (goodIn_of _ (by decide +kernel)) ggX10_flight_X6_ticksLeft
set_option maxRecDepth 20000 in
theorem ggX10_flight_X6_waitsLeft : GoodIn wsX10_flight wsX6_waitsLeft := goodIn_r _ [38, 22, 21, 27, 28, 29, 19, 30, 31, 32, 33, 25, 34, 23, 24, 26, 39, 40, 41, 42, 43, 44, 45, 124, 125, 126, 127, 128, 129, 130, 131, 132, 133, 134, 137, 138, 139, 140, 141] (by decide +kernel) (by decide +kernel)
set_option maxRecDepth 20000 in
theorem gX10_flight_X6_waitsLeft : GoodIn wsX10_flight (wsV RX10 182 RX6 yX6_waitsLeft wsX6_waitsLeft) := goodIn_app (goodIn_of _ (by decide +kernel)) ggX10_flight_X6_waitsLeft
set_option maxRecDepth 20000 in
theorem ggX10_flight_X6_timeWithoutOthers : GoodIn wsX10_flight wsX6_timeWithoutOthers := goodIn_r _ [49, 50, 51, 52, 53, 54, 55, 19, 56, 57, 58, 27, 28, 29, 30, 31, 32, 33, 25, 34, 23, 24, 26, 59, 60, 61, 13, 62, 63, 64, 11, 12, 14, 15, 65, 66, 67, 68, 69, 70, 71, 72, 73, 74, 75, 76, 77, 78, 79, 5, 80, 81, 82, 83, 84, 85, 86, 87, 88, 89, 90, 91, 92, 93, 94, 95, 96, 97, 98, 99, 100, 101, 102, 103, 124, 125, 126, 127, 128, 129, 130, 131, 132, 133, 134, 119, 120, 121, 122, 123, 137, 138, 139, 140, 141, 135, 136, 142, 143, 144, 145] (by decide +kernel) (by decide +kernel)
set_option maxRecDepth 20000 in
theorem gX10_flight_X6_timeWithoutOthers : GoodIn wsX10_flight (wsV RX10 185 RX6 yX6_timeWithoutOthers wsX6_timeWithoutOthers) := goodIn_app (goodIn_of _ (by decide +kernel)) ggX10_flight_X6_timeWithoutOthers
set_option maxRecDepth 20000 in
theorem ggX10_flight_X6_positionOf : GoodIn wsX10_flight wsX6_positionOf := goodIn_r _ [107, 108, 27, 28, 29, 19, 30, 31, 32, 33, 25, 34, 23, 24, 26, 137, 138, 139, 140, 141, 124, 125, 126, 127, 128, 129, 130, 131, 132, 133, 134] (by decide +kernel) (by decide +kernel)
set_option maxRecDepth 20000 in
theorem gX10_flight_X6_positionOf : GoodIn wsX10_flight (wsV RX10 188 RX6 yX6_positionOf wsX6_positionOf) := goodIn_app (goodIn_of _ (by decide +kernel)) ggX10_flight_X6_positionOf
set_option maxRecDepth 20000 in
theorem ggX10_flight_X6_slotOf : GoodIn wsX10_flight wsX6_slotOf := goodIn_r _ [112, 58, 27, 28, 29, 19, 30, 31, 32, 33, 25, 34, 23, 24, 26, 137, 138, 139, 140, 141, 124, 125, 126, 127, 128, 129, 130, 131, 132, 133, 134] (by decide +kernel) (by decide +kernel)
set_option maxRecDepth 20000 in
theorem gX10_flight_X6_slotOf : GoodIn wsX10_flight (wsV RX10 191 RX6 yX6_slotOf wsX6_slotOf) := goodIn_app (goodIn_of _ (by decide +kernel)) ggX10_flight_X6_slotOf
set_option maxRecDepth 20000 in
theorem ggX10_explain_X10_planError : GoodIn wsX10_explain wsX10_planError := goodIn_r _ [6, 7, 8, 1, 9, 10, 11, 12, 13, 14, 15, 115, 116, 117, 118, 119, 120, 121, 122, 123, 124, 125, 126, 127, 128, 129, 130, 131, 132, 133, 134, 135, 136, 137, 138] (by decide +kernel) (by decide +kernel)
set_option maxRecDepth 20000 in
theorem gX10_explain_X10_planError : GoodIn wsX10_explain (wsV RX10 168 RX10 yX10_planError wsX10_planError) := goodIn_app (goodIn_of _ (by decide +kernel)) ggX10_explain_X10_planError
set_option maxRecDepth 20000 in
theorem ggX10_explain_X6_hinderer : GoodIn wsX10_explain wsX6_hinderer := goodIn_r _ [20, 21, 22, 23, 24, 25, 26, 27, 28, 29, 19, 30, 31, 32, 33, 34, 35, 36, 37, 38, 39, 40, 41, 42, 43, 44, 45, 46, 47, 48, 49, 50, 51, 52, 53, 54, 13, 55, 56, 57, 11, 12, 14, 15, 58, 59, 60, 61, 62, 63, 64, 65, 66, 67, 68, 69, 70, 71, 72, 5, 73, 74, 75, 76, 77, 78, 79, 80, 81, 82, 83, 84, 85, 86, 87, 88, 89, 90, 91, 92, 93, 94, 95, 96, 97, 98, 99, 100, 101, 102, 103, 104, 105, 106, 107, 108, 109, 110, 111, 112, 113, 114, 126, 127, 128, 129, 130, 131, 132, 133, 134, 135, 136, 139, 140, 141, 142, 143, 121, 122, 123, 124, 125, 137, 138, 144, 145, 146, 147] (by decide +kernel) (by decide +kernel)
set_option maxRecDepth 20000 in
theorem gX10_explain_X6_hinderer : GoodIn wsX10_explain (wsV RX10 192 RX6 yX6_hinderer wsX6_hinderer) := goodIn_app (goodIn_of _ (by decide +kernel)) ggX10_explain_X6_hinderer
set_option maxRecDepth 20000 in
theorem ggX10_conflictsWithout_X6_pairsInConflict : GoodIn wsX10_conflictsWithout wsX6_pairsInConflict := goodIn_r _ [7, 8, 9, 10, 11, 12, 6, 13, 14, 15, 16, 17, 18, 19, 20, 21, 22, 23, 24, 25, 26, 27, 28, 29, 30, 31, 32, 33, 34, 35, 36, 37, 38, 39, 40, 41, 42, 43, 44, 45, 46, 47, 48, 49, 50, 51, 52, 53, 54, 55, 56, 57, 58, 59, 60, 61, 62, 63, 64, 65, 66, 67, 68, 69, 70, 71, 72, 73, 74, 75, 76, 77, 78, 79, 80, 81, 82, 83, 84, 85, 86, 87, 88, 89, 90, 91, 92, 93, 94, 95, 96, 97, 98, 99, 100, 101, 102, 103, 104, 105, 106, 107, 108, 109, 110, 111, 112, 113, 114, 115, 122, 123, 124, 125, 126, 127, 128, 129, 130, 131, 132, 133, 134, 135, 136, 137, 138, 139, 140, 141, 142, 143, 144, 145, 146, 147, 148] (by decide +kernel) (by decide +kernel)
set_option maxRecDepth 20000 in
theorem gX10_conflictsWithout_X6_pairsInConflict : GoodIn wsX10_conflictsWithout (wsV RX10 198 RX6 yX6_pairsInConflict wsX6_pairsInConflict) := goodIn_app (goodIn_of _ (by decide +kernel)) ggX10_conflictsWithout_X6_pairsInConflict
set_option maxRecDepth 20000 in
theorem ggX10_fly_X3_keep : GoodIn wsX10_fly wsX3_keep := goodIn_r _ [10, 11, 12, 13, 14, 15, 16, 17, 18, 19, 20, 21, 22, 23, 24, 25, 26, 27, 28, 29, 30, 31, 32, 33, 34, 35, 36, 37, 38, 39, 40, 41, 42, 43, 109, 110, 111, 104, 105, 106, 107, 108, 112, 113] (by decide +kernel) (by decide +kernel)
set_option maxRecDepth 20000 in
theorem gX10_fly_X3_keep : GoodIn wsX10_fly (wsV RX10 201 RX3 yX3_keep wsX3_keep) := goodIn_app (goodIn_of _ (by decide +kernel)) ggX10_fly_X3_keep
set_option maxRecDepth 20000 in
theorem ggX10_fly_X6_advance : GoodIn wsX10_fly wsX6_advance := goodIn_r _ [48, 49, 50, 15, 16, 17, 51, 52, 53, 54, 55, 56, 47, 57, 58, 59, 60, 61, 62, 63, 64, 65, 66, 67, 68, 69, 70, 71, 72, 73, 74, 75, 76, 39, 77, 41, 78, 79, 80, 81, 43, 82, 83, 84, 85, 86, 93, 94, 95, 96, 97, 98, 99, 100, 101, 102, 103, 104, 105, 106, 107, 108, 114, 115, 116, 117, 118, 112, 113] (by decide +kernel) (by decide +kernel)
set_option maxRecDepth 20000 in
theorem gX10_fly_X6_advance : GoodIn wsX10_fly (wsV RX10 207 RX6 yX6_advance wsX6_advance) := goodIn_app (goodIn_of _ (by decide +kernel)) ggX10_fly_X6_advance
set_option maxRecDepth 20000 in
theorem ggX10_greatestWith_X10_isLayer : GoodIn wsX10_greatestWith wsX10_isLayer := goodIn_r _ [8] (by decide +kernel) (by decide +kernel)
set_option maxRecDepth 20000 in
theorem gX10_greatestWith_X10_isLayer : GoodIn wsX10_greatestWith (va_wsS RX10 60 yX10_isLayer wsX10_isLayer) := goodIn_app (goodIn_of _ (by decide +kernel)) ggX10_greatestWith_X10_isLayer
set_option maxRecDepth 20000 in
theorem ggX10_greatestWith_X10_isWind : GoodIn wsX10_greatestWith wsX10_isWind := goodIn_r _ [11] (by decide +kernel) (by decide +kernel)
set_option maxRecDepth 20000 in
theorem gX10_greatestWith_X10_isWind : GoodIn wsX10_greatestWith (va_wsS RX10 64 yX10_isWind wsX10_isWind) := goodIn_app (goodIn_of _ (by decide +kernel)) ggX10_greatestWith_X10_isWind
set_option maxRecDepth 20000 in
theorem ggX10_greatestWith_X0_assign : GoodIn wsX10_greatestWith wsX0_assign := goodIn_r _ [16, 17, 18, 19, 20, 21, 22, 23, 24, 25, 26, 27, 28, 29, 30, 31, 32, 33, 34, 35, 36, 37, 38, 39, 40, 41, 42, 43, 44, 45, 46, 47, 48, 49, 50, 51, 52, 53, 54, 55, 56, 7, 57, 58, 59, 60, 61, 62, 63, 64, 65, 66, 67, 68, 69, 70, 71, 72, 73, 74, 75, 76, 77, 78, 79, 15, 80, 81, 82, 83, 84, 85, 86, 87, 88, 89, 90, 91, 92, 93, 94, 95, 96, 97, 98, 99, 100, 101, 102, 103, 104, 105, 106, 107, 108, 109, 121, 122, 123, 124, 125, 126, 127, 128, 129, 116, 117, 118, 119, 120, 130, 131, 132, 133, 134, 135] (by decide +kernel) (by decide +kernel)
set_option maxRecDepth 20000 in
theorem gX10_greatestWith_X0_assign : GoodIn wsX10_greatestWith (wsV RX10 143 RX0 yX0_assign wsX0_assign) := goodIn_app (goodIn_of _ (by decide +kernel)) ggX10_greatestWith_X0_assign
set_option maxRecDepth 20000 in
theorem ggX10_cellOf_X5_cellAt : GoodIn wsX10_cellOf wsX5_cellAt := goodIn_r _ [8, 9, 10, 11, 12, 7, 13, 14, 26, 27] (by decide +kernel) (by decide +kernel)
set_option maxRecDepth 20000 in
theorem gX10_cellOf_X5_cellAt : GoodIn wsX10_cellOf (wsV RX10 210 RX5 yX5_cellAt wsX5_cellAt) := goodIn_app (goodIn_of _ (by decide +kernel)) ggX10_cellOf_X5_cellAt
set_option maxRecDepth 20000 in
theorem ggX10_look_X10_isCell : GoodIn wsX10_look wsX10_isCell := goodIn_r _ [8] (by decide +kernel) (by decide +kernel)
set_option maxRecDepth 20000 in
theorem gX10_look_X10_isCell : GoodIn wsX10_look (va_wsS RX10 74 yX10_isCell wsX10_isCell) := goodIn_app (goodIn_of _ (by decide +kernel)) ggX10_look_X10_isCell
set_option maxRecDepth 20000 in
theorem ggX10_look_X5_find : GoodIn wsX10_look wsX5_find := goodIn_r _ [13, 14, 15, 27, 28] (by decide +kernel) (by decide +kernel)
set_option maxRecDepth 20000 in
theorem gX10_look_X5_find : GoodIn wsX10_look (wsV RX10 81 RX5 yX5_find wsX5_find) := goodIn_app (goodIn_of _ (by decide +kernel)) ggX10_look_X5_find
set_option maxRecDepth 20000 in
theorem ggX10_count_X8_obstacleCount : GoodIn wsX10_count wsX8_obstacleCount := goodIn_r _ [16, 17, 46, 47, 48, 49, 50] (by decide +kernel) (by decide +kernel)
set_option maxRecDepth 20000 in
theorem gX10_count_X8_obstacleCount : GoodIn wsX10_count (wsV RX10 213 RX8 yX8_obstacleCount wsX8_obstacleCount) := goodIn_app (goodIn_of _ (by decide +kernel)) ggX10_count_X8_obstacleCount
set_option maxRecDepth 20000 in
theorem ggX10_count_X8_dronesAtSlots : GoodIn wsX10_count wsX8_dronesAtSlots := goodIn_r _ [21, 22, 23, 24, 25, 26, 27, 28, 29, 30, 31, 32, 33, 34, 35, 36, 37, 38, 39, 46, 47, 48, 49, 50, 51, 52] (by decide +kernel) (by decide +kernel)
set_option maxRecDepth 20000 in
theorem gX10_count_X8_dronesAtSlots : GoodIn wsX10_count (wsV RX10 216 RX8 yX8_dronesAtSlots wsX8_dronesAtSlots) := goodIn_app (goodIn_of _ (by decide +kernel)) ggX10_count_X8_dronesAtSlots
set_option maxRecDepth 20000 in
theorem ggX10_undo_X6_discard : GoodIn wsX10_undo wsX6_discard := goodIn_r _ [9, 10, 11, 55, 56, 57, 58, 59, 60, 61, 62, 63, 64, 65] (by decide +kernel) (by decide +kernel)
set_option maxRecDepth 20000 in
theorem gX10_undo_X6_discard : GoodIn wsX10_undo (wsV RX10 220 RX6 yX6_discard wsX6_discard) := goodIn_app (goodIn_of _ (by decide +kernel)) ggX10_undo_X6_discard
set_option maxRecDepth 20000 in
theorem ggX10_undo_X3_bringBack : GoodIn wsX10_undo wsX3_bringBack := goodIn_r _ [16, 17, 18, 19, 20, 21, 22, 23, 24, 25, 26, 27, 28, 29, 30, 31, 32, 33, 34, 35, 36, 37, 38, 39, 40, 41, 42, 43, 44, 45, 52, 53, 54, 66, 67, 68, 69, 70, 71, 72] (by decide +kernel) (by decide +kernel)
set_option maxRecDepth 20000 in
theorem gX10_undo_X3_bringBack : GoodIn wsX10_undo (wsV RX10 223 RX3 yX3_bringBack wsX3_bringBack) := goodIn_app (goodIn_of _ (by decide +kernel)) ggX10_undo_X3_bringBack
set_option maxRecDepth 20000 in
theorem ggX10_beginChange_X3_keep : GoodIn wsX10_beginChange wsX3_keep := goodIn_r _ [8, 9, 10, 11, 12, 13, 14, 15, 16, 17, 18, 19, 20, 21, 22, 23, 24, 25, 26, 27, 28, 29, 30, 31, 32, 33, 34, 35, 36, 37, 38, 39, 40, 41, 55, 56, 57, 58, 59, 60, 61, 62, 63, 64] (by decide +kernel) (by decide +kernel)
set_option maxRecDepth 20000 in
theorem gX10_beginChange_X3_keep : GoodIn wsX10_beginChange (wsV RX10 201 RX3 yX3_keep wsX3_keep) := goodIn_app (goodIn_of _ (by decide +kernel)) ggX10_beginChange_X3_keep
set_option maxRecDepth 20000 in
theorem ggX10_beginChange_X6_discard : GoodIn wsX10_beginChange wsX6_discard := goodIn_r _ [46, 47, 48, 65, 66, 67, 68, 69, 70, 71, 72, 73, 74, 75] (by decide +kernel) (by decide +kernel)
set_option maxRecDepth 20000 in
theorem gX10_beginChange_X6_discard : GoodIn wsX10_beginChange (wsV RX10 220 RX6 yX6_discard wsX6_discard) := goodIn_app (goodIn_of _ (by decide +kernel)) ggX10_beginChange_X6_discard
set_option maxRecDepth 20000 in
theorem ggX10_addPlace_X10_isCell : GoodIn wsX10_addPlace wsX10_isCell := goodIn_r _ [7] (by decide +kernel) (by decide +kernel)
set_option maxRecDepth 20000 in
theorem gX10_addPlace_X10_isCell : GoodIn wsX10_addPlace (va_wsS RX10 74 yX10_isCell wsX10_isCell) := goodIn_app (goodIn_of _ (by decide +kernel)) ggX10_addPlace_X10_isCell
set_option maxRecDepth 20000 in
theorem ggX10_addPlace_X5_find : GoodIn wsX10_addPlace wsX5_find := goodIn_r _ [12, 13, 14, 67, 68] (by decide +kernel) (by decide +kernel)
set_option maxRecDepth 20000 in
theorem gX10_addPlace_X5_find : GoodIn wsX10_addPlace (wsV RX10 81 RX5 yX5_find wsX5_find) := goodIn_app (goodIn_of _ (by decide +kernel)) ggX10_addPlace_X5_find
set_option maxRecDepth 20000 in
theorem ggX10_addPlace_X10_beginChange : GoodIn wsX10_addPlace wsX10_beginChange := goodIn_r _ [18, 19, 2, 20, 21, 22, 23, 24, 25, 26, 27, 28, 29, 30, 31, 32, 33, 34, 35, 36, 37, 38, 39, 40, 41, 42, 43, 44, 45, 46, 47, 48, 49, 50, 51, 52, 53, 11, 54, 14, 55, 13, 56, 57, 58, 59, 60, 61, 62, 69, 70, 71, 72, 73, 74, 80, 81, 82, 75, 76, 77, 78, 79, 67, 68, 83, 84, 85, 86, 87, 88, 89, 90, 91, 92, 93] (by decide +kernel) (by decide +kernel)
set_option maxRecDepth 20000 in
theorem gX10_addPlace_X10_beginChange : GoodIn wsX10_addPlace (wsV RX10 67 RX10 yX10_beginChange wsX10_beginChange) := goodIn_app (goodIn_of _ (by decide +kernel)) ggX10_addPlace_X10_beginChange
set_option maxRecDepth 20000 in
theorem ggX10_addPlace_X5_add : GoodIn wsX10_addPlace wsX5_add := goodIn_r _ [66, 13, 14, 67, 68] (by decide +kernel) (by decide +kernel)
set_option maxRecDepth 20000 in
theorem gX10_addPlace_X5_add : GoodIn wsX10_addPlace (wsV RX10 227 RX5 yX5_add wsX5_add) := goodIn_app (goodIn_of _ (by decide +kernel)) ggX10_addPlace_X5_add
set_option maxRecDepth 20000 in
theorem ggX10_hasObstacle_X5_cellAt : GoodIn wsX10_hasObstacle wsX5_cellAt := goodIn_r _ [7, 8, 9, 10, 11, 6, 12, 13, 23, 24] (by decide +kernel) (by decide +kernel)
set_option maxRecDepth 20000 in
theorem gX10_hasObstacle_X5_cellAt : GoodIn wsX10_hasObstacle (wsV RX10 210 RX5 yX5_cellAt wsX5_cellAt) := goodIn_app (goodIn_of _ (by decide +kernel)) ggX10_hasObstacle_X5_cellAt
set_option maxRecDepth 20000 in
theorem ggX10_hasObstacle_X8_hasObstacleAt : GoodIn wsX10_hasObstacle wsX8_hasObstacleAt := goodIn_r _ [18, 19, 20, 21, 22, 31, 32, 33, 34, 35] (by decide +kernel) (by decide +kernel)
set_option maxRecDepth 20000 in
theorem gX10_hasObstacle_X8_hasObstacleAt : GoodIn wsX10_hasObstacle (wsV RX10 230 RX8 yX8_hasObstacleAt wsX8_hasObstacleAt) := goodIn_app (goodIn_of _ (by decide +kernel)) ggX10_hasObstacle_X8_hasObstacleAt
set_option maxRecDepth 20000 in
theorem ggX10_planError_X5_has : GoodIn wsX10_planError wsX5_has := goodIn_r _ [9, 10, 33, 34] (by decide +kernel) (by decide +kernel)
set_option maxRecDepth 20000 in
theorem gX10_planError_X5_has : GoodIn wsX10_planError (wsV RX10 140 RX5 yX5_has wsX5_has) := goodIn_app (goodIn_of _ (by decide +kernel)) ggX10_planError_X5_has
end
section
theorem dX0_init_0 : decode cX0_init 0 = .ok (.aload_n 0, 1) := by decide +kernel
theorem dX0_init_1 : decode cX0_init 1 = .ok (.invokespecial 3, 3) := by decide +kernel
theorem dX0_init_4 : decode cX0_init 4 = .ok (.aload_n 0, 1) := by decide +kernel
theorem dX0_init_5 : decode cX0_init 5 = .ok (.bipush 6, 2) := by decide +kernel
theorem dX0_init_7 : decode cX0_init 7 = .ok (.anewarray 9, 3) := by decide +kernel
theorem dX0_init_10 : decode cX0_init 10 = .ok (.putfield 11, 3) := by decide +kernel
theorem dX0_init_13 : decode cX0_init 13 = .ok (.aload_n 0, 1) := by decide +kernel
theorem dX0_init_14 : decode cX0_init 14 = .ok (.bipush 6, 2) := by decide +kernel
theorem dX0_init_16 : decode cX0_init 16 = .ok (.newarray .int, 2) := by decide +kernel
theorem dX0_init_18 : decode cX0_init 18 = .ok (.putfield 17, 3) := by decide +kernel
theorem dX0_init_21 : decode cX0_init 21 = .ok (.aload_n 0, 1) := by decide +kernel
theorem dX0_init_22 : decode cX0_init 22 = .ok (.bipush 6, 2) := by decide +kernel
theorem dX0_init_24 : decode cX0_init 24 = .ok (.newarray .int, 2) := by decide +kernel
theorem dX0_init_26 : decode cX0_init 26 = .ok (.putfield 21, 3) := by decide +kernel
theorem dX0_init_29 : decode cX0_init 29 = .ok (.aload_n 0, 1) := by decide +kernel
theorem dX0_init_30 : decode cX0_init 30 = .ok (.aload_n 1, 1) := by decide +kernel
theorem dX0_init_31 : decode cX0_init 31 = .ok (.putfield 24, 3) := by decide +kernel
theorem dX0_init_34 : decode cX0_init 34 = .ok (.iconst 0, 1) := by decide +kernel
theorem dX0_init_35 : decode cX0_init 35 = .ok (.istore_n 3, 1) := by decide +kernel
theorem dX0_init_36 : decode cX0_init 36 = .ok (.iload_n 3, 1) := by decide +kernel
theorem dX0_init_37 : decode cX0_init 37 = .ok (.bipush 6, 2) := by decide +kernel
theorem dX0_init_39 : decode cX0_init 39 = .ok (.if_icmp .ge 23, 3) := by decide +kernel
theorem dX0_init_42 : decode cX0_init 42 = .ok (.aload_n 0, 1) := by decide +kernel
theorem dX0_init_43 : decode cX0_init 43 = .ok (.getfield 11, 3) := by decide +kernel
theorem dX0_init_46 : decode cX0_init 46 = .ok (.iload_n 3, 1) := by decide +kernel
theorem dX0_init_47 : decode cX0_init 47 = .ok (.new 9, 3) := by decide +kernel
theorem dX0_init_50 : decode cX0_init 50 = .ok (.dup, 1) := by decide +kernel
theorem dX0_init_51 : decode cX0_init 51 = .ok (.aload_n 2, 1) := by decide +kernel
theorem dX0_init_52 : decode cX0_init 52 = .ok (.invokespecial 28, 3) := by decide +kernel
theorem dX0_init_55 : decode cX0_init 55 = .ok (.aastore, 1) := by decide +kernel
theorem dX0_init_56 : decode cX0_init 56 = .ok (.iinc 3 1, 3) := by decide +kernel
theorem dX0_init_59 : decode cX0_init 59 = .ok (.goto (-23), 3) := by decide +kernel
theorem dX0_init_62 : decode cX0_init 62 = .ok (.return_, 1) := by decide +kernel
theorem dX0_assign_0 : decode cX0_assign 0 = .ok (.aload_n 0, 1) := by decide +kernel
theorem dX0_assign_1 : decode cX0_assign 1 = .ok (.getfield 24, 3) := by decide +kernel
theorem dX0_assign_4 : decode cX0_assign 4 = .ok (.getfield 31, 3) := by decide +kernel
theorem dX0_assign_7 : decode cX0_assign 7 = .ok (.getfield 37, 3) := by decide +kernel
theorem dX0_assign_10 : decode cX0_assign 10 = .ok (.aload_n 0, 1) := by decide +kernel
theorem dX0_assign_11 : decode cX0_assign 11 = .ok (.getfield 24, 3) := by decide +kernel
theorem dX0_assign_14 : decode cX0_assign 14 = .ok (.getfield 43, 3) := by decide +kernel
theorem dX0_assign_17 : decode cX0_assign 17 = .ok (.getfield 37, 3) := by decide +kernel
theorem dX0_assign_20 : decode cX0_assign 20 = .ok (.if_icmp .eq 6, 3) := by decide +kernel
theorem dX0_assign_23 : decode cX0_assign 23 = .ok (.bipush (-5), 2) := by decide +kernel
theorem dX0_assign_25 : decode cX0_assign 25 = .ok (.ireturn, 1) := by decide +kernel
theorem dX0_assign_26 : decode cX0_assign 26 = .ok (.aload_n 0, 1) := by decide +kernel
theorem dX0_assign_27 : decode cX0_assign 27 = .ok (.aload_n 0, 1) := by decide +kernel
theorem dX0_assign_28 : decode cX0_assign 28 = .ok (.getfield 24, 3) := by decide +kernel
theorem dX0_assign_31 : decode cX0_assign 31 = .ok (.getfield 31, 3) := by decide +kernel
theorem dX0_assign_34 : decode cX0_assign 34 = .ok (.getfield 37, 3) := by decide +kernel
theorem dX0_assign_37 : decode cX0_assign 37 = .ok (.bipush 6, 2) := by decide +kernel
theorem dX0_assign_39 : decode cX0_assign 39 = .ok (.invokestatic 46, 3) := by decide +kernel
theorem dX0_assign_42 : decode cX0_assign 42 = .ok (.putfield 52, 3) := by decide +kernel
theorem dX0_assign_45 : decode cX0_assign 45 = .ok (.aload_n 0, 1) := by decide +kernel
theorem dX0_assign_46 : decode cX0_assign 46 = .ok (.iconst 0, 1) := by decide +kernel
theorem dX0_assign_47 : decode cX0_assign 47 = .ok (.putfield 53, 3) := by decide +kernel
theorem dX0_assign_50 : decode cX0_assign 50 = .ok (.iconst 0, 1) := by decide +kernel
theorem dX0_assign_51 : decode cX0_assign 51 = .ok (.istore_n 1, 1) := by decide +kernel
theorem dX0_assign_52 : decode cX0_assign 52 = .ok (.iload_n 1, 1) := by decide +kernel
theorem dX0_assign_53 : decode cX0_assign 53 = .ok (.aload_n 0, 1) := by decide +kernel
theorem dX0_assign_54 : decode cX0_assign 54 = .ok (.getfield 52, 3) := by decide +kernel
theorem dX0_assign_57 : decode cX0_assign 57 = .ok (.if_icmp .ge 42, 3) := by decide +kernel
theorem dX0_assign_60 : decode cX0_assign 60 = .ok (.iload_n 1, 1) := by decide +kernel
theorem dX0_assign_61 : decode cX0_assign 61 = .ok (.bipush 6, 2) := by decide +kernel
theorem dX0_assign_63 : decode cX0_assign 63 = .ok (.if_icmp .ge 36, 3) := by decide +kernel
theorem dX0_assign_66 : decode cX0_assign 66 = .ok (.aload_n 0, 1) := by decide +kernel
theorem dX0_assign_67 : decode cX0_assign 67 = .ok (.getfield 11, 3) := by decide +kernel
theorem dX0_assign_70 : decode cX0_assign 70 = .ok (.iload_n 1, 1) := by decide +kernel
theorem dX0_assign_71 : decode cX0_assign 71 = .ok (.aaload, 1) := by decide +kernel
theorem dX0_assign_72 : decode cX0_assign 72 = .ok (.aload_n 0, 1) := by decide +kernel
theorem dX0_assign_73 : decode cX0_assign 73 = .ok (.getfield 24, 3) := by decide +kernel
theorem dX0_assign_76 : decode cX0_assign 76 = .ok (.getfield 43, 3) := by decide +kernel
theorem dX0_assign_79 : decode cX0_assign 79 = .ok (.iload_n 1, 1) := by decide +kernel
theorem dX0_assign_80 : decode cX0_assign 80 = .ok (.invokevirtual 56, 3) := by decide +kernel
theorem dX0_assign_83 : decode cX0_assign 83 = .ok (.invokevirtual 60, 3) := by decide +kernel
theorem dX0_assign_86 : decode cX0_assign 86 = .ok (.aload_n 0, 1) := by decide +kernel
theorem dX0_assign_87 : decode cX0_assign 87 = .ok (.getfield 17, 3) := by decide +kernel
theorem dX0_assign_90 : decode cX0_assign 90 = .ok (.iload_n 1, 1) := by decide +kernel
theorem dX0_assign_91 : decode cX0_assign 91 = .ok (.iload_n 1, 1) := by decide +kernel
theorem dX0_assign_92 : decode cX0_assign 92 = .ok (.iastore, 1) := by decide +kernel
theorem dX0_assign_93 : decode cX0_assign 93 = .ok (.iinc 1 1, 3) := by decide +kernel
theorem dX0_assign_96 : decode cX0_assign 96 = .ok (.goto (-44), 3) := by decide +kernel
theorem dX0_assign_99 : decode cX0_assign 99 = .ok (.iconst 1, 1) := by decide +kernel
theorem dX0_assign_100 : decode cX0_assign 100 = .ok (.istore_n 1, 1) := by decide +kernel
theorem dX0_assign_101 : decode cX0_assign 101 = .ok (.iconst 0, 1) := by decide +kernel
theorem dX0_assign_102 : decode cX0_assign 102 = .ok (.istore_n 2, 1) := by decide +kernel
theorem dX0_assign_103 : decode cX0_assign 103 = .ok (.iload_n 2, 1) := by decide +kernel
theorem dX0_assign_104 : decode cX0_assign 104 = .ok (.sipush 720, 3) := by decide +kernel
theorem dX0_assign_107 : decode cX0_assign 107 = .ok (.if_icmp .ge 22, 3) := by decide +kernel
theorem dX0_assign_110 : decode cX0_assign 110 = .ok (.iload_n 1, 1) := by decide +kernel
theorem dX0_assign_111 : decode cX0_assign 111 = .ok (.ifCond .eq 18, 3) := by decide +kernel
theorem dX0_assign_114 : decode cX0_assign 114 = .ok (.aload_n 0, 1) := by decide +kernel
theorem dX0_assign_115 : decode cX0_assign 115 = .ok (.invokevirtual 64, 3) := by decide +kernel
theorem dX0_assign_118 : decode cX0_assign 118 = .ok (.aload_n 0, 1) := by decide +kernel
theorem dX0_assign_119 : decode cX0_assign 119 = .ok (.invokevirtual 67, 3) := by decide +kernel
theorem dX0_assign_122 : decode cX0_assign 122 = .ok (.istore_n 1, 1) := by decide +kernel
theorem dX0_assign_123 : decode cX0_assign 123 = .ok (.iinc 2 1, 3) := by decide +kernel
theorem dX0_assign_126 : decode cX0_assign 126 = .ok (.goto (-23), 3) := by decide +kernel
theorem dX0_assign_129 : decode cX0_assign 129 = .ok (.aload_n 0, 1) := by decide +kernel
theorem dX0_assign_130 : decode cX0_assign 130 = .ok (.getfield 53, 3) := by decide +kernel
theorem dX0_assign_133 : decode cX0_assign 133 = .ok (.ifCond .ne 8, 3) := by decide +kernel
theorem dX0_assign_136 : decode cX0_assign 136 = .ok (.bipush (-6), 2) := by decide +kernel
theorem dX0_assign_138 : decode cX0_assign 138 = .ok (.goto 4, 3) := by decide +kernel
theorem dX0_assign_141 : decode cX0_assign 141 = .ok (.iconst 0, 1) := by decide +kernel
theorem dX0_assign_142 : decode cX0_assign 142 = .ok (.ireturn, 1) := by decide +kernel
theorem dX0_slotOf_0 : decode cX0_slotOf 0 = .ok (.iload_n 1, 1) := by decide +kernel
theorem dX0_slotOf_1 : decode cX0_slotOf 1 = .ok (.ifCond .lt 18, 3) := by decide +kernel
theorem dX0_slotOf_4 : decode cX0_slotOf 4 = .ok (.iload_n 1, 1) := by decide +kernel
theorem dX0_slotOf_5 : decode cX0_slotOf 5 = .ok (.bipush 6, 2) := by decide +kernel
theorem dX0_slotOf_7 : decode cX0_slotOf 7 = .ok (.if_icmp .ge 12, 3) := by decide +kernel
theorem dX0_slotOf_10 : decode cX0_slotOf 10 = .ok (.aload_n 0, 1) := by decide +kernel
theorem dX0_slotOf_11 : decode cX0_slotOf 11 = .ok (.getfield 21, 3) := by decide +kernel
theorem dX0_slotOf_14 : decode cX0_slotOf 14 = .ok (.iload_n 1, 1) := by decide +kernel
theorem dX0_slotOf_15 : decode cX0_slotOf 15 = .ok (.iaload, 1) := by decide +kernel
theorem dX0_slotOf_16 : decode cX0_slotOf 16 = .ok (.goto 4, 3) := by decide +kernel
theorem dX0_slotOf_19 : decode cX0_slotOf 19 = .ok (.iconst (-1), 1) := by decide +kernel
theorem dX0_slotOf_20 : decode cX0_slotOf 20 = .ok (.ireturn, 1) := by decide +kernel
theorem dX0_timeOf_0 : decode cX0_timeOf 0 = .ok (.aload_n 0, 1) := by decide +kernel
theorem dX0_timeOf_1 : decode cX0_timeOf 1 = .ok (.iload_n 1, 1) := by decide +kernel
theorem dX0_timeOf_2 : decode cX0_timeOf 2 = .ok (.aload_n 0, 1) := by decide +kernel
theorem dX0_timeOf_3 : decode cX0_timeOf 3 = .ok (.iload_n 1, 1) := by decide +kernel
theorem dX0_timeOf_4 : decode cX0_timeOf 4 = .ok (.invokevirtual 71, 3) := by decide +kernel
theorem dX0_timeOf_7 : decode cX0_timeOf 7 = .ok (.invokevirtual 74, 3) := by decide +kernel
theorem dX0_timeOf_10 : decode cX0_timeOf 10 = .ok (.ireturn, 1) := by decide +kernel
theorem dX0_time_0 : decode cX0_time 0 = .ok (.iload_n 2, 1) := by decide +kernel
theorem dX0_time_1 : decode cX0_time 1 = .ok (.ifCond .lt 9, 3) := by decide +kernel
theorem dX0_time_4 : decode cX0_time 4 = .ok (.iload_n 2, 1) := by decide +kernel
theorem dX0_time_5 : decode cX0_time 5 = .ok (.bipush 6, 2) := by decide +kernel
theorem dX0_time_7 : decode cX0_time 7 = .ok (.if_icmp .lt 5, 3) := by decide +kernel
theorem dX0_time_10 : decode cX0_time 10 = .ok (.iconst (-1), 1) := by decide +kernel
theorem dX0_time_11 : decode cX0_time 11 = .ok (.ireturn, 1) := by decide +kernel
theorem dX0_time_12 : decode cX0_time 12 = .ok (.aload_n 0, 1) := by decide +kernel
theorem dX0_time_13 : decode cX0_time 13 = .ok (.getfield 11, 3) := by decide +kernel
theorem dX0_time_16 : decode cX0_time 16 = .ok (.iload_n 2, 1) := by decide +kernel
theorem dX0_time_17 : decode cX0_time 17 = .ok (.aaload, 1) := by decide +kernel
theorem dX0_time_18 : decode cX0_time 18 = .ok (.aload_n 0, 1) := by decide +kernel
theorem dX0_time_19 : decode cX0_time 19 = .ok (.getfield 24, 3) := by decide +kernel
theorem dX0_time_22 : decode cX0_time 22 = .ok (.getfield 31, 3) := by decide +kernel
theorem dX0_time_25 : decode cX0_time 25 = .ok (.iload_n 1, 1) := by decide +kernel
theorem dX0_time_26 : decode cX0_time 26 = .ok (.invokevirtual 56, 3) := by decide +kernel
theorem dX0_time_29 : decode cX0_time 29 = .ok (.invokevirtual 77, 3) := by decide +kernel
theorem dX0_time_32 : decode cX0_time 32 = .ok (.ireturn, 1) := by decide +kernel
theorem dX0_weigh_0 : decode cX0_weigh 0 = .ok (.iconst 0, 1) := by decide +kernel
theorem dX0_weigh_1 : decode cX0_weigh 1 = .ok (.istore_n 1, 1) := by decide +kernel
theorem dX0_weigh_2 : decode cX0_weigh 2 = .ok (.iconst 0, 1) := by decide +kernel
theorem dX0_weigh_3 : decode cX0_weigh 3 = .ok (.istore_n 2, 1) := by decide +kernel
theorem dX0_weigh_4 : decode cX0_weigh 4 = .ok (.iconst 0, 1) := by decide +kernel
theorem dX0_weigh_5 : decode cX0_weigh 5 = .ok (.istore_n 3, 1) := by decide +kernel
theorem dX0_weigh_6 : decode cX0_weigh 6 = .ok (.iload_n 3, 1) := by decide +kernel
theorem dX0_weigh_7 : decode cX0_weigh 7 = .ok (.aload_n 0, 1) := by decide +kernel
theorem dX0_weigh_8 : decode cX0_weigh 8 = .ok (.getfield 52, 3) := by decide +kernel
theorem dX0_weigh_11 : decode cX0_weigh 11 = .ok (.if_icmp .ge 47, 3) := by decide +kernel
theorem dX0_weigh_14 : decode cX0_weigh 14 = .ok (.iload_n 3, 1) := by decide +kernel
theorem dX0_weigh_15 : decode cX0_weigh 15 = .ok (.bipush 6, 2) := by decide +kernel
theorem dX0_weigh_17 : decode cX0_weigh 17 = .ok (.if_icmp .ge 41, 3) := by decide +kernel
theorem dX0_weigh_20 : decode cX0_weigh 20 = .ok (.aload_n 0, 1) := by decide +kernel
theorem dX0_weigh_21 : decode cX0_weigh 21 = .ok (.iload_n 3, 1) := by decide +kernel
theorem dX0_weigh_22 : decode cX0_weigh 22 = .ok (.aload_n 0, 1) := by decide +kernel
theorem dX0_weigh_23 : decode cX0_weigh 23 = .ok (.getfield 17, 3) := by decide +kernel
theorem dX0_weigh_26 : decode cX0_weigh 26 = .ok (.iload_n 3, 1) := by decide +kernel
theorem dX0_weigh_27 : decode cX0_weigh 27 = .ok (.iaload, 1) := by decide +kernel
theorem dX0_weigh_28 : decode cX0_weigh 28 = .ok (.invokevirtual 74, 3) := by decide +kernel
theorem dX0_weigh_31 : decode cX0_weigh 31 = .ok (.istore 4, 2) := by decide +kernel
theorem dX0_weigh_33 : decode cX0_weigh 33 = .ok (.iload 4, 2) := by decide +kernel
theorem dX0_weigh_35 : decode cX0_weigh 35 = .ok (.iconst (-1), 1) := by decide +kernel
theorem dX0_weigh_36 : decode cX0_weigh 36 = .ok (.if_icmp .ne 4, 3) := by decide +kernel
theorem dX0_weigh_39 : decode cX0_weigh 39 = .ok (.return_, 1) := by decide +kernel
theorem dX0_weigh_40 : decode cX0_weigh 40 = .ok (.iload_n 1, 1) := by decide +kernel
theorem dX0_weigh_41 : decode cX0_weigh 41 = .ok (.iload 4, 2) := by decide +kernel
theorem dX0_weigh_43 : decode cX0_weigh 43 = .ok (.invokestatic 80, 3) := by decide +kernel
theorem dX0_weigh_46 : decode cX0_weigh 46 = .ok (.istore_n 1, 1) := by decide +kernel
theorem dX0_weigh_47 : decode cX0_weigh 47 = .ok (.iload_n 2, 1) := by decide +kernel
theorem dX0_weigh_48 : decode cX0_weigh 48 = .ok (.iload 4, 2) := by decide +kernel
theorem dX0_weigh_50 : decode cX0_weigh 50 = .ok (.iadd, 1) := by decide +kernel
theorem dX0_weigh_51 : decode cX0_weigh 51 = .ok (.istore_n 2, 1) := by decide +kernel
theorem dX0_weigh_52 : decode cX0_weigh 52 = .ok (.iinc 3 1, 3) := by decide +kernel
theorem dX0_weigh_55 : decode cX0_weigh 55 = .ok (.goto (-49), 3) := by decide +kernel
theorem dX0_weigh_58 : decode cX0_weigh 58 = .ok (.aload_n 0, 1) := by decide +kernel
theorem dX0_weigh_59 : decode cX0_weigh 59 = .ok (.dup, 1) := by decide +kernel
theorem dX0_weigh_60 : decode cX0_weigh 60 = .ok (.getfield 53, 3) := by decide +kernel
theorem dX0_weigh_63 : decode cX0_weigh 63 = .ok (.iconst 1, 1) := by decide +kernel
theorem dX0_weigh_64 : decode cX0_weigh 64 = .ok (.iadd, 1) := by decide +kernel
theorem dX0_weigh_65 : decode cX0_weigh 65 = .ok (.putfield 53, 3) := by decide +kernel
theorem dX0_weigh_68 : decode cX0_weigh 68 = .ok (.aload_n 0, 1) := by decide +kernel
theorem dX0_weigh_69 : decode cX0_weigh 69 = .ok (.getfield 53, 3) := by decide +kernel
theorem dX0_weigh_72 : decode cX0_weigh 72 = .ok (.iconst 1, 1) := by decide +kernel
theorem dX0_weigh_73 : decode cX0_weigh 73 = .ok (.if_icmp .eq 11, 3) := by decide +kernel
theorem dX0_weigh_76 : decode cX0_weigh 76 = .ok (.iload_n 1, 1) := by decide +kernel
theorem dX0_weigh_77 : decode cX0_weigh 77 = .ok (.aload_n 0, 1) := by decide +kernel
theorem dX0_weigh_78 : decode cX0_weigh 78 = .ok (.getfield 83, 3) := by decide +kernel
theorem dX0_weigh_81 : decode cX0_weigh 81 = .ok (.if_icmp .ge 17, 3) := by decide +kernel
theorem dX0_weigh_84 : decode cX0_weigh 84 = .ok (.aload_n 0, 1) := by decide +kernel
theorem dX0_weigh_85 : decode cX0_weigh 85 = .ok (.iconst 0, 1) := by decide +kernel
theorem dX0_weigh_86 : decode cX0_weigh 86 = .ok (.putfield 86, 3) := by decide +kernel
theorem dX0_weigh_89 : decode cX0_weigh 89 = .ok (.aload_n 0, 1) := by decide +kernel
theorem dX0_weigh_90 : decode cX0_weigh 90 = .ok (.iload_n 1, 1) := by decide +kernel
theorem dX0_weigh_91 : decode cX0_weigh 91 = .ok (.iload_n 2, 1) := by decide +kernel
theorem dX0_weigh_92 : decode cX0_weigh 92 = .ok (.invokevirtual 89, 3) := by decide +kernel
theorem dX0_weigh_95 : decode cX0_weigh 95 = .ok (.goto 25, 3) := by decide +kernel
theorem dX0_weigh_98 : decode cX0_weigh 98 = .ok (.iload_n 1, 1) := by decide +kernel
theorem dX0_weigh_99 : decode cX0_weigh 99 = .ok (.aload_n 0, 1) := by decide +kernel
theorem dX0_weigh_100 : decode cX0_weigh 100 = .ok (.getfield 83, 3) := by decide +kernel
theorem dX0_weigh_103 : decode cX0_weigh 103 = .ok (.if_icmp .ne 17, 3) := by decide +kernel
theorem dX0_weigh_106 : decode cX0_weigh 106 = .ok (.iload_n 2, 1) := by decide +kernel
theorem dX0_weigh_107 : decode cX0_weigh 107 = .ok (.aload_n 0, 1) := by decide +kernel
theorem dX0_weigh_108 : decode cX0_weigh 108 = .ok (.getfield 93, 3) := by decide +kernel
theorem dX0_weigh_111 : decode cX0_weigh 111 = .ok (.if_icmp .ge 9, 3) := by decide +kernel
theorem dX0_weigh_114 : decode cX0_weigh 114 = .ok (.aload_n 0, 1) := by decide +kernel
theorem dX0_weigh_115 : decode cX0_weigh 115 = .ok (.iload_n 1, 1) := by decide +kernel
theorem dX0_weigh_116 : decode cX0_weigh 116 = .ok (.iload_n 2, 1) := by decide +kernel
theorem dX0_weigh_117 : decode cX0_weigh 117 = .ok (.invokevirtual 89, 3) := by decide +kernel
theorem dX0_weigh_120 : decode cX0_weigh 120 = .ok (.iload_n 1, 1) := by decide +kernel
theorem dX0_weigh_121 : decode cX0_weigh 121 = .ok (.aload_n 0, 1) := by decide +kernel
theorem dX0_weigh_122 : decode cX0_weigh 122 = .ok (.getfield 83, 3) := by decide +kernel
theorem dX0_weigh_125 : decode cX0_weigh 125 = .ok (.if_icmp .ne 13, 3) := by decide +kernel
theorem dX0_weigh_128 : decode cX0_weigh 128 = .ok (.aload_n 0, 1) := by decide +kernel
theorem dX0_weigh_129 : decode cX0_weigh 129 = .ok (.dup, 1) := by decide +kernel
theorem dX0_weigh_130 : decode cX0_weigh 130 = .ok (.getfield 86, 3) := by decide +kernel
theorem dX0_weigh_133 : decode cX0_weigh 133 = .ok (.iconst 1, 1) := by decide +kernel
theorem dX0_weigh_134 : decode cX0_weigh 134 = .ok (.iadd, 1) := by decide +kernel
theorem dX0_weigh_135 : decode cX0_weigh 135 = .ok (.putfield 86, 3) := by decide +kernel
theorem dX0_weigh_138 : decode cX0_weigh 138 = .ok (.return_, 1) := by decide +kernel
theorem dX0_take_0 : decode cX0_take 0 = .ok (.aload_n 0, 1) := by decide +kernel
theorem dX0_take_1 : decode cX0_take 1 = .ok (.iload_n 1, 1) := by decide +kernel
theorem dX0_take_2 : decode cX0_take 2 = .ok (.putfield 83, 3) := by decide +kernel
theorem dX0_take_5 : decode cX0_take 5 = .ok (.aload_n 0, 1) := by decide +kernel
theorem dX0_take_6 : decode cX0_take 6 = .ok (.iload_n 2, 1) := by decide +kernel
theorem dX0_take_7 : decode cX0_take 7 = .ok (.putfield 93, 3) := by decide +kernel
theorem dX0_take_10 : decode cX0_take 10 = .ok (.aload_n 0, 1) := by decide +kernel
theorem dX0_take_11 : decode cX0_take 11 = .ok (.getfield 17, 3) := by decide +kernel
theorem dX0_take_14 : decode cX0_take 14 = .ok (.iconst 0, 1) := by decide +kernel
theorem dX0_take_15 : decode cX0_take 15 = .ok (.aload_n 0, 1) := by decide +kernel
theorem dX0_take_16 : decode cX0_take 16 = .ok (.getfield 21, 3) := by decide +kernel
theorem dX0_take_19 : decode cX0_take 19 = .ok (.iconst 0, 1) := by decide +kernel
theorem dX0_take_20 : decode cX0_take 20 = .ok (.bipush 6, 2) := by decide +kernel
theorem dX0_take_22 : decode cX0_take 22 = .ok (.invokestatic 96, 3) := by decide +kernel
theorem dX0_take_25 : decode cX0_take 25 = .ok (.return_, 1) := by decide +kernel
theorem dX0_nextTrial_0 : decode cX0_nextTrial 0 = .ok (.aload_n 0, 1) := by decide +kernel
theorem dX0_nextTrial_1 : decode cX0_nextTrial 1 = .ok (.getfield 52, 3) := by decide +kernel
theorem dX0_nextTrial_4 : decode cX0_nextTrial 4 = .ok (.bipush 6, 2) := by decide +kernel
theorem dX0_nextTrial_6 : decode cX0_nextTrial 6 = .ok (.invokestatic 46, 3) := by decide +kernel
theorem dX0_nextTrial_9 : decode cX0_nextTrial 9 = .ok (.iconst 2, 1) := by decide +kernel
theorem dX0_nextTrial_10 : decode cX0_nextTrial 10 = .ok (.isub, 1) := by decide +kernel
theorem dX0_nextTrial_11 : decode cX0_nextTrial 11 = .ok (.istore_n 1, 1) := by decide +kernel
theorem dX0_nextTrial_12 : decode cX0_nextTrial 12 = .ok (.iload_n 1, 1) := by decide +kernel
theorem dX0_nextTrial_13 : decode cX0_nextTrial 13 = .ok (.ifCond .lt 26, 3) := by decide +kernel
theorem dX0_nextTrial_16 : decode cX0_nextTrial 16 = .ok (.aload_n 0, 1) := by decide +kernel
theorem dX0_nextTrial_17 : decode cX0_nextTrial 17 = .ok (.getfield 17, 3) := by decide +kernel
theorem dX0_nextTrial_20 : decode cX0_nextTrial 20 = .ok (.iload_n 1, 1) := by decide +kernel
theorem dX0_nextTrial_21 : decode cX0_nextTrial 21 = .ok (.iaload, 1) := by decide +kernel
theorem dX0_nextTrial_22 : decode cX0_nextTrial 22 = .ok (.aload_n 0, 1) := by decide +kernel
theorem dX0_nextTrial_23 : decode cX0_nextTrial 23 = .ok (.getfield 17, 3) := by decide +kernel
theorem dX0_nextTrial_26 : decode cX0_nextTrial 26 = .ok (.iload_n 1, 1) := by decide +kernel
theorem dX0_nextTrial_27 : decode cX0_nextTrial 27 = .ok (.iconst 1, 1) := by decide +kernel
theorem dX0_nextTrial_28 : decode cX0_nextTrial 28 = .ok (.iadd, 1) := by decide +kernel
theorem dX0_nextTrial_29 : decode cX0_nextTrial 29 = .ok (.iaload, 1) := by decide +kernel
theorem dX0_nextTrial_30 : decode cX0_nextTrial 30 = .ok (.if_icmp .le 9, 3) := by decide +kernel
theorem dX0_nextTrial_33 : decode cX0_nextTrial 33 = .ok (.iinc 1 (-1), 3) := by decide +kernel
theorem dX0_nextTrial_36 : decode cX0_nextTrial 36 = .ok (.goto (-24), 3) := by decide +kernel
theorem dX0_nextTrial_39 : decode cX0_nextTrial 39 = .ok (.iload_n 1, 1) := by decide +kernel
theorem dX0_nextTrial_40 : decode cX0_nextTrial 40 = .ok (.ifCond .ge 5, 3) := by decide +kernel
theorem dX0_nextTrial_43 : decode cX0_nextTrial 43 = .ok (.iconst 0, 1) := by decide +kernel
theorem dX0_nextTrial_44 : decode cX0_nextTrial 44 = .ok (.ireturn, 1) := by decide +kernel
theorem dX0_nextTrial_45 : decode cX0_nextTrial 45 = .ok (.aload_n 0, 1) := by decide +kernel
theorem dX0_nextTrial_46 : decode cX0_nextTrial 46 = .ok (.getfield 52, 3) := by decide +kernel
theorem dX0_nextTrial_49 : decode cX0_nextTrial 49 = .ok (.bipush 6, 2) := by decide +kernel
theorem dX0_nextTrial_51 : decode cX0_nextTrial 51 = .ok (.invokestatic 46, 3) := by decide +kernel
theorem dX0_nextTrial_54 : decode cX0_nextTrial 54 = .ok (.iconst 1, 1) := by decide +kernel
theorem dX0_nextTrial_55 : decode cX0_nextTrial 55 = .ok (.isub, 1) := by decide +kernel
theorem dX0_nextTrial_56 : decode cX0_nextTrial 56 = .ok (.istore_n 2, 1) := by decide +kernel
theorem dX0_nextTrial_57 : decode cX0_nextTrial 57 = .ok (.iload_n 2, 1) := by decide +kernel
theorem dX0_nextTrial_58 : decode cX0_nextTrial 58 = .ok (.iload_n 1, 1) := by decide +kernel
theorem dX0_nextTrial_59 : decode cX0_nextTrial 59 = .ok (.if_icmp .le 24, 3) := by decide +kernel
theorem dX0_nextTrial_62 : decode cX0_nextTrial 62 = .ok (.aload_n 0, 1) := by decide +kernel
theorem dX0_nextTrial_63 : decode cX0_nextTrial 63 = .ok (.getfield 17, 3) := by decide +kernel
theorem dX0_nextTrial_66 : decode cX0_nextTrial 66 = .ok (.iload_n 2, 1) := by decide +kernel
theorem dX0_nextTrial_67 : decode cX0_nextTrial 67 = .ok (.iaload, 1) := by decide +kernel
theorem dX0_nextTrial_68 : decode cX0_nextTrial 68 = .ok (.aload_n 0, 1) := by decide +kernel
theorem dX0_nextTrial_69 : decode cX0_nextTrial 69 = .ok (.getfield 17, 3) := by decide +kernel
theorem dX0_nextTrial_72 : decode cX0_nextTrial 72 = .ok (.iload_n 1, 1) := by decide +kernel
theorem dX0_nextTrial_73 : decode cX0_nextTrial 73 = .ok (.iaload, 1) := by decide +kernel
theorem dX0_nextTrial_74 : decode cX0_nextTrial 74 = .ok (.if_icmp .ge 9, 3) := by decide +kernel
theorem dX0_nextTrial_77 : decode cX0_nextTrial 77 = .ok (.iinc 2 (-1), 3) := by decide +kernel
theorem dX0_nextTrial_80 : decode cX0_nextTrial 80 = .ok (.goto (-23), 3) := by decide +kernel
theorem dX0_nextTrial_83 : decode cX0_nextTrial 83 = .ok (.aload_n 0, 1) := by decide +kernel
theorem dX0_nextTrial_84 : decode cX0_nextTrial 84 = .ok (.iload_n 1, 1) := by decide +kernel
theorem dX0_nextTrial_85 : decode cX0_nextTrial 85 = .ok (.iload_n 2, 1) := by decide +kernel
theorem dX0_nextTrial_86 : decode cX0_nextTrial 86 = .ok (.invokevirtual 102, 3) := by decide +kernel
theorem dX0_nextTrial_89 : decode cX0_nextTrial 89 = .ok (.iload_n 1, 1) := by decide +kernel
theorem dX0_nextTrial_90 : decode cX0_nextTrial 90 = .ok (.iconst 1, 1) := by decide +kernel
theorem dX0_nextTrial_91 : decode cX0_nextTrial 91 = .ok (.iadd, 1) := by decide +kernel
theorem dX0_nextTrial_92 : decode cX0_nextTrial 92 = .ok (.istore_n 3, 1) := by decide +kernel
theorem dX0_nextTrial_93 : decode cX0_nextTrial 93 = .ok (.aload_n 0, 1) := by decide +kernel
theorem dX0_nextTrial_94 : decode cX0_nextTrial 94 = .ok (.getfield 52, 3) := by decide +kernel
theorem dX0_nextTrial_97 : decode cX0_nextTrial 97 = .ok (.bipush 6, 2) := by decide +kernel
theorem dX0_nextTrial_99 : decode cX0_nextTrial 99 = .ok (.invokestatic 46, 3) := by decide +kernel
theorem dX0_nextTrial_102 : decode cX0_nextTrial 102 = .ok (.iconst 1, 1) := by decide +kernel
theorem dX0_nextTrial_103 : decode cX0_nextTrial 103 = .ok (.isub, 1) := by decide +kernel
theorem dX0_nextTrial_104 : decode cX0_nextTrial 104 = .ok (.istore 4, 2) := by decide +kernel
theorem dX0_nextTrial_106 : decode cX0_nextTrial 106 = .ok (.iload_n 3, 1) := by decide +kernel
theorem dX0_nextTrial_107 : decode cX0_nextTrial 107 = .ok (.iload 4, 2) := by decide +kernel
theorem dX0_nextTrial_109 : decode cX0_nextTrial 109 = .ok (.if_icmp .ge 19, 3) := by decide +kernel
theorem dX0_nextTrial_112 : decode cX0_nextTrial 112 = .ok (.aload_n 0, 1) := by decide +kernel
theorem dX0_nextTrial_113 : decode cX0_nextTrial 113 = .ok (.iload_n 3, 1) := by decide +kernel
theorem dX0_nextTrial_114 : decode cX0_nextTrial 114 = .ok (.iload 4, 2) := by decide +kernel
theorem dX0_nextTrial_116 : decode cX0_nextTrial 116 = .ok (.invokevirtual 102, 3) := by decide +kernel
theorem dX0_nextTrial_119 : decode cX0_nextTrial 119 = .ok (.iinc 3 1, 3) := by decide +kernel
theorem dX0_nextTrial_122 : decode cX0_nextTrial 122 = .ok (.iinc 4 (-1), 3) := by decide +kernel
theorem dX0_nextTrial_125 : decode cX0_nextTrial 125 = .ok (.goto (-19), 3) := by decide +kernel
theorem dX0_nextTrial_128 : decode cX0_nextTrial 128 = .ok (.iconst 1, 1) := by decide +kernel
theorem dX0_nextTrial_129 : decode cX0_nextTrial 129 = .ok (.ireturn, 1) := by decide +kernel
theorem dX0_swap_0 : decode cX0_swap 0 = .ok (.iload_n 1, 1) := by decide +kernel
theorem dX0_swap_1 : decode cX0_swap 1 = .ok (.ifCond .lt 45, 3) := by decide +kernel
theorem dX0_swap_4 : decode cX0_swap 4 = .ok (.iload_n 1, 1) := by decide +kernel
theorem dX0_swap_5 : decode cX0_swap 5 = .ok (.bipush 6, 2) := by decide +kernel
theorem dX0_swap_7 : decode cX0_swap 7 = .ok (.if_icmp .ge 39, 3) := by decide +kernel
theorem dX0_swap_10 : decode cX0_swap 10 = .ok (.iload_n 2, 1) := by decide +kernel
theorem dX0_swap_11 : decode cX0_swap 11 = .ok (.ifCond .lt 35, 3) := by decide +kernel
theorem dX0_swap_14 : decode cX0_swap 14 = .ok (.iload_n 2, 1) := by decide +kernel
theorem dX0_swap_15 : decode cX0_swap 15 = .ok (.bipush 6, 2) := by decide +kernel
theorem dX0_swap_17 : decode cX0_swap 17 = .ok (.if_icmp .ge 29, 3) := by decide +kernel
theorem dX0_swap_20 : decode cX0_swap 20 = .ok (.aload_n 0, 1) := by decide +kernel
theorem dX0_swap_21 : decode cX0_swap 21 = .ok (.getfield 17, 3) := by decide +kernel
theorem dX0_swap_24 : decode cX0_swap 24 = .ok (.iload_n 1, 1) := by decide +kernel
theorem dX0_swap_25 : decode cX0_swap 25 = .ok (.iaload, 1) := by decide +kernel
theorem dX0_swap_26 : decode cX0_swap 26 = .ok (.istore_n 3, 1) := by decide +kernel
theorem dX0_swap_27 : decode cX0_swap 27 = .ok (.aload_n 0, 1) := by decide +kernel
theorem dX0_swap_28 : decode cX0_swap 28 = .ok (.getfield 17, 3) := by decide +kernel
theorem dX0_swap_31 : decode cX0_swap 31 = .ok (.iload_n 1, 1) := by decide +kernel
theorem dX0_swap_32 : decode cX0_swap 32 = .ok (.aload_n 0, 1) := by decide +kernel
theorem dX0_swap_33 : decode cX0_swap 33 = .ok (.getfield 17, 3) := by decide +kernel
theorem dX0_swap_36 : decode cX0_swap 36 = .ok (.iload_n 2, 1) := by decide +kernel
theorem dX0_swap_37 : decode cX0_swap 37 = .ok (.iaload, 1) := by decide +kernel
theorem dX0_swap_38 : decode cX0_swap 38 = .ok (.iastore, 1) := by decide +kernel
theorem dX0_swap_39 : decode cX0_swap 39 = .ok (.aload_n 0, 1) := by decide +kernel
theorem dX0_swap_40 : decode cX0_swap 40 = .ok (.getfield 17, 3) := by decide +kernel
theorem dX0_swap_43 : decode cX0_swap 43 = .ok (.iload_n 2, 1) := by decide +kernel
theorem dX0_swap_44 : decode cX0_swap 44 = .ok (.iload_n 3, 1) := by decide +kernel
theorem dX0_swap_45 : decode cX0_swap 45 = .ok (.iastore, 1) := by decide +kernel
theorem dX0_swap_46 : decode cX0_swap 46 = .ok (.return_, 1) := by decide +kernel
theorem dX1_init_0 : decode cX1_init 0 = .ok (.aload_n 0, 1) := by decide +kernel
theorem dX1_init_1 : decode cX1_init 1 = .ok (.invokespecial 3, 3) := by decide +kernel
theorem dX1_init_4 : decode cX1_init 4 = .ok (.aload_n 0, 1) := by decide +kernel
theorem dX1_init_5 : decode cX1_init 5 = .ok (.bipush 61, 2) := by decide +kernel
theorem dX1_init_7 : decode cX1_init 7 = .ok (.newarray .int, 2) := by decide +kernel
theorem dX1_init_9 : decode cX1_init 9 = .ok (.putfield 9, 3) := by decide +kernel
theorem dX1_init_12 : decode cX1_init 12 = .ok (.aload_n 0, 1) := by decide +kernel
theorem dX1_init_13 : decode cX1_init 13 = .ok (.bipush 61, 2) := by decide +kernel
theorem dX1_init_15 : decode cX1_init 15 = .ok (.newarray .int, 2) := by decide +kernel
theorem dX1_init_17 : decode cX1_init 17 = .ok (.putfield 15, 3) := by decide +kernel
theorem dX1_init_20 : decode cX1_init 20 = .ok (.return_, 1) := by decide +kernel
theorem dX1_begin_0 : decode cX1_begin 0 = .ok (.aload_n 0, 1) := by decide +kernel
theorem dX1_begin_1 : decode cX1_begin 1 = .ok (.iconst 0, 1) := by decide +kernel
theorem dX1_begin_2 : decode cX1_begin 2 = .ok (.putfield 18, 3) := by decide +kernel
theorem dX1_begin_5 : decode cX1_begin 5 = .ok (.aload_n 0, 1) := by decide +kernel
theorem dX1_begin_6 : decode cX1_begin 6 = .ok (.getfield 9, 3) := by decide +kernel
theorem dX1_begin_9 : decode cX1_begin 9 = .ok (.iload_n 1, 1) := by decide +kernel
theorem dX1_begin_10 : decode cX1_begin 10 = .ok (.invokestatic 22, 3) := by decide +kernel
theorem dX1_begin_13 : decode cX1_begin 13 = .ok (.aload_n 0, 1) := by decide +kernel
theorem dX1_begin_14 : decode cX1_begin 14 = .ok (.getfield 15, 3) := by decide +kernel
theorem dX1_begin_17 : decode cX1_begin 17 = .ok (.iconst 0, 1) := by decide +kernel
theorem dX1_begin_18 : decode cX1_begin 18 = .ok (.invokestatic 22, 3) := by decide +kernel
theorem dX1_begin_21 : decode cX1_begin 21 = .ok (.return_, 1) := by decide +kernel
theorem dX1_add_0 : decode cX1_add 0 = .ok (.iconst 0, 1) := by decide +kernel
theorem dX1_add_1 : decode cX1_add 1 = .ok (.istore 4, 2) := by decide +kernel
theorem dX1_add_3 : decode cX1_add 3 = .ok (.iload 4, 2) := by decide +kernel
theorem dX1_add_5 : decode cX1_add 5 = .ok (.iload_n 2, 1) := by decide +kernel
theorem dX1_add_6 : decode cX1_add 6 = .ok (.if_icmp .ge 45, 3) := by decide +kernel
theorem dX1_add_9 : decode cX1_add 9 = .ok (.aload_n 0, 1) := by decide +kernel
theorem dX1_add_10 : decode cX1_add 10 = .ok (.getfield 18, 3) := by decide +kernel
theorem dX1_add_13 : decode cX1_add 13 = .ok (.ifCond .lt 38, 3) := by decide +kernel
theorem dX1_add_16 : decode cX1_add 16 = .ok (.aload_n 0, 1) := by decide +kernel
theorem dX1_add_17 : decode cX1_add 17 = .ok (.getfield 18, 3) := by decide +kernel
theorem dX1_add_20 : decode cX1_add 20 = .ok (.bipush 60, 2) := by decide +kernel
theorem dX1_add_22 : decode cX1_add 22 = .ok (.if_icmp .ge 29, 3) := by decide +kernel
theorem dX1_add_25 : decode cX1_add 25 = .ok (.aload_n 0, 1) := by decide +kernel
theorem dX1_add_26 : decode cX1_add 26 = .ok (.getfield 15, 3) := by decide +kernel
theorem dX1_add_29 : decode cX1_add 29 = .ok (.aload_n 0, 1) := by decide +kernel
theorem dX1_add_30 : decode cX1_add 30 = .ok (.getfield 18, 3) := by decide +kernel
theorem dX1_add_33 : decode cX1_add 33 = .ok (.iload_n 1, 1) := by decide +kernel
theorem dX1_add_34 : decode cX1_add 34 = .ok (.iastore, 1) := by decide +kernel
theorem dX1_add_35 : decode cX1_add 35 = .ok (.aload_n 0, 1) := by decide +kernel
theorem dX1_add_36 : decode cX1_add 36 = .ok (.dup, 1) := by decide +kernel
theorem dX1_add_37 : decode cX1_add 37 = .ok (.getfield 18, 3) := by decide +kernel
theorem dX1_add_40 : decode cX1_add 40 = .ok (.iconst 1, 1) := by decide +kernel
theorem dX1_add_41 : decode cX1_add 41 = .ok (.iadd, 1) := by decide +kernel
theorem dX1_add_42 : decode cX1_add 42 = .ok (.putfield 18, 3) := by decide +kernel
theorem dX1_add_45 : decode cX1_add 45 = .ok (.iinc 4 1, 3) := by decide +kernel
theorem dX1_add_48 : decode cX1_add 48 = .ok (.goto (-45), 3) := by decide +kernel
theorem dX1_add_51 : decode cX1_add 51 = .ok (.aload_n 0, 1) := by decide +kernel
theorem dX1_add_52 : decode cX1_add 52 = .ok (.getfield 18, 3) := by decide +kernel
theorem dX1_add_55 : decode cX1_add 55 = .ok (.iconst 0, 1) := by decide +kernel
theorem dX1_add_56 : decode cX1_add 56 = .ok (.invokestatic 28, 3) := by decide +kernel
theorem dX1_add_59 : decode cX1_add 59 = .ok (.istore 4, 2) := by decide +kernel
theorem dX1_add_61 : decode cX1_add 61 = .ok (.iload 4, 2) := by decide +kernel
theorem dX1_add_63 : decode cX1_add 63 = .ok (.bipush 61, 2) := by decide +kernel
theorem dX1_add_65 : decode cX1_add 65 = .ok (.if_icmp .ge 17, 3) := by decide +kernel
theorem dX1_add_68 : decode cX1_add 68 = .ok (.aload_n 0, 1) := by decide +kernel
theorem dX1_add_69 : decode cX1_add 69 = .ok (.getfield 9, 3) := by decide +kernel
theorem dX1_add_72 : decode cX1_add 72 = .ok (.iload 4, 2) := by decide +kernel
theorem dX1_add_74 : decode cX1_add 74 = .ok (.iload_n 3, 1) := by decide +kernel
theorem dX1_add_75 : decode cX1_add 75 = .ok (.iastore, 1) := by decide +kernel
theorem dX1_add_76 : decode cX1_add 76 = .ok (.iinc 4 1, 3) := by decide +kernel
theorem dX1_add_79 : decode cX1_add 79 = .ok (.goto (-18), 3) := by decide +kernel
theorem dX1_add_82 : decode cX1_add 82 = .ok (.return_, 1) := by decide +kernel
theorem dX1_cellAt_0 : decode cX1_cellAt 0 = .ok (.aload_n 0, 1) := by decide +kernel
theorem dX1_cellAt_1 : decode cX1_cellAt 1 = .ok (.getfield 9, 3) := by decide +kernel
theorem dX1_cellAt_4 : decode cX1_cellAt 4 = .ok (.iconst 0, 1) := by decide +kernel
theorem dX1_cellAt_5 : decode cX1_cellAt 5 = .ok (.iload_n 1, 1) := by decide +kernel
theorem dX1_cellAt_6 : decode cX1_cellAt 6 = .ok (.bipush 60, 2) := by decide +kernel
theorem dX1_cellAt_8 : decode cX1_cellAt 8 = .ok (.invokestatic 34, 3) := by decide +kernel
theorem dX1_cellAt_11 : decode cX1_cellAt 11 = .ok (.invokestatic 28, 3) := by decide +kernel
theorem dX1_cellAt_14 : decode cX1_cellAt 14 = .ok (.iaload, 1) := by decide +kernel
theorem dX1_cellAt_15 : decode cX1_cellAt 15 = .ok (.ireturn, 1) := by decide +kernel
theorem dX1_actionAt_0 : decode cX1_actionAt 0 = .ok (.iload_n 1, 1) := by decide +kernel
theorem dX1_actionAt_1 : decode cX1_actionAt 1 = .ok (.ifCond .lt 26, 3) := by decide +kernel
theorem dX1_actionAt_4 : decode cX1_actionAt 4 = .ok (.iload_n 1, 1) := by decide +kernel
theorem dX1_actionAt_5 : decode cX1_actionAt 5 = .ok (.aload_n 0, 1) := by decide +kernel
theorem dX1_actionAt_6 : decode cX1_actionAt 6 = .ok (.getfield 18, 3) := by decide +kernel
theorem dX1_actionAt_9 : decode cX1_actionAt 9 = .ok (.if_icmp .ge 18, 3) := by decide +kernel
theorem dX1_actionAt_12 : decode cX1_actionAt 12 = .ok (.iload_n 1, 1) := by decide +kernel
theorem dX1_actionAt_13 : decode cX1_actionAt 13 = .ok (.bipush 60, 2) := by decide +kernel
theorem dX1_actionAt_15 : decode cX1_actionAt 15 = .ok (.if_icmp .ge 12, 3) := by decide +kernel
theorem dX1_actionAt_18 : decode cX1_actionAt 18 = .ok (.aload_n 0, 1) := by decide +kernel
theorem dX1_actionAt_19 : decode cX1_actionAt 19 = .ok (.getfield 15, 3) := by decide +kernel
theorem dX1_actionAt_22 : decode cX1_actionAt 22 = .ok (.iload_n 1, 1) := by decide +kernel
theorem dX1_actionAt_23 : decode cX1_actionAt 23 = .ok (.iaload, 1) := by decide +kernel
theorem dX1_actionAt_24 : decode cX1_actionAt 24 = .ok (.goto 4, 3) := by decide +kernel
theorem dX1_actionAt_27 : decode cX1_actionAt 27 = .ok (.iconst 0, 1) := by decide +kernel
theorem dX1_actionAt_28 : decode cX1_actionAt 28 = .ok (.ireturn, 1) := by decide +kernel
theorem dX1_meets_0 : decode cX1_meets 0 = .ok (.iconst 0, 1) := by decide +kernel
theorem dX1_meets_1 : decode cX1_meets 1 = .ok (.istore_n 2, 1) := by decide +kernel
theorem dX1_meets_2 : decode cX1_meets 2 = .ok (.iload_n 2, 1) := by decide +kernel
theorem dX1_meets_3 : decode cX1_meets 3 = .ok (.bipush 60, 2) := by decide +kernel
theorem dX1_meets_5 : decode cX1_meets 5 = .ok (.if_icmp .gt 66, 3) := by decide +kernel
theorem dX1_meets_8 : decode cX1_meets 8 = .ok (.aload_n 0, 1) := by decide +kernel
theorem dX1_meets_9 : decode cX1_meets 9 = .ok (.iload_n 2, 1) := by decide +kernel
theorem dX1_meets_10 : decode cX1_meets 10 = .ok (.invokevirtual 37, 3) := by decide +kernel
theorem dX1_meets_13 : decode cX1_meets 13 = .ok (.aload_n 1, 1) := by decide +kernel
theorem dX1_meets_14 : decode cX1_meets 14 = .ok (.iload_n 2, 1) := by decide +kernel
theorem dX1_meets_15 : decode cX1_meets 15 = .ok (.invokevirtual 37, 3) := by decide +kernel
theorem dX1_meets_18 : decode cX1_meets 18 = .ok (.if_icmp .ne 5, 3) := by decide +kernel
theorem dX1_meets_21 : decode cX1_meets 21 = .ok (.iconst 1, 1) := by decide +kernel
theorem dX1_meets_22 : decode cX1_meets 22 = .ok (.ireturn, 1) := by decide +kernel
theorem dX1_meets_23 : decode cX1_meets 23 = .ok (.aload_n 0, 1) := by decide +kernel
theorem dX1_meets_24 : decode cX1_meets 24 = .ok (.iload_n 2, 1) := by decide +kernel
theorem dX1_meets_25 : decode cX1_meets 25 = .ok (.iconst 1, 1) := by decide +kernel
theorem dX1_meets_26 : decode cX1_meets 26 = .ok (.iadd, 1) := by decide +kernel
theorem dX1_meets_27 : decode cX1_meets 27 = .ok (.invokevirtual 37, 3) := by decide +kernel
theorem dX1_meets_30 : decode cX1_meets 30 = .ok (.aload_n 1, 1) := by decide +kernel
theorem dX1_meets_31 : decode cX1_meets 31 = .ok (.iload_n 2, 1) := by decide +kernel
theorem dX1_meets_32 : decode cX1_meets 32 = .ok (.invokevirtual 37, 3) := by decide +kernel
theorem dX1_meets_35 : decode cX1_meets 35 = .ok (.if_icmp .ne 7, 3) := by decide +kernel
theorem dX1_meets_38 : decode cX1_meets 38 = .ok (.iconst 1, 1) := by decide +kernel
theorem dX1_meets_39 : decode cX1_meets 39 = .ok (.goto 4, 3) := by decide +kernel
theorem dX1_meets_42 : decode cX1_meets 42 = .ok (.iconst 0, 1) := by decide +kernel
theorem dX1_meets_43 : decode cX1_meets 43 = .ok (.istore_n 3, 1) := by decide +kernel
theorem dX1_meets_44 : decode cX1_meets 44 = .ok (.iload_n 3, 1) := by decide +kernel
theorem dX1_meets_45 : decode cX1_meets 45 = .ok (.ifCond .eq 20, 3) := by decide +kernel
theorem dX1_meets_48 : decode cX1_meets 48 = .ok (.aload_n 0, 1) := by decide +kernel
theorem dX1_meets_49 : decode cX1_meets 49 = .ok (.iload_n 2, 1) := by decide +kernel
theorem dX1_meets_50 : decode cX1_meets 50 = .ok (.invokevirtual 37, 3) := by decide +kernel
theorem dX1_meets_53 : decode cX1_meets 53 = .ok (.aload_n 1, 1) := by decide +kernel
theorem dX1_meets_54 : decode cX1_meets 54 = .ok (.iload_n 2, 1) := by decide +kernel
theorem dX1_meets_55 : decode cX1_meets 55 = .ok (.iconst 1, 1) := by decide +kernel
theorem dX1_meets_56 : decode cX1_meets 56 = .ok (.iadd, 1) := by decide +kernel
theorem dX1_meets_57 : decode cX1_meets 57 = .ok (.invokevirtual 37, 3) := by decide +kernel
theorem dX1_meets_60 : decode cX1_meets 60 = .ok (.if_icmp .ne 5, 3) := by decide +kernel
theorem dX1_meets_63 : decode cX1_meets 63 = .ok (.iconst 1, 1) := by decide +kernel
theorem dX1_meets_64 : decode cX1_meets 64 = .ok (.ireturn, 1) := by decide +kernel
theorem dX1_meets_65 : decode cX1_meets 65 = .ok (.iinc 2 1, 3) := by decide +kernel
theorem dX1_meets_68 : decode cX1_meets 68 = .ok (.goto (-66), 3) := by decide +kernel
theorem dX1_meets_71 : decode cX1_meets 71 = .ok (.iconst 0, 1) := by decide +kernel
theorem dX1_meets_72 : decode cX1_meets 72 = .ok (.ireturn, 1) := by decide +kernel
theorem dX2_init_0 : decode cX2_init 0 = .ok (.aload_n 0, 1) := by decide +kernel
theorem dX2_init_1 : decode cX2_init 1 = .ok (.invokespecial 3, 3) := by decide +kernel
theorem dX2_init_4 : decode cX2_init 4 = .ok (.aload_n 0, 1) := by decide +kernel
theorem dX2_init_5 : decode cX2_init 5 = .ok (.bipush 60, 2) := by decide +kernel
theorem dX2_init_7 : decode cX2_init 7 = .ok (.newarray .int, 2) := by decide +kernel
theorem dX2_init_9 : decode cX2_init 9 = .ok (.putfield 9, 3) := by decide +kernel
theorem dX2_init_12 : decode cX2_init 12 = .ok (.aload_n 0, 1) := by decide +kernel
theorem dX2_init_13 : decode cX2_init 13 = .ok (.new 15, 3) := by decide +kernel
theorem dX2_init_16 : decode cX2_init 16 = .ok (.dup, 1) := by decide +kernel
theorem dX2_init_17 : decode cX2_init 17 = .ok (.invokespecial 17, 3) := by decide +kernel
theorem dX2_init_20 : decode cX2_init 20 = .ok (.putfield 18, 3) := by decide +kernel
theorem dX2_init_23 : decode cX2_init 23 = .ok (.return_, 1) := by decide +kernel
theorem dX2_lengthen_0 : decode cX2_lengthen 0 = .ok (.aload_n 0, 1) := by decide +kernel
theorem dX2_lengthen_1 : decode cX2_lengthen 1 = .ok (.getfield 22, 3) := by decide +kernel
theorem dX2_lengthen_4 : decode cX2_lengthen 4 = .ok (.iload_n 2, 1) := by decide +kernel
theorem dX2_lengthen_5 : decode cX2_lengthen 5 = .ok (.iadd, 1) := by decide +kernel
theorem dX2_lengthen_6 : decode cX2_lengthen 6 = .ok (.bipush 60, 2) := by decide +kernel
theorem dX2_lengthen_8 : decode cX2_lengthen 8 = .ok (.if_icmp .le 5, 3) := by decide +kernel
theorem dX2_lengthen_11 : decode cX2_lengthen 11 = .ok (.iconst 0, 1) := by decide +kernel
theorem dX2_lengthen_12 : decode cX2_lengthen 12 = .ok (.ireturn, 1) := by decide +kernel
theorem dX2_lengthen_13 : decode cX2_lengthen 13 = .ok (.iconst 0, 1) := by decide +kernel
theorem dX2_lengthen_14 : decode cX2_lengthen 14 = .ok (.istore_n 3, 1) := by decide +kernel
theorem dX2_lengthen_15 : decode cX2_lengthen 15 = .ok (.iload_n 3, 1) := by decide +kernel
theorem dX2_lengthen_16 : decode cX2_lengthen 16 = .ok (.iload_n 2, 1) := by decide +kernel
theorem dX2_lengthen_17 : decode cX2_lengthen 17 = .ok (.if_icmp .ge 45, 3) := by decide +kernel
theorem dX2_lengthen_20 : decode cX2_lengthen 20 = .ok (.aload_n 0, 1) := by decide +kernel
theorem dX2_lengthen_21 : decode cX2_lengthen 21 = .ok (.getfield 22, 3) := by decide +kernel
theorem dX2_lengthen_24 : decode cX2_lengthen 24 = .ok (.ifCond .lt 38, 3) := by decide +kernel
theorem dX2_lengthen_27 : decode cX2_lengthen 27 = .ok (.aload_n 0, 1) := by decide +kernel
theorem dX2_lengthen_28 : decode cX2_lengthen 28 = .ok (.getfield 22, 3) := by decide +kernel
theorem dX2_lengthen_31 : decode cX2_lengthen 31 = .ok (.bipush 60, 2) := by decide +kernel
theorem dX2_lengthen_33 : decode cX2_lengthen 33 = .ok (.if_icmp .ge 29, 3) := by decide +kernel
theorem dX2_lengthen_36 : decode cX2_lengthen 36 = .ok (.aload_n 0, 1) := by decide +kernel
theorem dX2_lengthen_37 : decode cX2_lengthen 37 = .ok (.getfield 9, 3) := by decide +kernel
theorem dX2_lengthen_40 : decode cX2_lengthen 40 = .ok (.aload_n 0, 1) := by decide +kernel
theorem dX2_lengthen_41 : decode cX2_lengthen 41 = .ok (.getfield 22, 3) := by decide +kernel
theorem dX2_lengthen_44 : decode cX2_lengthen 44 = .ok (.iload_n 1, 1) := by decide +kernel
theorem dX2_lengthen_45 : decode cX2_lengthen 45 = .ok (.iastore, 1) := by decide +kernel
theorem dX2_lengthen_46 : decode cX2_lengthen 46 = .ok (.aload_n 0, 1) := by decide +kernel
theorem dX2_lengthen_47 : decode cX2_lengthen 47 = .ok (.dup, 1) := by decide +kernel
theorem dX2_lengthen_48 : decode cX2_lengthen 48 = .ok (.getfield 22, 3) := by decide +kernel
theorem dX2_lengthen_51 : decode cX2_lengthen 51 = .ok (.iconst 1, 1) := by decide +kernel
theorem dX2_lengthen_52 : decode cX2_lengthen 52 = .ok (.iadd, 1) := by decide +kernel
theorem dX2_lengthen_53 : decode cX2_lengthen 53 = .ok (.putfield 22, 3) := by decide +kernel
theorem dX2_lengthen_56 : decode cX2_lengthen 56 = .ok (.iinc 3 1, 3) := by decide +kernel
theorem dX2_lengthen_59 : decode cX2_lengthen 59 = .ok (.goto (-44), 3) := by decide +kernel
theorem dX2_lengthen_62 : decode cX2_lengthen 62 = .ok (.iconst 1, 1) := by decide +kernel
theorem dX2_lengthen_63 : decode cX2_lengthen 63 = .ok (.ireturn, 1) := by decide +kernel
theorem dX2_read_0 : decode cX2_read 0 = .ok (.aload_n 0, 1) := by decide +kernel
theorem dX2_read_1 : decode cX2_read 1 = .ok (.iconst 0, 1) := by decide +kernel
theorem dX2_read_2 : decode cX2_read 2 = .ok (.putfield 26, 3) := by decide +kernel
theorem dX2_read_5 : decode cX2_read 5 = .ok (.aload_n 0, 1) := by decide +kernel
theorem dX2_read_6 : decode cX2_read 6 = .ok (.iconst 0, 1) := by decide +kernel
theorem dX2_read_7 : decode cX2_read 7 = .ok (.putfield 29, 3) := by decide +kernel
theorem dX2_read_10 : decode cX2_read 10 = .ok (.aload_n 0, 1) := by decide +kernel
theorem dX2_read_11 : decode cX2_read 11 = .ok (.getfield 18, 3) := by decide +kernel
theorem dX2_read_14 : decode cX2_read 14 = .ok (.invokevirtual 33, 3) := by decide +kernel
theorem dX2_read_17 : decode cX2_read 17 = .ok (.aload_n 0, 1) := by decide +kernel
theorem dX2_read_18 : decode cX2_read 18 = .ok (.invokevirtual 36, 3) := by decide +kernel
theorem dX2_read_21 : decode cX2_read 21 = .ok (.istore_n 1, 1) := by decide +kernel
theorem dX2_read_22 : decode cX2_read 22 = .ok (.aload_n 0, 1) := by decide +kernel
theorem dX2_read_23 : decode cX2_read 23 = .ok (.iconst 0, 1) := by decide +kernel
theorem dX2_read_24 : decode cX2_read 24 = .ok (.putfield 22, 3) := by decide +kernel
theorem dX2_read_27 : decode cX2_read 27 = .ok (.iload_n 1, 1) := by decide +kernel
theorem dX2_read_28 : decode cX2_read 28 = .ok (.ireturn, 1) := by decide +kernel
theorem dX2_readPositions_0 : decode cX2_readPositions 0 = .ok (.iconst 1, 1) := by decide +kernel
theorem dX2_readPositions_1 : decode cX2_readPositions 1 = .ok (.istore_n 1, 1) := by decide +kernel
theorem dX2_readPositions_2 : decode cX2_readPositions 2 = .ok (.iload_n 1, 1) := by decide +kernel
theorem dX2_readPositions_3 : decode cX2_readPositions 3 = .ok (.bipush 60, 2) := by decide +kernel
theorem dX2_readPositions_5 : decode cX2_readPositions 5 = .ok (.if_icmp .gt 64, 3) := by decide +kernel
theorem dX2_readPositions_8 : decode cX2_readPositions 8 = .ok (.aload_n 0, 1) := by decide +kernel
theorem dX2_readPositions_9 : decode cX2_readPositions 9 = .ok (.invokevirtual 40, 3) := by decide +kernel
theorem dX2_readPositions_12 : decode cX2_readPositions 12 = .ok (.ifCond .ne 11, 3) := by decide +kernel
theorem dX2_readPositions_15 : decode cX2_readPositions 15 = .ok (.bipush (-100), 2) := by decide +kernel
theorem dX2_readPositions_17 : decode cX2_readPositions 17 = .ok (.aload_n 0, 1) := by decide +kernel
theorem dX2_readPositions_18 : decode cX2_readPositions 18 = .ok (.getfield 26, 3) := by decide +kernel
theorem dX2_readPositions_21 : decode cX2_readPositions 21 = .ok (.isub, 1) := by decide +kernel
theorem dX2_readPositions_22 : decode cX2_readPositions 22 = .ok (.ireturn, 1) := by decide +kernel
theorem dX2_readPositions_23 : decode cX2_readPositions 23 = .ok (.aload_n 0, 1) := by decide +kernel
theorem dX2_readPositions_24 : decode cX2_readPositions 24 = .ok (.getfield 26, 3) := by decide +kernel
theorem dX2_readPositions_27 : decode cX2_readPositions 27 = .ok (.aload_n 0, 1) := by decide +kernel
theorem dX2_readPositions_28 : decode cX2_readPositions 28 = .ok (.getfield 22, 3) := by decide +kernel
theorem dX2_readPositions_31 : decode cX2_readPositions 31 = .ok (.if_icmp .lt 5, 3) := by decide +kernel
theorem dX2_readPositions_34 : decode cX2_readPositions 34 = .ok (.iload_n 1, 1) := by decide +kernel
theorem dX2_readPositions_35 : decode cX2_readPositions 35 = .ok (.ireturn, 1) := by decide +kernel
theorem dX2_readPositions_36 : decode cX2_readPositions 36 = .ok (.aload_n 0, 1) := by decide +kernel
theorem dX2_readPositions_37 : decode cX2_readPositions 37 = .ok (.invokevirtual 44, 3) := by decide +kernel
theorem dX2_readPositions_40 : decode cX2_readPositions 40 = .ok (.bipush 32, 2) := by decide +kernel
theorem dX2_readPositions_42 : decode cX2_readPositions 42 = .ok (.if_icmp .eq 11, 3) := by decide +kernel
theorem dX2_readPositions_45 : decode cX2_readPositions 45 = .ok (.bipush (-100), 2) := by decide +kernel
theorem dX2_readPositions_47 : decode cX2_readPositions 47 = .ok (.aload_n 0, 1) := by decide +kernel
theorem dX2_readPositions_48 : decode cX2_readPositions 48 = .ok (.getfield 26, 3) := by decide +kernel
theorem dX2_readPositions_51 : decode cX2_readPositions 51 = .ok (.isub, 1) := by decide +kernel
theorem dX2_readPositions_52 : decode cX2_readPositions 52 = .ok (.ireturn, 1) := by decide +kernel
theorem dX2_readPositions_53 : decode cX2_readPositions 53 = .ok (.aload_n 0, 1) := by decide +kernel
theorem dX2_readPositions_54 : decode cX2_readPositions 54 = .ok (.dup, 1) := by decide +kernel
theorem dX2_readPositions_55 : decode cX2_readPositions 55 = .ok (.getfield 26, 3) := by decide +kernel
theorem dX2_readPositions_58 : decode cX2_readPositions 58 = .ok (.iconst 1, 1) := by decide +kernel
theorem dX2_readPositions_59 : decode cX2_readPositions 59 = .ok (.iadd, 1) := by decide +kernel
theorem dX2_readPositions_60 : decode cX2_readPositions 60 = .ok (.putfield 26, 3) := by decide +kernel
theorem dX2_readPositions_63 : decode cX2_readPositions 63 = .ok (.iinc 1 1, 3) := by decide +kernel
theorem dX2_readPositions_66 : decode cX2_readPositions 66 = .ok (.goto (-64), 3) := by decide +kernel
theorem dX2_readPositions_69 : decode cX2_readPositions 69 = .ok (.bipush (-100), 2) := by decide +kernel
theorem dX2_readPositions_71 : decode cX2_readPositions 71 = .ok (.aload_n 0, 1) := by decide +kernel
theorem dX2_readPositions_72 : decode cX2_readPositions 72 = .ok (.getfield 26, 3) := by decide +kernel
theorem dX2_readPositions_75 : decode cX2_readPositions 75 = .ok (.isub, 1) := by decide +kernel
theorem dX2_readPositions_76 : decode cX2_readPositions 76 = .ok (.ireturn, 1) := by decide +kernel
theorem dX2_readPosition_0 : decode cX2_readPosition 0 = .ok (.aload_n 0, 1) := by decide +kernel
theorem dX2_readPosition_1 : decode cX2_readPosition 1 = .ok (.invokevirtual 44, 3) := by decide +kernel
theorem dX2_readPosition_4 : decode cX2_readPosition 4 = .ok (.bipush 97, 2) := by decide +kernel
theorem dX2_readPosition_6 : decode cX2_readPosition 6 = .ok (.isub, 1) := by decide +kernel
theorem dX2_readPosition_7 : decode cX2_readPosition 7 = .ok (.istore_n 1, 1) := by decide +kernel
theorem dX2_readPosition_8 : decode cX2_readPosition 8 = .ok (.iload_n 1, 1) := by decide +kernel
theorem dX2_readPosition_9 : decode cX2_readPosition 9 = .ok (.ifCond .lt 9, 3) := by decide +kernel
theorem dX2_readPosition_12 : decode cX2_readPosition 12 = .ok (.iload_n 1, 1) := by decide +kernel
theorem dX2_readPosition_13 : decode cX2_readPosition 13 = .ok (.bipush 6, 2) := by decide +kernel
theorem dX2_readPosition_15 : decode cX2_readPosition 15 = .ok (.if_icmp .lt 5, 3) := by decide +kernel
theorem dX2_readPosition_18 : decode cX2_readPosition 18 = .ok (.iconst 0, 1) := by decide +kernel
theorem dX2_readPosition_19 : decode cX2_readPosition 19 = .ok (.ireturn, 1) := by decide +kernel
theorem dX2_readPosition_20 : decode cX2_readPosition 20 = .ok (.aload_n 0, 1) := by decide +kernel
theorem dX2_readPosition_21 : decode cX2_readPosition 21 = .ok (.dup, 1) := by decide +kernel
theorem dX2_readPosition_22 : decode cX2_readPosition 22 = .ok (.getfield 26, 3) := by decide +kernel
theorem dX2_readPosition_25 : decode cX2_readPosition 25 = .ok (.iconst 1, 1) := by decide +kernel
theorem dX2_readPosition_26 : decode cX2_readPosition 26 = .ok (.iadd, 1) := by decide +kernel
theorem dX2_readPosition_27 : decode cX2_readPosition 27 = .ok (.putfield 26, 3) := by decide +kernel
theorem dX2_readPosition_30 : decode cX2_readPosition 30 = .ok (.aload_n 0, 1) := by decide +kernel
theorem dX2_readPosition_31 : decode cX2_readPosition 31 = .ok (.invokevirtual 44, 3) := by decide +kernel
theorem dX2_readPosition_34 : decode cX2_readPosition 34 = .ok (.bipush 49, 2) := by decide +kernel
theorem dX2_readPosition_36 : decode cX2_readPosition 36 = .ok (.isub, 1) := by decide +kernel
theorem dX2_readPosition_37 : decode cX2_readPosition 37 = .ok (.istore_n 2, 1) := by decide +kernel
theorem dX2_readPosition_38 : decode cX2_readPosition 38 = .ok (.iload_n 2, 1) := by decide +kernel
theorem dX2_readPosition_39 : decode cX2_readPosition 39 = .ok (.ifCond .lt 9, 3) := by decide +kernel
theorem dX2_readPosition_42 : decode cX2_readPosition 42 = .ok (.iload_n 2, 1) := by decide +kernel
theorem dX2_readPosition_43 : decode cX2_readPosition 43 = .ok (.bipush 6, 2) := by decide +kernel
theorem dX2_readPosition_45 : decode cX2_readPosition 45 = .ok (.if_icmp .lt 5, 3) := by decide +kernel
theorem dX2_readPosition_48 : decode cX2_readPosition 48 = .ok (.iconst 0, 1) := by decide +kernel
theorem dX2_readPosition_49 : decode cX2_readPosition 49 = .ok (.ireturn, 1) := by decide +kernel
theorem dX2_readPosition_50 : decode cX2_readPosition 50 = .ok (.aload_n 0, 1) := by decide +kernel
theorem dX2_readPosition_51 : decode cX2_readPosition 51 = .ok (.dup, 1) := by decide +kernel
theorem dX2_readPosition_52 : decode cX2_readPosition 52 = .ok (.getfield 26, 3) := by decide +kernel
theorem dX2_readPosition_55 : decode cX2_readPosition 55 = .ok (.iconst 1, 1) := by decide +kernel
theorem dX2_readPosition_56 : decode cX2_readPosition 56 = .ok (.iadd, 1) := by decide +kernel
theorem dX2_readPosition_57 : decode cX2_readPosition 57 = .ok (.putfield 26, 3) := by decide +kernel
theorem dX2_readPosition_60 : decode cX2_readPosition 60 = .ok (.iconst 0, 1) := by decide +kernel
theorem dX2_readPosition_61 : decode cX2_readPosition 61 = .ok (.istore_n 3, 1) := by decide +kernel
theorem dX2_readPosition_62 : decode cX2_readPosition 62 = .ok (.iload_n 3, 1) := by decide +kernel
theorem dX2_readPosition_63 : decode cX2_readPosition 63 = .ok (.iconst 2, 1) := by decide +kernel
theorem dX2_readPosition_64 : decode cX2_readPosition 64 = .ok (.if_icmp .ge 28, 3) := by decide +kernel
theorem dX2_readPosition_67 : decode cX2_readPosition 67 = .ok (.aload_n 0, 1) := by decide +kernel
theorem dX2_readPosition_68 : decode cX2_readPosition 68 = .ok (.invokevirtual 44, 3) := by decide +kernel
theorem dX2_readPosition_71 : decode cX2_readPosition 71 = .ok (.bipush 43, 2) := by decide +kernel
theorem dX2_readPosition_73 : decode cX2_readPosition 73 = .ok (.if_icmp .ne 19, 3) := by decide +kernel
theorem dX2_readPosition_76 : decode cX2_readPosition 76 = .ok (.iinc 3 1, 3) := by decide +kernel
theorem dX2_readPosition_79 : decode cX2_readPosition 79 = .ok (.aload_n 0, 1) := by decide +kernel
theorem dX2_readPosition_80 : decode cX2_readPosition 80 = .ok (.dup, 1) := by decide +kernel
theorem dX2_readPosition_81 : decode cX2_readPosition 81 = .ok (.getfield 26, 3) := by decide +kernel
theorem dX2_readPosition_84 : decode cX2_readPosition 84 = .ok (.iconst 1, 1) := by decide +kernel
theorem dX2_readPosition_85 : decode cX2_readPosition 85 = .ok (.iadd, 1) := by decide +kernel
theorem dX2_readPosition_86 : decode cX2_readPosition 86 = .ok (.putfield 26, 3) := by decide +kernel
theorem dX2_readPosition_89 : decode cX2_readPosition 89 = .ok (.goto (-27), 3) := by decide +kernel
theorem dX2_readPosition_92 : decode cX2_readPosition 92 = .ok (.aload_n 0, 1) := by decide +kernel
theorem dX2_readPosition_93 : decode cX2_readPosition 93 = .ok (.iload_n 1, 1) := by decide +kernel
theorem dX2_readPosition_94 : decode cX2_readPosition 94 = .ok (.bipush 6, 2) := by decide +kernel
theorem dX2_readPosition_96 : decode cX2_readPosition 96 = .ok (.iload_n 2, 1) := by decide +kernel
theorem dX2_readPosition_97 : decode cX2_readPosition 97 = .ok (.imul, 1) := by decide +kernel
theorem dX2_readPosition_98 : decode cX2_readPosition 98 = .ok (.iadd, 1) := by decide +kernel
theorem dX2_readPosition_99 : decode cX2_readPosition 99 = .ok (.bipush 36, 2) := by decide +kernel
theorem dX2_readPosition_101 : decode cX2_readPosition 101 = .ok (.iload_n 3, 1) := by decide +kernel
theorem dX2_readPosition_102 : decode cX2_readPosition 102 = .ok (.imul, 1) := by decide +kernel
theorem dX2_readPosition_103 : decode cX2_readPosition 103 = .ok (.iadd, 1) := by decide +kernel
theorem dX2_readPosition_104 : decode cX2_readPosition 104 = .ok (.invokevirtual 47, 3) := by decide +kernel
theorem dX2_readPosition_107 : decode cX2_readPosition 107 = .ok (.iconst 1, 1) := by decide +kernel
theorem dX2_readPosition_108 : decode cX2_readPosition 108 = .ok (.ireturn, 1) := by decide +kernel
theorem dX2_note_0 : decode cX2_note 0 = .ok (.aload_n 0, 1) := by decide +kernel
theorem dX2_note_1 : decode cX2_note 1 = .ok (.getfield 18, 3) := by decide +kernel
theorem dX2_note_4 : decode cX2_note 4 = .ok (.iload_n 1, 1) := by decide +kernel
theorem dX2_note_5 : decode cX2_note 5 = .ok (.invokevirtual 51, 3) := by decide +kernel
theorem dX2_note_8 : decode cX2_note 8 = .ok (.iconst (-1), 1) := by decide +kernel
theorem dX2_note_9 : decode cX2_note 9 = .ok (.if_icmp .eq 8, 3) := by decide +kernel
theorem dX2_note_12 : decode cX2_note 12 = .ok (.aload_n 0, 1) := by decide +kernel
theorem dX2_note_13 : decode cX2_note 13 = .ok (.iconst 1, 1) := by decide +kernel
theorem dX2_note_14 : decode cX2_note 14 = .ok (.putfield 29, 3) := by decide +kernel
theorem dX2_note_17 : decode cX2_note 17 = .ok (.aload_n 0, 1) := by decide +kernel
theorem dX2_note_18 : decode cX2_note 18 = .ok (.getfield 18, 3) := by decide +kernel
theorem dX2_note_21 : decode cX2_note 21 = .ok (.iload_n 1, 1) := by decide +kernel
theorem dX2_note_22 : decode cX2_note 22 = .ok (.invokevirtual 55, 3) := by decide +kernel
theorem dX2_note_25 : decode cX2_note 25 = .ok (.return_, 1) := by decide +kernel
theorem dX2_signHere_0 : decode cX2_signHere 0 = .ok (.aload_n 0, 1) := by decide +kernel
theorem dX2_signHere_1 : decode cX2_signHere 1 = .ok (.getfield 26, 3) := by decide +kernel
theorem dX2_signHere_4 : decode cX2_signHere 4 = .ok (.ifCond .lt 35, 3) := by decide +kernel
theorem dX2_signHere_7 : decode cX2_signHere 7 = .ok (.aload_n 0, 1) := by decide +kernel
theorem dX2_signHere_8 : decode cX2_signHere 8 = .ok (.getfield 26, 3) := by decide +kernel
theorem dX2_signHere_11 : decode cX2_signHere 11 = .ok (.aload_n 0, 1) := by decide +kernel
theorem dX2_signHere_12 : decode cX2_signHere 12 = .ok (.getfield 22, 3) := by decide +kernel
theorem dX2_signHere_15 : decode cX2_signHere 15 = .ok (.if_icmp .ge 24, 3) := by decide +kernel
theorem dX2_signHere_18 : decode cX2_signHere 18 = .ok (.aload_n 0, 1) := by decide +kernel
theorem dX2_signHere_19 : decode cX2_signHere 19 = .ok (.getfield 26, 3) := by decide +kernel
theorem dX2_signHere_22 : decode cX2_signHere 22 = .ok (.bipush 60, 2) := by decide +kernel
theorem dX2_signHere_24 : decode cX2_signHere 24 = .ok (.if_icmp .ge 15, 3) := by decide +kernel
theorem dX2_signHere_27 : decode cX2_signHere 27 = .ok (.aload_n 0, 1) := by decide +kernel
theorem dX2_signHere_28 : decode cX2_signHere 28 = .ok (.getfield 9, 3) := by decide +kernel
theorem dX2_signHere_31 : decode cX2_signHere 31 = .ok (.aload_n 0, 1) := by decide +kernel
theorem dX2_signHere_32 : decode cX2_signHere 32 = .ok (.getfield 26, 3) := by decide +kernel
theorem dX2_signHere_35 : decode cX2_signHere 35 = .ok (.iaload, 1) := by decide +kernel
theorem dX2_signHere_36 : decode cX2_signHere 36 = .ok (.goto 4, 3) := by decide +kernel
theorem dX2_signHere_39 : decode cX2_signHere 39 = .ok (.iconst (-1), 1) := by decide +kernel
theorem dX2_signHere_40 : decode cX2_signHere 40 = .ok (.ireturn, 1) := by decide +kernel
theorem dX3_init_0 : decode cX3_init 0 = .ok (.aload_n 0, 1) := by decide +kernel
theorem dX3_init_1 : decode cX3_init 1 = .ok (.invokespecial 3, 3) := by decide +kernel
theorem dX3_init_4 : decode cX3_init 4 = .ok (.aload_n 0, 1) := by decide +kernel
theorem dX3_init_5 : decode cX3_init 5 = .ok (.bipush 8, 2) := by decide +kernel
theorem dX3_init_7 : decode cX3_init 7 = .ok (.anewarray 9, 3) := by decide +kernel
theorem dX3_init_10 : decode cX3_init 10 = .ok (.putfield 11, 3) := by decide +kernel
theorem dX3_init_13 : decode cX3_init 13 = .ok (.iconst 0, 1) := by decide +kernel
theorem dX3_init_14 : decode cX3_init 14 = .ok (.istore_n 1, 1) := by decide +kernel
theorem dX3_init_15 : decode cX3_init 15 = .ok (.iload_n 1, 1) := by decide +kernel
theorem dX3_init_16 : decode cX3_init 16 = .ok (.bipush 8, 2) := by decide +kernel
theorem dX3_init_18 : decode cX3_init 18 = .ok (.if_icmp .ge 22, 3) := by decide +kernel
theorem dX3_init_21 : decode cX3_init 21 = .ok (.aload_n 0, 1) := by decide +kernel
theorem dX3_init_22 : decode cX3_init 22 = .ok (.getfield 11, 3) := by decide +kernel
theorem dX3_init_25 : decode cX3_init 25 = .ok (.iload_n 1, 1) := by decide +kernel
theorem dX3_init_26 : decode cX3_init 26 = .ok (.new 9, 3) := by decide +kernel
theorem dX3_init_29 : decode cX3_init 29 = .ok (.dup, 1) := by decide +kernel
theorem dX3_init_30 : decode cX3_init 30 = .ok (.invokespecial 17, 3) := by decide +kernel
theorem dX3_init_33 : decode cX3_init 33 = .ok (.aastore, 1) := by decide +kernel
theorem dX3_init_34 : decode cX3_init 34 = .ok (.iinc 1 1, 3) := by decide +kernel
theorem dX3_init_37 : decode cX3_init 37 = .ok (.goto (-22), 3) := by decide +kernel
theorem dX3_init_40 : decode cX3_init 40 = .ok (.return_, 1) := by decide +kernel
theorem dX3_keep_0 : decode cX3_keep 0 = .ok (.aload_n 0, 1) := by decide +kernel
theorem dX3_keep_1 : decode cX3_keep 1 = .ok (.getfield 11, 3) := by decide +kernel
theorem dX3_keep_4 : decode cX3_keep 4 = .ok (.aload_n 0, 1) := by decide +kernel
theorem dX3_keep_5 : decode cX3_keep 5 = .ok (.getfield 18, 3) := by decide +kernel
theorem dX3_keep_8 : decode cX3_keep 8 = .ok (.bipush 8, 2) := by decide +kernel
theorem dX3_keep_10 : decode cX3_keep 10 = .ok (.invokestatic 22, 3) := by decide +kernel
theorem dX3_keep_13 : decode cX3_keep 13 = .ok (.aaload, 1) := by decide +kernel
theorem dX3_keep_14 : decode cX3_keep 14 = .ok (.aload_n 1, 1) := by decide +kernel
theorem dX3_keep_15 : decode cX3_keep 15 = .ok (.invokevirtual 28, 3) := by decide +kernel
theorem dX3_keep_18 : decode cX3_keep 18 = .ok (.aload_n 0, 1) := by decide +kernel
theorem dX3_keep_19 : decode cX3_keep 19 = .ok (.aload_n 0, 1) := by decide +kernel
theorem dX3_keep_20 : decode cX3_keep 20 = .ok (.getfield 18, 3) := by decide +kernel
theorem dX3_keep_23 : decode cX3_keep 23 = .ok (.iconst 1, 1) := by decide +kernel
theorem dX3_keep_24 : decode cX3_keep 24 = .ok (.iadd, 1) := by decide +kernel
theorem dX3_keep_25 : decode cX3_keep 25 = .ok (.bipush 8, 2) := by decide +kernel
theorem dX3_keep_27 : decode cX3_keep 27 = .ok (.invokestatic 22, 3) := by decide +kernel
theorem dX3_keep_30 : decode cX3_keep 30 = .ok (.putfield 18, 3) := by decide +kernel
theorem dX3_keep_33 : decode cX3_keep 33 = .ok (.aload_n 0, 1) := by decide +kernel
theorem dX3_keep_34 : decode cX3_keep 34 = .ok (.aload_n 0, 1) := by decide +kernel
theorem dX3_keep_35 : decode cX3_keep 35 = .ok (.getfield 32, 3) := by decide +kernel
theorem dX3_keep_38 : decode cX3_keep 38 = .ok (.iconst 1, 1) := by decide +kernel
theorem dX3_keep_39 : decode cX3_keep 39 = .ok (.iadd, 1) := by decide +kernel
theorem dX3_keep_40 : decode cX3_keep 40 = .ok (.bipush 8, 2) := by decide +kernel
theorem dX3_keep_42 : decode cX3_keep 42 = .ok (.invokestatic 35, 3) := by decide +kernel
theorem dX3_keep_45 : decode cX3_keep 45 = .ok (.putfield 32, 3) := by decide +kernel
theorem dX3_keep_48 : decode cX3_keep 48 = .ok (.return_, 1) := by decide +kernel
theorem dX3_bringBack_0 : decode cX3_bringBack 0 = .ok (.aload_n 0, 1) := by decide +kernel
theorem dX3_bringBack_1 : decode cX3_bringBack 1 = .ok (.getfield 32, 3) := by decide +kernel
theorem dX3_bringBack_4 : decode cX3_bringBack 4 = .ok (.ifCond .ne 5, 3) := by decide +kernel
theorem dX3_bringBack_7 : decode cX3_bringBack 7 = .ok (.iconst 0, 1) := by decide +kernel
theorem dX3_bringBack_8 : decode cX3_bringBack 8 = .ok (.ireturn, 1) := by decide +kernel
theorem dX3_bringBack_9 : decode cX3_bringBack 9 = .ok (.aload_n 0, 1) := by decide +kernel
theorem dX3_bringBack_10 : decode cX3_bringBack 10 = .ok (.aload_n 0, 1) := by decide +kernel
theorem dX3_bringBack_11 : decode cX3_bringBack 11 = .ok (.getfield 18, 3) := by decide +kernel
theorem dX3_bringBack_14 : decode cX3_bringBack 14 = .ok (.iconst 1, 1) := by decide +kernel
theorem dX3_bringBack_15 : decode cX3_bringBack 15 = .ok (.isub, 1) := by decide +kernel
theorem dX3_bringBack_16 : decode cX3_bringBack 16 = .ok (.bipush 8, 2) := by decide +kernel
theorem dX3_bringBack_18 : decode cX3_bringBack 18 = .ok (.invokestatic 22, 3) := by decide +kernel
theorem dX3_bringBack_21 : decode cX3_bringBack 21 = .ok (.putfield 18, 3) := by decide +kernel
theorem dX3_bringBack_24 : decode cX3_bringBack 24 = .ok (.aload_n 1, 1) := by decide +kernel
theorem dX3_bringBack_25 : decode cX3_bringBack 25 = .ok (.aload_n 0, 1) := by decide +kernel
theorem dX3_bringBack_26 : decode cX3_bringBack 26 = .ok (.getfield 11, 3) := by decide +kernel
theorem dX3_bringBack_29 : decode cX3_bringBack 29 = .ok (.aload_n 0, 1) := by decide +kernel
theorem dX3_bringBack_30 : decode cX3_bringBack 30 = .ok (.getfield 18, 3) := by decide +kernel
theorem dX3_bringBack_33 : decode cX3_bringBack 33 = .ok (.bipush 8, 2) := by decide +kernel
theorem dX3_bringBack_35 : decode cX3_bringBack 35 = .ok (.invokestatic 22, 3) := by decide +kernel
theorem dX3_bringBack_38 : decode cX3_bringBack 38 = .ok (.aaload, 1) := by decide +kernel
theorem dX3_bringBack_39 : decode cX3_bringBack 39 = .ok (.invokevirtual 28, 3) := by decide +kernel
theorem dX3_bringBack_42 : decode cX3_bringBack 42 = .ok (.aload_n 0, 1) := by decide +kernel
theorem dX3_bringBack_43 : decode cX3_bringBack 43 = .ok (.dup, 1) := by decide +kernel
theorem dX3_bringBack_44 : decode cX3_bringBack 44 = .ok (.getfield 32, 3) := by decide +kernel
theorem dX3_bringBack_47 : decode cX3_bringBack 47 = .ok (.iconst 1, 1) := by decide +kernel
theorem dX3_bringBack_48 : decode cX3_bringBack 48 = .ok (.isub, 1) := by decide +kernel
theorem dX3_bringBack_49 : decode cX3_bringBack 49 = .ok (.putfield 32, 3) := by decide +kernel
theorem dX3_bringBack_52 : decode cX3_bringBack 52 = .ok (.iconst 1, 1) := by decide +kernel
theorem dX3_bringBack_53 : decode cX3_bringBack 53 = .ok (.ireturn, 1) := by decide +kernel
theorem dX4_init_0 : decode cX4_init 0 = .ok (.aload_n 0, 1) := by decide +kernel
theorem dX4_init_1 : decode cX4_init 1 = .ok (.invokespecial 3, 3) := by decide +kernel
theorem dX4_init_4 : decode cX4_init 4 = .ok (.aload_n 0, 1) := by decide +kernel
theorem dX4_init_5 : decode cX4_init 5 = .ok (.sipush 756, 3) := by decide +kernel
theorem dX4_init_8 : decode cX4_init 8 = .ok (.newarray .int, 2) := by decide +kernel
theorem dX4_init_10 : decode cX4_init 10 = .ok (.putfield 9, 3) := by decide +kernel
theorem dX4_init_13 : decode cX4_init 13 = .ok (.aload_n 0, 1) := by decide +kernel
theorem dX4_init_14 : decode cX4_init 14 = .ok (.aload_n 1, 1) := by decide +kernel
theorem dX4_init_15 : decode cX4_init 15 = .ok (.putfield 15, 3) := by decide +kernel
theorem dX4_init_18 : decode cX4_init 18 = .ok (.iconst 0, 1) := by decide +kernel
theorem dX4_init_19 : decode cX4_init 19 = .ok (.istore_n 2, 1) := by decide +kernel
theorem dX4_init_20 : decode cX4_init 20 = .ok (.iload_n 2, 1) := by decide +kernel
theorem dX4_init_21 : decode cX4_init 21 = .ok (.bipush 108, 2) := by decide +kernel
theorem dX4_init_23 : decode cX4_init 23 = .ok (.if_icmp .ge 39, 3) := by decide +kernel
theorem dX4_init_26 : decode cX4_init 26 = .ok (.iconst 0, 1) := by decide +kernel
theorem dX4_init_27 : decode cX4_init 27 = .ok (.istore_n 3, 1) := by decide +kernel
theorem dX4_init_28 : decode cX4_init 28 = .ok (.iload_n 3, 1) := by decide +kernel
theorem dX4_init_29 : decode cX4_init 29 = .ok (.bipush 7, 2) := by decide +kernel
theorem dX4_init_31 : decode cX4_init 31 = .ok (.if_icmp .ge 25, 3) := by decide +kernel
theorem dX4_init_34 : decode cX4_init 34 = .ok (.aload_n 0, 1) := by decide +kernel
theorem dX4_init_35 : decode cX4_init 35 = .ok (.getfield 9, 3) := by decide +kernel
theorem dX4_init_38 : decode cX4_init 38 = .ok (.iload_n 2, 1) := by decide +kernel
theorem dX4_init_39 : decode cX4_init 39 = .ok (.bipush 7, 2) := by decide +kernel
theorem dX4_init_41 : decode cX4_init 41 = .ok (.imul, 1) := by decide +kernel
theorem dX4_init_42 : decode cX4_init 42 = .ok (.iload_n 3, 1) := by decide +kernel
theorem dX4_init_43 : decode cX4_init 43 = .ok (.iadd, 1) := by decide +kernel
theorem dX4_init_44 : decode cX4_init 44 = .ok (.iload_n 2, 1) := by decide +kernel
theorem dX4_init_45 : decode cX4_init 45 = .ok (.iload_n 3, 1) := by decide +kernel
theorem dX4_init_46 : decode cX4_init 46 = .ok (.invokestatic 19, 3) := by decide +kernel
theorem dX4_init_49 : decode cX4_init 49 = .ok (.iastore, 1) := by decide +kernel
theorem dX4_init_50 : decode cX4_init 50 = .ok (.iinc 3 1, 3) := by decide +kernel
theorem dX4_init_53 : decode cX4_init 53 = .ok (.goto (-25), 3) := by decide +kernel
theorem dX4_init_56 : decode cX4_init 56 = .ok (.iinc 2 1, 3) := by decide +kernel
theorem dX4_init_59 : decode cX4_init 59 = .ok (.goto (-39), 3) := by decide +kernel
theorem dX4_init_62 : decode cX4_init 62 = .ok (.return_, 1) := by decide +kernel
theorem dX4_next_0 : decode cX4_next 0 = .ok (.iload_n 1, 1) := by decide +kernel
theorem dX4_next_1 : decode cX4_next 1 = .ok (.invokestatic 23, 3) := by decide +kernel
theorem dX4_next_4 : decode cX4_next 4 = .ok (.ifCond .eq 10, 3) := by decide +kernel
theorem dX4_next_7 : decode cX4_next 7 = .ok (.iload_n 2, 1) := by decide +kernel
theorem dX4_next_8 : decode cX4_next 8 = .ok (.invokestatic 27, 3) := by decide +kernel
theorem dX4_next_11 : decode cX4_next 11 = .ok (.ifCond .ne 5, 3) := by decide +kernel
theorem dX4_next_14 : decode cX4_next 14 = .ok (.iconst (-1), 1) := by decide +kernel
theorem dX4_next_15 : decode cX4_next 15 = .ok (.ireturn, 1) := by decide +kernel
theorem dX4_next_16 : decode cX4_next 16 = .ok (.aload_n 0, 1) := by decide +kernel
theorem dX4_next_17 : decode cX4_next 17 = .ok (.getfield 9, 3) := by decide +kernel
theorem dX4_next_20 : decode cX4_next 20 = .ok (.iload_n 1, 1) := by decide +kernel
theorem dX4_next_21 : decode cX4_next 21 = .ok (.bipush 7, 2) := by decide +kernel
theorem dX4_next_23 : decode cX4_next 23 = .ok (.imul, 1) := by decide +kernel
theorem dX4_next_24 : decode cX4_next 24 = .ok (.iload_n 2, 1) := by decide +kernel
theorem dX4_next_25 : decode cX4_next 25 = .ok (.iadd, 1) := by decide +kernel
theorem dX4_next_26 : decode cX4_next 26 = .ok (.iaload, 1) := by decide +kernel
theorem dX4_next_27 : decode cX4_next 27 = .ok (.istore_n 3, 1) := by decide +kernel
theorem dX4_next_28 : decode cX4_next 28 = .ok (.iload_n 3, 1) := by decide +kernel
theorem dX4_next_29 : decode cX4_next 29 = .ok (.invokestatic 23, 3) := by decide +kernel
theorem dX4_next_32 : decode cX4_next 32 = .ok (.ifCond .eq 19, 3) := by decide +kernel
theorem dX4_next_35 : decode cX4_next 35 = .ok (.aload_n 0, 1) := by decide +kernel
theorem dX4_next_36 : decode cX4_next 36 = .ok (.getfield 15, 3) := by decide +kernel
theorem dX4_next_39 : decode cX4_next 39 = .ok (.getfield 30, 3) := by decide +kernel
theorem dX4_next_42 : decode cX4_next 42 = .ok (.iload_n 3, 1) := by decide +kernel
theorem dX4_next_43 : decode cX4_next 43 = .ok (.iaload, 1) := by decide +kernel
theorem dX4_next_44 : decode cX4_next 44 = .ok (.ifCond .ne 7, 3) := by decide +kernel
theorem dX4_next_47 : decode cX4_next 47 = .ok (.iload_n 3, 1) := by decide +kernel
theorem dX4_next_48 : decode cX4_next 48 = .ok (.goto 4, 3) := by decide +kernel
theorem dX4_next_51 : decode cX4_next 51 = .ok (.iconst (-1), 1) := by decide +kernel
theorem dX4_next_52 : decode cX4_next 52 = .ok (.ireturn, 1) := by decide +kernel
theorem dX4_ticks_0 : decode cX4_ticks 0 = .ok (.iload_n 1, 1) := by decide +kernel
theorem dX4_ticks_1 : decode cX4_ticks 1 = .ok (.invokestatic 23, 3) := by decide +kernel
theorem dX4_ticks_4 : decode cX4_ticks 4 = .ok (.ifCond .eq 10, 3) := by decide +kernel
theorem dX4_ticks_7 : decode cX4_ticks 7 = .ok (.iload_n 2, 1) := by decide +kernel
theorem dX4_ticks_8 : decode cX4_ticks 8 = .ok (.invokestatic 27, 3) := by decide +kernel
theorem dX4_ticks_11 : decode cX4_ticks 11 = .ok (.ifCond .ne 5, 3) := by decide +kernel
theorem dX4_ticks_14 : decode cX4_ticks 14 = .ok (.iconst 1, 1) := by decide +kernel
theorem dX4_ticks_15 : decode cX4_ticks 15 = .ok (.ireturn, 1) := by decide +kernel
theorem dX4_ticks_16 : decode cX4_ticks 16 = .ok (.aload_n 0, 1) := by decide +kernel
theorem dX4_ticks_17 : decode cX4_ticks 17 = .ok (.getfield 15, 3) := by decide +kernel
theorem dX4_ticks_20 : decode cX4_ticks 20 = .ok (.getfield 35, 3) := by decide +kernel
theorem dX4_ticks_23 : decode cX4_ticks 23 = .ok (.iload_n 1, 1) := by decide +kernel
theorem dX4_ticks_24 : decode cX4_ticks 24 = .ok (.bipush 36, 2) := by decide +kernel
theorem dX4_ticks_26 : decode cX4_ticks 26 = .ok (.idiv, 1) := by decide +kernel
theorem dX4_ticks_27 : decode cX4_ticks 27 = .ok (.iaload, 1) := by decide +kernel
theorem dX4_ticks_28 : decode cX4_ticks 28 = .ok (.istore_n 3, 1) := by decide +kernel
theorem dX4_ticks_29 : decode cX4_ticks 29 = .ok (.iload_n 3, 1) := by decide +kernel
theorem dX4_ticks_30 : decode cX4_ticks 30 = .ok (.ifCond .eq 16, 3) := by decide +kernel
theorem dX4_ticks_33 : decode cX4_ticks 33 = .ok (.iload_n 3, 1) := by decide +kernel
theorem dX4_ticks_34 : decode cX4_ticks 34 = .ok (.getstatic 38, 3) := by decide +kernel
theorem dX4_ticks_37 : decode cX4_ticks 37 = .ok (.iload_n 2, 1) := by decide +kernel
theorem dX4_ticks_38 : decode cX4_ticks 38 = .ok (.iaload, 1) := by decide +kernel
theorem dX4_ticks_39 : decode cX4_ticks 39 = .ok (.if_icmp .ne 7, 3) := by decide +kernel
theorem dX4_ticks_42 : decode cX4_ticks 42 = .ok (.iconst 2, 1) := by decide +kernel
theorem dX4_ticks_43 : decode cX4_ticks 43 = .ok (.goto 4, 3) := by decide +kernel
theorem dX4_ticks_46 : decode cX4_ticks 46 = .ok (.iconst 1, 1) := by decide +kernel
theorem dX4_ticks_47 : decode cX4_ticks 47 = .ok (.ireturn, 1) := by decide +kernel
theorem dX4_neighbour_0 : decode cX4_neighbour 0 = .ok (.iload_n 1, 1) := by decide +kernel
theorem dX4_neighbour_1 : decode cX4_neighbour 1 = .ok (.invokestatic 27, 3) := by decide +kernel
theorem dX4_neighbour_4 : decode cX4_neighbour 4 = .ok (.ifCond .ne 5, 3) := by decide +kernel
theorem dX4_neighbour_7 : decode cX4_neighbour 7 = .ok (.iconst (-1), 1) := by decide +kernel
theorem dX4_neighbour_8 : decode cX4_neighbour 8 = .ok (.ireturn, 1) := by decide +kernel
theorem dX4_neighbour_9 : decode cX4_neighbour 9 = .ok (.iload_n 0, 1) := by decide +kernel
theorem dX4_neighbour_10 : decode cX4_neighbour 10 = .ok (.bipush 6, 2) := by decide +kernel
theorem dX4_neighbour_12 : decode cX4_neighbour 12 = .ok (.irem, 1) := by decide +kernel
theorem dX4_neighbour_13 : decode cX4_neighbour 13 = .ok (.getstatic 41, 3) := by decide +kernel
theorem dX4_neighbour_16 : decode cX4_neighbour 16 = .ok (.iload_n 1, 1) := by decide +kernel
theorem dX4_neighbour_17 : decode cX4_neighbour 17 = .ok (.iaload, 1) := by decide +kernel
theorem dX4_neighbour_18 : decode cX4_neighbour 18 = .ok (.iadd, 1) := by decide +kernel
theorem dX4_neighbour_19 : decode cX4_neighbour 19 = .ok (.istore_n 2, 1) := by decide +kernel
theorem dX4_neighbour_20 : decode cX4_neighbour 20 = .ok (.iload_n 0, 1) := by decide +kernel
theorem dX4_neighbour_21 : decode cX4_neighbour 21 = .ok (.bipush 6, 2) := by decide +kernel
theorem dX4_neighbour_23 : decode cX4_neighbour 23 = .ok (.idiv, 1) := by decide +kernel
theorem dX4_neighbour_24 : decode cX4_neighbour 24 = .ok (.bipush 6, 2) := by decide +kernel
theorem dX4_neighbour_26 : decode cX4_neighbour 26 = .ok (.irem, 1) := by decide +kernel
theorem dX4_neighbour_27 : decode cX4_neighbour 27 = .ok (.getstatic 44, 3) := by decide +kernel
theorem dX4_neighbour_30 : decode cX4_neighbour 30 = .ok (.iload_n 1, 1) := by decide +kernel
theorem dX4_neighbour_31 : decode cX4_neighbour 31 = .ok (.iaload, 1) := by decide +kernel
theorem dX4_neighbour_32 : decode cX4_neighbour 32 = .ok (.iadd, 1) := by decide +kernel
theorem dX4_neighbour_33 : decode cX4_neighbour 33 = .ok (.istore_n 3, 1) := by decide +kernel
theorem dX4_neighbour_34 : decode cX4_neighbour 34 = .ok (.iload_n 0, 1) := by decide +kernel
theorem dX4_neighbour_35 : decode cX4_neighbour 35 = .ok (.bipush 36, 2) := by decide +kernel
theorem dX4_neighbour_37 : decode cX4_neighbour 37 = .ok (.idiv, 1) := by decide +kernel
theorem dX4_neighbour_38 : decode cX4_neighbour 38 = .ok (.getstatic 47, 3) := by decide +kernel
theorem dX4_neighbour_41 : decode cX4_neighbour 41 = .ok (.iload_n 1, 1) := by decide +kernel
theorem dX4_neighbour_42 : decode cX4_neighbour 42 = .ok (.iaload, 1) := by decide +kernel
theorem dX4_neighbour_43 : decode cX4_neighbour 43 = .ok (.iadd, 1) := by decide +kernel
theorem dX4_neighbour_44 : decode cX4_neighbour 44 = .ok (.istore 4, 2) := by decide +kernel
theorem dX4_neighbour_46 : decode cX4_neighbour 46 = .ok (.iload_n 2, 1) := by decide +kernel
theorem dX4_neighbour_47 : decode cX4_neighbour 47 = .ok (.ifCond .lt 31, 3) := by decide +kernel
theorem dX4_neighbour_50 : decode cX4_neighbour 50 = .ok (.iload_n 2, 1) := by decide +kernel
theorem dX4_neighbour_51 : decode cX4_neighbour 51 = .ok (.bipush 6, 2) := by decide +kernel
theorem dX4_neighbour_53 : decode cX4_neighbour 53 = .ok (.if_icmp .ge 25, 3) := by decide +kernel
theorem dX4_neighbour_56 : decode cX4_neighbour 56 = .ok (.iload_n 3, 1) := by decide +kernel
theorem dX4_neighbour_57 : decode cX4_neighbour 57 = .ok (.ifCond .lt 21, 3) := by decide +kernel
theorem dX4_neighbour_60 : decode cX4_neighbour 60 = .ok (.iload_n 3, 1) := by decide +kernel
theorem dX4_neighbour_61 : decode cX4_neighbour 61 = .ok (.bipush 6, 2) := by decide +kernel
theorem dX4_neighbour_63 : decode cX4_neighbour 63 = .ok (.if_icmp .ge 15, 3) := by decide +kernel
theorem dX4_neighbour_66 : decode cX4_neighbour 66 = .ok (.iload 4, 2) := by decide +kernel
theorem dX4_neighbour_68 : decode cX4_neighbour 68 = .ok (.invokestatic 50, 3) := by decide +kernel
theorem dX4_neighbour_71 : decode cX4_neighbour 71 = .ok (.ifCond .eq 7, 3) := by decide +kernel
theorem dX4_neighbour_74 : decode cX4_neighbour 74 = .ok (.iconst 1, 1) := by decide +kernel
theorem dX4_neighbour_75 : decode cX4_neighbour 75 = .ok (.goto 4, 3) := by decide +kernel
theorem dX4_neighbour_78 : decode cX4_neighbour 78 = .ok (.iconst 0, 1) := by decide +kernel
theorem dX4_neighbour_79 : decode cX4_neighbour 79 = .ok (.istore 5, 2) := by decide +kernel
theorem dX4_neighbour_81 : decode cX4_neighbour 81 = .ok (.iload 5, 2) := by decide +kernel
theorem dX4_neighbour_83 : decode cX4_neighbour 83 = .ok (.ifCond .eq 18, 3) := by decide +kernel
theorem dX4_neighbour_86 : decode cX4_neighbour 86 = .ok (.iload_n 2, 1) := by decide +kernel
theorem dX4_neighbour_87 : decode cX4_neighbour 87 = .ok (.bipush 6, 2) := by decide +kernel
theorem dX4_neighbour_89 : decode cX4_neighbour 89 = .ok (.iload_n 3, 1) := by decide +kernel
theorem dX4_neighbour_90 : decode cX4_neighbour 90 = .ok (.imul, 1) := by decide +kernel
theorem dX4_neighbour_91 : decode cX4_neighbour 91 = .ok (.iadd, 1) := by decide +kernel
theorem dX4_neighbour_92 : decode cX4_neighbour 92 = .ok (.bipush 36, 2) := by decide +kernel
theorem dX4_neighbour_94 : decode cX4_neighbour 94 = .ok (.iload 4, 2) := by decide +kernel
theorem dX4_neighbour_96 : decode cX4_neighbour 96 = .ok (.imul, 1) := by decide +kernel
theorem dX4_neighbour_97 : decode cX4_neighbour 97 = .ok (.iadd, 1) := by decide +kernel
theorem dX4_neighbour_98 : decode cX4_neighbour 98 = .ok (.goto 4, 3) := by decide +kernel
theorem dX4_neighbour_101 : decode cX4_neighbour 101 = .ok (.iconst (-1), 1) := by decide +kernel
theorem dX4_neighbour_102 : decode cX4_neighbour 102 = .ok (.ireturn, 1) := by decide +kernel
theorem dX5_init_0 : decode cX5_init 0 = .ok (.aload_n 0, 1) := by decide +kernel
theorem dX5_init_1 : decode cX5_init 1 = .ok (.invokespecial 3, 3) := by decide +kernel
theorem dX5_init_4 : decode cX5_init 4 = .ok (.aload_n 0, 1) := by decide +kernel
theorem dX5_init_5 : decode cX5_init 5 = .ok (.bipush 6, 2) := by decide +kernel
theorem dX5_init_7 : decode cX5_init 7 = .ok (.newarray .int, 2) := by decide +kernel
theorem dX5_init_9 : decode cX5_init 9 = .ok (.putfield 9, 3) := by decide +kernel
theorem dX5_init_12 : decode cX5_init 12 = .ok (.return_, 1) := by decide +kernel
theorem dX5_has_0 : decode cX5_has 0 = .ok (.iload_n 1, 1) := by decide +kernel
theorem dX5_has_1 : decode cX5_has 1 = .ok (.ifCond .lt 21, 3) := by decide +kernel
theorem dX5_has_4 : decode cX5_has 4 = .ok (.iload_n 1, 1) := by decide +kernel
theorem dX5_has_5 : decode cX5_has 5 = .ok (.aload_n 0, 1) := by decide +kernel
theorem dX5_has_6 : decode cX5_has 6 = .ok (.getfield 15, 3) := by decide +kernel
theorem dX5_has_9 : decode cX5_has 9 = .ok (.if_icmp .ge 13, 3) := by decide +kernel
theorem dX5_has_12 : decode cX5_has 12 = .ok (.iload_n 1, 1) := by decide +kernel
theorem dX5_has_13 : decode cX5_has 13 = .ok (.bipush 6, 2) := by decide +kernel
theorem dX5_has_15 : decode cX5_has 15 = .ok (.if_icmp .ge 7, 3) := by decide +kernel
theorem dX5_has_18 : decode cX5_has 18 = .ok (.iconst 1, 1) := by decide +kernel
theorem dX5_has_19 : decode cX5_has 19 = .ok (.goto 4, 3) := by decide +kernel
theorem dX5_has_22 : decode cX5_has 22 = .ok (.iconst 0, 1) := by decide +kernel
theorem dX5_has_23 : decode cX5_has 23 = .ok (.ireturn, 1) := by decide +kernel
theorem dX5_cellAt_0 : decode cX5_cellAt 0 = .ok (.aload_n 0, 1) := by decide +kernel
theorem dX5_cellAt_1 : decode cX5_cellAt 1 = .ok (.iload_n 1, 1) := by decide +kernel
theorem dX5_cellAt_2 : decode cX5_cellAt 2 = .ok (.invokevirtual 19, 3) := by decide +kernel
theorem dX5_cellAt_5 : decode cX5_cellAt 5 = .ok (.ifCond .eq 12, 3) := by decide +kernel
theorem dX5_cellAt_8 : decode cX5_cellAt 8 = .ok (.aload_n 0, 1) := by decide +kernel
theorem dX5_cellAt_9 : decode cX5_cellAt 9 = .ok (.getfield 9, 3) := by decide +kernel
theorem dX5_cellAt_12 : decode cX5_cellAt 12 = .ok (.iload_n 1, 1) := by decide +kernel
theorem dX5_cellAt_13 : decode cX5_cellAt 13 = .ok (.iaload, 1) := by decide +kernel
theorem dX5_cellAt_14 : decode cX5_cellAt 14 = .ok (.goto 4, 3) := by decide +kernel
theorem dX5_cellAt_17 : decode cX5_cellAt 17 = .ok (.iconst (-1), 1) := by decide +kernel
theorem dX5_cellAt_18 : decode cX5_cellAt 18 = .ok (.ireturn, 1) := by decide +kernel
theorem dX5_find_0 : decode cX5_find 0 = .ok (.iconst 0, 1) := by decide +kernel
theorem dX5_find_1 : decode cX5_find 1 = .ok (.istore_n 2, 1) := by decide +kernel
theorem dX5_find_2 : decode cX5_find 2 = .ok (.iload_n 2, 1) := by decide +kernel
theorem dX5_find_3 : decode cX5_find 3 = .ok (.aload_n 0, 1) := by decide +kernel
theorem dX5_find_4 : decode cX5_find 4 = .ok (.getfield 15, 3) := by decide +kernel
theorem dX5_find_7 : decode cX5_find 7 = .ok (.if_icmp .ge 27, 3) := by decide +kernel
theorem dX5_find_10 : decode cX5_find 10 = .ok (.iload_n 2, 1) := by decide +kernel
theorem dX5_find_11 : decode cX5_find 11 = .ok (.bipush 6, 2) := by decide +kernel
theorem dX5_find_13 : decode cX5_find 13 = .ok (.if_icmp .ge 21, 3) := by decide +kernel
theorem dX5_find_16 : decode cX5_find 16 = .ok (.aload_n 0, 1) := by decide +kernel
theorem dX5_find_17 : decode cX5_find 17 = .ok (.getfield 9, 3) := by decide +kernel
theorem dX5_find_20 : decode cX5_find 20 = .ok (.iload_n 2, 1) := by decide +kernel
theorem dX5_find_21 : decode cX5_find 21 = .ok (.iaload, 1) := by decide +kernel
theorem dX5_find_22 : decode cX5_find 22 = .ok (.iload_n 1, 1) := by decide +kernel
theorem dX5_find_23 : decode cX5_find 23 = .ok (.if_icmp .ne 5, 3) := by decide +kernel
theorem dX5_find_26 : decode cX5_find 26 = .ok (.iload_n 2, 1) := by decide +kernel
theorem dX5_find_27 : decode cX5_find 27 = .ok (.ireturn, 1) := by decide +kernel
theorem dX5_find_28 : decode cX5_find 28 = .ok (.iinc 2 1, 3) := by decide +kernel
theorem dX5_find_31 : decode cX5_find 31 = .ok (.goto (-29), 3) := by decide +kernel
theorem dX5_find_34 : decode cX5_find 34 = .ok (.iconst (-1), 1) := by decide +kernel
theorem dX5_find_35 : decode cX5_find 35 = .ok (.ireturn, 1) := by decide +kernel
theorem dX5_add_0 : decode cX5_add 0 = .ok (.aload_n 0, 1) := by decide +kernel
theorem dX5_add_1 : decode cX5_add 1 = .ok (.getfield 15, 3) := by decide +kernel
theorem dX5_add_4 : decode cX5_add 4 = .ok (.ifCond .lt 32, 3) := by decide +kernel
theorem dX5_add_7 : decode cX5_add 7 = .ok (.aload_n 0, 1) := by decide +kernel
theorem dX5_add_8 : decode cX5_add 8 = .ok (.getfield 15, 3) := by decide +kernel
theorem dX5_add_11 : decode cX5_add 11 = .ok (.bipush 6, 2) := by decide +kernel
theorem dX5_add_13 : decode cX5_add 13 = .ok (.if_icmp .ge 23, 3) := by decide +kernel
theorem dX5_add_16 : decode cX5_add 16 = .ok (.aload_n 0, 1) := by decide +kernel
theorem dX5_add_17 : decode cX5_add 17 = .ok (.getfield 9, 3) := by decide +kernel
theorem dX5_add_20 : decode cX5_add 20 = .ok (.aload_n 0, 1) := by decide +kernel
theorem dX5_add_21 : decode cX5_add 21 = .ok (.getfield 15, 3) := by decide +kernel
theorem dX5_add_24 : decode cX5_add 24 = .ok (.iload_n 1, 1) := by decide +kernel
theorem dX5_add_25 : decode cX5_add 25 = .ok (.iastore, 1) := by decide +kernel
theorem dX5_add_26 : decode cX5_add 26 = .ok (.aload_n 0, 1) := by decide +kernel
theorem dX5_add_27 : decode cX5_add 27 = .ok (.dup, 1) := by decide +kernel
theorem dX5_add_28 : decode cX5_add 28 = .ok (.getfield 15, 3) := by decide +kernel
theorem dX5_add_31 : decode cX5_add 31 = .ok (.iconst 1, 1) := by decide +kernel
theorem dX5_add_32 : decode cX5_add 32 = .ok (.iadd, 1) := by decide +kernel
theorem dX5_add_33 : decode cX5_add 33 = .ok (.putfield 15, 3) := by decide +kernel
theorem dX5_add_36 : decode cX5_add 36 = .ok (.return_, 1) := by decide +kernel
theorem dX5_remove_0 : decode cX5_remove 0 = .ok (.aload_n 0, 1) := by decide +kernel
theorem dX5_remove_1 : decode cX5_remove 1 = .ok (.iload_n 1, 1) := by decide +kernel
theorem dX5_remove_2 : decode cX5_remove 2 = .ok (.invokevirtual 19, 3) := by decide +kernel
theorem dX5_remove_5 : decode cX5_remove 5 = .ok (.ifCond .ne 5, 3) := by decide +kernel
theorem dX5_remove_8 : decode cX5_remove 8 = .ok (.iconst 0, 1) := by decide +kernel
theorem dX5_remove_9 : decode cX5_remove 9 = .ok (.ireturn, 1) := by decide +kernel
theorem dX5_remove_10 : decode cX5_remove 10 = .ok (.iload_n 1, 1) := by decide +kernel
theorem dX5_remove_11 : decode cX5_remove 11 = .ok (.iconst 1, 1) := by decide +kernel
theorem dX5_remove_12 : decode cX5_remove 12 = .ok (.iadd, 1) := by decide +kernel
theorem dX5_remove_13 : decode cX5_remove 13 = .ok (.istore_n 2, 1) := by decide +kernel
theorem dX5_remove_14 : decode cX5_remove 14 = .ok (.iload_n 2, 1) := by decide +kernel
theorem dX5_remove_15 : decode cX5_remove 15 = .ok (.aload_n 0, 1) := by decide +kernel
theorem dX5_remove_16 : decode cX5_remove 16 = .ok (.getfield 15, 3) := by decide +kernel
theorem dX5_remove_19 : decode cX5_remove 19 = .ok (.if_icmp .ge 29, 3) := by decide +kernel
theorem dX5_remove_22 : decode cX5_remove 22 = .ok (.iload_n 2, 1) := by decide +kernel
theorem dX5_remove_23 : decode cX5_remove 23 = .ok (.bipush 6, 2) := by decide +kernel
theorem dX5_remove_25 : decode cX5_remove 25 = .ok (.if_icmp .ge 23, 3) := by decide +kernel
theorem dX5_remove_28 : decode cX5_remove 28 = .ok (.aload_n 0, 1) := by decide +kernel
theorem dX5_remove_29 : decode cX5_remove 29 = .ok (.getfield 9, 3) := by decide +kernel
theorem dX5_remove_32 : decode cX5_remove 32 = .ok (.iload_n 2, 1) := by decide +kernel
theorem dX5_remove_33 : decode cX5_remove 33 = .ok (.iconst 1, 1) := by decide +kernel
theorem dX5_remove_34 : decode cX5_remove 34 = .ok (.isub, 1) := by decide +kernel
theorem dX5_remove_35 : decode cX5_remove 35 = .ok (.aload_n 0, 1) := by decide +kernel
theorem dX5_remove_36 : decode cX5_remove 36 = .ok (.getfield 9, 3) := by decide +kernel
theorem dX5_remove_39 : decode cX5_remove 39 = .ok (.iload_n 2, 1) := by decide +kernel
theorem dX5_remove_40 : decode cX5_remove 40 = .ok (.iaload, 1) := by decide +kernel
theorem dX5_remove_41 : decode cX5_remove 41 = .ok (.iastore, 1) := by decide +kernel
theorem dX5_remove_42 : decode cX5_remove 42 = .ok (.iinc 2 1, 3) := by decide +kernel
theorem dX5_remove_45 : decode cX5_remove 45 = .ok (.goto (-31), 3) := by decide +kernel
theorem dX5_remove_48 : decode cX5_remove 48 = .ok (.aload_n 0, 1) := by decide +kernel
theorem dX5_remove_49 : decode cX5_remove 49 = .ok (.dup, 1) := by decide +kernel
theorem dX5_remove_50 : decode cX5_remove 50 = .ok (.getfield 15, 3) := by decide +kernel
theorem dX5_remove_53 : decode cX5_remove 53 = .ok (.iconst 1, 1) := by decide +kernel
theorem dX5_remove_54 : decode cX5_remove 54 = .ok (.isub, 1) := by decide +kernel
theorem dX5_remove_55 : decode cX5_remove 55 = .ok (.putfield 15, 3) := by decide +kernel
theorem dX5_remove_58 : decode cX5_remove 58 = .ok (.iconst 1, 1) := by decide +kernel
theorem dX5_remove_59 : decode cX5_remove 59 = .ok (.ireturn, 1) := by decide +kernel
theorem dX5_move_0 : decode cX5_move 0 = .ok (.aload_n 0, 1) := by decide +kernel
theorem dX5_move_1 : decode cX5_move 1 = .ok (.iload_n 1, 1) := by decide +kernel
theorem dX5_move_2 : decode cX5_move 2 = .ok (.invokevirtual 19, 3) := by decide +kernel
theorem dX5_move_5 : decode cX5_move 5 = .ok (.ifCond .eq 10, 3) := by decide +kernel
theorem dX5_move_8 : decode cX5_move 8 = .ok (.aload_n 0, 1) := by decide +kernel
theorem dX5_move_9 : decode cX5_move 9 = .ok (.getfield 9, 3) := by decide +kernel
theorem dX5_move_12 : decode cX5_move 12 = .ok (.iload_n 1, 1) := by decide +kernel
theorem dX5_move_13 : decode cX5_move 13 = .ok (.iload_n 2, 1) := by decide +kernel
theorem dX5_move_14 : decode cX5_move 14 = .ok (.iastore, 1) := by decide +kernel
theorem dX5_move_15 : decode cX5_move 15 = .ok (.return_, 1) := by decide +kernel
theorem dX5_clear_0 : decode cX5_clear 0 = .ok (.aload_n 0, 1) := by decide +kernel
theorem dX5_clear_1 : decode cX5_clear 1 = .ok (.iconst 0, 1) := by decide +kernel
theorem dX5_clear_2 : decode cX5_clear 2 = .ok (.putfield 15, 3) := by decide +kernel
theorem dX5_clear_5 : decode cX5_clear 5 = .ok (.return_, 1) := by decide +kernel
theorem dX5_copyFrom_0 : decode cX5_copyFrom 0 = .ok (.aload_n 1, 1) := by decide +kernel
theorem dX5_copyFrom_1 : decode cX5_copyFrom 1 = .ok (.getfield 9, 3) := by decide +kernel
theorem dX5_copyFrom_4 : decode cX5_copyFrom 4 = .ok (.iconst 0, 1) := by decide +kernel
theorem dX5_copyFrom_5 : decode cX5_copyFrom 5 = .ok (.aload_n 0, 1) := by decide +kernel
theorem dX5_copyFrom_6 : decode cX5_copyFrom 6 = .ok (.getfield 9, 3) := by decide +kernel
theorem dX5_copyFrom_9 : decode cX5_copyFrom 9 = .ok (.iconst 0, 1) := by decide +kernel
theorem dX5_copyFrom_10 : decode cX5_copyFrom 10 = .ok (.bipush 6, 2) := by decide +kernel
theorem dX5_copyFrom_12 : decode cX5_copyFrom 12 = .ok (.invokestatic 23, 3) := by decide +kernel
theorem dX5_copyFrom_15 : decode cX5_copyFrom 15 = .ok (.aload_n 0, 1) := by decide +kernel
theorem dX5_copyFrom_16 : decode cX5_copyFrom 16 = .ok (.aload_n 1, 1) := by decide +kernel
theorem dX5_copyFrom_17 : decode cX5_copyFrom 17 = .ok (.getfield 15, 3) := by decide +kernel
theorem dX5_copyFrom_20 : decode cX5_copyFrom 20 = .ok (.putfield 15, 3) := by decide +kernel
theorem dX5_copyFrom_23 : decode cX5_copyFrom 23 = .ok (.return_, 1) := by decide +kernel
theorem dX6_init_0 : decode cX6_init 0 = .ok (.aload_n 0, 1) := by decide +kernel
theorem dX6_init_1 : decode cX6_init 1 = .ok (.invokespecial 3, 3) := by decide +kernel
theorem dX6_init_4 : decode cX6_init 4 = .ok (.aload_n 0, 1) := by decide +kernel
theorem dX6_init_5 : decode cX6_init 5 = .ok (.bipush 6, 2) := by decide +kernel
theorem dX6_init_7 : decode cX6_init 7 = .ok (.anewarray 9, 3) := by decide +kernel
theorem dX6_init_10 : decode cX6_init 10 = .ok (.putfield 11, 3) := by decide +kernel
theorem dX6_init_13 : decode cX6_init 13 = .ok (.aload_n 0, 1) := by decide +kernel
theorem dX6_init_14 : decode cX6_init 14 = .ok (.bipush 6, 2) := by decide +kernel
theorem dX6_init_16 : decode cX6_init 16 = .ok (.anewarray 9, 3) := by decide +kernel
theorem dX6_init_19 : decode cX6_init 19 = .ok (.putfield 17, 3) := by decide +kernel
theorem dX6_init_22 : decode cX6_init 22 = .ok (.aload_n 0, 1) := by decide +kernel
theorem dX6_init_23 : decode cX6_init 23 = .ok (.bipush 6, 2) := by decide +kernel
theorem dX6_init_25 : decode cX6_init 25 = .ok (.newarray .int, 2) := by decide +kernel
theorem dX6_init_27 : decode cX6_init 27 = .ok (.putfield 20, 3) := by decide +kernel
theorem dX6_init_30 : decode cX6_init 30 = .ok (.aload_n 0, 1) := by decide +kernel
theorem dX6_init_31 : decode cX6_init 31 = .ok (.iconst (-1), 1) := by decide +kernel
theorem dX6_init_32 : decode cX6_init 32 = .ok (.putfield 24, 3) := by decide +kernel
theorem dX6_init_35 : decode cX6_init 35 = .ok (.aload_n 0, 1) := by decide +kernel
theorem dX6_init_36 : decode cX6_init 36 = .ok (.aload_n 1, 1) := by decide +kernel
theorem dX6_init_37 : decode cX6_init 37 = .ok (.putfield 28, 3) := by decide +kernel
theorem dX6_init_40 : decode cX6_init 40 = .ok (.aload_n 0, 1) := by decide +kernel
theorem dX6_init_41 : decode cX6_init 41 = .ok (.aload_n 2, 1) := by decide +kernel
theorem dX6_init_42 : decode cX6_init 42 = .ok (.putfield 32, 3) := by decide +kernel
theorem dX6_init_45 : decode cX6_init 45 = .ok (.aload_n 0, 1) := by decide +kernel
theorem dX6_init_46 : decode cX6_init 46 = .ok (.new 36, 3) := by decide +kernel
theorem dX6_init_49 : decode cX6_init 49 = .ok (.dup, 1) := by decide +kernel
theorem dX6_init_50 : decode cX6_init 50 = .ok (.aload_n 2, 1) := by decide +kernel
theorem dX6_init_51 : decode cX6_init 51 = .ok (.invokespecial 38, 3) := by decide +kernel
theorem dX6_init_54 : decode cX6_init 54 = .ok (.putfield 41, 3) := by decide +kernel
theorem dX6_init_57 : decode cX6_init 57 = .ok (.aload_n 0, 1) := by decide +kernel
theorem dX6_init_58 : decode cX6_init 58 = .ok (.new 45, 3) := by decide +kernel
theorem dX6_init_61 : decode cX6_init 61 = .ok (.dup, 1) := by decide +kernel
theorem dX6_init_62 : decode cX6_init 62 = .ok (.aload_n 2, 1) := by decide +kernel
theorem dX6_init_63 : decode cX6_init 63 = .ok (.invokespecial 47, 3) := by decide +kernel
theorem dX6_init_66 : decode cX6_init 66 = .ok (.putfield 48, 3) := by decide +kernel
theorem dX6_init_69 : decode cX6_init 69 = .ok (.iconst 0, 1) := by decide +kernel
theorem dX6_init_70 : decode cX6_init 70 = .ok (.istore_n 3, 1) := by decide +kernel
theorem dX6_init_71 : decode cX6_init 71 = .ok (.iload_n 3, 1) := by decide +kernel
theorem dX6_init_72 : decode cX6_init 72 = .ok (.bipush 6, 2) := by decide +kernel
theorem dX6_init_74 : decode cX6_init 74 = .ok (.if_icmp .ge 35, 3) := by decide +kernel
theorem dX6_init_77 : decode cX6_init 77 = .ok (.aload_n 0, 1) := by decide +kernel
theorem dX6_init_78 : decode cX6_init 78 = .ok (.getfield 11, 3) := by decide +kernel
theorem dX6_init_81 : decode cX6_init 81 = .ok (.iload_n 3, 1) := by decide +kernel
theorem dX6_init_82 : decode cX6_init 82 = .ok (.new 9, 3) := by decide +kernel
theorem dX6_init_85 : decode cX6_init 85 = .ok (.dup, 1) := by decide +kernel
theorem dX6_init_86 : decode cX6_init 86 = .ok (.invokespecial 52, 3) := by decide +kernel
theorem dX6_init_89 : decode cX6_init 89 = .ok (.aastore, 1) := by decide +kernel
theorem dX6_init_90 : decode cX6_init 90 = .ok (.aload_n 0, 1) := by decide +kernel
theorem dX6_init_91 : decode cX6_init 91 = .ok (.getfield 17, 3) := by decide +kernel
theorem dX6_init_94 : decode cX6_init 94 = .ok (.iload_n 3, 1) := by decide +kernel
theorem dX6_init_95 : decode cX6_init 95 = .ok (.new 9, 3) := by decide +kernel
theorem dX6_init_98 : decode cX6_init 98 = .ok (.dup, 1) := by decide +kernel
theorem dX6_init_99 : decode cX6_init 99 = .ok (.invokespecial 52, 3) := by decide +kernel
theorem dX6_init_102 : decode cX6_init 102 = .ok (.aastore, 1) := by decide +kernel
theorem dX6_init_103 : decode cX6_init 103 = .ok (.iinc 3 1, 3) := by decide +kernel
theorem dX6_init_106 : decode cX6_init 106 = .ok (.goto (-35), 3) := by decide +kernel
theorem dX6_init_109 : decode cX6_init 109 = .ok (.return_, 1) := by decide +kernel
theorem dX6_discard_0 : decode cX6_discard 0 = .ok (.aload_n 0, 1) := by decide +kernel
theorem dX6_discard_1 : decode cX6_discard 1 = .ok (.iconst 0, 1) := by decide +kernel
theorem dX6_discard_2 : decode cX6_discard 2 = .ok (.putfield 53, 3) := by decide +kernel
theorem dX6_discard_5 : decode cX6_discard 5 = .ok (.aload_n 0, 1) := by decide +kernel
theorem dX6_discard_6 : decode cX6_discard 6 = .ok (.iconst (-1), 1) := by decide +kernel
theorem dX6_discard_7 : decode cX6_discard 7 = .ok (.putfield 24, 3) := by decide +kernel
theorem dX6_discard_10 : decode cX6_discard 10 = .ok (.return_, 1) := by decide +kernel
theorem dX6_make_0 : decode cX6_make 0 = .ok (.aload_n 0, 1) := by decide +kernel
theorem dX6_make_1 : decode cX6_make 1 = .ok (.invokevirtual 57, 3) := by decide +kernel
theorem dX6_make_4 : decode cX6_make 4 = .ok (.aload_n 0, 1) := by decide +kernel
theorem dX6_make_5 : decode cX6_make 5 = .ok (.iconst 0, 1) := by decide +kernel
theorem dX6_make_6 : decode cX6_make 6 = .ok (.putfield 60, 3) := by decide +kernel
theorem dX6_make_9 : decode cX6_make 9 = .ok (.aload_n 0, 1) := by decide +kernel
theorem dX6_make_10 : decode cX6_make 10 = .ok (.aload_n 1, 1) := by decide +kernel
theorem dX6_make_11 : decode cX6_make 11 = .ok (.getfield 63, 3) := by decide +kernel
theorem dX6_make_14 : decode cX6_make 14 = .ok (.bipush 6, 2) := by decide +kernel
theorem dX6_make_16 : decode cX6_make 16 = .ok (.invokestatic 68, 3) := by decide +kernel
theorem dX6_make_19 : decode cX6_make 19 = .ok (.putfield 74, 3) := by decide +kernel
theorem dX6_make_22 : decode cX6_make 22 = .ok (.aload_n 0, 1) := by decide +kernel
theorem dX6_make_23 : decode cX6_make 23 = .ok (.aload_n 1, 1) := by decide +kernel
theorem dX6_make_24 : decode cX6_make 24 = .ok (.invokevirtual 75, 3) := by decide +kernel
theorem dX6_make_27 : decode cX6_make 27 = .ok (.aload_n 0, 1) := by decide +kernel
theorem dX6_make_28 : decode cX6_make 28 = .ok (.getfield 48, 3) := by decide +kernel
theorem dX6_make_31 : decode cX6_make 31 = .ok (.invokevirtual 79, 3) := by decide +kernel
theorem dX6_make_34 : decode cX6_make 34 = .ok (.iconst 0, 1) := by decide +kernel
theorem dX6_make_35 : decode cX6_make 35 = .ok (.istore_n 2, 1) := by decide +kernel
theorem dX6_make_36 : decode cX6_make 36 = .ok (.iconst 0, 1) := by decide +kernel
theorem dX6_make_37 : decode cX6_make 37 = .ok (.istore_n 3, 1) := by decide +kernel
theorem dX6_make_38 : decode cX6_make 38 = .ok (.iload_n 3, 1) := by decide +kernel
theorem dX6_make_39 : decode cX6_make 39 = .ok (.aload_n 0, 1) := by decide +kernel
theorem dX6_make_40 : decode cX6_make 40 = .ok (.getfield 74, 3) := by decide +kernel
theorem dX6_make_43 : decode cX6_make 43 = .ok (.if_icmp .ge 123, 3) := by decide +kernel
theorem dX6_make_46 : decode cX6_make 46 = .ok (.iload_n 3, 1) := by decide +kernel
theorem dX6_make_47 : decode cX6_make 47 = .ok (.bipush 6, 2) := by decide +kernel
theorem dX6_make_49 : decode cX6_make 49 = .ok (.if_icmp .ge 117, 3) := by decide +kernel
theorem dX6_make_52 : decode cX6_make 52 = .ok (.aload_n 0, 1) := by decide +kernel
theorem dX6_make_53 : decode cX6_make 53 = .ok (.getfield 20, 3) := by decide +kernel
theorem dX6_make_56 : decode cX6_make 56 = .ok (.iload_n 3, 1) := by decide +kernel
theorem dX6_make_57 : decode cX6_make 57 = .ok (.iaload, 1) := by decide +kernel
theorem dX6_make_58 : decode cX6_make 58 = .ok (.istore 4, 2) := by decide +kernel
theorem dX6_make_60 : decode cX6_make 60 = .ok (.aload_n 0, 1) := by decide +kernel
theorem dX6_make_61 : decode cX6_make 61 = .ok (.getfield 28, 3) := by decide +kernel
theorem dX6_make_64 : decode cX6_make 64 = .ok (.getfield 82, 3) := by decide +kernel
theorem dX6_make_67 : decode cX6_make 67 = .ok (.iload 4, 2) := by decide +kernel
theorem dX6_make_69 : decode cX6_make 69 = .ok (.invokevirtual 88, 3) := by decide +kernel
theorem dX6_make_72 : decode cX6_make 72 = .ok (.istore 5, 2) := by decide +kernel
theorem dX6_make_74 : decode cX6_make 74 = .ok (.aload_n 0, 1) := by decide +kernel
theorem dX6_make_75 : decode cX6_make 75 = .ok (.getfield 48, 3) := by decide +kernel
theorem dX6_make_78 : decode cX6_make 78 = .ok (.iload 5, 2) := by decide +kernel
theorem dX6_make_80 : decode cX6_make 80 = .ok (.aload_n 0, 1) := by decide +kernel
theorem dX6_make_81 : decode cX6_make 81 = .ok (.iload 4, 2) := by decide +kernel
theorem dX6_make_83 : decode cX6_make 83 = .ok (.invokevirtual 94, 3) := by decide +kernel
theorem dX6_make_86 : decode cX6_make 86 = .ok (.invokevirtual 97, 3) := by decide +kernel
theorem dX6_make_89 : decode cX6_make 89 = .ok (.istore 6, 2) := by decide +kernel
theorem dX6_make_91 : decode cX6_make 91 = .ok (.iload 6, 2) := by decide +kernel
theorem dX6_make_93 : decode cX6_make 93 = .ok (.iconst (-1), 1) := by decide +kernel
theorem dX6_make_94 : decode cX6_make 94 = .ok (.if_icmp .ne 12, 3) := by decide +kernel
theorem dX6_make_97 : decode cX6_make 97 = .ok (.aload_n 0, 1) := by decide +kernel
theorem dX6_make_98 : decode cX6_make 98 = .ok (.iload 4, 2) := by decide +kernel
theorem dX6_make_100 : decode cX6_make 100 = .ok (.putfield 24, 3) := by decide +kernel
theorem dX6_make_103 : decode cX6_make 103 = .ok (.bipush (-7), 2) := by decide +kernel
theorem dX6_make_105 : decode cX6_make 105 = .ok (.ireturn, 1) := by decide +kernel
theorem dX6_make_106 : decode cX6_make 106 = .ok (.aload_n 0, 1) := by decide +kernel
theorem dX6_make_107 : decode cX6_make 107 = .ok (.getfield 48, 3) := by decide +kernel
theorem dX6_make_110 : decode cX6_make 110 = .ok (.iload 6, 2) := by decide +kernel
theorem dX6_make_112 : decode cX6_make 112 = .ok (.aload_n 0, 1) := by decide +kernel
theorem dX6_make_113 : decode cX6_make 113 = .ok (.iload 4, 2) := by decide +kernel
theorem dX6_make_115 : decode cX6_make 115 = .ok (.invokevirtual 94, 3) := by decide +kernel
theorem dX6_make_118 : decode cX6_make 118 = .ok (.invokevirtual 100, 3) := by decide +kernel
theorem dX6_make_121 : decode cX6_make 121 = .ok (.aload_n 0, 1) := by decide +kernel
theorem dX6_make_122 : decode cX6_make 122 = .ok (.getfield 48, 3) := by decide +kernel
theorem dX6_make_125 : decode cX6_make 125 = .ok (.aload_n 0, 1) := by decide +kernel
theorem dX6_make_126 : decode cX6_make 126 = .ok (.iload 4, 2) := by decide +kernel
theorem dX6_make_128 : decode cX6_make 128 = .ok (.invokevirtual 104, 3) := by decide +kernel
theorem dX6_make_131 : decode cX6_make 131 = .ok (.iload 5, 2) := by decide +kernel
theorem dX6_make_133 : decode cX6_make 133 = .ok (.iload 6, 2) := by decide +kernel
theorem dX6_make_135 : decode cX6_make 135 = .ok (.invokevirtual 108, 3) := by decide +kernel
theorem dX6_make_138 : decode cX6_make 138 = .ok (.aload_n 0, 1) := by decide +kernel
theorem dX6_make_139 : decode cX6_make 139 = .ok (.getfield 48, 3) := by decide +kernel
theorem dX6_make_142 : decode cX6_make 142 = .ok (.aload_n 0, 1) := by decide +kernel
theorem dX6_make_143 : decode cX6_make 143 = .ok (.iload 4, 2) := by decide +kernel
theorem dX6_make_145 : decode cX6_make 145 = .ok (.invokevirtual 104, 3) := by decide +kernel
theorem dX6_make_148 : decode cX6_make 148 = .ok (.iload 4, 2) := by decide +kernel
theorem dX6_make_150 : decode cX6_make 150 = .ok (.invokevirtual 112, 3) := by decide +kernel
theorem dX6_make_153 : decode cX6_make 153 = .ok (.iload_n 2, 1) := by decide +kernel
theorem dX6_make_154 : decode cX6_make 154 = .ok (.iload 6, 2) := by decide +kernel
theorem dX6_make_156 : decode cX6_make 156 = .ok (.invokestatic 116, 3) := by decide +kernel
theorem dX6_make_159 : decode cX6_make 159 = .ok (.istore_n 2, 1) := by decide +kernel
theorem dX6_make_160 : decode cX6_make 160 = .ok (.iinc 3 1, 3) := by decide +kernel
theorem dX6_make_163 : decode cX6_make 163 = .ok (.goto (-125), 3) := by decide +kernel
theorem dX6_make_166 : decode cX6_make 166 = .ok (.aload_n 0, 1) := by decide +kernel
theorem dX6_make_167 : decode cX6_make 167 = .ok (.iconst 1, 1) := by decide +kernel
theorem dX6_make_168 : decode cX6_make 168 = .ok (.putfield 53, 3) := by decide +kernel
theorem dX6_make_171 : decode cX6_make 171 = .ok (.iload_n 2, 1) := by decide +kernel
theorem dX6_make_172 : decode cX6_make 172 = .ok (.ireturn, 1) := by decide +kernel
theorem dX6_cellOfDrone_0 : decode cX6_cellOfDrone 0 = .ok (.aload_n 0, 1) := by decide +kernel
theorem dX6_cellOfDrone_1 : decode cX6_cellOfDrone 1 = .ok (.iload_n 1, 1) := by decide +kernel
theorem dX6_cellOfDrone_2 : decode cX6_cellOfDrone 2 = .ok (.invokevirtual 104, 3) := by decide +kernel
theorem dX6_cellOfDrone_5 : decode cX6_cellOfDrone 5 = .ok (.aload_n 0, 1) := by decide +kernel
theorem dX6_cellOfDrone_6 : decode cX6_cellOfDrone 6 = .ok (.getfield 60, 3) := by decide +kernel
theorem dX6_cellOfDrone_9 : decode cX6_cellOfDrone 9 = .ok (.iload_n 2, 1) := by decide +kernel
theorem dX6_cellOfDrone_10 : decode cX6_cellOfDrone 10 = .ok (.iadd, 1) := by decide +kernel
theorem dX6_cellOfDrone_11 : decode cX6_cellOfDrone 11 = .ok (.invokevirtual 119, 3) := by decide +kernel
theorem dX6_cellOfDrone_14 : decode cX6_cellOfDrone 14 = .ok (.ireturn, 1) := by decide +kernel
theorem dX6_actionOfDrone_0 : decode cX6_actionOfDrone 0 = .ok (.aload_n 0, 1) := by decide +kernel
theorem dX6_actionOfDrone_1 : decode cX6_actionOfDrone 1 = .ok (.iload_n 1, 1) := by decide +kernel
theorem dX6_actionOfDrone_2 : decode cX6_actionOfDrone 2 = .ok (.invokevirtual 104, 3) := by decide +kernel
theorem dX6_actionOfDrone_5 : decode cX6_actionOfDrone 5 = .ok (.aload_n 0, 1) := by decide +kernel
theorem dX6_actionOfDrone_6 : decode cX6_actionOfDrone 6 = .ok (.getfield 60, 3) := by decide +kernel
theorem dX6_actionOfDrone_9 : decode cX6_actionOfDrone 9 = .ok (.iload_n 2, 1) := by decide +kernel
theorem dX6_actionOfDrone_10 : decode cX6_actionOfDrone 10 = .ok (.iadd, 1) := by decide +kernel
theorem dX6_actionOfDrone_11 : decode cX6_actionOfDrone 11 = .ok (.invokevirtual 120, 3) := by decide +kernel
theorem dX6_actionOfDrone_14 : decode cX6_actionOfDrone 14 = .ok (.ireturn, 1) := by decide +kernel
theorem dX6_positionOf_0 : decode cX6_positionOf 0 = .ok (.aload_n 0, 1) := by decide +kernel
theorem dX6_positionOf_1 : decode cX6_positionOf 1 = .ok (.iload_n 1, 1) := by decide +kernel
theorem dX6_positionOf_2 : decode cX6_positionOf 2 = .ok (.invokevirtual 104, 3) := by decide +kernel
theorem dX6_positionOf_5 : decode cX6_positionOf 5 = .ok (.getfield 123, 3) := by decide +kernel
theorem dX6_positionOf_8 : decode cX6_positionOf 8 = .ok (.ireturn, 1) := by decide +kernel
theorem dX6_slotOf_0 : decode cX6_slotOf 0 = .ok (.aload_n 0, 1) := by decide +kernel
theorem dX6_slotOf_1 : decode cX6_slotOf 1 = .ok (.iload_n 1, 1) := by decide +kernel
theorem dX6_slotOf_2 : decode cX6_slotOf 2 = .ok (.invokevirtual 104, 3) := by decide +kernel
theorem dX6_slotOf_5 : decode cX6_slotOf 5 = .ok (.getfield 126, 3) := by decide +kernel
theorem dX6_slotOf_8 : decode cX6_slotOf 8 = .ok (.ireturn, 1) := by decide +kernel
theorem dX6_ticksLeft_0 : decode cX6_ticksLeft 0 = .ok (.iconst 0, 1) := by decide +kernel
theorem dX6_ticksLeft_1 : decode cX6_ticksLeft 1 = .ok (.aload_n 0, 1) := by decide +kernel
theorem dX6_ticksLeft_2 : decode cX6_ticksLeft 2 = .ok (.iload_n 1, 1) := by decide +kernel
theorem dX6_ticksLeft_3 : decode cX6_ticksLeft 3 = .ok (.invokevirtual 104, 3) := by decide +kernel
theorem dX6_ticksLeft_6 : decode cX6_ticksLeft 6 = .ok (.getfield 129, 3) := by decide +kernel
theorem dX6_ticksLeft_9 : decode cX6_ticksLeft 9 = .ok (.aload_n 0, 1) := by decide +kernel
theorem dX6_ticksLeft_10 : decode cX6_ticksLeft 10 = .ok (.getfield 60, 3) := by decide +kernel
theorem dX6_ticksLeft_13 : decode cX6_ticksLeft 13 = .ok (.isub, 1) := by decide +kernel
theorem dX6_ticksLeft_14 : decode cX6_ticksLeft 14 = .ok (.invokestatic 116, 3) := by decide +kernel
theorem dX6_ticksLeft_17 : decode cX6_ticksLeft 17 = .ok (.ireturn, 1) := by decide +kernel
theorem dX6_waitsLeft_0 : decode cX6_waitsLeft 0 = .ok (.aload_n 0, 1) := by decide +kernel
theorem dX6_waitsLeft_1 : decode cX6_waitsLeft 1 = .ok (.iload_n 1, 1) := by decide +kernel
theorem dX6_waitsLeft_2 : decode cX6_waitsLeft 2 = .ok (.invokevirtual 104, 3) := by decide +kernel
theorem dX6_waitsLeft_5 : decode cX6_waitsLeft 5 = .ok (.astore_n 2, 1) := by decide +kernel
theorem dX6_waitsLeft_6 : decode cX6_waitsLeft 6 = .ok (.iconst 0, 1) := by decide +kernel
theorem dX6_waitsLeft_7 : decode cX6_waitsLeft 7 = .ok (.istore_n 3, 1) := by decide +kernel
theorem dX6_waitsLeft_8 : decode cX6_waitsLeft 8 = .ok (.aload_n 0, 1) := by decide +kernel
theorem dX6_waitsLeft_9 : decode cX6_waitsLeft 9 = .ok (.getfield 60, 3) := by decide +kernel
theorem dX6_waitsLeft_12 : decode cX6_waitsLeft 12 = .ok (.istore 4, 2) := by decide +kernel
theorem dX6_waitsLeft_14 : decode cX6_waitsLeft 14 = .ok (.iload 4, 2) := by decide +kernel
theorem dX6_waitsLeft_16 : decode cX6_waitsLeft 16 = .ok (.aload_n 2, 1) := by decide +kernel
theorem dX6_waitsLeft_17 : decode cX6_waitsLeft 17 = .ok (.getfield 129, 3) := by decide +kernel
theorem dX6_waitsLeft_20 : decode cX6_waitsLeft 20 = .ok (.if_icmp .ge 21, 3) := by decide +kernel
theorem dX6_waitsLeft_23 : decode cX6_waitsLeft 23 = .ok (.aload_n 2, 1) := by decide +kernel
theorem dX6_waitsLeft_24 : decode cX6_waitsLeft 24 = .ok (.iload 4, 2) := by decide +kernel
theorem dX6_waitsLeft_26 : decode cX6_waitsLeft 26 = .ok (.invokevirtual 120, 3) := by decide +kernel
theorem dX6_waitsLeft_29 : decode cX6_waitsLeft 29 = .ok (.ifCond .ne 6, 3) := by decide +kernel
theorem dX6_waitsLeft_32 : decode cX6_waitsLeft 32 = .ok (.iinc 3 1, 3) := by decide +kernel
theorem dX6_waitsLeft_35 : decode cX6_waitsLeft 35 = .ok (.iinc 4 1, 3) := by decide +kernel
theorem dX6_waitsLeft_38 : decode cX6_waitsLeft 38 = .ok (.goto (-24), 3) := by decide +kernel
theorem dX6_waitsLeft_41 : decode cX6_waitsLeft 41 = .ok (.iload_n 3, 1) := by decide +kernel
theorem dX6_waitsLeft_42 : decode cX6_waitsLeft 42 = .ok (.ireturn, 1) := by decide +kernel
theorem dX6_timeWithoutOthers_0 : decode cX6_timeWithoutOthers 0 = .ok (.aload_n 0, 1) := by decide +kernel
theorem dX6_timeWithoutOthers_1 : decode cX6_timeWithoutOthers 1 = .ok (.getfield 41, 3) := by decide +kernel
theorem dX6_timeWithoutOthers_4 : decode cX6_timeWithoutOthers 4 = .ok (.aload_n 0, 1) := by decide +kernel
theorem dX6_timeWithoutOthers_5 : decode cX6_timeWithoutOthers 5 = .ok (.iload_n 1, 1) := by decide +kernel
theorem dX6_timeWithoutOthers_6 : decode cX6_timeWithoutOthers 6 = .ok (.invokevirtual 94, 3) := by decide +kernel
theorem dX6_timeWithoutOthers_9 : decode cX6_timeWithoutOthers 9 = .ok (.invokevirtual 132, 3) := by decide +kernel
theorem dX6_timeWithoutOthers_12 : decode cX6_timeWithoutOthers 12 = .ok (.aload_n 0, 1) := by decide +kernel
theorem dX6_timeWithoutOthers_13 : decode cX6_timeWithoutOthers 13 = .ok (.getfield 41, 3) := by decide +kernel
theorem dX6_timeWithoutOthers_16 : decode cX6_timeWithoutOthers 16 = .ok (.aload_n 0, 1) := by decide +kernel
theorem dX6_timeWithoutOthers_17 : decode cX6_timeWithoutOthers 17 = .ok (.getfield 28, 3) := by decide +kernel
theorem dX6_timeWithoutOthers_20 : decode cX6_timeWithoutOthers 20 = .ok (.getfield 82, 3) := by decide +kernel
theorem dX6_timeWithoutOthers_23 : decode cX6_timeWithoutOthers 23 = .ok (.iload_n 1, 1) := by decide +kernel
theorem dX6_timeWithoutOthers_24 : decode cX6_timeWithoutOthers 24 = .ok (.invokevirtual 88, 3) := by decide +kernel
theorem dX6_timeWithoutOthers_27 : decode cX6_timeWithoutOthers 27 = .ok (.invokevirtual 136, 3) := by decide +kernel
theorem dX6_timeWithoutOthers_30 : decode cX6_timeWithoutOthers 30 = .ok (.ireturn, 1) := by decide +kernel
theorem dX6_hinderer_0 : decode cX6_hinderer 0 = .ok (.aload_n 0, 1) := by decide +kernel
theorem dX6_hinderer_1 : decode cX6_hinderer 1 = .ok (.iload_n 1, 1) := by decide +kernel
theorem dX6_hinderer_2 : decode cX6_hinderer 2 = .ok (.invokevirtual 104, 3) := by decide +kernel
theorem dX6_hinderer_5 : decode cX6_hinderer 5 = .ok (.astore_n 3, 1) := by decide +kernel
theorem dX6_hinderer_6 : decode cX6_hinderer 6 = .ok (.aload_n 0, 1) := by decide +kernel
theorem dX6_hinderer_7 : decode cX6_hinderer 7 = .ok (.getfield 60, 3) := by decide +kernel
theorem dX6_hinderer_10 : decode cX6_hinderer 10 = .ok (.iload_n 2, 1) := by decide +kernel
theorem dX6_hinderer_11 : decode cX6_hinderer 11 = .ok (.iadd, 1) := by decide +kernel
theorem dX6_hinderer_12 : decode cX6_hinderer 12 = .ok (.istore 4, 2) := by decide +kernel
theorem dX6_hinderer_14 : decode cX6_hinderer 14 = .ok (.iload 4, 2) := by decide +kernel
theorem dX6_hinderer_16 : decode cX6_hinderer 16 = .ok (.aload_n 3, 1) := by decide +kernel
theorem dX6_hinderer_17 : decode cX6_hinderer 17 = .ok (.getfield 129, 3) := by decide +kernel
theorem dX6_hinderer_20 : decode cX6_hinderer 20 = .ok (.if_icmp .ge 12, 3) := by decide +kernel
theorem dX6_hinderer_23 : decode cX6_hinderer 23 = .ok (.aload_n 3, 1) := by decide +kernel
theorem dX6_hinderer_24 : decode cX6_hinderer 24 = .ok (.iload 4, 2) := by decide +kernel
theorem dX6_hinderer_26 : decode cX6_hinderer 26 = .ok (.invokevirtual 120, 3) := by decide +kernel
theorem dX6_hinderer_29 : decode cX6_hinderer 29 = .ok (.ifCond .eq 5, 3) := by decide +kernel
theorem dX6_hinderer_32 : decode cX6_hinderer 32 = .ok (.iconst (-1), 1) := by decide +kernel
theorem dX6_hinderer_33 : decode cX6_hinderer 33 = .ok (.ireturn, 1) := by decide +kernel
theorem dX6_hinderer_34 : decode cX6_hinderer 34 = .ok (.aload_n 0, 1) := by decide +kernel
theorem dX6_hinderer_35 : decode cX6_hinderer 35 = .ok (.getfield 41, 3) := by decide +kernel
theorem dX6_hinderer_38 : decode cX6_hinderer 38 = .ok (.aload_n 0, 1) := by decide +kernel
theorem dX6_hinderer_39 : decode cX6_hinderer 39 = .ok (.iload_n 1, 1) := by decide +kernel
theorem dX6_hinderer_40 : decode cX6_hinderer 40 = .ok (.invokevirtual 94, 3) := by decide +kernel
theorem dX6_hinderer_43 : decode cX6_hinderer 43 = .ok (.invokevirtual 132, 3) := by decide +kernel
theorem dX6_hinderer_46 : decode cX6_hinderer 46 = .ok (.aload_n 3, 1) := by decide +kernel
theorem dX6_hinderer_47 : decode cX6_hinderer 47 = .ok (.iload 4, 2) := by decide +kernel
theorem dX6_hinderer_49 : decode cX6_hinderer 49 = .ok (.invokevirtual 119, 3) := by decide +kernel
theorem dX6_hinderer_52 : decode cX6_hinderer 52 = .ok (.istore 5, 2) := by decide +kernel
theorem dX6_hinderer_54 : decode cX6_hinderer 54 = .ok (.aload_n 0, 1) := by decide +kernel
theorem dX6_hinderer_55 : decode cX6_hinderer 55 = .ok (.getfield 41, 3) := by decide +kernel
theorem dX6_hinderer_58 : decode cX6_hinderer 58 = .ok (.iload 5, 2) := by decide +kernel
theorem dX6_hinderer_60 : decode cX6_hinderer 60 = .ok (.invokevirtual 139, 3) := by decide +kernel
theorem dX6_hinderer_63 : decode cX6_hinderer 63 = .ok (.istore 6, 2) := by decide +kernel
theorem dX6_hinderer_65 : decode cX6_hinderer 65 = .ok (.iload 6, 2) := by decide +kernel
theorem dX6_hinderer_67 : decode cX6_hinderer 67 = .ok (.ifCond .ne 5, 3) := by decide +kernel
theorem dX6_hinderer_70 : decode cX6_hinderer 70 = .ok (.iconst (-1), 1) := by decide +kernel
theorem dX6_hinderer_71 : decode cX6_hinderer 71 = .ok (.ireturn, 1) := by decide +kernel
theorem dX6_hinderer_72 : decode cX6_hinderer 72 = .ok (.iconst 0, 1) := by decide +kernel
theorem dX6_hinderer_73 : decode cX6_hinderer 73 = .ok (.istore 7, 2) := by decide +kernel
theorem dX6_hinderer_75 : decode cX6_hinderer 75 = .ok (.iload 7, 2) := by decide +kernel
theorem dX6_hinderer_77 : decode cX6_hinderer 77 = .ok (.aload_n 0, 1) := by decide +kernel
theorem dX6_hinderer_78 : decode cX6_hinderer 78 = .ok (.getfield 74, 3) := by decide +kernel
theorem dX6_hinderer_81 : decode cX6_hinderer 81 = .ok (.if_icmp .ge 68, 3) := by decide +kernel
theorem dX6_hinderer_84 : decode cX6_hinderer 84 = .ok (.iload 7, 2) := by decide +kernel
theorem dX6_hinderer_86 : decode cX6_hinderer 86 = .ok (.bipush 6, 2) := by decide +kernel
theorem dX6_hinderer_88 : decode cX6_hinderer 88 = .ok (.if_icmp .ge 61, 3) := by decide +kernel
theorem dX6_hinderer_91 : decode cX6_hinderer 91 = .ok (.aload_n 0, 1) := by decide +kernel
theorem dX6_hinderer_92 : decode cX6_hinderer 92 = .ok (.getfield 11, 3) := by decide +kernel
theorem dX6_hinderer_95 : decode cX6_hinderer 95 = .ok (.iload 7, 2) := by decide +kernel
theorem dX6_hinderer_97 : decode cX6_hinderer 97 = .ok (.aaload, 1) := by decide +kernel
theorem dX6_hinderer_98 : decode cX6_hinderer 98 = .ok (.getfield 123, 3) := by decide +kernel
theorem dX6_hinderer_101 : decode cX6_hinderer 101 = .ok (.aload_n 3, 1) := by decide +kernel
theorem dX6_hinderer_102 : decode cX6_hinderer 102 = .ok (.getfield 123, 3) := by decide +kernel
theorem dX6_hinderer_105 : decode cX6_hinderer 105 = .ok (.if_icmp .ge 7, 3) := by decide +kernel
theorem dX6_hinderer_108 : decode cX6_hinderer 108 = .ok (.iconst 1, 1) := by decide +kernel
theorem dX6_hinderer_109 : decode cX6_hinderer 109 = .ok (.goto 4, 3) := by decide +kernel
theorem dX6_hinderer_112 : decode cX6_hinderer 112 = .ok (.iconst 0, 1) := by decide +kernel
theorem dX6_hinderer_113 : decode cX6_hinderer 113 = .ok (.istore 8, 2) := by decide +kernel
theorem dX6_hinderer_115 : decode cX6_hinderer 115 = .ok (.iload 8, 2) := by decide +kernel
theorem dX6_hinderer_117 : decode cX6_hinderer 117 = .ok (.ifCond .eq 26, 3) := by decide +kernel
theorem dX6_hinderer_120 : decode cX6_hinderer 120 = .ok (.aload_n 0, 1) := by decide +kernel
theorem dX6_hinderer_121 : decode cX6_hinderer 121 = .ok (.aload_n 0, 1) := by decide +kernel
theorem dX6_hinderer_122 : decode cX6_hinderer 122 = .ok (.getfield 11, 3) := by decide +kernel
theorem dX6_hinderer_125 : decode cX6_hinderer 125 = .ok (.iload 7, 2) := by decide +kernel
theorem dX6_hinderer_127 : decode cX6_hinderer 127 = .ok (.aaload, 1) := by decide +kernel
theorem dX6_hinderer_128 : decode cX6_hinderer 128 = .ok (.iload 4, 2) := by decide +kernel
theorem dX6_hinderer_130 : decode cX6_hinderer 130 = .ok (.iload 5, 2) := by decide +kernel
theorem dX6_hinderer_132 : decode cX6_hinderer 132 = .ok (.iload 6, 2) := by decide +kernel
theorem dX6_hinderer_134 : decode cX6_hinderer 134 = .ok (.invokevirtual 142, 3) := by decide +kernel
theorem dX6_hinderer_137 : decode cX6_hinderer 137 = .ok (.ifCond .eq 6, 3) := by decide +kernel
theorem dX6_hinderer_140 : decode cX6_hinderer 140 = .ok (.iload 7, 2) := by decide +kernel
theorem dX6_hinderer_142 : decode cX6_hinderer 142 = .ok (.ireturn, 1) := by decide +kernel
theorem dX6_hinderer_143 : decode cX6_hinderer 143 = .ok (.iinc 7 1, 3) := by decide +kernel
theorem dX6_hinderer_146 : decode cX6_hinderer 146 = .ok (.goto (-71), 3) := by decide +kernel
theorem dX6_hinderer_149 : decode cX6_hinderer 149 = .ok (.iconst (-1), 1) := by decide +kernel
theorem dX6_hinderer_150 : decode cX6_hinderer 150 = .ok (.ireturn, 1) := by decide +kernel
theorem dX6_pairsInConflict_0 : decode cX6_pairsInConflict 0 = .ok (.iconst 0, 1) := by decide +kernel
theorem dX6_pairsInConflict_1 : decode cX6_pairsInConflict 1 = .ok (.istore_n 1, 1) := by decide +kernel
theorem dX6_pairsInConflict_2 : decode cX6_pairsInConflict 2 = .ok (.iconst 0, 1) := by decide +kernel
theorem dX6_pairsInConflict_3 : decode cX6_pairsInConflict 3 = .ok (.istore_n 2, 1) := by decide +kernel
theorem dX6_pairsInConflict_4 : decode cX6_pairsInConflict 4 = .ok (.iload_n 2, 1) := by decide +kernel
theorem dX6_pairsInConflict_5 : decode cX6_pairsInConflict 5 = .ok (.aload_n 0, 1) := by decide +kernel
theorem dX6_pairsInConflict_6 : decode cX6_pairsInConflict 6 = .ok (.getfield 74, 3) := by decide +kernel
theorem dX6_pairsInConflict_9 : decode cX6_pairsInConflict 9 = .ok (.if_icmp .ge 54, 3) := by decide +kernel
theorem dX6_pairsInConflict_12 : decode cX6_pairsInConflict 12 = .ok (.iload_n 2, 1) := by decide +kernel
theorem dX6_pairsInConflict_13 : decode cX6_pairsInConflict 13 = .ok (.bipush 6, 2) := by decide +kernel
theorem dX6_pairsInConflict_15 : decode cX6_pairsInConflict 15 = .ok (.if_icmp .ge 48, 3) := by decide +kernel
theorem dX6_pairsInConflict_18 : decode cX6_pairsInConflict 18 = .ok (.aload_n 0, 1) := by decide +kernel
theorem dX6_pairsInConflict_19 : decode cX6_pairsInConflict 19 = .ok (.iload_n 2, 1) := by decide +kernel
theorem dX6_pairsInConflict_20 : decode cX6_pairsInConflict 20 = .ok (.invokevirtual 146, 3) := by decide +kernel
theorem dX6_pairsInConflict_23 : decode cX6_pairsInConflict 23 = .ok (.iconst 0, 1) := by decide +kernel
theorem dX6_pairsInConflict_24 : decode cX6_pairsInConflict 24 = .ok (.istore_n 3, 1) := by decide +kernel
theorem dX6_pairsInConflict_25 : decode cX6_pairsInConflict 25 = .ok (.iload_n 3, 1) := by decide +kernel
theorem dX6_pairsInConflict_26 : decode cX6_pairsInConflict 26 = .ok (.iload_n 2, 1) := by decide +kernel
theorem dX6_pairsInConflict_27 : decode cX6_pairsInConflict 27 = .ok (.if_icmp .ge 30, 3) := by decide +kernel
theorem dX6_pairsInConflict_30 : decode cX6_pairsInConflict 30 = .ok (.aload_n 0, 1) := by decide +kernel
theorem dX6_pairsInConflict_31 : decode cX6_pairsInConflict 31 = .ok (.getfield 17, 3) := by decide +kernel
theorem dX6_pairsInConflict_34 : decode cX6_pairsInConflict 34 = .ok (.iload_n 2, 1) := by decide +kernel
theorem dX6_pairsInConflict_35 : decode cX6_pairsInConflict 35 = .ok (.aaload, 1) := by decide +kernel
theorem dX6_pairsInConflict_36 : decode cX6_pairsInConflict 36 = .ok (.aload_n 0, 1) := by decide +kernel
theorem dX6_pairsInConflict_37 : decode cX6_pairsInConflict 37 = .ok (.getfield 17, 3) := by decide +kernel
theorem dX6_pairsInConflict_40 : decode cX6_pairsInConflict 40 = .ok (.iload_n 3, 1) := by decide +kernel
theorem dX6_pairsInConflict_41 : decode cX6_pairsInConflict 41 = .ok (.aaload, 1) := by decide +kernel
theorem dX6_pairsInConflict_42 : decode cX6_pairsInConflict 42 = .ok (.invokevirtual 149, 3) := by decide +kernel
theorem dX6_pairsInConflict_45 : decode cX6_pairsInConflict 45 = .ok (.ifCond .eq 6, 3) := by decide +kernel
theorem dX6_pairsInConflict_48 : decode cX6_pairsInConflict 48 = .ok (.iinc 1 1, 3) := by decide +kernel
theorem dX6_pairsInConflict_51 : decode cX6_pairsInConflict 51 = .ok (.iinc 3 1, 3) := by decide +kernel
theorem dX6_pairsInConflict_54 : decode cX6_pairsInConflict 54 = .ok (.goto (-29), 3) := by decide +kernel
theorem dX6_pairsInConflict_57 : decode cX6_pairsInConflict 57 = .ok (.iinc 2 1, 3) := by decide +kernel
theorem dX6_pairsInConflict_60 : decode cX6_pairsInConflict 60 = .ok (.goto (-56), 3) := by decide +kernel
theorem dX6_pairsInConflict_63 : decode cX6_pairsInConflict 63 = .ok (.iload_n 1, 1) := by decide +kernel
theorem dX6_pairsInConflict_64 : decode cX6_pairsInConflict 64 = .ok (.ireturn, 1) := by decide +kernel
theorem dX6_advance_0 : decode cX6_advance 0 = .ok (.aload_n 0, 1) := by decide +kernel
theorem dX6_advance_1 : decode cX6_advance 1 = .ok (.aload_n 0, 1) := by decide +kernel
theorem dX6_advance_2 : decode cX6_advance 2 = .ok (.getfield 60, 3) := by decide +kernel
theorem dX6_advance_5 : decode cX6_advance 5 = .ok (.iload_n 1, 1) := by decide +kernel
theorem dX6_advance_6 : decode cX6_advance 6 = .ok (.iadd, 1) := by decide +kernel
theorem dX6_advance_7 : decode cX6_advance 7 = .ok (.bipush 60, 2) := by decide +kernel
theorem dX6_advance_9 : decode cX6_advance 9 = .ok (.invokestatic 68, 3) := by decide +kernel
theorem dX6_advance_12 : decode cX6_advance 12 = .ok (.putfield 60, 3) := by decide +kernel
theorem dX6_advance_15 : decode cX6_advance 15 = .ok (.iconst 0, 1) := by decide +kernel
theorem dX6_advance_16 : decode cX6_advance 16 = .ok (.istore_n 2, 1) := by decide +kernel
theorem dX6_advance_17 : decode cX6_advance 17 = .ok (.iconst 0, 1) := by decide +kernel
theorem dX6_advance_18 : decode cX6_advance 18 = .ok (.istore_n 3, 1) := by decide +kernel
theorem dX6_advance_19 : decode cX6_advance 19 = .ok (.iload_n 3, 1) := by decide +kernel
theorem dX6_advance_20 : decode cX6_advance 20 = .ok (.aload_n 0, 1) := by decide +kernel
theorem dX6_advance_21 : decode cX6_advance 21 = .ok (.getfield 74, 3) := by decide +kernel
theorem dX6_advance_24 : decode cX6_advance 24 = .ok (.if_icmp .ge 37, 3) := by decide +kernel
theorem dX6_advance_27 : decode cX6_advance 27 = .ok (.aload_n 0, 1) := by decide +kernel
theorem dX6_advance_28 : decode cX6_advance 28 = .ok (.getfield 28, 3) := by decide +kernel
theorem dX6_advance_31 : decode cX6_advance 31 = .ok (.getfield 82, 3) := by decide +kernel
theorem dX6_advance_34 : decode cX6_advance 34 = .ok (.iload_n 3, 1) := by decide +kernel
theorem dX6_advance_35 : decode cX6_advance 35 = .ok (.aload_n 0, 1) := by decide +kernel
theorem dX6_advance_36 : decode cX6_advance 36 = .ok (.iload_n 3, 1) := by decide +kernel
theorem dX6_advance_37 : decode cX6_advance 37 = .ok (.iconst 0, 1) := by decide +kernel
theorem dX6_advance_38 : decode cX6_advance 38 = .ok (.invokevirtual 153, 3) := by decide +kernel
theorem dX6_advance_41 : decode cX6_advance 41 = .ok (.invokevirtual 156, 3) := by decide +kernel
theorem dX6_advance_44 : decode cX6_advance 44 = .ok (.aload_n 0, 1) := by decide +kernel
theorem dX6_advance_45 : decode cX6_advance 45 = .ok (.iload_n 3, 1) := by decide +kernel
theorem dX6_advance_46 : decode cX6_advance 46 = .ok (.invokevirtual 159, 3) := by decide +kernel
theorem dX6_advance_49 : decode cX6_advance 49 = .ok (.ifCond .ne 6, 3) := by decide +kernel
theorem dX6_advance_52 : decode cX6_advance 52 = .ok (.iinc 2 1, 3) := by decide +kernel
theorem dX6_advance_55 : decode cX6_advance 55 = .ok (.iinc 3 1, 3) := by decide +kernel
theorem dX6_advance_58 : decode cX6_advance 58 = .ok (.goto (-39), 3) := by decide +kernel
theorem dX6_advance_61 : decode cX6_advance 61 = .ok (.iload_n 2, 1) := by decide +kernel
theorem dX6_advance_62 : decode cX6_advance 62 = .ok (.ireturn, 1) := by decide +kernel
theorem dX6_flightOf_0 : decode cX6_flightOf 0 = .ok (.aload_n 0, 1) := by decide +kernel
theorem dX6_flightOf_1 : decode cX6_flightOf 1 = .ok (.getfield 11, 3) := by decide +kernel
theorem dX6_flightOf_4 : decode cX6_flightOf 4 = .ok (.iconst 0, 1) := by decide +kernel
theorem dX6_flightOf_5 : decode cX6_flightOf 5 = .ok (.iload_n 1, 1) := by decide +kernel
theorem dX6_flightOf_6 : decode cX6_flightOf 6 = .ok (.iconst 5, 1) := by decide +kernel
theorem dX6_flightOf_7 : decode cX6_flightOf 7 = .ok (.invokestatic 68, 3) := by decide +kernel
theorem dX6_flightOf_10 : decode cX6_flightOf 10 = .ok (.invokestatic 116, 3) := by decide +kernel
theorem dX6_flightOf_13 : decode cX6_flightOf 13 = .ok (.aaload, 1) := by decide +kernel
theorem dX6_flightOf_14 : decode cX6_flightOf 14 = .ok (.areturn, 1) := by decide +kernel
theorem dX6_takeOrder_0 : decode cX6_takeOrder 0 = .ok (.iconst 0, 1) := by decide +kernel
theorem dX6_takeOrder_1 : decode cX6_takeOrder 1 = .ok (.istore_n 2, 1) := by decide +kernel
theorem dX6_takeOrder_2 : decode cX6_takeOrder 2 = .ok (.iload_n 2, 1) := by decide +kernel
theorem dX6_takeOrder_3 : decode cX6_takeOrder 3 = .ok (.aload_n 0, 1) := by decide +kernel
theorem dX6_takeOrder_4 : decode cX6_takeOrder 4 = .ok (.getfield 74, 3) := by decide +kernel
theorem dX6_takeOrder_7 : decode cX6_takeOrder 7 = .ok (.if_icmp .ge 97, 3) := by decide +kernel
theorem dX6_takeOrder_10 : decode cX6_takeOrder 10 = .ok (.iconst 0, 1) := by decide +kernel
theorem dX6_takeOrder_11 : decode cX6_takeOrder 11 = .ok (.istore_n 3, 1) := by decide +kernel
theorem dX6_takeOrder_12 : decode cX6_takeOrder 12 = .ok (.iconst 0, 1) := by decide +kernel
theorem dX6_takeOrder_13 : decode cX6_takeOrder 13 = .ok (.istore 4, 2) := by decide +kernel
theorem dX6_takeOrder_15 : decode cX6_takeOrder 15 = .ok (.iload 4, 2) := by decide +kernel
theorem dX6_takeOrder_17 : decode cX6_takeOrder 17 = .ok (.aload_n 0, 1) := by decide +kernel
theorem dX6_takeOrder_18 : decode cX6_takeOrder 18 = .ok (.getfield 74, 3) := by decide +kernel
theorem dX6_takeOrder_21 : decode cX6_takeOrder 21 = .ok (.if_icmp .ge 42, 3) := by decide +kernel
theorem dX6_takeOrder_24 : decode cX6_takeOrder 24 = .ok (.aload_n 1, 1) := by decide +kernel
theorem dX6_takeOrder_25 : decode cX6_takeOrder 25 = .ok (.iload 4, 2) := by decide +kernel
theorem dX6_takeOrder_27 : decode cX6_takeOrder 27 = .ok (.invokevirtual 162, 3) := by decide +kernel
theorem dX6_takeOrder_30 : decode cX6_takeOrder 30 = .ok (.aload_n 1, 1) := by decide +kernel
theorem dX6_takeOrder_31 : decode cX6_takeOrder 31 = .ok (.iload_n 2, 1) := by decide +kernel
theorem dX6_takeOrder_32 : decode cX6_takeOrder 32 = .ok (.invokevirtual 162, 3) := by decide +kernel
theorem dX6_takeOrder_35 : decode cX6_takeOrder 35 = .ok (.isub, 1) := by decide +kernel
theorem dX6_takeOrder_36 : decode cX6_takeOrder 36 = .ok (.istore 5, 2) := by decide +kernel
theorem dX6_takeOrder_38 : decode cX6_takeOrder 38 = .ok (.iload 5, 2) := by decide +kernel
theorem dX6_takeOrder_40 : decode cX6_takeOrder 40 = .ok (.ifCond .gt 14, 3) := by decide +kernel
theorem dX6_takeOrder_43 : decode cX6_takeOrder 43 = .ok (.iload 5, 2) := by decide +kernel
theorem dX6_takeOrder_45 : decode cX6_takeOrder 45 = .ok (.ifCond .ne 12, 3) := by decide +kernel
theorem dX6_takeOrder_48 : decode cX6_takeOrder 48 = .ok (.iload 4, 2) := by decide +kernel
theorem dX6_takeOrder_50 : decode cX6_takeOrder 50 = .ok (.iload_n 2, 1) := by decide +kernel
theorem dX6_takeOrder_51 : decode cX6_takeOrder 51 = .ok (.if_icmp .ge 6, 3) := by decide +kernel
theorem dX6_takeOrder_54 : decode cX6_takeOrder 54 = .ok (.iinc 3 1, 3) := by decide +kernel
theorem dX6_takeOrder_57 : decode cX6_takeOrder 57 = .ok (.iinc 4 1, 3) := by decide +kernel
theorem dX6_takeOrder_60 : decode cX6_takeOrder 60 = .ok (.goto (-45), 3) := by decide +kernel
theorem dX6_takeOrder_63 : decode cX6_takeOrder 63 = .ok (.aload_n 0, 1) := by decide +kernel
theorem dX6_takeOrder_64 : decode cX6_takeOrder 64 = .ok (.iload_n 2, 1) := by decide +kernel
theorem dX6_takeOrder_65 : decode cX6_takeOrder 65 = .ok (.invokevirtual 104, 3) := by decide +kernel
theorem dX6_takeOrder_68 : decode cX6_takeOrder 68 = .ok (.iload_n 3, 1) := by decide +kernel
theorem dX6_takeOrder_69 : decode cX6_takeOrder 69 = .ok (.putfield 123, 3) := by decide +kernel
theorem dX6_takeOrder_72 : decode cX6_takeOrder 72 = .ok (.aload_n 0, 1) := by decide +kernel
theorem dX6_takeOrder_73 : decode cX6_takeOrder 73 = .ok (.iload_n 2, 1) := by decide +kernel
theorem dX6_takeOrder_74 : decode cX6_takeOrder 74 = .ok (.invokevirtual 104, 3) := by decide +kernel
theorem dX6_takeOrder_77 : decode cX6_takeOrder 77 = .ok (.aload_n 1, 1) := by decide +kernel
theorem dX6_takeOrder_78 : decode cX6_takeOrder 78 = .ok (.iload_n 2, 1) := by decide +kernel
theorem dX6_takeOrder_79 : decode cX6_takeOrder 79 = .ok (.invokevirtual 165, 3) := by decide +kernel
theorem dX6_takeOrder_82 : decode cX6_takeOrder 82 = .ok (.putfield 126, 3) := by decide +kernel
theorem dX6_takeOrder_85 : decode cX6_takeOrder 85 = .ok (.iload_n 3, 1) := by decide +kernel
theorem dX6_takeOrder_86 : decode cX6_takeOrder 86 = .ok (.bipush 6, 2) := by decide +kernel
theorem dX6_takeOrder_88 : decode cX6_takeOrder 88 = .ok (.if_icmp .ge 10, 3) := by decide +kernel
theorem dX6_takeOrder_91 : decode cX6_takeOrder 91 = .ok (.aload_n 0, 1) := by decide +kernel
theorem dX6_takeOrder_92 : decode cX6_takeOrder 92 = .ok (.getfield 20, 3) := by decide +kernel
theorem dX6_takeOrder_95 : decode cX6_takeOrder 95 = .ok (.iload_n 3, 1) := by decide +kernel
theorem dX6_takeOrder_96 : decode cX6_takeOrder 96 = .ok (.iload_n 2, 1) := by decide +kernel
theorem dX6_takeOrder_97 : decode cX6_takeOrder 97 = .ok (.iastore, 1) := by decide +kernel
theorem dX6_takeOrder_98 : decode cX6_takeOrder 98 = .ok (.iinc 2 1, 3) := by decide +kernel
theorem dX6_takeOrder_101 : decode cX6_takeOrder 101 = .ok (.goto (-99), 3) := by decide +kernel
theorem dX6_takeOrder_104 : decode cX6_takeOrder 104 = .ok (.return_, 1) := by decide +kernel
theorem dX6_goalOf_0 : decode cX6_goalOf 0 = .ok (.aload_n 0, 1) := by decide +kernel
theorem dX6_goalOf_1 : decode cX6_goalOf 1 = .ok (.getfield 28, 3) := by decide +kernel
theorem dX6_goalOf_4 : decode cX6_goalOf 4 = .ok (.getfield 168, 3) := by decide +kernel
theorem dX6_goalOf_7 : decode cX6_goalOf 7 = .ok (.aload_n 0, 1) := by decide +kernel
theorem dX6_goalOf_8 : decode cX6_goalOf 8 = .ok (.iload_n 1, 1) := by decide +kernel
theorem dX6_goalOf_9 : decode cX6_goalOf 9 = .ok (.invokevirtual 104, 3) := by decide +kernel
theorem dX6_goalOf_12 : decode cX6_goalOf 12 = .ok (.getfield 126, 3) := by decide +kernel
theorem dX6_goalOf_15 : decode cX6_goalOf 15 = .ok (.invokevirtual 88, 3) := by decide +kernel
theorem dX6_goalOf_18 : decode cX6_goalOf 18 = .ok (.ireturn, 1) := by decide +kernel
theorem dX6_isMet_0 : decode cX6_isMet 0 = .ok (.aload_n 0, 1) := by decide +kernel
theorem dX6_isMet_1 : decode cX6_isMet 1 = .ok (.getfield 32, 3) := by decide +kernel
theorem dX6_isMet_4 : decode cX6_isMet 4 = .ok (.iload_n 3, 1) := by decide +kernel
theorem dX6_isMet_5 : decode cX6_isMet 5 = .ok (.iload 4, 2) := by decide +kernel
theorem dX6_isMet_7 : decode cX6_isMet 7 = .ok (.invokevirtual 171, 3) := by decide +kernel
theorem dX6_isMet_10 : decode cX6_isMet 10 = .ok (.istore 5, 2) := by decide +kernel
theorem dX6_isMet_12 : decode cX6_isMet 12 = .ok (.aload_n 0, 1) := by decide +kernel
theorem dX6_isMet_13 : decode cX6_isMet 13 = .ok (.getfield 32, 3) := by decide +kernel
theorem dX6_isMet_16 : decode cX6_isMet 16 = .ok (.iload_n 3, 1) := by decide +kernel
theorem dX6_isMet_17 : decode cX6_isMet 17 = .ok (.iload 4, 2) := by decide +kernel
theorem dX6_isMet_19 : decode cX6_isMet 19 = .ok (.invokevirtual 176, 3) := by decide +kernel
theorem dX6_isMet_22 : decode cX6_isMet 22 = .ok (.istore 6, 2) := by decide +kernel
theorem dX6_isMet_24 : decode cX6_isMet 24 = .ok (.iload_n 2, 1) := by decide +kernel
theorem dX6_isMet_25 : decode cX6_isMet 25 = .ok (.iload 6, 2) := by decide +kernel
theorem dX6_isMet_27 : decode cX6_isMet 27 = .ok (.iadd, 1) := by decide +kernel
theorem dX6_isMet_28 : decode cX6_isMet 28 = .ok (.istore 7, 2) := by decide +kernel
theorem dX6_isMet_30 : decode cX6_isMet 30 = .ok (.iload 6, 2) := by decide +kernel
theorem dX6_isMet_32 : decode cX6_isMet 32 = .ok (.iconst 2, 1) := by decide +kernel
theorem dX6_isMet_33 : decode cX6_isMet 33 = .ok (.if_icmp .ne 16, 3) := by decide +kernel
theorem dX6_isMet_36 : decode cX6_isMet 36 = .ok (.aload_n 1, 1) := by decide +kernel
theorem dX6_isMet_37 : decode cX6_isMet 37 = .ok (.iload_n 2, 1) := by decide +kernel
theorem dX6_isMet_38 : decode cX6_isMet 38 = .ok (.iconst 1, 1) := by decide +kernel
theorem dX6_isMet_39 : decode cX6_isMet 39 = .ok (.iadd, 1) := by decide +kernel
theorem dX6_isMet_40 : decode cX6_isMet 40 = .ok (.invokevirtual 119, 3) := by decide +kernel
end
section
theorem dX6_isMet_43 : decode cX6_isMet 43 = .ok (.iload_n 3, 1) := by decide +kernel
theorem dX6_isMet_44 : decode cX6_isMet 44 = .ok (.if_icmp .ne 5, 3) := by decide +kernel
theorem dX6_isMet_47 : decode cX6_isMet 47 = .ok (.iconst 1, 1) := by decide +kernel
theorem dX6_isMet_48 : decode cX6_isMet 48 = .ok (.ireturn, 1) := by decide +kernel
theorem dX6_isMet_49 : decode cX6_isMet 49 = .ok (.aload_n 1, 1) := by decide +kernel
theorem dX6_isMet_50 : decode cX6_isMet 50 = .ok (.iload 7, 2) := by decide +kernel
theorem dX6_isMet_52 : decode cX6_isMet 52 = .ok (.invokevirtual 119, 3) := by decide +kernel
theorem dX6_isMet_55 : decode cX6_isMet 55 = .ok (.iload 5, 2) := by decide +kernel
theorem dX6_isMet_57 : decode cX6_isMet 57 = .ok (.if_icmp .ne 5, 3) := by decide +kernel
theorem dX6_isMet_60 : decode cX6_isMet 60 = .ok (.iconst 1, 1) := by decide +kernel
theorem dX6_isMet_61 : decode cX6_isMet 61 = .ok (.ireturn, 1) := by decide +kernel
theorem dX6_isMet_62 : decode cX6_isMet 62 = .ok (.aload_n 1, 1) := by decide +kernel
theorem dX6_isMet_63 : decode cX6_isMet 63 = .ok (.iload 7, 2) := by decide +kernel
theorem dX6_isMet_65 : decode cX6_isMet 65 = .ok (.iconst 1, 1) := by decide +kernel
theorem dX6_isMet_66 : decode cX6_isMet 66 = .ok (.isub, 1) := by decide +kernel
theorem dX6_isMet_67 : decode cX6_isMet 67 = .ok (.invokevirtual 119, 3) := by decide +kernel
theorem dX6_isMet_70 : decode cX6_isMet 70 = .ok (.iload 5, 2) := by decide +kernel
theorem dX6_isMet_72 : decode cX6_isMet 72 = .ok (.if_icmp .ne 17, 3) := by decide +kernel
theorem dX6_isMet_75 : decode cX6_isMet 75 = .ok (.aload_n 1, 1) := by decide +kernel
theorem dX6_isMet_76 : decode cX6_isMet 76 = .ok (.iload 7, 2) := by decide +kernel
theorem dX6_isMet_78 : decode cX6_isMet 78 = .ok (.invokevirtual 119, 3) := by decide +kernel
theorem dX6_isMet_81 : decode cX6_isMet 81 = .ok (.iload_n 3, 1) := by decide +kernel
theorem dX6_isMet_82 : decode cX6_isMet 82 = .ok (.if_icmp .ne 7, 3) := by decide +kernel
theorem dX6_isMet_85 : decode cX6_isMet 85 = .ok (.iconst 1, 1) := by decide +kernel
theorem dX6_isMet_86 : decode cX6_isMet 86 = .ok (.goto 4, 3) := by decide +kernel
theorem dX6_isMet_89 : decode cX6_isMet 89 = .ok (.iconst 0, 1) := by decide +kernel
theorem dX6_isMet_90 : decode cX6_isMet 90 = .ok (.ireturn, 1) := by decide +kernel
theorem dX6_layWay_0 : decode cX6_layWay 0 = .ok (.iload_n 1, 1) := by decide +kernel
theorem dX6_layWay_1 : decode cX6_layWay 1 = .ok (.ifCond .lt 9, 3) := by decide +kernel
theorem dX6_layWay_4 : decode cX6_layWay 4 = .ok (.iload_n 1, 1) := by decide +kernel
theorem dX6_layWay_5 : decode cX6_layWay 5 = .ok (.bipush 6, 2) := by decide +kernel
theorem dX6_layWay_7 : decode cX6_layWay 7 = .ok (.if_icmp .lt 4, 3) := by decide +kernel
theorem dX6_layWay_10 : decode cX6_layWay 10 = .ok (.return_, 1) := by decide +kernel
theorem dX6_layWay_11 : decode cX6_layWay 11 = .ok (.aload_n 0, 1) := by decide +kernel
theorem dX6_layWay_12 : decode cX6_layWay 12 = .ok (.getfield 41, 3) := by decide +kernel
theorem dX6_layWay_15 : decode cX6_layWay 15 = .ok (.aload_n 0, 1) := by decide +kernel
theorem dX6_layWay_16 : decode cX6_layWay 16 = .ok (.iload_n 1, 1) := by decide +kernel
theorem dX6_layWay_17 : decode cX6_layWay 17 = .ok (.invokevirtual 94, 3) := by decide +kernel
theorem dX6_layWay_20 : decode cX6_layWay 20 = .ok (.invokevirtual 132, 3) := by decide +kernel
theorem dX6_layWay_23 : decode cX6_layWay 23 = .ok (.aload_n 0, 1) := by decide +kernel
theorem dX6_layWay_24 : decode cX6_layWay 24 = .ok (.getfield 28, 3) := by decide +kernel
theorem dX6_layWay_27 : decode cX6_layWay 27 = .ok (.getfield 82, 3) := by decide +kernel
theorem dX6_layWay_30 : decode cX6_layWay 30 = .ok (.iload_n 1, 1) := by decide +kernel
theorem dX6_layWay_31 : decode cX6_layWay 31 = .ok (.invokevirtual 88, 3) := by decide +kernel
theorem dX6_layWay_34 : decode cX6_layWay 34 = .ok (.istore_n 2, 1) := by decide +kernel
theorem dX6_layWay_35 : decode cX6_layWay 35 = .ok (.aload_n 0, 1) := by decide +kernel
theorem dX6_layWay_36 : decode cX6_layWay 36 = .ok (.getfield 17, 3) := by decide +kernel
theorem dX6_layWay_39 : decode cX6_layWay 39 = .ok (.iload_n 1, 1) := by decide +kernel
theorem dX6_layWay_40 : decode cX6_layWay 40 = .ok (.aaload, 1) := by decide +kernel
theorem dX6_layWay_41 : decode cX6_layWay 41 = .ok (.iload_n 2, 1) := by decide +kernel
theorem dX6_layWay_42 : decode cX6_layWay 42 = .ok (.invokevirtual 179, 3) := by decide +kernel
theorem dX6_layWay_45 : decode cX6_layWay 45 = .ok (.aload_n 0, 1) := by decide +kernel
theorem dX6_layWay_46 : decode cX6_layWay 46 = .ok (.getfield 41, 3) := by decide +kernel
theorem dX6_layWay_49 : decode cX6_layWay 49 = .ok (.iload_n 2, 1) := by decide +kernel
theorem dX6_layWay_50 : decode cX6_layWay 50 = .ok (.invokevirtual 139, 3) := by decide +kernel
theorem dX6_layWay_53 : decode cX6_layWay 53 = .ok (.istore_n 3, 1) := by decide +kernel
theorem dX6_layWay_54 : decode cX6_layWay 54 = .ok (.iconst 0, 1) := by decide +kernel
theorem dX6_layWay_55 : decode cX6_layWay 55 = .ok (.istore 4, 2) := by decide +kernel
theorem dX6_layWay_57 : decode cX6_layWay 57 = .ok (.iload 4, 2) := by decide +kernel
theorem dX6_layWay_59 : decode cX6_layWay 59 = .ok (.bipush 60, 2) := by decide +kernel
theorem dX6_layWay_61 : decode cX6_layWay 61 = .ok (.if_icmp .ge 57, 3) := by decide +kernel
theorem dX6_layWay_64 : decode cX6_layWay 64 = .ok (.iload_n 3, 1) := by decide +kernel
theorem dX6_layWay_65 : decode cX6_layWay 65 = .ok (.ifCond .eq 53, 3) := by decide +kernel
theorem dX6_layWay_68 : decode cX6_layWay 68 = .ok (.aload_n 0, 1) := by decide +kernel
theorem dX6_layWay_69 : decode cX6_layWay 69 = .ok (.getfield 32, 3) := by decide +kernel
theorem dX6_layWay_72 : decode cX6_layWay 72 = .ok (.iload_n 2, 1) := by decide +kernel
theorem dX6_layWay_73 : decode cX6_layWay 73 = .ok (.iload_n 3, 1) := by decide +kernel
theorem dX6_layWay_74 : decode cX6_layWay 74 = .ok (.invokevirtual 171, 3) := by decide +kernel
theorem dX6_layWay_77 : decode cX6_layWay 77 = .ok (.istore 5, 2) := by decide +kernel
theorem dX6_layWay_79 : decode cX6_layWay 79 = .ok (.aload_n 0, 1) := by decide +kernel
theorem dX6_layWay_80 : decode cX6_layWay 80 = .ok (.getfield 17, 3) := by decide +kernel
theorem dX6_layWay_83 : decode cX6_layWay 83 = .ok (.iload_n 1, 1) := by decide +kernel
theorem dX6_layWay_84 : decode cX6_layWay 84 = .ok (.aaload, 1) := by decide +kernel
theorem dX6_layWay_85 : decode cX6_layWay 85 = .ok (.iload_n 3, 1) := by decide +kernel
theorem dX6_layWay_86 : decode cX6_layWay 86 = .ok (.aload_n 0, 1) := by decide +kernel
theorem dX6_layWay_87 : decode cX6_layWay 87 = .ok (.getfield 32, 3) := by decide +kernel
theorem dX6_layWay_90 : decode cX6_layWay 90 = .ok (.iload_n 2, 1) := by decide +kernel
theorem dX6_layWay_91 : decode cX6_layWay 91 = .ok (.iload_n 3, 1) := by decide +kernel
theorem dX6_layWay_92 : decode cX6_layWay 92 = .ok (.invokevirtual 176, 3) := by decide +kernel
theorem dX6_layWay_95 : decode cX6_layWay 95 = .ok (.iload 5, 2) := by decide +kernel
theorem dX6_layWay_97 : decode cX6_layWay 97 = .ok (.invokevirtual 182, 3) := by decide +kernel
theorem dX6_layWay_100 : decode cX6_layWay 100 = .ok (.iload 5, 2) := by decide +kernel
theorem dX6_layWay_102 : decode cX6_layWay 102 = .ok (.istore_n 2, 1) := by decide +kernel
theorem dX6_layWay_103 : decode cX6_layWay 103 = .ok (.aload_n 0, 1) := by decide +kernel
theorem dX6_layWay_104 : decode cX6_layWay 104 = .ok (.getfield 41, 3) := by decide +kernel
theorem dX6_layWay_107 : decode cX6_layWay 107 = .ok (.iload_n 2, 1) := by decide +kernel
theorem dX6_layWay_108 : decode cX6_layWay 108 = .ok (.invokevirtual 139, 3) := by decide +kernel
theorem dX6_layWay_111 : decode cX6_layWay 111 = .ok (.istore_n 3, 1) := by decide +kernel
theorem dX6_layWay_112 : decode cX6_layWay 112 = .ok (.iinc 4 1, 3) := by decide +kernel
theorem dX6_layWay_115 : decode cX6_layWay 115 = .ok (.goto (-58), 3) := by decide +kernel
theorem dX6_layWay_118 : decode cX6_layWay 118 = .ok (.return_, 1) := by decide +kernel
theorem dX7_init_0 : decode cX7_init 0 = .ok (.aload_n 0, 1) := by decide +kernel
theorem dX7_init_1 : decode cX7_init 1 = .ok (.invokespecial 3, 3) := by decide +kernel
theorem dX7_init_4 : decode cX7_init 4 = .ok (.aload_n 0, 1) := by decide +kernel
theorem dX7_init_5 : decode cX7_init 5 = .ok (.sipush 6588, 3) := by decide +kernel
theorem dX7_init_8 : decode cX7_init 8 = .ok (.newarray .int, 2) := by decide +kernel
theorem dX7_init_10 : decode cX7_init 10 = .ok (.putfield 9, 3) := by decide +kernel
theorem dX7_init_13 : decode cX7_init 13 = .ok (.aload_n 0, 1) := by decide +kernel
theorem dX7_init_14 : decode cX7_init 14 = .ok (.sipush 6588, 3) := by decide +kernel
theorem dX7_init_17 : decode cX7_init 17 = .ok (.newarray .int, 2) := by decide +kernel
theorem dX7_init_19 : decode cX7_init 19 = .ok (.putfield 15, 3) := by decide +kernel
theorem dX7_init_22 : decode cX7_init 22 = .ok (.aload_n 0, 1) := by decide +kernel
theorem dX7_init_23 : decode cX7_init 23 = .ok (.aload_n 1, 1) := by decide +kernel
theorem dX7_init_24 : decode cX7_init 24 = .ok (.putfield 18, 3) := by decide +kernel
theorem dX7_init_27 : decode cX7_init 27 = .ok (.return_, 1) := by decide +kernel
theorem dX7_free_0 : decode cX7_free 0 = .ok (.aload_n 0, 1) := by decide +kernel
theorem dX7_free_1 : decode cX7_free 1 = .ok (.getfield 9, 3) := by decide +kernel
theorem dX7_free_4 : decode cX7_free 4 = .ok (.iconst 0, 1) := by decide +kernel
theorem dX7_free_5 : decode cX7_free 5 = .ok (.invokestatic 22, 3) := by decide +kernel
theorem dX7_free_8 : decode cX7_free 8 = .ok (.return_, 1) := by decide +kernel
theorem dX7_hold_0 : decode cX7_hold 0 = .ok (.iconst 0, 1) := by decide +kernel
theorem dX7_hold_1 : decode cX7_hold 1 = .ok (.istore_n 3, 1) := by decide +kernel
theorem dX7_hold_2 : decode cX7_hold 2 = .ok (.iload_n 3, 1) := by decide +kernel
theorem dX7_hold_3 : decode cX7_hold 3 = .ok (.bipush 60, 2) := by decide +kernel
theorem dX7_hold_5 : decode cX7_hold 5 = .ok (.if_icmp .gt 36, 3) := by decide +kernel
theorem dX7_hold_8 : decode cX7_hold 8 = .ok (.iload_n 3, 1) := by decide +kernel
theorem dX7_hold_9 : decode cX7_hold 9 = .ok (.aload_n 1, 1) := by decide +kernel
theorem dX7_hold_10 : decode cX7_hold 10 = .ok (.iload_n 3, 1) := by decide +kernel
theorem dX7_hold_11 : decode cX7_hold 11 = .ok (.invokevirtual 28, 3) := by decide +kernel
theorem dX7_hold_14 : decode cX7_hold 14 = .ok (.invokestatic 34, 3) := by decide +kernel
theorem dX7_hold_17 : decode cX7_hold 17 = .ok (.istore 4, 2) := by decide +kernel
theorem dX7_hold_19 : decode cX7_hold 19 = .ok (.iload 4, 2) := by decide +kernel
theorem dX7_hold_21 : decode cX7_hold 21 = .ok (.iconst (-1), 1) := by decide +kernel
theorem dX7_hold_22 : decode cX7_hold 22 = .ok (.if_icmp .eq 13, 3) := by decide +kernel
theorem dX7_hold_25 : decode cX7_hold 25 = .ok (.aload_n 0, 1) := by decide +kernel
theorem dX7_hold_26 : decode cX7_hold 26 = .ok (.getfield 9, 3) := by decide +kernel
theorem dX7_hold_29 : decode cX7_hold 29 = .ok (.iload 4, 2) := by decide +kernel
theorem dX7_hold_31 : decode cX7_hold 31 = .ok (.iload_n 2, 1) := by decide +kernel
theorem dX7_hold_32 : decode cX7_hold 32 = .ok (.iconst 1, 1) := by decide +kernel
theorem dX7_hold_33 : decode cX7_hold 33 = .ok (.iadd, 1) := by decide +kernel
theorem dX7_hold_34 : decode cX7_hold 34 = .ok (.iastore, 1) := by decide +kernel
theorem dX7_hold_35 : decode cX7_hold 35 = .ok (.iinc 3 1, 3) := by decide +kernel
theorem dX7_hold_38 : decode cX7_hold 38 = .ok (.goto (-36), 3) := by decide +kernel
theorem dX7_hold_41 : decode cX7_hold 41 = .ok (.return_, 1) := by decide +kernel
theorem dX7_earliestArrival_0 : decode cX7_earliestArrival 0 = .ok (.aload_n 0, 1) := by decide +kernel
theorem dX7_earliestArrival_1 : decode cX7_earliestArrival 1 = .ok (.getfield 15, 3) := by decide +kernel
theorem dX7_earliestArrival_4 : decode cX7_earliestArrival 4 = .ok (.iconst 0, 1) := by decide +kernel
theorem dX7_earliestArrival_5 : decode cX7_earliestArrival 5 = .ok (.invokestatic 22, 3) := by decide +kernel
theorem dX7_earliestArrival_8 : decode cX7_earliestArrival 8 = .ok (.aload_n 0, 1) := by decide +kernel
theorem dX7_earliestArrival_9 : decode cX7_earliestArrival 9 = .ok (.iconst 0, 1) := by decide +kernel
theorem dX7_earliestArrival_10 : decode cX7_earliestArrival 10 = .ok (.iload_n 1, 1) := by decide +kernel
theorem dX7_earliestArrival_11 : decode cX7_earliestArrival 11 = .ok (.invokestatic 34, 3) := by decide +kernel
theorem dX7_earliestArrival_14 : decode cX7_earliestArrival 14 = .ok (.iconst 1, 1) := by decide +kernel
theorem dX7_earliestArrival_15 : decode cX7_earliestArrival 15 = .ok (.invokevirtual 38, 3) := by decide +kernel
theorem dX7_earliestArrival_18 : decode cX7_earliestArrival 18 = .ok (.aload_n 0, 1) := by decide +kernel
theorem dX7_earliestArrival_19 : decode cX7_earliestArrival 19 = .ok (.iload_n 2, 1) := by decide +kernel
theorem dX7_earliestArrival_20 : decode cX7_earliestArrival 20 = .ok (.invokevirtual 42, 3) := by decide +kernel
theorem dX7_earliestArrival_23 : decode cX7_earliestArrival 23 = .ok (.istore_n 3, 1) := by decide +kernel
theorem dX7_earliestArrival_24 : decode cX7_earliestArrival 24 = .ok (.iconst 0, 1) := by decide +kernel
theorem dX7_earliestArrival_25 : decode cX7_earliestArrival 25 = .ok (.istore 4, 2) := by decide +kernel
theorem dX7_earliestArrival_27 : decode cX7_earliestArrival 27 = .ok (.iload 4, 2) := by decide +kernel
theorem dX7_earliestArrival_29 : decode cX7_earliestArrival 29 = .ok (.bipush 60, 2) := by decide +kernel
theorem dX7_earliestArrival_31 : decode cX7_earliestArrival 31 = .ok (.if_icmp .gt 69, 3) := by decide +kernel
theorem dX7_earliestArrival_34 : decode cX7_earliestArrival 34 = .ok (.iload 4, 2) := by decide +kernel
theorem dX7_earliestArrival_36 : decode cX7_earliestArrival 36 = .ok (.iload_n 3, 1) := by decide +kernel
theorem dX7_earliestArrival_37 : decode cX7_earliestArrival 37 = .ok (.if_icmp .lt 19, 3) := by decide +kernel
theorem dX7_earliestArrival_40 : decode cX7_earliestArrival 40 = .ok (.aload_n 0, 1) := by decide +kernel
theorem dX7_earliestArrival_41 : decode cX7_earliestArrival 41 = .ok (.iload 4, 2) := by decide +kernel
theorem dX7_earliestArrival_43 : decode cX7_earliestArrival 43 = .ok (.iload_n 2, 1) := by decide +kernel
theorem dX7_earliestArrival_44 : decode cX7_earliestArrival 44 = .ok (.invokestatic 34, 3) := by decide +kernel
theorem dX7_earliestArrival_47 : decode cX7_earliestArrival 47 = .ok (.invokevirtual 45, 3) := by decide +kernel
theorem dX7_earliestArrival_50 : decode cX7_earliestArrival 50 = .ok (.ifCond .eq 6, 3) := by decide +kernel
theorem dX7_earliestArrival_53 : decode cX7_earliestArrival 53 = .ok (.iload 4, 2) := by decide +kernel
theorem dX7_earliestArrival_55 : decode cX7_earliestArrival 55 = .ok (.ireturn, 1) := by decide +kernel
theorem dX7_earliestArrival_56 : decode cX7_earliestArrival 56 = .ok (.iconst 0, 1) := by decide +kernel
theorem dX7_earliestArrival_57 : decode cX7_earliestArrival 57 = .ok (.istore 5, 2) := by decide +kernel
theorem dX7_earliestArrival_59 : decode cX7_earliestArrival 59 = .ok (.iload 5, 2) := by decide +kernel
theorem dX7_earliestArrival_61 : decode cX7_earliestArrival 61 = .ok (.bipush 108, 2) := by decide +kernel
theorem dX7_earliestArrival_63 : decode cX7_earliestArrival 63 = .ok (.if_icmp .ge 31, 3) := by decide +kernel
theorem dX7_earliestArrival_66 : decode cX7_earliestArrival 66 = .ok (.aload_n 0, 1) := by decide +kernel
theorem dX7_earliestArrival_67 : decode cX7_earliestArrival 67 = .ok (.iload 4, 2) := by decide +kernel
theorem dX7_earliestArrival_69 : decode cX7_earliestArrival 69 = .ok (.iload 5, 2) := by decide +kernel
theorem dX7_earliestArrival_71 : decode cX7_earliestArrival 71 = .ok (.invokestatic 34, 3) := by decide +kernel
theorem dX7_earliestArrival_74 : decode cX7_earliestArrival 74 = .ok (.invokevirtual 45, 3) := by decide +kernel
theorem dX7_earliestArrival_77 : decode cX7_earliestArrival 77 = .ok (.ifCond .eq 11, 3) := by decide +kernel
theorem dX7_earliestArrival_80 : decode cX7_earliestArrival 80 = .ok (.aload_n 0, 1) := by decide +kernel
theorem dX7_earliestArrival_81 : decode cX7_earliestArrival 81 = .ok (.iload 4, 2) := by decide +kernel
theorem dX7_earliestArrival_83 : decode cX7_earliestArrival 83 = .ok (.iload 5, 2) := by decide +kernel
theorem dX7_earliestArrival_85 : decode cX7_earliestArrival 85 = .ok (.invokevirtual 49, 3) := by decide +kernel
theorem dX7_earliestArrival_88 : decode cX7_earliestArrival 88 = .ok (.iinc 5 1, 3) := by decide +kernel
theorem dX7_earliestArrival_91 : decode cX7_earliestArrival 91 = .ok (.goto (-32), 3) := by decide +kernel
theorem dX7_earliestArrival_94 : decode cX7_earliestArrival 94 = .ok (.iinc 4 1, 3) := by decide +kernel
theorem dX7_earliestArrival_97 : decode cX7_earliestArrival 97 = .ok (.goto (-70), 3) := by decide +kernel
theorem dX7_earliestArrival_100 : decode cX7_earliestArrival 100 = .ok (.iconst (-1), 1) := by decide +kernel
theorem dX7_earliestArrival_101 : decode cX7_earliestArrival 101 = .ok (.ireturn, 1) := by decide +kernel
theorem dX7_prune_0 : decode cX7_prune 0 = .ok (.bipush 60, 2) := by decide +kernel
theorem dX7_prune_2 : decode cX7_prune 2 = .ok (.istore_n 3, 1) := by decide +kernel
theorem dX7_prune_3 : decode cX7_prune 3 = .ok (.iload_n 3, 1) := by decide +kernel
theorem dX7_prune_4 : decode cX7_prune 4 = .ok (.ifCond .lt 88, 3) := by decide +kernel
theorem dX7_prune_7 : decode cX7_prune 7 = .ok (.iconst 0, 1) := by decide +kernel
theorem dX7_prune_8 : decode cX7_prune 8 = .ok (.istore 4, 2) := by decide +kernel
theorem dX7_prune_10 : decode cX7_prune 10 = .ok (.iload 4, 2) := by decide +kernel
theorem dX7_prune_12 : decode cX7_prune 12 = .ok (.bipush 108, 2) := by decide +kernel
theorem dX7_prune_14 : decode cX7_prune 14 = .ok (.if_icmp .ge 72, 3) := by decide +kernel
theorem dX7_prune_17 : decode cX7_prune 17 = .ok (.iload_n 3, 1) := by decide +kernel
theorem dX7_prune_18 : decode cX7_prune 18 = .ok (.iload 4, 2) := by decide +kernel
theorem dX7_prune_20 : decode cX7_prune 20 = .ok (.invokestatic 34, 3) := by decide +kernel
theorem dX7_prune_23 : decode cX7_prune 23 = .ok (.istore 5, 2) := by decide +kernel
theorem dX7_prune_25 : decode cX7_prune 25 = .ok (.iload_n 3, 1) := by decide +kernel
theorem dX7_prune_26 : decode cX7_prune 26 = .ok (.iload_n 1, 1) := by decide +kernel
theorem dX7_prune_27 : decode cX7_prune 27 = .ok (.if_icmp .ne 13, 3) := by decide +kernel
theorem dX7_prune_30 : decode cX7_prune 30 = .ok (.iload 4, 2) := by decide +kernel
theorem dX7_prune_32 : decode cX7_prune 32 = .ok (.iload_n 2, 1) := by decide +kernel
theorem dX7_prune_33 : decode cX7_prune 33 = .ok (.if_icmp .ne 7, 3) := by decide +kernel
theorem dX7_prune_36 : decode cX7_prune 36 = .ok (.iconst 1, 1) := by decide +kernel
theorem dX7_prune_37 : decode cX7_prune 37 = .ok (.goto 4, 3) := by decide +kernel
theorem dX7_prune_40 : decode cX7_prune 40 = .ok (.iconst 0, 1) := by decide +kernel
theorem dX7_prune_41 : decode cX7_prune 41 = .ok (.istore 6, 2) := by decide +kernel
theorem dX7_prune_43 : decode cX7_prune 43 = .ok (.aload_n 0, 1) := by decide +kernel
theorem dX7_prune_44 : decode cX7_prune 44 = .ok (.iload 5, 2) := by decide +kernel
theorem dX7_prune_46 : decode cX7_prune 46 = .ok (.invokevirtual 45, 3) := by decide +kernel
theorem dX7_prune_49 : decode cX7_prune 49 = .ok (.ifCond .eq 31, 3) := by decide +kernel
theorem dX7_prune_52 : decode cX7_prune 52 = .ok (.iload 6, 2) := by decide +kernel
theorem dX7_prune_54 : decode cX7_prune 54 = .ok (.ifCond .ne 26, 3) := by decide +kernel
theorem dX7_prune_57 : decode cX7_prune 57 = .ok (.iload_n 3, 1) := by decide +kernel
theorem dX7_prune_58 : decode cX7_prune 58 = .ok (.iload_n 1, 1) := by decide +kernel
theorem dX7_prune_59 : decode cX7_prune 59 = .ok (.if_icmp .ge 14, 3) := by decide +kernel
theorem dX7_prune_62 : decode cX7_prune 62 = .ok (.aload_n 0, 1) := by decide +kernel
theorem dX7_prune_63 : decode cX7_prune 63 = .ok (.iload_n 3, 1) := by decide +kernel
theorem dX7_prune_64 : decode cX7_prune 64 = .ok (.iload 4, 2) := by decide +kernel
theorem dX7_prune_66 : decode cX7_prune 66 = .ok (.invokevirtual 52, 3) := by decide +kernel
theorem dX7_prune_69 : decode cX7_prune 69 = .ok (.iconst (-1), 1) := by decide +kernel
theorem dX7_prune_70 : decode cX7_prune 70 = .ok (.if_icmp .ne 10, 3) := by decide +kernel
theorem dX7_prune_73 : decode cX7_prune 73 = .ok (.aload_n 0, 1) := by decide +kernel
theorem dX7_prune_74 : decode cX7_prune 74 = .ok (.iload 5, 2) := by decide +kernel
theorem dX7_prune_76 : decode cX7_prune 76 = .ok (.iconst 0, 1) := by decide +kernel
theorem dX7_prune_77 : decode cX7_prune 77 = .ok (.invokevirtual 38, 3) := by decide +kernel
theorem dX7_prune_80 : decode cX7_prune 80 = .ok (.iinc 4 1, 3) := by decide +kernel
theorem dX7_prune_83 : decode cX7_prune 83 = .ok (.goto (-73), 3) := by decide +kernel
theorem dX7_prune_86 : decode cX7_prune 86 = .ok (.iinc 3 (-1), 3) := by decide +kernel
theorem dX7_prune_89 : decode cX7_prune 89 = .ok (.goto (-86), 3) := by decide +kernel
theorem dX7_prune_92 : decode cX7_prune 92 = .ok (.return_, 1) := by decide +kernel
theorem dX7_follow_0 : decode cX7_follow 0 = .ok (.aload_n 1, 1) := by decide +kernel
theorem dX7_follow_1 : decode cX7_follow 1 = .ok (.iload_n 2, 1) := by decide +kernel
theorem dX7_follow_2 : decode cX7_follow 2 = .ok (.invokevirtual 55, 3) := by decide +kernel
theorem dX7_follow_5 : decode cX7_follow 5 = .ok (.iload_n 2, 1) := by decide +kernel
theorem dX7_follow_6 : decode cX7_follow 6 = .ok (.istore 4, 2) := by decide +kernel
theorem dX7_follow_8 : decode cX7_follow 8 = .ok (.iconst 0, 1) := by decide +kernel
theorem dX7_follow_9 : decode cX7_follow 9 = .ok (.istore 5, 2) := by decide +kernel
theorem dX7_follow_11 : decode cX7_follow 11 = .ok (.iload 5, 2) := by decide +kernel
theorem dX7_follow_13 : decode cX7_follow 13 = .ok (.bipush 60, 2) := by decide +kernel
theorem dX7_follow_15 : decode cX7_follow 15 = .ok (.if_icmp .ge 65, 3) := by decide +kernel
theorem dX7_follow_18 : decode cX7_follow 18 = .ok (.aload_n 1, 1) := by decide +kernel
theorem dX7_follow_19 : decode cX7_follow 19 = .ok (.getfield 59, 3) := by decide +kernel
theorem dX7_follow_22 : decode cX7_follow 22 = .ok (.iload_n 3, 1) := by decide +kernel
theorem dX7_follow_23 : decode cX7_follow 23 = .ok (.if_icmp .ge 57, 3) := by decide +kernel
theorem dX7_follow_26 : decode cX7_follow 26 = .ok (.aload_n 0, 1) := by decide +kernel
theorem dX7_follow_27 : decode cX7_follow 27 = .ok (.aload_n 1, 1) := by decide +kernel
theorem dX7_follow_28 : decode cX7_follow 28 = .ok (.getfield 59, 3) := by decide +kernel
theorem dX7_follow_31 : decode cX7_follow 31 = .ok (.iload 4, 2) := by decide +kernel
theorem dX7_follow_33 : decode cX7_follow 33 = .ok (.invokevirtual 52, 3) := by decide +kernel
theorem dX7_follow_36 : decode cX7_follow 36 = .ok (.istore 6, 2) := by decide +kernel
theorem dX7_follow_38 : decode cX7_follow 38 = .ok (.aload_n 0, 1) := by decide +kernel
theorem dX7_follow_39 : decode cX7_follow 39 = .ok (.getfield 18, 3) := by decide +kernel
theorem dX7_follow_42 : decode cX7_follow 42 = .ok (.iload 4, 2) := by decide +kernel
theorem dX7_follow_44 : decode cX7_follow 44 = .ok (.iload 6, 2) := by decide +kernel
theorem dX7_follow_46 : decode cX7_follow 46 = .ok (.invokevirtual 63, 3) := by decide +kernel
theorem dX7_follow_49 : decode cX7_follow 49 = .ok (.istore 7, 2) := by decide +kernel
theorem dX7_follow_51 : decode cX7_follow 51 = .ok (.aload_n 1, 1) := by decide +kernel
theorem dX7_follow_52 : decode cX7_follow 52 = .ok (.iload 6, 2) := by decide +kernel
theorem dX7_follow_54 : decode cX7_follow 54 = .ok (.aload_n 0, 1) := by decide +kernel
theorem dX7_follow_55 : decode cX7_follow 55 = .ok (.getfield 18, 3) := by decide +kernel
theorem dX7_follow_58 : decode cX7_follow 58 = .ok (.iload 4, 2) := by decide +kernel
theorem dX7_follow_60 : decode cX7_follow 60 = .ok (.iload 6, 2) := by decide +kernel
theorem dX7_follow_62 : decode cX7_follow 62 = .ok (.invokevirtual 68, 3) := by decide +kernel
theorem dX7_follow_65 : decode cX7_follow 65 = .ok (.iload 7, 2) := by decide +kernel
theorem dX7_follow_67 : decode cX7_follow 67 = .ok (.invokevirtual 71, 3) := by decide +kernel
theorem dX7_follow_70 : decode cX7_follow 70 = .ok (.iload 7, 2) := by decide +kernel
theorem dX7_follow_72 : decode cX7_follow 72 = .ok (.istore 4, 2) := by decide +kernel
theorem dX7_follow_74 : decode cX7_follow 74 = .ok (.iinc 5 1, 3) := by decide +kernel
theorem dX7_follow_77 : decode cX7_follow 77 = .ok (.goto (-66), 3) := by decide +kernel
theorem dX7_follow_80 : decode cX7_follow 80 = .ok (.return_, 1) := by decide +kernel
theorem dX7_freeFrom_0 : decode cX7_freeFrom 0 = .ok (.iconst 0, 1) := by decide +kernel
theorem dX7_freeFrom_1 : decode cX7_freeFrom 1 = .ok (.istore_n 2, 1) := by decide +kernel
theorem dX7_freeFrom_2 : decode cX7_freeFrom 2 = .ok (.iconst 0, 1) := by decide +kernel
theorem dX7_freeFrom_3 : decode cX7_freeFrom 3 = .ok (.istore_n 3, 1) := by decide +kernel
theorem dX7_freeFrom_4 : decode cX7_freeFrom 4 = .ok (.iload_n 3, 1) := by decide +kernel
theorem dX7_freeFrom_5 : decode cX7_freeFrom 5 = .ok (.bipush 60, 2) := by decide +kernel
theorem dX7_freeFrom_7 : decode cX7_freeFrom 7 = .ok (.if_icmp .gt 36, 3) := by decide +kernel
theorem dX7_freeFrom_10 : decode cX7_freeFrom 10 = .ok (.iload_n 3, 1) := by decide +kernel
theorem dX7_freeFrom_11 : decode cX7_freeFrom 11 = .ok (.iload_n 1, 1) := by decide +kernel
theorem dX7_freeFrom_12 : decode cX7_freeFrom 12 = .ok (.invokestatic 34, 3) := by decide +kernel
theorem dX7_freeFrom_15 : decode cX7_freeFrom 15 = .ok (.istore 4, 2) := by decide +kernel
theorem dX7_freeFrom_17 : decode cX7_freeFrom 17 = .ok (.iload 4, 2) := by decide +kernel
theorem dX7_freeFrom_19 : decode cX7_freeFrom 19 = .ok (.iconst (-1), 1) := by decide +kernel
theorem dX7_freeFrom_20 : decode cX7_freeFrom 20 = .ok (.if_icmp .eq 17, 3) := by decide +kernel
theorem dX7_freeFrom_23 : decode cX7_freeFrom 23 = .ok (.aload_n 0, 1) := by decide +kernel
theorem dX7_freeFrom_24 : decode cX7_freeFrom 24 = .ok (.getfield 9, 3) := by decide +kernel
theorem dX7_freeFrom_27 : decode cX7_freeFrom 27 = .ok (.iload 4, 2) := by decide +kernel
theorem dX7_freeFrom_29 : decode cX7_freeFrom 29 = .ok (.iaload, 1) := by decide +kernel
theorem dX7_freeFrom_30 : decode cX7_freeFrom 30 = .ok (.ifCond .eq 7, 3) := by decide +kernel
theorem dX7_freeFrom_33 : decode cX7_freeFrom 33 = .ok (.iload_n 3, 1) := by decide +kernel
theorem dX7_freeFrom_34 : decode cX7_freeFrom 34 = .ok (.iconst 1, 1) := by decide +kernel
theorem dX7_freeFrom_35 : decode cX7_freeFrom 35 = .ok (.iadd, 1) := by decide +kernel
theorem dX7_freeFrom_36 : decode cX7_freeFrom 36 = .ok (.istore_n 2, 1) := by decide +kernel
theorem dX7_freeFrom_37 : decode cX7_freeFrom 37 = .ok (.iinc 3 1, 3) := by decide +kernel
theorem dX7_freeFrom_40 : decode cX7_freeFrom 40 = .ok (.goto (-36), 3) := by decide +kernel
theorem dX7_freeFrom_43 : decode cX7_freeFrom 43 = .ok (.iload_n 2, 1) := by decide +kernel
theorem dX7_freeFrom_44 : decode cX7_freeFrom 44 = .ok (.ireturn, 1) := by decide +kernel
theorem dX7_spread_0 : decode cX7_spread 0 = .ok (.iconst 0, 1) := by decide +kernel
theorem dX7_spread_1 : decode cX7_spread 1 = .ok (.istore_n 3, 1) := by decide +kernel
theorem dX7_spread_2 : decode cX7_spread 2 = .ok (.iload_n 3, 1) := by decide +kernel
theorem dX7_spread_3 : decode cX7_spread 3 = .ok (.bipush 7, 2) := by decide +kernel
theorem dX7_spread_5 : decode cX7_spread 5 = .ok (.if_icmp .ge 21, 3) := by decide +kernel
theorem dX7_spread_8 : decode cX7_spread 8 = .ok (.aload_n 0, 1) := by decide +kernel
theorem dX7_spread_9 : decode cX7_spread 9 = .ok (.aload_n 0, 1) := by decide +kernel
theorem dX7_spread_10 : decode cX7_spread 10 = .ok (.iload_n 1, 1) := by decide +kernel
theorem dX7_spread_11 : decode cX7_spread 11 = .ok (.iload_n 2, 1) := by decide +kernel
theorem dX7_spread_12 : decode cX7_spread 12 = .ok (.iload_n 3, 1) := by decide +kernel
theorem dX7_spread_13 : decode cX7_spread 13 = .ok (.invokevirtual 75, 3) := by decide +kernel
theorem dX7_spread_16 : decode cX7_spread 16 = .ok (.iconst 1, 1) := by decide +kernel
theorem dX7_spread_17 : decode cX7_spread 17 = .ok (.invokevirtual 38, 3) := by decide +kernel
theorem dX7_spread_20 : decode cX7_spread 20 = .ok (.iinc 3 1, 3) := by decide +kernel
theorem dX7_spread_23 : decode cX7_spread 23 = .ok (.goto (-21), 3) := by decide +kernel
theorem dX7_spread_26 : decode cX7_spread 26 = .ok (.return_, 1) := by decide +kernel
theorem dX7_leastAction_0 : decode cX7_leastAction 0 = .ok (.iconst 0, 1) := by decide +kernel
theorem dX7_leastAction_1 : decode cX7_leastAction 1 = .ok (.istore_n 3, 1) := by decide +kernel
theorem dX7_leastAction_2 : decode cX7_leastAction 2 = .ok (.iload_n 3, 1) := by decide +kernel
theorem dX7_leastAction_3 : decode cX7_leastAction 3 = .ok (.bipush 7, 2) := by decide +kernel
theorem dX7_leastAction_5 : decode cX7_leastAction 5 = .ok (.if_icmp .ge 25, 3) := by decide +kernel
theorem dX7_leastAction_8 : decode cX7_leastAction 8 = .ok (.aload_n 0, 1) := by decide +kernel
theorem dX7_leastAction_9 : decode cX7_leastAction 9 = .ok (.aload_n 0, 1) := by decide +kernel
theorem dX7_leastAction_10 : decode cX7_leastAction 10 = .ok (.iload_n 1, 1) := by decide +kernel
theorem dX7_leastAction_11 : decode cX7_leastAction 11 = .ok (.iload_n 2, 1) := by decide +kernel
theorem dX7_leastAction_12 : decode cX7_leastAction 12 = .ok (.iload_n 3, 1) := by decide +kernel
theorem dX7_leastAction_13 : decode cX7_leastAction 13 = .ok (.invokevirtual 75, 3) := by decide +kernel
theorem dX7_leastAction_16 : decode cX7_leastAction 16 = .ok (.invokevirtual 45, 3) := by decide +kernel
theorem dX7_leastAction_19 : decode cX7_leastAction 19 = .ok (.ifCond .eq 5, 3) := by decide +kernel
theorem dX7_leastAction_22 : decode cX7_leastAction 22 = .ok (.iload_n 3, 1) := by decide +kernel
theorem dX7_leastAction_23 : decode cX7_leastAction 23 = .ok (.ireturn, 1) := by decide +kernel
theorem dX7_leastAction_24 : decode cX7_leastAction 24 = .ok (.iinc 3 1, 3) := by decide +kernel
theorem dX7_leastAction_27 : decode cX7_leastAction 27 = .ok (.goto (-25), 3) := by decide +kernel
theorem dX7_leastAction_30 : decode cX7_leastAction 30 = .ok (.iconst (-1), 1) := by decide +kernel
theorem dX7_leastAction_31 : decode cX7_leastAction 31 = .ok (.ireturn, 1) := by decide +kernel
theorem dX7_landing_0 : decode cX7_landing 0 = .ok (.aload_n 0, 1) := by decide +kernel
theorem dX7_landing_1 : decode cX7_landing 1 = .ok (.getfield 18, 3) := by decide +kernel
theorem dX7_landing_4 : decode cX7_landing 4 = .ok (.iload_n 2, 1) := by decide +kernel
theorem dX7_landing_5 : decode cX7_landing 5 = .ok (.iload_n 3, 1) := by decide +kernel
theorem dX7_landing_6 : decode cX7_landing 6 = .ok (.invokevirtual 63, 3) := by decide +kernel
theorem dX7_landing_9 : decode cX7_landing 9 = .ok (.istore 4, 2) := by decide +kernel
theorem dX7_landing_11 : decode cX7_landing 11 = .ok (.iload 4, 2) := by decide +kernel
theorem dX7_landing_13 : decode cX7_landing 13 = .ok (.iconst (-1), 1) := by decide +kernel
theorem dX7_landing_14 : decode cX7_landing 14 = .ok (.if_icmp .ne 5, 3) := by decide +kernel
theorem dX7_landing_17 : decode cX7_landing 17 = .ok (.iconst (-1), 1) := by decide +kernel
theorem dX7_landing_18 : decode cX7_landing 18 = .ok (.ireturn, 1) := by decide +kernel
theorem dX7_landing_19 : decode cX7_landing 19 = .ok (.aload_n 0, 1) := by decide +kernel
theorem dX7_landing_20 : decode cX7_landing 20 = .ok (.getfield 18, 3) := by decide +kernel
theorem dX7_landing_23 : decode cX7_landing 23 = .ok (.iload_n 2, 1) := by decide +kernel
theorem dX7_landing_24 : decode cX7_landing 24 = .ok (.iload_n 3, 1) := by decide +kernel
theorem dX7_landing_25 : decode cX7_landing 25 = .ok (.invokevirtual 68, 3) := by decide +kernel
theorem dX7_landing_28 : decode cX7_landing 28 = .ok (.iconst 1, 1) := by decide +kernel
theorem dX7_landing_29 : decode cX7_landing 29 = .ok (.if_icmp .ne 27, 3) := by decide +kernel
theorem dX7_landing_32 : decode cX7_landing 32 = .ok (.aload_n 0, 1) := by decide +kernel
theorem dX7_landing_33 : decode cX7_landing 33 = .ok (.iload_n 1, 1) := by decide +kernel
theorem dX7_landing_34 : decode cX7_landing 34 = .ok (.iload_n 2, 1) := by decide +kernel
theorem dX7_landing_35 : decode cX7_landing 35 = .ok (.iload 4, 2) := by decide +kernel
theorem dX7_landing_37 : decode cX7_landing 37 = .ok (.invokevirtual 79, 3) := by decide +kernel
theorem dX7_landing_40 : decode cX7_landing 40 = .ok (.ifCond .eq 14, 3) := by decide +kernel
theorem dX7_landing_43 : decode cX7_landing 43 = .ok (.iload_n 1, 1) := by decide +kernel
theorem dX7_landing_44 : decode cX7_landing 44 = .ok (.iconst 1, 1) := by decide +kernel
theorem dX7_landing_45 : decode cX7_landing 45 = .ok (.iadd, 1) := by decide +kernel
theorem dX7_landing_46 : decode cX7_landing 46 = .ok (.iload 4, 2) := by decide +kernel
theorem dX7_landing_48 : decode cX7_landing 48 = .ok (.invokestatic 34, 3) := by decide +kernel
theorem dX7_landing_51 : decode cX7_landing 51 = .ok (.goto 4, 3) := by decide +kernel
theorem dX7_landing_54 : decode cX7_landing 54 = .ok (.iconst (-1), 1) := by decide +kernel
theorem dX7_landing_55 : decode cX7_landing 55 = .ok (.ireturn, 1) := by decide +kernel
theorem dX7_landing_56 : decode cX7_landing 56 = .ok (.aload_n 0, 1) := by decide +kernel
theorem dX7_landing_57 : decode cX7_landing 57 = .ok (.iload_n 1, 1) := by decide +kernel
theorem dX7_landing_58 : decode cX7_landing 58 = .ok (.iload_n 2, 1) := by decide +kernel
theorem dX7_landing_59 : decode cX7_landing 59 = .ok (.iload_n 2, 1) := by decide +kernel
theorem dX7_landing_60 : decode cX7_landing 60 = .ok (.invokevirtual 79, 3) := by decide +kernel
theorem dX7_landing_63 : decode cX7_landing 63 = .ok (.ifCond .eq 20, 3) := by decide +kernel
theorem dX7_landing_66 : decode cX7_landing 66 = .ok (.aload_n 0, 1) := by decide +kernel
theorem dX7_landing_67 : decode cX7_landing 67 = .ok (.iload_n 1, 1) := by decide +kernel
theorem dX7_landing_68 : decode cX7_landing 68 = .ok (.iconst 1, 1) := by decide +kernel
theorem dX7_landing_69 : decode cX7_landing 69 = .ok (.iadd, 1) := by decide +kernel
theorem dX7_landing_70 : decode cX7_landing 70 = .ok (.iload_n 2, 1) := by decide +kernel
theorem dX7_landing_71 : decode cX7_landing 71 = .ok (.iload 4, 2) := by decide +kernel
theorem dX7_landing_73 : decode cX7_landing 73 = .ok (.invokevirtual 79, 3) := by decide +kernel
theorem dX7_landing_76 : decode cX7_landing 76 = .ok (.ifCond .eq 7, 3) := by decide +kernel
theorem dX7_landing_79 : decode cX7_landing 79 = .ok (.iconst 1, 1) := by decide +kernel
theorem dX7_landing_80 : decode cX7_landing 80 = .ok (.goto 4, 3) := by decide +kernel
theorem dX7_landing_83 : decode cX7_landing 83 = .ok (.iconst 0, 1) := by decide +kernel
theorem dX7_landing_84 : decode cX7_landing 84 = .ok (.istore 5, 2) := by decide +kernel
theorem dX7_landing_86 : decode cX7_landing 86 = .ok (.iload 5, 2) := by decide +kernel
theorem dX7_landing_88 : decode cX7_landing 88 = .ok (.ifCond .eq 14, 3) := by decide +kernel
theorem dX7_landing_91 : decode cX7_landing 91 = .ok (.iload_n 1, 1) := by decide +kernel
theorem dX7_landing_92 : decode cX7_landing 92 = .ok (.iconst 2, 1) := by decide +kernel
theorem dX7_landing_93 : decode cX7_landing 93 = .ok (.iadd, 1) := by decide +kernel
theorem dX7_landing_94 : decode cX7_landing 94 = .ok (.iload 4, 2) := by decide +kernel
theorem dX7_landing_96 : decode cX7_landing 96 = .ok (.invokestatic 34, 3) := by decide +kernel
theorem dX7_landing_99 : decode cX7_landing 99 = .ok (.goto 4, 3) := by decide +kernel
theorem dX7_landing_102 : decode cX7_landing 102 = .ok (.iconst (-1), 1) := by decide +kernel
theorem dX7_landing_103 : decode cX7_landing 103 = .ok (.ireturn, 1) := by decide +kernel
theorem dX7_canStep_0 : decode cX7_canStep 0 = .ok (.iload_n 1, 1) := by decide +kernel
theorem dX7_canStep_1 : decode cX7_canStep 1 = .ok (.ifCond .lt 23, 3) := by decide +kernel
theorem dX7_canStep_4 : decode cX7_canStep 4 = .ok (.iload_n 1, 1) := by decide +kernel
theorem dX7_canStep_5 : decode cX7_canStep 5 = .ok (.bipush 60, 2) := by decide +kernel
theorem dX7_canStep_7 : decode cX7_canStep 7 = .ok (.if_icmp .ge 17, 3) := by decide +kernel
theorem dX7_canStep_10 : decode cX7_canStep 10 = .ok (.iload_n 2, 1) := by decide +kernel
theorem dX7_canStep_11 : decode cX7_canStep 11 = .ok (.invokestatic 83, 3) := by decide +kernel
theorem dX7_canStep_14 : decode cX7_canStep 14 = .ok (.ifCond .eq 10, 3) := by decide +kernel
theorem dX7_canStep_17 : decode cX7_canStep 17 = .ok (.iload_n 3, 1) := by decide +kernel
theorem dX7_canStep_18 : decode cX7_canStep 18 = .ok (.invokestatic 83, 3) := by decide +kernel
theorem dX7_canStep_21 : decode cX7_canStep 21 = .ok (.ifCond .ne 5, 3) := by decide +kernel
theorem dX7_canStep_24 : decode cX7_canStep 24 = .ok (.iconst 0, 1) := by decide +kernel
theorem dX7_canStep_25 : decode cX7_canStep 25 = .ok (.ireturn, 1) := by decide +kernel
theorem dX7_canStep_26 : decode cX7_canStep 26 = .ok (.iload_n 1, 1) := by decide +kernel
theorem dX7_canStep_27 : decode cX7_canStep 27 = .ok (.bipush 108, 2) := by decide +kernel
theorem dX7_canStep_29 : decode cX7_canStep 29 = .ok (.imul, 1) := by decide +kernel
theorem dX7_canStep_30 : decode cX7_canStep 30 = .ok (.istore 4, 2) := by decide +kernel
theorem dX7_canStep_32 : decode cX7_canStep 32 = .ok (.iload 4, 2) := by decide +kernel
theorem dX7_canStep_34 : decode cX7_canStep 34 = .ok (.bipush 108, 2) := by decide +kernel
theorem dX7_canStep_36 : decode cX7_canStep 36 = .ok (.iadd, 1) := by decide +kernel
theorem dX7_canStep_37 : decode cX7_canStep 37 = .ok (.istore 5, 2) := by decide +kernel
theorem dX7_canStep_39 : decode cX7_canStep 39 = .ok (.aload_n 0, 1) := by decide +kernel
theorem dX7_canStep_40 : decode cX7_canStep 40 = .ok (.getfield 9, 3) := by decide +kernel
theorem dX7_canStep_43 : decode cX7_canStep 43 = .ok (.iload 5, 2) := by decide +kernel
theorem dX7_canStep_45 : decode cX7_canStep 45 = .ok (.iload_n 3, 1) := by decide +kernel
theorem dX7_canStep_46 : decode cX7_canStep 46 = .ok (.iadd, 1) := by decide +kernel
theorem dX7_canStep_47 : decode cX7_canStep 47 = .ok (.iaload, 1) := by decide +kernel
theorem dX7_canStep_48 : decode cX7_canStep 48 = .ok (.ifCond .eq 5, 3) := by decide +kernel
theorem dX7_canStep_51 : decode cX7_canStep 51 = .ok (.iconst 0, 1) := by decide +kernel
theorem dX7_canStep_52 : decode cX7_canStep 52 = .ok (.ireturn, 1) := by decide +kernel
theorem dX7_canStep_53 : decode cX7_canStep 53 = .ok (.aload_n 0, 1) := by decide +kernel
theorem dX7_canStep_54 : decode cX7_canStep 54 = .ok (.getfield 9, 3) := by decide +kernel
theorem dX7_canStep_57 : decode cX7_canStep 57 = .ok (.iload 4, 2) := by decide +kernel
theorem dX7_canStep_59 : decode cX7_canStep 59 = .ok (.iload_n 3, 1) := by decide +kernel
theorem dX7_canStep_60 : decode cX7_canStep 60 = .ok (.iadd, 1) := by decide +kernel
theorem dX7_canStep_61 : decode cX7_canStep 61 = .ok (.iaload, 1) := by decide +kernel
theorem dX7_canStep_62 : decode cX7_canStep 62 = .ok (.istore 6, 2) := by decide +kernel
theorem dX7_canStep_64 : decode cX7_canStep 64 = .ok (.iload 6, 2) := by decide +kernel
theorem dX7_canStep_66 : decode cX7_canStep 66 = .ok (.ifCond .eq 17, 3) := by decide +kernel
theorem dX7_canStep_69 : decode cX7_canStep 69 = .ok (.aload_n 0, 1) := by decide +kernel
theorem dX7_canStep_70 : decode cX7_canStep 70 = .ok (.getfield 9, 3) := by decide +kernel
theorem dX7_canStep_73 : decode cX7_canStep 73 = .ok (.iload 5, 2) := by decide +kernel
theorem dX7_canStep_75 : decode cX7_canStep 75 = .ok (.iload_n 2, 1) := by decide +kernel
theorem dX7_canStep_76 : decode cX7_canStep 76 = .ok (.iadd, 1) := by decide +kernel
theorem dX7_canStep_77 : decode cX7_canStep 77 = .ok (.iaload, 1) := by decide +kernel
theorem dX7_canStep_78 : decode cX7_canStep 78 = .ok (.iload 6, 2) := by decide +kernel
theorem dX7_canStep_80 : decode cX7_canStep 80 = .ok (.if_icmp .eq 7, 3) := by decide +kernel
theorem dX7_canStep_83 : decode cX7_canStep 83 = .ok (.iconst 1, 1) := by decide +kernel
theorem dX7_canStep_84 : decode cX7_canStep 84 = .ok (.goto 4, 3) := by decide +kernel
theorem dX7_canStep_87 : decode cX7_canStep 87 = .ok (.iconst 0, 1) := by decide +kernel
theorem dX7_canStep_88 : decode cX7_canStep 88 = .ok (.ireturn, 1) := by decide +kernel
theorem dX7_isUsable_0 : decode cX7_isUsable 0 = .ok (.iload_n 1, 1) := by decide +kernel
theorem dX7_isUsable_1 : decode cX7_isUsable 1 = .ok (.ifCond .lt 23, 3) := by decide +kernel
theorem dX7_isUsable_4 : decode cX7_isUsable 4 = .ok (.iload_n 1, 1) := by decide +kernel
theorem dX7_isUsable_5 : decode cX7_isUsable 5 = .ok (.sipush 6588, 3) := by decide +kernel
theorem dX7_isUsable_8 : decode cX7_isUsable 8 = .ok (.if_icmp .ge 16, 3) := by decide +kernel
theorem dX7_isUsable_11 : decode cX7_isUsable 11 = .ok (.aload_n 0, 1) := by decide +kernel
theorem dX7_isUsable_12 : decode cX7_isUsable 12 = .ok (.getfield 15, 3) := by decide +kernel
theorem dX7_isUsable_15 : decode cX7_isUsable 15 = .ok (.iload_n 1, 1) := by decide +kernel
theorem dX7_isUsable_16 : decode cX7_isUsable 16 = .ok (.iaload, 1) := by decide +kernel
theorem dX7_isUsable_17 : decode cX7_isUsable 17 = .ok (.ifCond .eq 7, 3) := by decide +kernel
theorem dX7_isUsable_20 : decode cX7_isUsable 20 = .ok (.iconst 1, 1) := by decide +kernel
theorem dX7_isUsable_21 : decode cX7_isUsable 21 = .ok (.goto 4, 3) := by decide +kernel
theorem dX7_isUsable_24 : decode cX7_isUsable 24 = .ok (.iconst 0, 1) := by decide +kernel
theorem dX7_isUsable_25 : decode cX7_isUsable 25 = .ok (.ireturn, 1) := by decide +kernel
theorem dX7_mark_0 : decode cX7_mark 0 = .ok (.iload_n 1, 1) := by decide +kernel
theorem dX7_mark_1 : decode cX7_mark 1 = .ok (.ifCond .lt 17, 3) := by decide +kernel
theorem dX7_mark_4 : decode cX7_mark 4 = .ok (.iload_n 1, 1) := by decide +kernel
theorem dX7_mark_5 : decode cX7_mark 5 = .ok (.sipush 6588, 3) := by decide +kernel
theorem dX7_mark_8 : decode cX7_mark 8 = .ok (.if_icmp .ge 10, 3) := by decide +kernel
theorem dX7_mark_11 : decode cX7_mark 11 = .ok (.aload_n 0, 1) := by decide +kernel
theorem dX7_mark_12 : decode cX7_mark 12 = .ok (.getfield 15, 3) := by decide +kernel
theorem dX7_mark_15 : decode cX7_mark 15 = .ok (.iload_n 1, 1) := by decide +kernel
theorem dX7_mark_16 : decode cX7_mark 16 = .ok (.iload_n 2, 1) := by decide +kernel
theorem dX7_mark_17 : decode cX7_mark 17 = .ok (.iastore, 1) := by decide +kernel
theorem dX7_mark_18 : decode cX7_mark 18 = .ok (.return_, 1) := by decide +kernel
theorem dX7_spot_0 : decode cX7_spot 0 = .ok (.iload_n 0, 1) := by decide +kernel
theorem dX7_spot_1 : decode cX7_spot 1 = .ok (.ifCond .lt 25, 3) := by decide +kernel
theorem dX7_spot_4 : decode cX7_spot 4 = .ok (.iload_n 0, 1) := by decide +kernel
theorem dX7_spot_5 : decode cX7_spot 5 = .ok (.bipush 61, 2) := by decide +kernel
theorem dX7_spot_7 : decode cX7_spot 7 = .ok (.if_icmp .ge 19, 3) := by decide +kernel
theorem dX7_spot_10 : decode cX7_spot 10 = .ok (.iload_n 1, 1) := by decide +kernel
theorem dX7_spot_11 : decode cX7_spot 11 = .ok (.invokestatic 83, 3) := by decide +kernel
theorem dX7_spot_14 : decode cX7_spot 14 = .ok (.ifCond .eq 12, 3) := by decide +kernel
theorem dX7_spot_17 : decode cX7_spot 17 = .ok (.iload_n 0, 1) := by decide +kernel
theorem dX7_spot_18 : decode cX7_spot 18 = .ok (.bipush 108, 2) := by decide +kernel
theorem dX7_spot_20 : decode cX7_spot 20 = .ok (.imul, 1) := by decide +kernel
theorem dX7_spot_21 : decode cX7_spot 21 = .ok (.iload_n 1, 1) := by decide +kernel
theorem dX7_spot_22 : decode cX7_spot 22 = .ok (.iadd, 1) := by decide +kernel
theorem dX7_spot_23 : decode cX7_spot 23 = .ok (.goto 4, 3) := by decide +kernel
theorem dX7_spot_26 : decode cX7_spot 26 = .ok (.iconst (-1), 1) := by decide +kernel
theorem dX7_spot_27 : decode cX7_spot 27 = .ok (.ireturn, 1) := by decide +kernel
theorem dX8_init_0 : decode cX8_init 0 = .ok (.aload_n 0, 1) := by decide +kernel
theorem dX8_init_1 : decode cX8_init 1 = .ok (.invokespecial 3, 3) := by decide +kernel
theorem dX8_init_4 : decode cX8_init 4 = .ok (.aload_n 0, 1) := by decide +kernel
theorem dX8_init_5 : decode cX8_init 5 = .ok (.iconst 3, 1) := by decide +kernel
theorem dX8_init_6 : decode cX8_init 6 = .ok (.newarray .int, 2) := by decide +kernel
theorem dX8_init_8 : decode cX8_init 8 = .ok (.putfield 9, 3) := by decide +kernel
theorem dX8_init_11 : decode cX8_init 11 = .ok (.aload_n 0, 1) := by decide +kernel
theorem dX8_init_12 : decode cX8_init 12 = .ok (.bipush 108, 2) := by decide +kernel
theorem dX8_init_14 : decode cX8_init 14 = .ok (.newarray .int, 2) := by decide +kernel
theorem dX8_init_16 : decode cX8_init 16 = .ok (.putfield 15, 3) := by decide +kernel
theorem dX8_init_19 : decode cX8_init 19 = .ok (.aload_n 0, 1) := by decide +kernel
theorem dX8_init_20 : decode cX8_init 20 = .ok (.new 18, 3) := by decide +kernel
theorem dX8_init_23 : decode cX8_init 23 = .ok (.dup, 1) := by decide +kernel
theorem dX8_init_24 : decode cX8_init 24 = .ok (.invokespecial 20, 3) := by decide +kernel
theorem dX8_init_27 : decode cX8_init 27 = .ok (.putfield 21, 3) := by decide +kernel
theorem dX8_init_30 : decode cX8_init 30 = .ok (.aload_n 0, 1) := by decide +kernel
theorem dX8_init_31 : decode cX8_init 31 = .ok (.new 18, 3) := by decide +kernel
theorem dX8_init_34 : decode cX8_init 34 = .ok (.dup, 1) := by decide +kernel
theorem dX8_init_35 : decode cX8_init 35 = .ok (.invokespecial 20, 3) := by decide +kernel
theorem dX8_init_38 : decode cX8_init 38 = .ok (.putfield 25, 3) := by decide +kernel
theorem dX8_init_41 : decode cX8_init 41 = .ok (.return_, 1) := by decide +kernel
theorem dX8_hasObstacleAt_0 : decode cX8_hasObstacleAt 0 = .ok (.iload_n 1, 1) := by decide +kernel
theorem dX8_hasObstacleAt_1 : decode cX8_hasObstacleAt 1 = .ok (.invokestatic 28, 3) := by decide +kernel
theorem dX8_hasObstacleAt_4 : decode cX8_hasObstacleAt 4 = .ok (.ifCond .eq 16, 3) := by decide +kernel
theorem dX8_hasObstacleAt_7 : decode cX8_hasObstacleAt 7 = .ok (.aload_n 0, 1) := by decide +kernel
theorem dX8_hasObstacleAt_8 : decode cX8_hasObstacleAt 8 = .ok (.getfield 15, 3) := by decide +kernel
theorem dX8_hasObstacleAt_11 : decode cX8_hasObstacleAt 11 = .ok (.iload_n 1, 1) := by decide +kernel
theorem dX8_hasObstacleAt_12 : decode cX8_hasObstacleAt 12 = .ok (.iaload, 1) := by decide +kernel
theorem dX8_hasObstacleAt_13 : decode cX8_hasObstacleAt 13 = .ok (.ifCond .eq 7, 3) := by decide +kernel
theorem dX8_hasObstacleAt_16 : decode cX8_hasObstacleAt 16 = .ok (.iconst 1, 1) := by decide +kernel
theorem dX8_hasObstacleAt_17 : decode cX8_hasObstacleAt 17 = .ok (.goto 4, 3) := by decide +kernel
theorem dX8_hasObstacleAt_20 : decode cX8_hasObstacleAt 20 = .ok (.iconst 0, 1) := by decide +kernel
theorem dX8_hasObstacleAt_21 : decode cX8_hasObstacleAt 21 = .ok (.ireturn, 1) := by decide +kernel
theorem dX8_obstacleCount_0 : decode cX8_obstacleCount 0 = .ok (.iconst 0, 1) := by decide +kernel
theorem dX8_obstacleCount_1 : decode cX8_obstacleCount 1 = .ok (.istore_n 1, 1) := by decide +kernel
theorem dX8_obstacleCount_2 : decode cX8_obstacleCount 2 = .ok (.iconst 0, 1) := by decide +kernel
theorem dX8_obstacleCount_3 : decode cX8_obstacleCount 3 = .ok (.istore_n 2, 1) := by decide +kernel
theorem dX8_obstacleCount_4 : decode cX8_obstacleCount 4 = .ok (.iload_n 2, 1) := by decide +kernel
theorem dX8_obstacleCount_5 : decode cX8_obstacleCount 5 = .ok (.bipush 108, 2) := by decide +kernel
theorem dX8_obstacleCount_7 : decode cX8_obstacleCount 7 = .ok (.if_icmp .ge 18, 3) := by decide +kernel
theorem dX8_obstacleCount_10 : decode cX8_obstacleCount 10 = .ok (.iload_n 1, 1) := by decide +kernel
theorem dX8_obstacleCount_11 : decode cX8_obstacleCount 11 = .ok (.aload_n 0, 1) := by decide +kernel
theorem dX8_obstacleCount_12 : decode cX8_obstacleCount 12 = .ok (.getfield 15, 3) := by decide +kernel
theorem dX8_obstacleCount_15 : decode cX8_obstacleCount 15 = .ok (.iload_n 2, 1) := by decide +kernel
theorem dX8_obstacleCount_16 : decode cX8_obstacleCount 16 = .ok (.iaload, 1) := by decide +kernel
theorem dX8_obstacleCount_17 : decode cX8_obstacleCount 17 = .ok (.iadd, 1) := by decide +kernel
theorem dX8_obstacleCount_18 : decode cX8_obstacleCount 18 = .ok (.istore_n 1, 1) := by decide +kernel
theorem dX8_obstacleCount_19 : decode cX8_obstacleCount 19 = .ok (.iinc 2 1, 3) := by decide +kernel
theorem dX8_obstacleCount_22 : decode cX8_obstacleCount 22 = .ok (.goto (-18), 3) := by decide +kernel
theorem dX8_obstacleCount_25 : decode cX8_obstacleCount 25 = .ok (.iload_n 1, 1) := by decide +kernel
theorem dX8_obstacleCount_26 : decode cX8_obstacleCount 26 = .ok (.ireturn, 1) := by decide +kernel
theorem dX8_dronesAtSlots_0 : decode cX8_dronesAtSlots 0 = .ok (.iconst 0, 1) := by decide +kernel
theorem dX8_dronesAtSlots_1 : decode cX8_dronesAtSlots 1 = .ok (.istore_n 1, 1) := by decide +kernel
theorem dX8_dronesAtSlots_2 : decode cX8_dronesAtSlots 2 = .ok (.iconst 0, 1) := by decide +kernel
theorem dX8_dronesAtSlots_3 : decode cX8_dronesAtSlots 3 = .ok (.istore_n 2, 1) := by decide +kernel
theorem dX8_dronesAtSlots_4 : decode cX8_dronesAtSlots 4 = .ok (.iload_n 2, 1) := by decide +kernel
theorem dX8_dronesAtSlots_5 : decode cX8_dronesAtSlots 5 = .ok (.aload_n 0, 1) := by decide +kernel
theorem dX8_dronesAtSlots_6 : decode cX8_dronesAtSlots 6 = .ok (.getfield 21, 3) := by decide +kernel
theorem dX8_dronesAtSlots_9 : decode cX8_dronesAtSlots 9 = .ok (.getfield 32, 3) := by decide +kernel
theorem dX8_dronesAtSlots_12 : decode cX8_dronesAtSlots 12 = .ok (.if_icmp .ge 31, 3) := by decide +kernel
theorem dX8_dronesAtSlots_15 : decode cX8_dronesAtSlots 15 = .ok (.aload_n 0, 1) := by decide +kernel
theorem dX8_dronesAtSlots_16 : decode cX8_dronesAtSlots 16 = .ok (.getfield 25, 3) := by decide +kernel
theorem dX8_dronesAtSlots_19 : decode cX8_dronesAtSlots 19 = .ok (.aload_n 0, 1) := by decide +kernel
theorem dX8_dronesAtSlots_20 : decode cX8_dronesAtSlots 20 = .ok (.getfield 21, 3) := by decide +kernel
theorem dX8_dronesAtSlots_23 : decode cX8_dronesAtSlots 23 = .ok (.iload_n 2, 1) := by decide +kernel
theorem dX8_dronesAtSlots_24 : decode cX8_dronesAtSlots 24 = .ok (.invokevirtual 36, 3) := by decide +kernel
theorem dX8_dronesAtSlots_27 : decode cX8_dronesAtSlots 27 = .ok (.invokevirtual 40, 3) := by decide +kernel
theorem dX8_dronesAtSlots_30 : decode cX8_dronesAtSlots 30 = .ok (.iconst (-1), 1) := by decide +kernel
theorem dX8_dronesAtSlots_31 : decode cX8_dronesAtSlots 31 = .ok (.if_icmp .eq 6, 3) := by decide +kernel
theorem dX8_dronesAtSlots_34 : decode cX8_dronesAtSlots 34 = .ok (.iinc 1 1, 3) := by decide +kernel
theorem dX8_dronesAtSlots_37 : decode cX8_dronesAtSlots 37 = .ok (.iinc 2 1, 3) := by decide +kernel
theorem dX8_dronesAtSlots_40 : decode cX8_dronesAtSlots 40 = .ok (.goto (-36), 3) := by decide +kernel
theorem dX8_dronesAtSlots_43 : decode cX8_dronesAtSlots 43 = .ok (.iload_n 1, 1) := by decide +kernel
theorem dX8_dronesAtSlots_44 : decode cX8_dronesAtSlots 44 = .ok (.ireturn, 1) := by decide +kernel
theorem dX8_copyFrom_0 : decode cX8_copyFrom 0 = .ok (.aload_n 1, 1) := by decide +kernel
theorem dX8_copyFrom_1 : decode cX8_copyFrom 1 = .ok (.getfield 9, 3) := by decide +kernel
theorem dX8_copyFrom_4 : decode cX8_copyFrom 4 = .ok (.iconst 0, 1) := by decide +kernel
theorem dX8_copyFrom_5 : decode cX8_copyFrom 5 = .ok (.aload_n 0, 1) := by decide +kernel
theorem dX8_copyFrom_6 : decode cX8_copyFrom 6 = .ok (.getfield 9, 3) := by decide +kernel
theorem dX8_copyFrom_9 : decode cX8_copyFrom 9 = .ok (.iconst 0, 1) := by decide +kernel
theorem dX8_copyFrom_10 : decode cX8_copyFrom 10 = .ok (.iconst 3, 1) := by decide +kernel
theorem dX8_copyFrom_11 : decode cX8_copyFrom 11 = .ok (.invokestatic 43, 3) := by decide +kernel
theorem dX8_copyFrom_14 : decode cX8_copyFrom 14 = .ok (.aload_n 1, 1) := by decide +kernel
theorem dX8_copyFrom_15 : decode cX8_copyFrom 15 = .ok (.getfield 15, 3) := by decide +kernel
theorem dX8_copyFrom_18 : decode cX8_copyFrom 18 = .ok (.iconst 0, 1) := by decide +kernel
theorem dX8_copyFrom_19 : decode cX8_copyFrom 19 = .ok (.aload_n 0, 1) := by decide +kernel
theorem dX8_copyFrom_20 : decode cX8_copyFrom 20 = .ok (.getfield 15, 3) := by decide +kernel
theorem dX8_copyFrom_23 : decode cX8_copyFrom 23 = .ok (.iconst 0, 1) := by decide +kernel
theorem dX8_copyFrom_24 : decode cX8_copyFrom 24 = .ok (.bipush 108, 2) := by decide +kernel
theorem dX8_copyFrom_26 : decode cX8_copyFrom 26 = .ok (.invokestatic 43, 3) := by decide +kernel
theorem dX8_copyFrom_29 : decode cX8_copyFrom 29 = .ok (.aload_n 0, 1) := by decide +kernel
theorem dX8_copyFrom_30 : decode cX8_copyFrom 30 = .ok (.getfield 21, 3) := by decide +kernel
theorem dX8_copyFrom_33 : decode cX8_copyFrom 33 = .ok (.aload_n 1, 1) := by decide +kernel
theorem dX8_copyFrom_34 : decode cX8_copyFrom 34 = .ok (.getfield 21, 3) := by decide +kernel
theorem dX8_copyFrom_37 : decode cX8_copyFrom 37 = .ok (.invokevirtual 49, 3) := by decide +kernel
theorem dX8_copyFrom_40 : decode cX8_copyFrom 40 = .ok (.aload_n 0, 1) := by decide +kernel
theorem dX8_copyFrom_41 : decode cX8_copyFrom 41 = .ok (.getfield 25, 3) := by decide +kernel
theorem dX8_copyFrom_44 : decode cX8_copyFrom 44 = .ok (.aload_n 1, 1) := by decide +kernel
theorem dX8_copyFrom_45 : decode cX8_copyFrom 45 = .ok (.getfield 25, 3) := by decide +kernel
theorem dX8_copyFrom_48 : decode cX8_copyFrom 48 = .ok (.invokevirtual 49, 3) := by decide +kernel
theorem dX8_copyFrom_51 : decode cX8_copyFrom 51 = .ok (.aload_n 0, 1) := by decide +kernel
theorem dX8_copyFrom_52 : decode cX8_copyFrom 52 = .ok (.aload_n 1, 1) := by decide +kernel
theorem dX8_copyFrom_53 : decode cX8_copyFrom 53 = .ok (.getfield 53, 3) := by decide +kernel
theorem dX8_copyFrom_56 : decode cX8_copyFrom 56 = .ok (.putfield 53, 3) := by decide +kernel
theorem dX8_copyFrom_59 : decode cX8_copyFrom 59 = .ok (.return_, 1) := by decide +kernel
theorem dX9_init_0 : decode cX9_init 0 = .ok (.aload_n 0, 1) := by decide +kernel
theorem dX9_init_1 : decode cX9_init 1 = .ok (.invokespecial 3, 3) := by decide +kernel
theorem dX9_init_4 : decode cX9_init 4 = .ok (.aload_n 0, 1) := by decide +kernel
theorem dX9_init_5 : decode cX9_init 5 = .ok (.bipush 108, 2) := by decide +kernel
theorem dX9_init_7 : decode cX9_init 7 = .ok (.newarray .int, 2) := by decide +kernel
theorem dX9_init_9 : decode cX9_init 9 = .ok (.putfield 9, 3) := by decide +kernel
theorem dX9_init_12 : decode cX9_init 12 = .ok (.aload_n 0, 1) := by decide +kernel
theorem dX9_init_13 : decode cX9_init 13 = .ok (.aload_n 1, 1) := by decide +kernel
theorem dX9_init_14 : decode cX9_init 14 = .ok (.putfield 15, 3) := by decide +kernel
theorem dX9_init_17 : decode cX9_init 17 = .ok (.return_, 1) := by decide +kernel
theorem dX9_measure_0 : decode cX9_measure 0 = .ok (.aload_n 0, 1) := by decide +kernel
theorem dX9_measure_1 : decode cX9_measure 1 = .ok (.getfield 9, 3) := by decide +kernel
theorem dX9_measure_4 : decode cX9_measure 4 = .ok (.iconst (-1), 1) := by decide +kernel
theorem dX9_measure_5 : decode cX9_measure 5 = .ok (.invokestatic 19, 3) := by decide +kernel
theorem dX9_measure_8 : decode cX9_measure 8 = .ok (.iload_n 1, 1) := by decide +kernel
theorem dX9_measure_9 : decode cX9_measure 9 = .ok (.invokestatic 25, 3) := by decide +kernel
theorem dX9_measure_12 : decode cX9_measure 12 = .ok (.ifCond .eq 18, 3) := by decide +kernel
theorem dX9_measure_15 : decode cX9_measure 15 = .ok (.aload_n 0, 1) := by decide +kernel
theorem dX9_measure_16 : decode cX9_measure 16 = .ok (.getfield 15, 3) := by decide +kernel
theorem dX9_measure_19 : decode cX9_measure 19 = .ok (.getfield 29, 3) := by decide +kernel
theorem dX9_measure_22 : decode cX9_measure 22 = .ok (.getfield 35, 3) := by decide +kernel
theorem dX9_measure_25 : decode cX9_measure 25 = .ok (.iload_n 1, 1) := by decide +kernel
theorem dX9_measure_26 : decode cX9_measure 26 = .ok (.iaload, 1) := by decide +kernel
theorem dX9_measure_27 : decode cX9_measure 27 = .ok (.ifCond .eq 4, 3) := by decide +kernel
theorem dX9_measure_30 : decode cX9_measure 30 = .ok (.return_, 1) := by decide +kernel
theorem dX9_measure_31 : decode cX9_measure 31 = .ok (.aload_n 0, 1) := by decide +kernel
theorem dX9_measure_32 : decode cX9_measure 32 = .ok (.getfield 9, 3) := by decide +kernel
theorem dX9_measure_35 : decode cX9_measure 35 = .ok (.iload_n 1, 1) := by decide +kernel
theorem dX9_measure_36 : decode cX9_measure 36 = .ok (.iconst 0, 1) := by decide +kernel
theorem dX9_measure_37 : decode cX9_measure 37 = .ok (.iastore, 1) := by decide +kernel
theorem dX9_measure_38 : decode cX9_measure 38 = .ok (.iconst 0, 1) := by decide +kernel
theorem dX9_measure_39 : decode cX9_measure 39 = .ok (.istore_n 2, 1) := by decide +kernel
theorem dX9_measure_40 : decode cX9_measure 40 = .ok (.iconst 0, 1) := by decide +kernel
theorem dX9_measure_41 : decode cX9_measure 41 = .ok (.istore_n 3, 1) := by decide +kernel
theorem dX9_measure_42 : decode cX9_measure 42 = .ok (.iload_n 3, 1) := by decide +kernel
theorem dX9_measure_43 : decode cX9_measure 43 = .ok (.iload_n 2, 1) := by decide +kernel
theorem dX9_measure_44 : decode cX9_measure 44 = .ok (.if_icmp .gt 55, 3) := by decide +kernel
theorem dX9_measure_47 : decode cX9_measure 47 = .ok (.iload_n 3, 1) := by decide +kernel
theorem dX9_measure_48 : decode cX9_measure 48 = .ok (.sipush 216, 3) := by decide +kernel
theorem dX9_measure_51 : decode cX9_measure 51 = .ok (.if_icmp .gt 48, 3) := by decide +kernel
theorem dX9_measure_54 : decode cX9_measure 54 = .ok (.iconst 0, 1) := by decide +kernel
theorem dX9_measure_55 : decode cX9_measure 55 = .ok (.istore 4, 2) := by decide +kernel
theorem dX9_measure_57 : decode cX9_measure 57 = .ok (.iload 4, 2) := by decide +kernel
theorem dX9_measure_59 : decode cX9_measure 59 = .ok (.bipush 108, 2) := by decide +kernel
theorem dX9_measure_61 : decode cX9_measure 61 = .ok (.if_icmp .ge 32, 3) := by decide +kernel
theorem dX9_measure_64 : decode cX9_measure 64 = .ok (.aload_n 0, 1) := by decide +kernel
theorem dX9_measure_65 : decode cX9_measure 65 = .ok (.getfield 9, 3) := by decide +kernel
theorem dX9_measure_68 : decode cX9_measure 68 = .ok (.iload 4, 2) := by decide +kernel
theorem dX9_measure_70 : decode cX9_measure 70 = .ok (.iaload, 1) := by decide +kernel
theorem dX9_measure_71 : decode cX9_measure 71 = .ok (.iload_n 3, 1) := by decide +kernel
theorem dX9_measure_72 : decode cX9_measure 72 = .ok (.if_icmp .ne 15, 3) := by decide +kernel
theorem dX9_measure_75 : decode cX9_measure 75 = .ok (.iload_n 2, 1) := by decide +kernel
theorem dX9_measure_76 : decode cX9_measure 76 = .ok (.aload_n 0, 1) := by decide +kernel
theorem dX9_measure_77 : decode cX9_measure 77 = .ok (.iload 4, 2) := by decide +kernel
theorem dX9_measure_79 : decode cX9_measure 79 = .ok (.iload_n 3, 1) := by decide +kernel
theorem dX9_measure_80 : decode cX9_measure 80 = .ok (.invokevirtual 40, 3) := by decide +kernel
theorem dX9_measure_83 : decode cX9_measure 83 = .ok (.invokestatic 44, 3) := by decide +kernel
theorem dX9_measure_86 : decode cX9_measure 86 = .ok (.istore_n 2, 1) := by decide +kernel
theorem dX9_measure_87 : decode cX9_measure 87 = .ok (.iinc 4 1, 3) := by decide +kernel
theorem dX9_measure_90 : decode cX9_measure 90 = .ok (.goto (-33), 3) := by decide +kernel
theorem dX9_measure_93 : decode cX9_measure 93 = .ok (.iinc 3 1, 3) := by decide +kernel
theorem dX9_measure_96 : decode cX9_measure 96 = .ok (.goto (-54), 3) := by decide +kernel
theorem dX9_measure_99 : decode cX9_measure 99 = .ok (.return_, 1) := by decide +kernel
theorem dX9_timeFrom_0 : decode cX9_timeFrom 0 = .ok (.iload_n 1, 1) := by decide +kernel
theorem dX9_timeFrom_1 : decode cX9_timeFrom 1 = .ok (.invokestatic 25, 3) := by decide +kernel
theorem dX9_timeFrom_4 : decode cX9_timeFrom 4 = .ok (.ifCond .eq 12, 3) := by decide +kernel
theorem dX9_timeFrom_7 : decode cX9_timeFrom 7 = .ok (.aload_n 0, 1) := by decide +kernel
theorem dX9_timeFrom_8 : decode cX9_timeFrom 8 = .ok (.getfield 9, 3) := by decide +kernel
theorem dX9_timeFrom_11 : decode cX9_timeFrom 11 = .ok (.iload_n 1, 1) := by decide +kernel
theorem dX9_timeFrom_12 : decode cX9_timeFrom 12 = .ok (.iaload, 1) := by decide +kernel
theorem dX9_timeFrom_13 : decode cX9_timeFrom 13 = .ok (.goto 4, 3) := by decide +kernel
theorem dX9_timeFrom_16 : decode cX9_timeFrom 16 = .ok (.iconst (-1), 1) := by decide +kernel
theorem dX9_timeFrom_17 : decode cX9_timeFrom 17 = .ok (.ireturn, 1) := by decide +kernel
theorem dX9_firstAction_0 : decode cX9_firstAction 0 = .ok (.iconst 1, 1) := by decide +kernel
theorem dX9_firstAction_1 : decode cX9_firstAction 1 = .ok (.istore_n 2, 1) := by decide +kernel
theorem dX9_firstAction_2 : decode cX9_firstAction 2 = .ok (.iload_n 2, 1) := by decide +kernel
theorem dX9_firstAction_3 : decode cX9_firstAction 3 = .ok (.bipush 7, 2) := by decide +kernel
theorem dX9_firstAction_5 : decode cX9_firstAction 5 = .ok (.if_icmp .ge 49, 3) := by decide +kernel
theorem dX9_firstAction_8 : decode cX9_firstAction 8 = .ok (.aload_n 0, 1) := by decide +kernel
theorem dX9_firstAction_9 : decode cX9_firstAction 9 = .ok (.aload_n 0, 1) := by decide +kernel
theorem dX9_firstAction_10 : decode cX9_firstAction 10 = .ok (.getfield 15, 3) := by decide +kernel
theorem dX9_firstAction_13 : decode cX9_firstAction 13 = .ok (.iload_n 1, 1) := by decide +kernel
theorem dX9_firstAction_14 : decode cX9_firstAction 14 = .ok (.iload_n 2, 1) := by decide +kernel
theorem dX9_firstAction_15 : decode cX9_firstAction 15 = .ok (.invokevirtual 49, 3) := by decide +kernel
theorem dX9_firstAction_18 : decode cX9_firstAction 18 = .ok (.invokevirtual 52, 3) := by decide +kernel
theorem dX9_firstAction_21 : decode cX9_firstAction 21 = .ok (.istore_n 3, 1) := by decide +kernel
theorem dX9_firstAction_22 : decode cX9_firstAction 22 = .ok (.iload_n 3, 1) := by decide +kernel
theorem dX9_firstAction_23 : decode cX9_firstAction 23 = .ok (.iconst (-1), 1) := by decide +kernel
theorem dX9_firstAction_24 : decode cX9_firstAction 24 = .ok (.if_icmp .eq 24, 3) := by decide +kernel
theorem dX9_firstAction_27 : decode cX9_firstAction 27 = .ok (.iload_n 3, 1) := by decide +kernel
theorem dX9_firstAction_28 : decode cX9_firstAction 28 = .ok (.aload_n 0, 1) := by decide +kernel
theorem dX9_firstAction_29 : decode cX9_firstAction 29 = .ok (.getfield 15, 3) := by decide +kernel
theorem dX9_firstAction_32 : decode cX9_firstAction 32 = .ok (.iload_n 1, 1) := by decide +kernel
theorem dX9_firstAction_33 : decode cX9_firstAction 33 = .ok (.iload_n 2, 1) := by decide +kernel
theorem dX9_firstAction_34 : decode cX9_firstAction 34 = .ok (.invokevirtual 56, 3) := by decide +kernel
theorem dX9_firstAction_37 : decode cX9_firstAction 37 = .ok (.iadd, 1) := by decide +kernel
theorem dX9_firstAction_38 : decode cX9_firstAction 38 = .ok (.aload_n 0, 1) := by decide +kernel
theorem dX9_firstAction_39 : decode cX9_firstAction 39 = .ok (.iload_n 1, 1) := by decide +kernel
theorem dX9_firstAction_40 : decode cX9_firstAction 40 = .ok (.invokevirtual 52, 3) := by decide +kernel
theorem dX9_firstAction_43 : decode cX9_firstAction 43 = .ok (.if_icmp .ne 5, 3) := by decide +kernel
theorem dX9_firstAction_46 : decode cX9_firstAction 46 = .ok (.iload_n 2, 1) := by decide +kernel
theorem dX9_firstAction_47 : decode cX9_firstAction 47 = .ok (.ireturn, 1) := by decide +kernel
theorem dX9_firstAction_48 : decode cX9_firstAction 48 = .ok (.iinc 2 1, 3) := by decide +kernel
theorem dX9_firstAction_51 : decode cX9_firstAction 51 = .ok (.goto (-49), 3) := by decide +kernel
theorem dX9_firstAction_54 : decode cX9_firstAction 54 = .ok (.iconst 0, 1) := by decide +kernel
theorem dX9_firstAction_55 : decode cX9_firstAction 55 = .ok (.ireturn, 1) := by decide +kernel
theorem dX9_spreadBack_0 : decode cX9_spreadBack 0 = .ok (.iload_n 2, 1) := by decide +kernel
theorem dX9_spreadBack_1 : decode cX9_spreadBack 1 = .ok (.istore_n 3, 1) := by decide +kernel
theorem dX9_spreadBack_2 : decode cX9_spreadBack 2 = .ok (.iconst 1, 1) := by decide +kernel
theorem dX9_spreadBack_3 : decode cX9_spreadBack 3 = .ok (.istore 4, 2) := by decide +kernel
theorem dX9_spreadBack_5 : decode cX9_spreadBack 5 = .ok (.iload 4, 2) := by decide +kernel
theorem dX9_spreadBack_7 : decode cX9_spreadBack 7 = .ok (.bipush 7, 2) := by decide +kernel
theorem dX9_spreadBack_9 : decode cX9_spreadBack 9 = .ok (.if_icmp .ge 87, 3) := by decide +kernel
theorem dX9_spreadBack_12 : decode cX9_spreadBack 12 = .ok (.aload_n 0, 1) := by decide +kernel
theorem dX9_spreadBack_13 : decode cX9_spreadBack 13 = .ok (.getfield 15, 3) := by decide +kernel
theorem dX9_spreadBack_16 : decode cX9_spreadBack 16 = .ok (.iload_n 1, 1) := by decide +kernel
theorem dX9_spreadBack_17 : decode cX9_spreadBack 17 = .ok (.getstatic 59, 3) := by decide +kernel
theorem dX9_spreadBack_20 : decode cX9_spreadBack 20 = .ok (.iload 4, 2) := by decide +kernel
theorem dX9_spreadBack_22 : decode cX9_spreadBack 22 = .ok (.iaload, 1) := by decide +kernel
theorem dX9_spreadBack_23 : decode cX9_spreadBack 23 = .ok (.invokevirtual 49, 3) := by decide +kernel
theorem dX9_spreadBack_26 : decode cX9_spreadBack 26 = .ok (.istore 5, 2) := by decide +kernel
theorem dX9_spreadBack_28 : decode cX9_spreadBack 28 = .ok (.iload 5, 2) := by decide +kernel
theorem dX9_spreadBack_30 : decode cX9_spreadBack 30 = .ok (.invokestatic 25, 3) := by decide +kernel
theorem dX9_spreadBack_33 : decode cX9_spreadBack 33 = .ok (.ifCond .eq 57, 3) := by decide +kernel
theorem dX9_spreadBack_36 : decode cX9_spreadBack 36 = .ok (.iload_n 2, 1) := by decide +kernel
theorem dX9_spreadBack_37 : decode cX9_spreadBack 37 = .ok (.aload_n 0, 1) := by decide +kernel
theorem dX9_spreadBack_38 : decode cX9_spreadBack 38 = .ok (.getfield 15, 3) := by decide +kernel
theorem dX9_spreadBack_41 : decode cX9_spreadBack 41 = .ok (.iload 5, 2) := by decide +kernel
theorem dX9_spreadBack_43 : decode cX9_spreadBack 43 = .ok (.iload 4, 2) := by decide +kernel
theorem dX9_spreadBack_45 : decode cX9_spreadBack 45 = .ok (.invokevirtual 56, 3) := by decide +kernel
theorem dX9_spreadBack_48 : decode cX9_spreadBack 48 = .ok (.iadd, 1) := by decide +kernel
theorem dX9_spreadBack_49 : decode cX9_spreadBack 49 = .ok (.istore 6, 2) := by decide +kernel
theorem dX9_spreadBack_51 : decode cX9_spreadBack 51 = .ok (.aload_n 0, 1) := by decide +kernel
theorem dX9_spreadBack_52 : decode cX9_spreadBack 52 = .ok (.getfield 9, 3) := by decide +kernel
theorem dX9_spreadBack_55 : decode cX9_spreadBack 55 = .ok (.iload 5, 2) := by decide +kernel
theorem dX9_spreadBack_57 : decode cX9_spreadBack 57 = .ok (.iaload, 1) := by decide +kernel
theorem dX9_spreadBack_58 : decode cX9_spreadBack 58 = .ok (.iconst (-1), 1) := by decide +kernel
theorem dX9_spreadBack_59 : decode cX9_spreadBack 59 = .ok (.if_icmp .eq 15, 3) := by decide +kernel
theorem dX9_spreadBack_62 : decode cX9_spreadBack 62 = .ok (.iload 6, 2) := by decide +kernel
theorem dX9_spreadBack_64 : decode cX9_spreadBack 64 = .ok (.aload_n 0, 1) := by decide +kernel
theorem dX9_spreadBack_65 : decode cX9_spreadBack 65 = .ok (.getfield 9, 3) := by decide +kernel
theorem dX9_spreadBack_68 : decode cX9_spreadBack 68 = .ok (.iload 5, 2) := by decide +kernel
theorem dX9_spreadBack_70 : decode cX9_spreadBack 70 = .ok (.iaload, 1) := by decide +kernel
theorem dX9_spreadBack_71 : decode cX9_spreadBack 71 = .ok (.if_icmp .ge 19, 3) := by decide +kernel
theorem dX9_spreadBack_74 : decode cX9_spreadBack 74 = .ok (.aload_n 0, 1) := by decide +kernel
theorem dX9_spreadBack_75 : decode cX9_spreadBack 75 = .ok (.getfield 9, 3) := by decide +kernel
theorem dX9_spreadBack_78 : decode cX9_spreadBack 78 = .ok (.iload 5, 2) := by decide +kernel
theorem dX9_spreadBack_80 : decode cX9_spreadBack 80 = .ok (.iload 6, 2) := by decide +kernel
theorem dX9_spreadBack_82 : decode cX9_spreadBack 82 = .ok (.iastore, 1) := by decide +kernel
theorem dX9_spreadBack_83 : decode cX9_spreadBack 83 = .ok (.iload_n 3, 1) := by decide +kernel
theorem dX9_spreadBack_84 : decode cX9_spreadBack 84 = .ok (.iload 6, 2) := by decide +kernel
theorem dX9_spreadBack_86 : decode cX9_spreadBack 86 = .ok (.invokestatic 44, 3) := by decide +kernel
theorem dX9_spreadBack_89 : decode cX9_spreadBack 89 = .ok (.istore_n 3, 1) := by decide +kernel
theorem dX9_spreadBack_90 : decode cX9_spreadBack 90 = .ok (.iinc 4 1, 3) := by decide +kernel
theorem dX9_spreadBack_93 : decode cX9_spreadBack 93 = .ok (.goto (-88), 3) := by decide +kernel
theorem dX9_spreadBack_96 : decode cX9_spreadBack 96 = .ok (.iload_n 3, 1) := by decide +kernel
theorem dX9_spreadBack_97 : decode cX9_spreadBack 97 = .ok (.ireturn, 1) := by decide +kernel
theorem dX10_init_0 : decode cX10_init 0 = .ok (.aload_n 0, 1) := by decide +kernel
theorem dX10_init_1 : decode cX10_init 1 = .ok (.invokespecial 3, 3) := by decide +kernel
theorem dX10_init_4 : decode cX10_init 4 = .ok (.aload_n 0, 1) := by decide +kernel
theorem dX10_init_5 : decode cX10_init 5 = .ok (.new 9, 3) := by decide +kernel
theorem dX10_init_8 : decode cX10_init 8 = .ok (.dup, 1) := by decide +kernel
theorem dX10_init_9 : decode cX10_init 9 = .ok (.invokespecial 11, 3) := by decide +kernel
theorem dX10_init_12 : decode cX10_init 12 = .ok (.putfield 12, 3) := by decide +kernel
theorem dX10_init_15 : decode cX10_init 15 = .ok (.aload_n 0, 1) := by decide +kernel
theorem dX10_init_16 : decode cX10_init 16 = .ok (.new 16, 3) := by decide +kernel
theorem dX10_init_19 : decode cX10_init 19 = .ok (.dup, 1) := by decide +kernel
theorem dX10_init_20 : decode cX10_init 20 = .ok (.invokespecial 18, 3) := by decide +kernel
theorem dX10_init_23 : decode cX10_init 23 = .ok (.putfield 19, 3) := by decide +kernel
theorem dX10_init_26 : decode cX10_init 26 = .ok (.aload_n 0, 1) := by decide +kernel
theorem dX10_init_27 : decode cX10_init 27 = .ok (.new 23, 3) := by decide +kernel
theorem dX10_init_30 : decode cX10_init 30 = .ok (.dup, 1) := by decide +kernel
theorem dX10_init_31 : decode cX10_init 31 = .ok (.invokespecial 25, 3) := by decide +kernel
theorem dX10_init_34 : decode cX10_init 34 = .ok (.putfield 26, 3) := by decide +kernel
theorem dX10_init_37 : decode cX10_init 37 = .ok (.new 30, 3) := by decide +kernel
theorem dX10_init_40 : decode cX10_init 40 = .ok (.dup, 1) := by decide +kernel
theorem dX10_init_41 : decode cX10_init 41 = .ok (.aload_n 0, 1) := by decide +kernel
theorem dX10_init_42 : decode cX10_init 42 = .ok (.getfield 12, 3) := by decide +kernel
theorem dX10_init_45 : decode cX10_init 45 = .ok (.invokespecial 32, 3) := by decide +kernel
theorem dX10_init_48 : decode cX10_init 48 = .ok (.astore_n 1, 1) := by decide +kernel
theorem dX10_init_49 : decode cX10_init 49 = .ok (.aload_n 0, 1) := by decide +kernel
theorem dX10_init_50 : decode cX10_init 50 = .ok (.new 35, 3) := by decide +kernel
theorem dX10_init_53 : decode cX10_init 53 = .ok (.dup, 1) := by decide +kernel
theorem dX10_init_54 : decode cX10_init 54 = .ok (.aload_n 1, 1) := by decide +kernel
theorem dX10_init_55 : decode cX10_init 55 = .ok (.invokespecial 37, 3) := by decide +kernel
theorem dX10_init_58 : decode cX10_init 58 = .ok (.putfield 40, 3) := by decide +kernel
theorem dX10_init_61 : decode cX10_init 61 = .ok (.aload_n 0, 1) := by decide +kernel
theorem dX10_init_62 : decode cX10_init 62 = .ok (.new 44, 3) := by decide +kernel
theorem dX10_init_65 : decode cX10_init 65 = .ok (.dup, 1) := by decide +kernel
theorem dX10_init_66 : decode cX10_init 66 = .ok (.aload_n 0, 1) := by decide +kernel
theorem dX10_init_67 : decode cX10_init 67 = .ok (.getfield 12, 3) := by decide +kernel
theorem dX10_init_70 : decode cX10_init 70 = .ok (.aload_n 1, 1) := by decide +kernel
theorem dX10_init_71 : decode cX10_init 71 = .ok (.invokespecial 46, 3) := by decide +kernel
theorem dX10_init_74 : decode cX10_init 74 = .ok (.putfield 49, 3) := by decide +kernel
theorem dX10_init_77 : decode cX10_init 77 = .ok (.aload_n 0, 1) := by decide +kernel
theorem dX10_init_78 : decode cX10_init 78 = .ok (.new 53, 3) := by decide +kernel
theorem dX10_init_81 : decode cX10_init 81 = .ok (.dup, 1) := by decide +kernel
theorem dX10_init_82 : decode cX10_init 82 = .ok (.aload_n 0, 1) := by decide +kernel
theorem dX10_init_83 : decode cX10_init 83 = .ok (.getfield 12, 3) := by decide +kernel
theorem dX10_init_86 : decode cX10_init 86 = .ok (.aload_n 1, 1) := by decide +kernel
theorem dX10_init_87 : decode cX10_init 87 = .ok (.invokespecial 55, 3) := by decide +kernel
theorem dX10_init_90 : decode cX10_init 90 = .ok (.putfield 56, 3) := by decide +kernel
theorem dX10_init_93 : decode cX10_init 93 = .ok (.return_, 1) := by decide +kernel
theorem dX10_setWind_0 : decode cX10_setWind 0 = .ok (.iload_n 1, 1) := by decide +kernel
theorem dX10_setWind_1 : decode cX10_setWind 1 = .ok (.invokestatic 60, 3) := by decide +kernel
theorem dX10_setWind_4 : decode cX10_setWind 4 = .ok (.ifCond .eq 10, 3) := by decide +kernel
theorem dX10_setWind_7 : decode cX10_setWind 7 = .ok (.iload_n 2, 1) := by decide +kernel
theorem dX10_setWind_8 : decode cX10_setWind 8 = .ok (.invokestatic 64, 3) := by decide +kernel
theorem dX10_setWind_11 : decode cX10_setWind 11 = .ok (.ifCond .ne 6, 3) := by decide +kernel
theorem dX10_setWind_14 : decode cX10_setWind 14 = .ok (.bipush (-2), 2) := by decide +kernel
theorem dX10_setWind_16 : decode cX10_setWind 16 = .ok (.ireturn, 1) := by decide +kernel
theorem dX10_setWind_17 : decode cX10_setWind 17 = .ok (.aload_n 0, 1) := by decide +kernel
theorem dX10_setWind_18 : decode cX10_setWind 18 = .ok (.invokevirtual 67, 3) := by decide +kernel
theorem dX10_setWind_21 : decode cX10_setWind 21 = .ok (.aload_n 0, 1) := by decide +kernel
theorem dX10_setWind_22 : decode cX10_setWind 22 = .ok (.getfield 12, 3) := by decide +kernel
theorem dX10_setWind_25 : decode cX10_setWind 25 = .ok (.getfield 70, 3) := by decide +kernel
theorem dX10_setWind_28 : decode cX10_setWind 28 = .ok (.iload_n 1, 1) := by decide +kernel
theorem dX10_setWind_29 : decode cX10_setWind 29 = .ok (.iaload, 1) := by decide +kernel
theorem dX10_setWind_30 : decode cX10_setWind 30 = .ok (.istore_n 3, 1) := by decide +kernel
theorem dX10_setWind_31 : decode cX10_setWind 31 = .ok (.aload_n 0, 1) := by decide +kernel
theorem dX10_setWind_32 : decode cX10_setWind 32 = .ok (.getfield 12, 3) := by decide +kernel
theorem dX10_setWind_35 : decode cX10_setWind 35 = .ok (.getfield 70, 3) := by decide +kernel
theorem dX10_setWind_38 : decode cX10_setWind 38 = .ok (.iload_n 1, 1) := by decide +kernel
theorem dX10_setWind_39 : decode cX10_setWind 39 = .ok (.iload_n 2, 1) := by decide +kernel
theorem dX10_setWind_40 : decode cX10_setWind 40 = .ok (.iastore, 1) := by decide +kernel
theorem dX10_setWind_41 : decode cX10_setWind 41 = .ok (.iload_n 3, 1) := by decide +kernel
theorem dX10_setWind_42 : decode cX10_setWind 42 = .ok (.ireturn, 1) := by decide +kernel
theorem dX10_setObstacle_0 : decode cX10_setObstacle 0 = .ok (.iload_n 1, 1) := by decide +kernel
theorem dX10_setObstacle_1 : decode cX10_setObstacle 1 = .ok (.invokestatic 74, 3) := by decide +kernel
theorem dX10_setObstacle_4 : decode cX10_setObstacle 4 = .ok (.ifCond .eq 12, 3) := by decide +kernel
theorem dX10_setObstacle_7 : decode cX10_setObstacle 7 = .ok (.iload_n 2, 1) := by decide +kernel
theorem dX10_setObstacle_8 : decode cX10_setObstacle 8 = .ok (.ifCond .lt 8, 3) := by decide +kernel
theorem dX10_setObstacle_11 : decode cX10_setObstacle 11 = .ok (.iload_n 2, 1) := by decide +kernel
theorem dX10_setObstacle_12 : decode cX10_setObstacle 12 = .ok (.iconst 1, 1) := by decide +kernel
theorem dX10_setObstacle_13 : decode cX10_setObstacle 13 = .ok (.if_icmp .le 6, 3) := by decide +kernel
theorem dX10_setObstacle_16 : decode cX10_setObstacle 16 = .ok (.bipush (-2), 2) := by decide +kernel
theorem dX10_setObstacle_18 : decode cX10_setObstacle 18 = .ok (.ireturn, 1) := by decide +kernel
theorem dX10_setObstacle_19 : decode cX10_setObstacle 19 = .ok (.iload_n 2, 1) := by decide +kernel
theorem dX10_setObstacle_20 : decode cX10_setObstacle 20 = .ok (.iconst 1, 1) := by decide +kernel
theorem dX10_setObstacle_21 : decode cX10_setObstacle 21 = .ok (.if_icmp .ne 36, 3) := by decide +kernel
theorem dX10_setObstacle_24 : decode cX10_setObstacle 24 = .ok (.aload_n 0, 1) := by decide +kernel
theorem dX10_setObstacle_25 : decode cX10_setObstacle 25 = .ok (.getfield 12, 3) := by decide +kernel
theorem dX10_setObstacle_28 : decode cX10_setObstacle 28 = .ok (.getfield 77, 3) := by decide +kernel
theorem dX10_setObstacle_31 : decode cX10_setObstacle 31 = .ok (.iload_n 1, 1) := by decide +kernel
theorem dX10_setObstacle_32 : decode cX10_setObstacle 32 = .ok (.invokevirtual 81, 3) := by decide +kernel
theorem dX10_setObstacle_35 : decode cX10_setObstacle 35 = .ok (.iconst (-1), 1) := by decide +kernel
theorem dX10_setObstacle_36 : decode cX10_setObstacle 36 = .ok (.if_icmp .ne 18, 3) := by decide +kernel
theorem dX10_setObstacle_39 : decode cX10_setObstacle 39 = .ok (.aload_n 0, 1) := by decide +kernel
theorem dX10_setObstacle_40 : decode cX10_setObstacle 40 = .ok (.getfield 12, 3) := by decide +kernel
theorem dX10_setObstacle_43 : decode cX10_setObstacle 43 = .ok (.getfield 87, 3) := by decide +kernel
theorem dX10_setObstacle_46 : decode cX10_setObstacle 46 = .ok (.iload_n 1, 1) := by decide +kernel
theorem dX10_setObstacle_47 : decode cX10_setObstacle 47 = .ok (.invokevirtual 81, 3) := by decide +kernel
theorem dX10_setObstacle_50 : decode cX10_setObstacle 50 = .ok (.iconst (-1), 1) := by decide +kernel
theorem dX10_setObstacle_51 : decode cX10_setObstacle 51 = .ok (.if_icmp .eq 6, 3) := by decide +kernel
theorem dX10_setObstacle_54 : decode cX10_setObstacle 54 = .ok (.bipush (-4), 2) := by decide +kernel
theorem dX10_setObstacle_56 : decode cX10_setObstacle 56 = .ok (.ireturn, 1) := by decide +kernel
theorem dX10_setObstacle_57 : decode cX10_setObstacle 57 = .ok (.aload_n 0, 1) := by decide +kernel
theorem dX10_setObstacle_58 : decode cX10_setObstacle 58 = .ok (.invokevirtual 67, 3) := by decide +kernel
theorem dX10_setObstacle_61 : decode cX10_setObstacle 61 = .ok (.aload_n 0, 1) := by decide +kernel
theorem dX10_setObstacle_62 : decode cX10_setObstacle 62 = .ok (.getfield 12, 3) := by decide +kernel
theorem dX10_setObstacle_65 : decode cX10_setObstacle 65 = .ok (.getfield 90, 3) := by decide +kernel
theorem dX10_setObstacle_68 : decode cX10_setObstacle 68 = .ok (.iload_n 1, 1) := by decide +kernel
theorem dX10_setObstacle_69 : decode cX10_setObstacle 69 = .ok (.iaload, 1) := by decide +kernel
theorem dX10_setObstacle_70 : decode cX10_setObstacle 70 = .ok (.istore_n 3, 1) := by decide +kernel
theorem dX10_setObstacle_71 : decode cX10_setObstacle 71 = .ok (.aload_n 0, 1) := by decide +kernel
theorem dX10_setObstacle_72 : decode cX10_setObstacle 72 = .ok (.getfield 12, 3) := by decide +kernel
theorem dX10_setObstacle_75 : decode cX10_setObstacle 75 = .ok (.getfield 90, 3) := by decide +kernel
theorem dX10_setObstacle_78 : decode cX10_setObstacle 78 = .ok (.iload_n 1, 1) := by decide +kernel
theorem dX10_setObstacle_79 : decode cX10_setObstacle 79 = .ok (.iload_n 2, 1) := by decide +kernel
theorem dX10_setObstacle_80 : decode cX10_setObstacle 80 = .ok (.iastore, 1) := by decide +kernel
theorem dX10_setObstacle_81 : decode cX10_setObstacle 81 = .ok (.iload_n 3, 1) := by decide +kernel
theorem dX10_setObstacle_82 : decode cX10_setObstacle 82 = .ok (.ireturn, 1) := by decide +kernel
theorem dX10_addDrone_0 : decode cX10_addDrone 0 = .ok (.aload_n 0, 1) := by decide +kernel
theorem dX10_addDrone_1 : decode cX10_addDrone 1 = .ok (.aload_n 0, 1) := by decide +kernel
theorem dX10_addDrone_2 : decode cX10_addDrone 2 = .ok (.getfield 12, 3) := by decide +kernel
theorem dX10_addDrone_5 : decode cX10_addDrone 5 = .ok (.getfield 77, 3) := by decide +kernel
theorem dX10_addDrone_8 : decode cX10_addDrone 8 = .ok (.iload_n 1, 1) := by decide +kernel
theorem dX10_addDrone_9 : decode cX10_addDrone 9 = .ok (.invokevirtual 93, 3) := by decide +kernel
theorem dX10_addDrone_12 : decode cX10_addDrone 12 = .ok (.ireturn, 1) := by decide +kernel
theorem dX10_removeDrone_0 : decode cX10_removeDrone 0 = .ok (.aload_n 0, 1) := by decide +kernel
theorem dX10_removeDrone_1 : decode cX10_removeDrone 1 = .ok (.invokevirtual 67, 3) := by decide +kernel
theorem dX10_removeDrone_4 : decode cX10_removeDrone 4 = .ok (.aload_n 0, 1) := by decide +kernel
theorem dX10_removeDrone_5 : decode cX10_removeDrone 5 = .ok (.getfield 12, 3) := by decide +kernel
theorem dX10_removeDrone_8 : decode cX10_removeDrone 8 = .ok (.getfield 77, 3) := by decide +kernel
theorem dX10_removeDrone_11 : decode cX10_removeDrone 11 = .ok (.iload_n 1, 1) := by decide +kernel
theorem dX10_removeDrone_12 : decode cX10_removeDrone 12 = .ok (.invokevirtual 97, 3) := by decide +kernel
theorem dX10_removeDrone_15 : decode cX10_removeDrone 15 = .ok (.ifCond .eq 16, 3) := by decide +kernel
theorem dX10_removeDrone_18 : decode cX10_removeDrone 18 = .ok (.aload_n 0, 1) := by decide +kernel
theorem dX10_removeDrone_19 : decode cX10_removeDrone 19 = .ok (.getfield 12, 3) := by decide +kernel
theorem dX10_removeDrone_22 : decode cX10_removeDrone 22 = .ok (.getfield 77, 3) := by decide +kernel
theorem dX10_removeDrone_25 : decode cX10_removeDrone 25 = .ok (.getfield 100, 3) := by decide +kernel
theorem dX10_removeDrone_28 : decode cX10_removeDrone 28 = .ok (.goto 4, 3) := by decide +kernel
theorem dX10_removeDrone_31 : decode cX10_removeDrone 31 = .ok (.iconst (-1), 1) := by decide +kernel
theorem dX10_removeDrone_32 : decode cX10_removeDrone 32 = .ok (.ireturn, 1) := by decide +kernel
theorem dX10_addSlot_0 : decode cX10_addSlot 0 = .ok (.aload_n 0, 1) := by decide +kernel
theorem dX10_addSlot_1 : decode cX10_addSlot 1 = .ok (.aload_n 0, 1) := by decide +kernel
theorem dX10_addSlot_2 : decode cX10_addSlot 2 = .ok (.getfield 12, 3) := by decide +kernel
theorem dX10_addSlot_5 : decode cX10_addSlot 5 = .ok (.getfield 87, 3) := by decide +kernel
theorem dX10_addSlot_8 : decode cX10_addSlot 8 = .ok (.iload_n 1, 1) := by decide +kernel
theorem dX10_addSlot_9 : decode cX10_addSlot 9 = .ok (.invokevirtual 93, 3) := by decide +kernel
theorem dX10_addSlot_12 : decode cX10_addSlot 12 = .ok (.ireturn, 1) := by decide +kernel
theorem dX10_clearSlots_0 : decode cX10_clearSlots 0 = .ok (.aload_n 0, 1) := by decide +kernel
theorem dX10_clearSlots_1 : decode cX10_clearSlots 1 = .ok (.invokevirtual 67, 3) := by decide +kernel
theorem dX10_clearSlots_4 : decode cX10_clearSlots 4 = .ok (.aload_n 0, 1) := by decide +kernel
theorem dX10_clearSlots_5 : decode cX10_clearSlots 5 = .ok (.getfield 12, 3) := by decide +kernel
theorem dX10_clearSlots_8 : decode cX10_clearSlots 8 = .ok (.getfield 87, 3) := by decide +kernel
theorem dX10_clearSlots_11 : decode cX10_clearSlots 11 = .ok (.getfield 100, 3) := by decide +kernel
theorem dX10_clearSlots_14 : decode cX10_clearSlots 14 = .ok (.istore_n 1, 1) := by decide +kernel
theorem dX10_clearSlots_15 : decode cX10_clearSlots 15 = .ok (.aload_n 0, 1) := by decide +kernel
theorem dX10_clearSlots_16 : decode cX10_clearSlots 16 = .ok (.getfield 12, 3) := by decide +kernel
theorem dX10_clearSlots_19 : decode cX10_clearSlots 19 = .ok (.getfield 87, 3) := by decide +kernel
theorem dX10_clearSlots_22 : decode cX10_clearSlots 22 = .ok (.invokevirtual 104, 3) := by decide +kernel
theorem dX10_clearSlots_25 : decode cX10_clearSlots 25 = .ok (.iload_n 1, 1) := by decide +kernel
theorem dX10_clearSlots_26 : decode cX10_clearSlots 26 = .ok (.ireturn, 1) := by decide +kernel
theorem dX10_append_0 : decode cX10_append 0 = .ok (.iload_n 1, 1) := by decide +kernel
theorem dX10_append_1 : decode cX10_append 1 = .ok (.ifCond .lt 21, 3) := by decide +kernel
theorem dX10_append_4 : decode cX10_append 4 = .ok (.iload_n 1, 1) := by decide +kernel
theorem dX10_append_5 : decode cX10_append 5 = .ok (.sipush 128, 3) := by decide +kernel
theorem dX10_append_8 : decode cX10_append 8 = .ok (.if_icmp .ge 14, 3) := by decide +kernel
theorem dX10_append_11 : decode cX10_append 11 = .ok (.iload_n 2, 1) := by decide +kernel
theorem dX10_append_12 : decode cX10_append 12 = .ok (.iconst 1, 1) := by decide +kernel
theorem dX10_append_13 : decode cX10_append 13 = .ok (.if_icmp .lt 9, 3) := by decide +kernel
theorem dX10_append_16 : decode cX10_append 16 = .ok (.iload_n 2, 1) := by decide +kernel
theorem dX10_append_17 : decode cX10_append 17 = .ok (.bipush 60, 2) := by decide +kernel
theorem dX10_append_19 : decode cX10_append 19 = .ok (.if_icmp .le 6, 3) := by decide +kernel
theorem dX10_append_22 : decode cX10_append 22 = .ok (.bipush (-2), 2) := by decide +kernel
theorem dX10_append_24 : decode cX10_append 24 = .ok (.ireturn, 1) := by decide +kernel
theorem dX10_append_25 : decode cX10_append 25 = .ok (.aload_n 0, 1) := by decide +kernel
theorem dX10_append_26 : decode cX10_append 26 = .ok (.getfield 26, 3) := by decide +kernel
theorem dX10_append_29 : decode cX10_append 29 = .ok (.iload_n 1, 1) := by decide +kernel
theorem dX10_append_30 : decode cX10_append 30 = .ok (.iload_n 2, 1) := by decide +kernel
theorem dX10_append_31 : decode cX10_append 31 = .ok (.invokevirtual 107, 3) := by decide +kernel
theorem dX10_append_34 : decode cX10_append 34 = .ok (.ifCond .eq 13, 3) := by decide +kernel
theorem dX10_append_37 : decode cX10_append 37 = .ok (.aload_n 0, 1) := by decide +kernel
theorem dX10_append_38 : decode cX10_append 38 = .ok (.getfield 26, 3) := by decide +kernel
theorem dX10_append_41 : decode cX10_append 41 = .ok (.getfield 111, 3) := by decide +kernel
theorem dX10_append_44 : decode cX10_append 44 = .ok (.goto 5, 3) := by decide +kernel
theorem dX10_append_47 : decode cX10_append 47 = .ok (.bipush (-3), 2) := by decide +kernel
theorem dX10_append_49 : decode cX10_append 49 = .ok (.ireturn, 1) := by decide +kernel
theorem dX10_readSlots_0 : decode cX10_readSlots 0 = .ok (.aload_n 0, 1) := by decide +kernel
theorem dX10_readSlots_1 : decode cX10_readSlots 1 = .ok (.getfield 26, 3) := by decide +kernel
theorem dX10_readSlots_4 : decode cX10_readSlots 4 = .ok (.invokevirtual 114, 3) := by decide +kernel
theorem dX10_readSlots_7 : decode cX10_readSlots 7 = .ok (.istore_n 1, 1) := by decide +kernel
theorem dX10_readSlots_8 : decode cX10_readSlots 8 = .ok (.iload_n 1, 1) := by decide +kernel
theorem dX10_readSlots_9 : decode cX10_readSlots 9 = .ok (.ifCond .ge 5, 3) := by decide +kernel
theorem dX10_readSlots_12 : decode cX10_readSlots 12 = .ok (.iload_n 1, 1) := by decide +kernel
theorem dX10_readSlots_13 : decode cX10_readSlots 13 = .ok (.ireturn, 1) := by decide +kernel
theorem dX10_readSlots_14 : decode cX10_readSlots 14 = .ok (.iload_n 1, 1) := by decide +kernel
theorem dX10_readSlots_15 : decode cX10_readSlots 15 = .ok (.bipush 6, 2) := by decide +kernel
theorem dX10_readSlots_17 : decode cX10_readSlots 17 = .ok (.if_icmp .le 6, 3) := by decide +kernel
theorem dX10_readSlots_20 : decode cX10_readSlots 20 = .ok (.bipush (-3), 2) := by decide +kernel
theorem dX10_readSlots_22 : decode cX10_readSlots 22 = .ok (.ireturn, 1) := by decide +kernel
theorem dX10_readSlots_23 : decode cX10_readSlots 23 = .ok (.aload_n 0, 1) := by decide +kernel
theorem dX10_readSlots_24 : decode cX10_readSlots 24 = .ok (.getfield 26, 3) := by decide +kernel
theorem dX10_readSlots_27 : decode cX10_readSlots 27 = .ok (.getfield 118, 3) := by decide +kernel
theorem dX10_readSlots_30 : decode cX10_readSlots 30 = .ok (.ifCond .ne 17, 3) := by decide +kernel
theorem dX10_readSlots_33 : decode cX10_readSlots 33 = .ok (.aload_n 0, 1) := by decide +kernel
theorem dX10_readSlots_34 : decode cX10_readSlots 34 = .ok (.aload_n 0, 1) := by decide +kernel
theorem dX10_readSlots_35 : decode cX10_readSlots 35 = .ok (.getfield 26, 3) := by decide +kernel
theorem dX10_readSlots_38 : decode cX10_readSlots 38 = .ok (.getfield 122, 3) := by decide +kernel
theorem dX10_readSlots_41 : decode cX10_readSlots 41 = .ok (.invokevirtual 125, 3) := by decide +kernel
theorem dX10_readSlots_44 : decode cX10_readSlots 44 = .ok (.ifCond .eq 6, 3) := by decide +kernel
theorem dX10_readSlots_47 : decode cX10_readSlots 47 = .ok (.bipush (-4), 2) := by decide +kernel
theorem dX10_readSlots_49 : decode cX10_readSlots 49 = .ok (.ireturn, 1) := by decide +kernel
theorem dX10_readSlots_50 : decode cX10_readSlots 50 = .ok (.aload_n 0, 1) := by decide +kernel
theorem dX10_readSlots_51 : decode cX10_readSlots 51 = .ok (.invokevirtual 67, 3) := by decide +kernel
theorem dX10_readSlots_54 : decode cX10_readSlots 54 = .ok (.aload_n 0, 1) := by decide +kernel
theorem dX10_readSlots_55 : decode cX10_readSlots 55 = .ok (.getfield 12, 3) := by decide +kernel
theorem dX10_readSlots_58 : decode cX10_readSlots 58 = .ok (.getfield 87, 3) := by decide +kernel
theorem dX10_readSlots_61 : decode cX10_readSlots 61 = .ok (.aload_n 0, 1) := by decide +kernel
theorem dX10_readSlots_62 : decode cX10_readSlots 62 = .ok (.getfield 26, 3) := by decide +kernel
theorem dX10_readSlots_65 : decode cX10_readSlots 65 = .ok (.getfield 122, 3) := by decide +kernel
theorem dX10_readSlots_68 : decode cX10_readSlots 68 = .ok (.invokevirtual 129, 3) := by decide +kernel
theorem dX10_readSlots_71 : decode cX10_readSlots 71 = .ok (.iload_n 1, 1) := by decide +kernel
theorem dX10_readSlots_72 : decode cX10_readSlots 72 = .ok (.ireturn, 1) := by decide +kernel
theorem dX10_flightTime_0 : decode cX10_flightTime 0 = .ok (.iload_n 1, 1) := by decide +kernel
theorem dX10_flightTime_1 : decode cX10_flightTime 1 = .ok (.invokestatic 74, 3) := by decide +kernel
theorem dX10_flightTime_4 : decode cX10_flightTime 4 = .ok (.ifCond .eq 10, 3) := by decide +kernel
theorem dX10_flightTime_7 : decode cX10_flightTime 7 = .ok (.iload_n 2, 1) := by decide +kernel
theorem dX10_flightTime_8 : decode cX10_flightTime 8 = .ok (.invokestatic 74, 3) := by decide +kernel
theorem dX10_flightTime_11 : decode cX10_flightTime 11 = .ok (.ifCond .ne 6, 3) := by decide +kernel
theorem dX10_flightTime_14 : decode cX10_flightTime 14 = .ok (.bipush (-2), 2) := by decide +kernel
theorem dX10_flightTime_16 : decode cX10_flightTime 16 = .ok (.ireturn, 1) := by decide +kernel
theorem dX10_flightTime_17 : decode cX10_flightTime 17 = .ok (.aload_n 0, 1) := by decide +kernel
theorem dX10_flightTime_18 : decode cX10_flightTime 18 = .ok (.getfield 40, 3) := by decide +kernel
theorem dX10_flightTime_21 : decode cX10_flightTime 21 = .ok (.iload_n 2, 1) := by decide +kernel
theorem dX10_flightTime_22 : decode cX10_flightTime 22 = .ok (.invokevirtual 133, 3) := by decide +kernel
theorem dX10_flightTime_25 : decode cX10_flightTime 25 = .ok (.aload_n 0, 1) := by decide +kernel
theorem dX10_flightTime_26 : decode cX10_flightTime 26 = .ok (.getfield 40, 3) := by decide +kernel
theorem dX10_flightTime_29 : decode cX10_flightTime 29 = .ok (.iload_n 1, 1) := by decide +kernel
theorem dX10_flightTime_30 : decode cX10_flightTime 30 = .ok (.invokevirtual 137, 3) := by decide +kernel
theorem dX10_flightTime_33 : decode cX10_flightTime 33 = .ok (.ireturn, 1) := by decide +kernel
theorem dX10_assigned_0 : decode cX10_assigned 0 = .ok (.aload_n 0, 1) := by decide +kernel
theorem dX10_assigned_1 : decode cX10_assigned 1 = .ok (.getfield 12, 3) := by decide +kernel
theorem dX10_assigned_4 : decode cX10_assigned 4 = .ok (.getfield 77, 3) := by decide +kernel
theorem dX10_assigned_7 : decode cX10_assigned 7 = .ok (.iload_n 1, 1) := by decide +kernel
theorem dX10_assigned_8 : decode cX10_assigned 8 = .ok (.invokevirtual 140, 3) := by decide +kernel
theorem dX10_assigned_11 : decode cX10_assigned 11 = .ok (.ifCond .ne 5, 3) := by decide +kernel
theorem dX10_assigned_14 : decode cX10_assigned 14 = .ok (.iconst (-1), 1) := by decide +kernel
theorem dX10_assigned_15 : decode cX10_assigned 15 = .ok (.ireturn, 1) := by decide +kernel
theorem dX10_assigned_16 : decode cX10_assigned 16 = .ok (.aload_n 0, 1) := by decide +kernel
theorem dX10_assigned_17 : decode cX10_assigned 17 = .ok (.getfield 49, 3) := by decide +kernel
theorem dX10_assigned_20 : decode cX10_assigned 20 = .ok (.invokevirtual 143, 3) := by decide +kernel
theorem dX10_assigned_23 : decode cX10_assigned 23 = .ok (.istore_n 2, 1) := by decide +kernel
theorem dX10_assigned_24 : decode cX10_assigned 24 = .ok (.iload_n 2, 1) := by decide +kernel
theorem dX10_assigned_25 : decode cX10_assigned 25 = .ok (.ifCond .eq 7, 3) := by decide +kernel
theorem dX10_assigned_28 : decode cX10_assigned 28 = .ok (.iload_n 2, 1) := by decide +kernel
theorem dX10_assigned_29 : decode cX10_assigned 29 = .ok (.goto 11, 3) := by decide +kernel
theorem dX10_assigned_32 : decode cX10_assigned 32 = .ok (.aload_n 0, 1) := by decide +kernel
theorem dX10_assigned_33 : decode cX10_assigned 33 = .ok (.getfield 49, 3) := by decide +kernel
theorem dX10_assigned_36 : decode cX10_assigned 36 = .ok (.iload_n 1, 1) := by decide +kernel
theorem dX10_assigned_37 : decode cX10_assigned 37 = .ok (.invokevirtual 146, 3) := by decide +kernel
theorem dX10_assigned_40 : decode cX10_assigned 40 = .ok (.ireturn, 1) := by decide +kernel
theorem dX10_assignment_0 : decode cX10_assignment 0 = .ok (.iload_n 1, 1) := by decide +kernel
theorem dX10_assignment_1 : decode cX10_assignment 1 = .ok (.ifCond .lt 8, 3) := by decide +kernel
theorem dX10_assignment_4 : decode cX10_assignment 4 = .ok (.iload_n 1, 1) := by decide +kernel
theorem dX10_assignment_5 : decode cX10_assignment 5 = .ok (.iconst 3, 1) := by decide +kernel
theorem dX10_assignment_6 : decode cX10_assignment 6 = .ok (.if_icmp .le 6, 3) := by decide +kernel
theorem dX10_assignment_9 : decode cX10_assignment 9 = .ok (.bipush (-2), 2) := by decide +kernel
theorem dX10_assignment_11 : decode cX10_assignment 11 = .ok (.ireturn, 1) := by decide +kernel
theorem dX10_assignment_12 : decode cX10_assignment 12 = .ok (.aload_n 0, 1) := by decide +kernel
theorem dX10_assignment_13 : decode cX10_assignment 13 = .ok (.getfield 49, 3) := by decide +kernel
theorem dX10_assignment_16 : decode cX10_assignment 16 = .ok (.invokevirtual 143, 3) := by decide +kernel
theorem dX10_assignment_19 : decode cX10_assignment 19 = .ok (.istore_n 2, 1) := by decide +kernel
theorem dX10_assignment_20 : decode cX10_assignment 20 = .ok (.iload_n 2, 1) := by decide +kernel
theorem dX10_assignment_21 : decode cX10_assignment 21 = .ok (.ifCond .eq 5, 3) := by decide +kernel
theorem dX10_assignment_24 : decode cX10_assignment 24 = .ok (.iload_n 2, 1) := by decide +kernel
theorem dX10_assignment_25 : decode cX10_assignment 25 = .ok (.ireturn, 1) := by decide +kernel
theorem dX10_assignment_26 : decode cX10_assignment 26 = .ok (.iload_n 1, 1) := by decide +kernel
theorem dX10_assignment_27 : decode cX10_assignment 27 = .ok (.tableswitch 49 0 2 #[25, 33, 41], 25) := by decide +kernel
theorem dX10_assignment_52 : decode cX10_assignment 52 = .ok (.aload_n 0, 1) := by decide +kernel
theorem dX10_assignment_53 : decode cX10_assignment 53 = .ok (.getfield 49, 3) := by decide +kernel
theorem dX10_assignment_56 : decode cX10_assignment 56 = .ok (.getfield 149, 3) := by decide +kernel
theorem dX10_assignment_59 : decode cX10_assignment 59 = .ok (.ireturn, 1) := by decide +kernel
theorem dX10_assignment_60 : decode cX10_assignment 60 = .ok (.aload_n 0, 1) := by decide +kernel
theorem dX10_assignment_61 : decode cX10_assignment 61 = .ok (.getfield 49, 3) := by decide +kernel
theorem dX10_assignment_64 : decode cX10_assignment 64 = .ok (.getfield 152, 3) := by decide +kernel
theorem dX10_assignment_67 : decode cX10_assignment 67 = .ok (.ireturn, 1) := by decide +kernel
theorem dX10_assignment_68 : decode cX10_assignment 68 = .ok (.aload_n 0, 1) := by decide +kernel
theorem dX10_assignment_69 : decode cX10_assignment 69 = .ok (.getfield 49, 3) := by decide +kernel
theorem dX10_assignment_72 : decode cX10_assignment 72 = .ok (.getfield 155, 3) := by decide +kernel
theorem dX10_assignment_75 : decode cX10_assignment 75 = .ok (.ireturn, 1) := by decide +kernel
theorem dX10_assignment_76 : decode cX10_assignment 76 = .ok (.aload_n 0, 1) := by decide +kernel
theorem dX10_assignment_77 : decode cX10_assignment 77 = .ok (.getfield 49, 3) := by decide +kernel
theorem dX10_assignment_80 : decode cX10_assignment 80 = .ok (.getfield 158, 3) := by decide +kernel
theorem dX10_assignment_83 : decode cX10_assignment 83 = .ok (.ireturn, 1) := by decide +kernel
theorem dX10_plan_0 : decode cX10_plan 0 = .ok (.aload_n 0, 1) := by decide +kernel
theorem dX10_plan_1 : decode cX10_plan 1 = .ok (.getfield 49, 3) := by decide +kernel
theorem dX10_plan_4 : decode cX10_plan 4 = .ok (.invokevirtual 143, 3) := by decide +kernel
theorem dX10_plan_7 : decode cX10_plan 7 = .ok (.istore_n 1, 1) := by decide +kernel
theorem dX10_plan_8 : decode cX10_plan 8 = .ok (.iload_n 1, 1) := by decide +kernel
theorem dX10_plan_9 : decode cX10_plan 9 = .ok (.ifCond .eq 7, 3) := by decide +kernel
theorem dX10_plan_12 : decode cX10_plan 12 = .ok (.iload_n 1, 1) := by decide +kernel
theorem dX10_plan_13 : decode cX10_plan 13 = .ok (.goto 14, 3) := by decide +kernel
theorem dX10_plan_16 : decode cX10_plan 16 = .ok (.aload_n 0, 1) := by decide +kernel
theorem dX10_plan_17 : decode cX10_plan 17 = .ok (.getfield 56, 3) := by decide +kernel
theorem dX10_plan_20 : decode cX10_plan 20 = .ok (.aload_n 0, 1) := by decide +kernel
theorem dX10_plan_21 : decode cX10_plan 21 = .ok (.getfield 49, 3) := by decide +kernel
theorem dX10_plan_24 : decode cX10_plan 24 = .ok (.invokevirtual 161, 3) := by decide +kernel
theorem dX10_plan_27 : decode cX10_plan 27 = .ok (.ireturn, 1) := by decide +kernel
theorem dX10_stuck_0 : decode cX10_stuck 0 = .ok (.aload_n 0, 1) := by decide +kernel
theorem dX10_stuck_1 : decode cX10_stuck 1 = .ok (.getfield 56, 3) := by decide +kernel
theorem dX10_stuck_4 : decode cX10_stuck 4 = .ok (.getfield 165, 3) := by decide +kernel
theorem dX10_stuck_7 : decode cX10_stuck 7 = .ok (.ireturn, 1) := by decide +kernel
theorem dX10_at_0 : decode cX10_at 0 = .ok (.aload_n 0, 1) := by decide +kernel
theorem dX10_at_1 : decode cX10_at 1 = .ok (.iload_n 1, 1) := by decide +kernel
theorem dX10_at_2 : decode cX10_at 2 = .ok (.iload_n 2, 1) := by decide +kernel
theorem dX10_at_3 : decode cX10_at 3 = .ok (.ifCond .lt 13, 3) := by decide +kernel
theorem dX10_at_6 : decode cX10_at 6 = .ok (.iload_n 2, 1) := by decide +kernel
theorem dX10_at_7 : decode cX10_at 7 = .ok (.bipush 60, 2) := by decide +kernel
theorem dX10_at_9 : decode cX10_at 9 = .ok (.if_icmp .gt 7, 3) := by decide +kernel
theorem dX10_at_12 : decode cX10_at 12 = .ok (.iconst 1, 1) := by decide +kernel
theorem dX10_at_13 : decode cX10_at 13 = .ok (.goto 4, 3) := by decide +kernel
theorem dX10_at_16 : decode cX10_at 16 = .ok (.iconst 0, 1) := by decide +kernel
theorem dX10_at_17 : decode cX10_at 17 = .ok (.invokevirtual 168, 3) := by decide +kernel
theorem dX10_at_20 : decode cX10_at 20 = .ok (.istore_n 3, 1) := by decide +kernel
theorem dX10_at_21 : decode cX10_at 21 = .ok (.iload_n 3, 1) := by decide +kernel
theorem dX10_at_22 : decode cX10_at 22 = .ok (.ifCond .eq 7, 3) := by decide +kernel
theorem dX10_at_25 : decode cX10_at 25 = .ok (.iload_n 3, 1) := by decide +kernel
theorem dX10_at_26 : decode cX10_at 26 = .ok (.goto 12, 3) := by decide +kernel
theorem dX10_at_29 : decode cX10_at 29 = .ok (.aload_n 0, 1) := by decide +kernel
theorem dX10_at_30 : decode cX10_at 30 = .ok (.getfield 56, 3) := by decide +kernel
theorem dX10_at_33 : decode cX10_at 33 = .ok (.iload_n 1, 1) := by decide +kernel
theorem dX10_at_34 : decode cX10_at 34 = .ok (.iload_n 2, 1) := by decide +kernel
theorem dX10_at_35 : decode cX10_at 35 = .ok (.invokevirtual 172, 3) := by decide +kernel
theorem dX10_at_38 : decode cX10_at 38 = .ok (.ireturn, 1) := by decide +kernel
theorem dX10_action_0 : decode cX10_action 0 = .ok (.aload_n 0, 1) := by decide +kernel
theorem dX10_action_1 : decode cX10_action 1 = .ok (.iload_n 1, 1) := by decide +kernel
theorem dX10_action_2 : decode cX10_action 2 = .ok (.iload_n 2, 1) := by decide +kernel
theorem dX10_action_3 : decode cX10_action 3 = .ok (.ifCond .lt 13, 3) := by decide +kernel
theorem dX10_action_6 : decode cX10_action 6 = .ok (.iload_n 2, 1) := by decide +kernel
theorem dX10_action_7 : decode cX10_action 7 = .ok (.bipush 60, 2) := by decide +kernel
theorem dX10_action_9 : decode cX10_action 9 = .ok (.if_icmp .ge 7, 3) := by decide +kernel
theorem dX10_action_12 : decode cX10_action 12 = .ok (.iconst 1, 1) := by decide +kernel
theorem dX10_action_13 : decode cX10_action 13 = .ok (.goto 4, 3) := by decide +kernel
theorem dX10_action_16 : decode cX10_action 16 = .ok (.iconst 0, 1) := by decide +kernel
theorem dX10_action_17 : decode cX10_action 17 = .ok (.invokevirtual 168, 3) := by decide +kernel
theorem dX10_action_20 : decode cX10_action 20 = .ok (.istore_n 3, 1) := by decide +kernel
theorem dX10_action_21 : decode cX10_action 21 = .ok (.iload_n 3, 1) := by decide +kernel
theorem dX10_action_22 : decode cX10_action 22 = .ok (.ifCond .eq 7, 3) := by decide +kernel
theorem dX10_action_25 : decode cX10_action 25 = .ok (.iload_n 3, 1) := by decide +kernel
theorem dX10_action_26 : decode cX10_action 26 = .ok (.goto 12, 3) := by decide +kernel
theorem dX10_action_29 : decode cX10_action 29 = .ok (.aload_n 0, 1) := by decide +kernel
theorem dX10_action_30 : decode cX10_action 30 = .ok (.getfield 56, 3) := by decide +kernel
theorem dX10_action_33 : decode cX10_action 33 = .ok (.iload_n 1, 1) := by decide +kernel
theorem dX10_action_34 : decode cX10_action 34 = .ok (.iload_n 2, 1) := by decide +kernel
theorem dX10_action_35 : decode cX10_action 35 = .ok (.invokevirtual 176, 3) := by decide +kernel
theorem dX10_action_38 : decode cX10_action 38 = .ok (.ireturn, 1) := by decide +kernel
theorem dX10_flight_0 : decode cX10_flight 0 = .ok (.aload_n 0, 1) := by decide +kernel
theorem dX10_flight_1 : decode cX10_flight 1 = .ok (.iload_n 1, 1) := by decide +kernel
theorem dX10_flight_2 : decode cX10_flight 2 = .ok (.iload_n 2, 1) := by decide +kernel
theorem dX10_flight_3 : decode cX10_flight 3 = .ok (.ifCond .lt 12, 3) := by decide +kernel
theorem dX10_flight_6 : decode cX10_flight 6 = .ok (.iload_n 2, 1) := by decide +kernel
theorem dX10_flight_7 : decode cX10_flight 7 = .ok (.iconst 4, 1) := by decide +kernel
theorem dX10_flight_8 : decode cX10_flight 8 = .ok (.if_icmp .gt 7, 3) := by decide +kernel
theorem dX10_flight_11 : decode cX10_flight 11 = .ok (.iconst 1, 1) := by decide +kernel
theorem dX10_flight_12 : decode cX10_flight 12 = .ok (.goto 4, 3) := by decide +kernel
theorem dX10_flight_15 : decode cX10_flight 15 = .ok (.iconst 0, 1) := by decide +kernel
theorem dX10_flight_16 : decode cX10_flight 16 = .ok (.invokevirtual 168, 3) := by decide +kernel
theorem dX10_flight_19 : decode cX10_flight 19 = .ok (.istore_n 3, 1) := by decide +kernel
theorem dX10_flight_20 : decode cX10_flight 20 = .ok (.iload_n 3, 1) := by decide +kernel
theorem dX10_flight_21 : decode cX10_flight 21 = .ok (.ifCond .eq 5, 3) := by decide +kernel
theorem dX10_flight_24 : decode cX10_flight 24 = .ok (.iload_n 3, 1) := by decide +kernel
theorem dX10_flight_25 : decode cX10_flight 25 = .ok (.ireturn, 1) := by decide +kernel
theorem dX10_flight_26 : decode cX10_flight 26 = .ok (.iload_n 2, 1) := by decide +kernel
theorem dX10_flight_27 : decode cX10_flight 27 = .ok (.tableswitch 65 0 3 #[29, 38, 47, 56], 29) := by decide +kernel
theorem dX10_flight_56 : decode cX10_flight 56 = .ok (.aload_n 0, 1) := by decide +kernel
theorem dX10_flight_57 : decode cX10_flight 57 = .ok (.getfield 56, 3) := by decide +kernel
theorem dX10_flight_60 : decode cX10_flight 60 = .ok (.iload_n 1, 1) := by decide +kernel
theorem dX10_flight_61 : decode cX10_flight 61 = .ok (.invokevirtual 179, 3) := by decide +kernel
theorem dX10_flight_64 : decode cX10_flight 64 = .ok (.ireturn, 1) := by decide +kernel
theorem dX10_flight_65 : decode cX10_flight 65 = .ok (.aload_n 0, 1) := by decide +kernel
theorem dX10_flight_66 : decode cX10_flight 66 = .ok (.getfield 56, 3) := by decide +kernel
theorem dX10_flight_69 : decode cX10_flight 69 = .ok (.iload_n 1, 1) := by decide +kernel
theorem dX10_flight_70 : decode cX10_flight 70 = .ok (.invokevirtual 182, 3) := by decide +kernel
theorem dX10_flight_73 : decode cX10_flight 73 = .ok (.ireturn, 1) := by decide +kernel
theorem dX10_flight_74 : decode cX10_flight 74 = .ok (.aload_n 0, 1) := by decide +kernel
theorem dX10_flight_75 : decode cX10_flight 75 = .ok (.getfield 56, 3) := by decide +kernel
theorem dX10_flight_78 : decode cX10_flight 78 = .ok (.iload_n 1, 1) := by decide +kernel
theorem dX10_flight_79 : decode cX10_flight 79 = .ok (.invokevirtual 185, 3) := by decide +kernel
theorem dX10_flight_82 : decode cX10_flight 82 = .ok (.ireturn, 1) := by decide +kernel
theorem dX10_flight_83 : decode cX10_flight 83 = .ok (.aload_n 0, 1) := by decide +kernel
theorem dX10_flight_84 : decode cX10_flight 84 = .ok (.getfield 56, 3) := by decide +kernel
theorem dX10_flight_87 : decode cX10_flight 87 = .ok (.iload_n 1, 1) := by decide +kernel
theorem dX10_flight_88 : decode cX10_flight 88 = .ok (.invokevirtual 188, 3) := by decide +kernel
theorem dX10_flight_91 : decode cX10_flight 91 = .ok (.ireturn, 1) := by decide +kernel
theorem dX10_flight_92 : decode cX10_flight 92 = .ok (.aload_n 0, 1) := by decide +kernel
theorem dX10_flight_93 : decode cX10_flight 93 = .ok (.getfield 56, 3) := by decide +kernel
theorem dX10_flight_96 : decode cX10_flight 96 = .ok (.iload_n 1, 1) := by decide +kernel
theorem dX10_flight_97 : decode cX10_flight 97 = .ok (.invokevirtual 191, 3) := by decide +kernel
theorem dX10_flight_100 : decode cX10_flight 100 = .ok (.ireturn, 1) := by decide +kernel
theorem dX10_explain_0 : decode cX10_explain 0 = .ok (.aload_n 0, 1) := by decide +kernel
theorem dX10_explain_1 : decode cX10_explain 1 = .ok (.iload_n 1, 1) := by decide +kernel
theorem dX10_explain_2 : decode cX10_explain 2 = .ok (.iload_n 2, 1) := by decide +kernel
theorem dX10_explain_3 : decode cX10_explain 3 = .ok (.ifCond .lt 13, 3) := by decide +kernel
theorem dX10_explain_6 : decode cX10_explain 6 = .ok (.iload_n 2, 1) := by decide +kernel
theorem dX10_explain_7 : decode cX10_explain 7 = .ok (.bipush 60, 2) := by decide +kernel
theorem dX10_explain_9 : decode cX10_explain 9 = .ok (.if_icmp .ge 7, 3) := by decide +kernel
theorem dX10_explain_12 : decode cX10_explain 12 = .ok (.iconst 1, 1) := by decide +kernel
theorem dX10_explain_13 : decode cX10_explain 13 = .ok (.goto 4, 3) := by decide +kernel
theorem dX10_explain_16 : decode cX10_explain 16 = .ok (.iconst 0, 1) := by decide +kernel
theorem dX10_explain_17 : decode cX10_explain 17 = .ok (.invokevirtual 168, 3) := by decide +kernel
theorem dX10_explain_20 : decode cX10_explain 20 = .ok (.istore_n 3, 1) := by decide +kernel
theorem dX10_explain_21 : decode cX10_explain 21 = .ok (.iload_n 3, 1) := by decide +kernel
theorem dX10_explain_22 : decode cX10_explain 22 = .ok (.ifCond .eq 7, 3) := by decide +kernel
theorem dX10_explain_25 : decode cX10_explain 25 = .ok (.iload_n 3, 1) := by decide +kernel
theorem dX10_explain_26 : decode cX10_explain 26 = .ok (.goto 12, 3) := by decide +kernel
theorem dX10_explain_29 : decode cX10_explain 29 = .ok (.aload_n 0, 1) := by decide +kernel
theorem dX10_explain_30 : decode cX10_explain 30 = .ok (.getfield 56, 3) := by decide +kernel
theorem dX10_explain_33 : decode cX10_explain 33 = .ok (.iload_n 1, 1) := by decide +kernel
theorem dX10_explain_34 : decode cX10_explain 34 = .ok (.iload_n 2, 1) := by decide +kernel
theorem dX10_explain_35 : decode cX10_explain 35 = .ok (.invokevirtual 192, 3) := by decide +kernel
theorem dX10_explain_38 : decode cX10_explain 38 = .ok (.ireturn, 1) := by decide +kernel
theorem dX10_conflictsWithout_0 : decode cX10_conflictsWithout 0 = .ok (.aload_n 0, 1) := by decide +kernel
theorem dX10_conflictsWithout_1 : decode cX10_conflictsWithout 1 = .ok (.getfield 56, 3) := by decide +kernel
theorem dX10_conflictsWithout_4 : decode cX10_conflictsWithout 4 = .ok (.getfield 195, 3) := by decide +kernel
theorem dX10_conflictsWithout_7 : decode cX10_conflictsWithout 7 = .ok (.ifCond .eq 13, 3) := by decide +kernel
theorem dX10_conflictsWithout_10 : decode cX10_conflictsWithout 10 = .ok (.aload_n 0, 1) := by decide +kernel
theorem dX10_conflictsWithout_11 : decode cX10_conflictsWithout 11 = .ok (.getfield 56, 3) := by decide +kernel
theorem dX10_conflictsWithout_14 : decode cX10_conflictsWithout 14 = .ok (.invokevirtual 198, 3) := by decide +kernel
theorem dX10_conflictsWithout_17 : decode cX10_conflictsWithout 17 = .ok (.goto 5, 3) := by decide +kernel
theorem dX10_conflictsWithout_20 : decode cX10_conflictsWithout 20 = .ok (.bipush (-7), 2) := by decide +kernel
theorem dX10_conflictsWithout_22 : decode cX10_conflictsWithout 22 = .ok (.ireturn, 1) := by decide +kernel
theorem dX10_fly_0 : decode cX10_fly 0 = .ok (.iload_n 1, 1) := by decide +kernel
theorem dX10_fly_1 : decode cX10_fly 1 = .ok (.iconst 1, 1) := by decide +kernel
theorem dX10_fly_2 : decode cX10_fly 2 = .ok (.if_icmp .lt 9, 3) := by decide +kernel
theorem dX10_fly_5 : decode cX10_fly 5 = .ok (.iload_n 1, 1) := by decide +kernel
theorem dX10_fly_6 : decode cX10_fly 6 = .ok (.bipush 60, 2) := by decide +kernel
theorem dX10_fly_8 : decode cX10_fly 8 = .ok (.if_icmp .le 6, 3) := by decide +kernel
theorem dX10_fly_11 : decode cX10_fly 11 = .ok (.bipush (-2), 2) := by decide +kernel
theorem dX10_fly_13 : decode cX10_fly 13 = .ok (.ireturn, 1) := by decide +kernel
theorem dX10_fly_14 : decode cX10_fly 14 = .ok (.aload_n 0, 1) := by decide +kernel
theorem dX10_fly_15 : decode cX10_fly 15 = .ok (.getfield 56, 3) := by decide +kernel
theorem dX10_fly_18 : decode cX10_fly 18 = .ok (.getfield 195, 3) := by decide +kernel
theorem dX10_fly_21 : decode cX10_fly 21 = .ok (.ifCond .ne 6, 3) := by decide +kernel
theorem dX10_fly_24 : decode cX10_fly 24 = .ok (.bipush (-7), 2) := by decide +kernel
theorem dX10_fly_26 : decode cX10_fly 26 = .ok (.ireturn, 1) := by decide +kernel
theorem dX10_fly_27 : decode cX10_fly 27 = .ok (.aload_n 0, 1) := by decide +kernel
theorem dX10_fly_28 : decode cX10_fly 28 = .ok (.getfield 19, 3) := by decide +kernel
theorem dX10_fly_31 : decode cX10_fly 31 = .ok (.aload_n 0, 1) := by decide +kernel
theorem dX10_fly_32 : decode cX10_fly 32 = .ok (.getfield 12, 3) := by decide +kernel
theorem dX10_fly_35 : decode cX10_fly 35 = .ok (.invokevirtual 201, 3) := by decide +kernel
theorem dX10_fly_38 : decode cX10_fly 38 = .ok (.aload_n 0, 1) := by decide +kernel
theorem dX10_fly_39 : decode cX10_fly 39 = .ok (.getfield 12, 3) := by decide +kernel
theorem dX10_fly_42 : decode cX10_fly 42 = .ok (.dup, 1) := by decide +kernel
theorem dX10_fly_43 : decode cX10_fly 43 = .ok (.getfield 204, 3) := by decide +kernel
theorem dX10_fly_46 : decode cX10_fly 46 = .ok (.iload_n 1, 1) := by decide +kernel
theorem dX10_fly_47 : decode cX10_fly 47 = .ok (.iadd, 1) := by decide +kernel
theorem dX10_fly_48 : decode cX10_fly 48 = .ok (.putfield 204, 3) := by decide +kernel
theorem dX10_fly_51 : decode cX10_fly 51 = .ok (.aload_n 0, 1) := by decide +kernel
theorem dX10_fly_52 : decode cX10_fly 52 = .ok (.getfield 56, 3) := by decide +kernel
theorem dX10_fly_55 : decode cX10_fly 55 = .ok (.iload_n 1, 1) := by decide +kernel
theorem dX10_fly_56 : decode cX10_fly 56 = .ok (.invokevirtual 207, 3) := by decide +kernel
theorem dX10_fly_59 : decode cX10_fly 59 = .ok (.ireturn, 1) := by decide +kernel
theorem dX10_greatestWith_0 : decode cX10_greatestWith 0 = .ok (.iload_n 1, 1) := by decide +kernel
theorem dX10_greatestWith_1 : decode cX10_greatestWith 1 = .ok (.invokestatic 60, 3) := by decide +kernel
theorem dX10_greatestWith_4 : decode cX10_greatestWith 4 = .ok (.ifCond .eq 10, 3) := by decide +kernel
theorem dX10_greatestWith_7 : decode cX10_greatestWith 7 = .ok (.iload_n 2, 1) := by decide +kernel
theorem dX10_greatestWith_8 : decode cX10_greatestWith 8 = .ok (.invokestatic 64, 3) := by decide +kernel
theorem dX10_greatestWith_11 : decode cX10_greatestWith 11 = .ok (.ifCond .ne 6, 3) := by decide +kernel
theorem dX10_greatestWith_14 : decode cX10_greatestWith 14 = .ok (.bipush (-2), 2) := by decide +kernel
theorem dX10_greatestWith_16 : decode cX10_greatestWith 16 = .ok (.ireturn, 1) := by decide +kernel
theorem dX10_greatestWith_17 : decode cX10_greatestWith 17 = .ok (.aload_n 0, 1) := by decide +kernel
theorem dX10_greatestWith_18 : decode cX10_greatestWith 18 = .ok (.getfield 12, 3) := by decide +kernel
theorem dX10_greatestWith_21 : decode cX10_greatestWith 21 = .ok (.getfield 70, 3) := by decide +kernel
theorem dX10_greatestWith_24 : decode cX10_greatestWith 24 = .ok (.iload_n 1, 1) := by decide +kernel
theorem dX10_greatestWith_25 : decode cX10_greatestWith 25 = .ok (.iaload, 1) := by decide +kernel
theorem dX10_greatestWith_26 : decode cX10_greatestWith 26 = .ok (.istore_n 3, 1) := by decide +kernel
theorem dX10_greatestWith_27 : decode cX10_greatestWith 27 = .ok (.aload_n 0, 1) := by decide +kernel
theorem dX10_greatestWith_28 : decode cX10_greatestWith 28 = .ok (.getfield 12, 3) := by decide +kernel
theorem dX10_greatestWith_31 : decode cX10_greatestWith 31 = .ok (.getfield 70, 3) := by decide +kernel
theorem dX10_greatestWith_34 : decode cX10_greatestWith 34 = .ok (.iload_n 1, 1) := by decide +kernel
theorem dX10_greatestWith_35 : decode cX10_greatestWith 35 = .ok (.iload_n 2, 1) := by decide +kernel
theorem dX10_greatestWith_36 : decode cX10_greatestWith 36 = .ok (.iastore, 1) := by decide +kernel
theorem dX10_greatestWith_37 : decode cX10_greatestWith 37 = .ok (.aload_n 0, 1) := by decide +kernel
theorem dX10_greatestWith_38 : decode cX10_greatestWith 38 = .ok (.getfield 49, 3) := by decide +kernel
theorem dX10_greatestWith_41 : decode cX10_greatestWith 41 = .ok (.invokevirtual 143, 3) := by decide +kernel
theorem dX10_greatestWith_44 : decode cX10_greatestWith 44 = .ok (.istore 4, 2) := by decide +kernel
theorem dX10_greatestWith_46 : decode cX10_greatestWith 46 = .ok (.aload_n 0, 1) := by decide +kernel
theorem dX10_greatestWith_47 : decode cX10_greatestWith 47 = .ok (.getfield 12, 3) := by decide +kernel
theorem dX10_greatestWith_50 : decode cX10_greatestWith 50 = .ok (.getfield 70, 3) := by decide +kernel
theorem dX10_greatestWith_53 : decode cX10_greatestWith 53 = .ok (.iload_n 1, 1) := by decide +kernel
theorem dX10_greatestWith_54 : decode cX10_greatestWith 54 = .ok (.iload_n 3, 1) := by decide +kernel
theorem dX10_greatestWith_55 : decode cX10_greatestWith 55 = .ok (.iastore, 1) := by decide +kernel
theorem dX10_greatestWith_56 : decode cX10_greatestWith 56 = .ok (.iload 4, 2) := by decide +kernel
theorem dX10_greatestWith_58 : decode cX10_greatestWith 58 = .ok (.ifCond .eq 8, 3) := by decide +kernel
theorem dX10_greatestWith_61 : decode cX10_greatestWith 61 = .ok (.iload 4, 2) := by decide +kernel
theorem dX10_greatestWith_63 : decode cX10_greatestWith 63 = .ok (.goto 10, 3) := by decide +kernel
theorem dX10_greatestWith_66 : decode cX10_greatestWith 66 = .ok (.aload_n 0, 1) := by decide +kernel
theorem dX10_greatestWith_67 : decode cX10_greatestWith 67 = .ok (.getfield 49, 3) := by decide +kernel
theorem dX10_greatestWith_70 : decode cX10_greatestWith 70 = .ok (.getfield 149, 3) := by decide +kernel
theorem dX10_greatestWith_73 : decode cX10_greatestWith 73 = .ok (.ireturn, 1) := by decide +kernel
theorem dX10_cellOf_0 : decode cX10_cellOf 0 = .ok (.iload_n 1, 1) := by decide +kernel
theorem dX10_cellOf_1 : decode cX10_cellOf 1 = .ok (.ifCond .lt 8, 3) := by decide +kernel
theorem dX10_cellOf_4 : decode cX10_cellOf 4 = .ok (.iload_n 1, 1) := by decide +kernel
theorem dX10_cellOf_5 : decode cX10_cellOf 5 = .ok (.iconst 1, 1) := by decide +kernel
theorem dX10_cellOf_6 : decode cX10_cellOf 6 = .ok (.if_icmp .le 6, 3) := by decide +kernel
theorem dX10_cellOf_9 : decode cX10_cellOf 9 = .ok (.bipush (-2), 2) := by decide +kernel
theorem dX10_cellOf_11 : decode cX10_cellOf 11 = .ok (.ireturn, 1) := by decide +kernel
theorem dX10_cellOf_12 : decode cX10_cellOf 12 = .ok (.iload_n 1, 1) := by decide +kernel
theorem dX10_cellOf_13 : decode cX10_cellOf 13 = .ok (.ifCond .ne 17, 3) := by decide +kernel
theorem dX10_cellOf_16 : decode cX10_cellOf 16 = .ok (.aload_n 0, 1) := by decide +kernel
theorem dX10_cellOf_17 : decode cX10_cellOf 17 = .ok (.getfield 12, 3) := by decide +kernel
theorem dX10_cellOf_20 : decode cX10_cellOf 20 = .ok (.getfield 77, 3) := by decide +kernel
theorem dX10_cellOf_23 : decode cX10_cellOf 23 = .ok (.iload_n 2, 1) := by decide +kernel
theorem dX10_cellOf_24 : decode cX10_cellOf 24 = .ok (.invokevirtual 210, 3) := by decide +kernel
theorem dX10_cellOf_27 : decode cX10_cellOf 27 = .ok (.goto 14, 3) := by decide +kernel
theorem dX10_cellOf_30 : decode cX10_cellOf 30 = .ok (.aload_n 0, 1) := by decide +kernel
theorem dX10_cellOf_31 : decode cX10_cellOf 31 = .ok (.getfield 12, 3) := by decide +kernel
theorem dX10_cellOf_34 : decode cX10_cellOf 34 = .ok (.getfield 87, 3) := by decide +kernel
theorem dX10_cellOf_37 : decode cX10_cellOf 37 = .ok (.iload_n 2, 1) := by decide +kernel
theorem dX10_cellOf_38 : decode cX10_cellOf 38 = .ok (.invokevirtual 210, 3) := by decide +kernel
theorem dX10_cellOf_41 : decode cX10_cellOf 41 = .ok (.ireturn, 1) := by decide +kernel
theorem dX10_look_0 : decode cX10_look 0 = .ok (.iload_n 1, 1) := by decide +kernel
theorem dX10_look_1 : decode cX10_look 1 = .ok (.invokestatic 74, 3) := by decide +kernel
theorem dX10_look_4 : decode cX10_look 4 = .ok (.ifCond .ne 6, 3) := by decide +kernel
theorem dX10_look_7 : decode cX10_look 7 = .ok (.bipush (-2), 2) := by decide +kernel
theorem dX10_look_9 : decode cX10_look 9 = .ok (.ireturn, 1) := by decide +kernel
theorem dX10_look_10 : decode cX10_look 10 = .ok (.aload_n 0, 1) := by decide +kernel
theorem dX10_look_11 : decode cX10_look 11 = .ok (.getfield 12, 3) := by decide +kernel
theorem dX10_look_14 : decode cX10_look 14 = .ok (.getfield 90, 3) := by decide +kernel
theorem dX10_look_17 : decode cX10_look 17 = .ok (.iload_n 1, 1) := by decide +kernel
theorem dX10_look_18 : decode cX10_look 18 = .ok (.iaload, 1) := by decide +kernel
theorem dX10_look_19 : decode cX10_look 19 = .ok (.ifCond .eq 5, 3) := by decide +kernel
theorem dX10_look_22 : decode cX10_look 22 = .ok (.iconst 1, 1) := by decide +kernel
theorem dX10_look_23 : decode cX10_look 23 = .ok (.ireturn, 1) := by decide +kernel
theorem dX10_look_24 : decode cX10_look 24 = .ok (.bipush 10, 2) := by decide +kernel
theorem dX10_look_26 : decode cX10_look 26 = .ok (.aload_n 0, 1) := by decide +kernel
theorem dX10_look_27 : decode cX10_look 27 = .ok (.getfield 12, 3) := by decide +kernel
theorem dX10_look_30 : decode cX10_look 30 = .ok (.getfield 77, 3) := by decide +kernel
theorem dX10_look_33 : decode cX10_look 33 = .ok (.iload_n 1, 1) := by decide +kernel
theorem dX10_look_34 : decode cX10_look 34 = .ok (.invokevirtual 81, 3) := by decide +kernel
theorem dX10_look_37 : decode cX10_look 37 = .ok (.iconst 1, 1) := by decide +kernel
theorem dX10_look_38 : decode cX10_look 38 = .ok (.iadd, 1) := by decide +kernel
theorem dX10_look_39 : decode cX10_look 39 = .ok (.imul, 1) := by decide +kernel
theorem dX10_look_40 : decode cX10_look 40 = .ok (.bipush 100, 2) := by decide +kernel
theorem dX10_look_42 : decode cX10_look 42 = .ok (.aload_n 0, 1) := by decide +kernel
theorem dX10_look_43 : decode cX10_look 43 = .ok (.getfield 12, 3) := by decide +kernel
theorem dX10_look_46 : decode cX10_look 46 = .ok (.getfield 87, 3) := by decide +kernel
theorem dX10_look_49 : decode cX10_look 49 = .ok (.iload_n 1, 1) := by decide +kernel
theorem dX10_look_50 : decode cX10_look 50 = .ok (.invokevirtual 81, 3) := by decide +kernel
theorem dX10_look_53 : decode cX10_look 53 = .ok (.iconst 1, 1) := by decide +kernel
theorem dX10_look_54 : decode cX10_look 54 = .ok (.iadd, 1) := by decide +kernel
theorem dX10_look_55 : decode cX10_look 55 = .ok (.imul, 1) := by decide +kernel
theorem dX10_look_56 : decode cX10_look 56 = .ok (.iadd, 1) := by decide +kernel
theorem dX10_look_57 : decode cX10_look 57 = .ok (.ireturn, 1) := by decide +kernel
theorem dX10_count_0 : decode cX10_count 0 = .ok (.iload_n 1, 1) := by decide +kernel
theorem dX10_count_1 : decode cX10_count 1 = .ok (.tableswitch 125 0 7 #[47, 58, 69, 77, 85, 93, 101, 109], 47) := by decide +kernel
theorem dX10_count_48 : decode cX10_count 48 = .ok (.aload_n 0, 1) := by decide +kernel
theorem dX10_count_49 : decode cX10_count 49 = .ok (.getfield 12, 3) := by decide +kernel
theorem dX10_count_52 : decode cX10_count 52 = .ok (.getfield 77, 3) := by decide +kernel
theorem dX10_count_55 : decode cX10_count 55 = .ok (.getfield 100, 3) := by decide +kernel
theorem dX10_count_58 : decode cX10_count 58 = .ok (.ireturn, 1) := by decide +kernel
theorem dX10_count_59 : decode cX10_count 59 = .ok (.aload_n 0, 1) := by decide +kernel
theorem dX10_count_60 : decode cX10_count 60 = .ok (.getfield 12, 3) := by decide +kernel
theorem dX10_count_63 : decode cX10_count 63 = .ok (.getfield 87, 3) := by decide +kernel
theorem dX10_count_66 : decode cX10_count 66 = .ok (.getfield 100, 3) := by decide +kernel
theorem dX10_count_69 : decode cX10_count 69 = .ok (.ireturn, 1) := by decide +kernel
theorem dX10_count_70 : decode cX10_count 70 = .ok (.aload_n 0, 1) := by decide +kernel
theorem dX10_count_71 : decode cX10_count 71 = .ok (.getfield 12, 3) := by decide +kernel
theorem dX10_count_74 : decode cX10_count 74 = .ok (.invokevirtual 213, 3) := by decide +kernel
theorem dX10_count_77 : decode cX10_count 77 = .ok (.ireturn, 1) := by decide +kernel
theorem dX10_count_78 : decode cX10_count 78 = .ok (.aload_n 0, 1) := by decide +kernel
theorem dX10_count_79 : decode cX10_count 79 = .ok (.getfield 12, 3) := by decide +kernel
theorem dX10_count_82 : decode cX10_count 82 = .ok (.invokevirtual 216, 3) := by decide +kernel
theorem dX10_count_85 : decode cX10_count 85 = .ok (.ireturn, 1) := by decide +kernel
theorem dX10_count_86 : decode cX10_count 86 = .ok (.aload_n 0, 1) := by decide +kernel
theorem dX10_count_87 : decode cX10_count 87 = .ok (.getfield 12, 3) := by decide +kernel
theorem dX10_count_90 : decode cX10_count 90 = .ok (.getfield 204, 3) := by decide +kernel
theorem dX10_count_93 : decode cX10_count 93 = .ok (.ireturn, 1) := by decide +kernel
theorem dX10_count_94 : decode cX10_count 94 = .ok (.aload_n 0, 1) := by decide +kernel
theorem dX10_count_95 : decode cX10_count 95 = .ok (.getfield 19, 3) := by decide +kernel
theorem dX10_count_98 : decode cX10_count 98 = .ok (.getfield 219, 3) := by decide +kernel
theorem dX10_count_101 : decode cX10_count 101 = .ok (.ireturn, 1) := by decide +kernel
theorem dX10_count_102 : decode cX10_count 102 = .ok (.aload_n 0, 1) := by decide +kernel
theorem dX10_count_103 : decode cX10_count 103 = .ok (.getfield 26, 3) := by decide +kernel
theorem dX10_count_106 : decode cX10_count 106 = .ok (.getfield 111, 3) := by decide +kernel
theorem dX10_count_109 : decode cX10_count 109 = .ok (.ireturn, 1) := by decide +kernel
theorem dX10_count_110 : decode cX10_count 110 = .ok (.aload_n 0, 1) := by decide +kernel
theorem dX10_count_111 : decode cX10_count 111 = .ok (.getfield 56, 3) := by decide +kernel
theorem dX10_count_114 : decode cX10_count 114 = .ok (.getfield 195, 3) := by decide +kernel
theorem dX10_count_117 : decode cX10_count 117 = .ok (.ifCond .eq 7, 3) := by decide +kernel
theorem dX10_count_120 : decode cX10_count 120 = .ok (.iconst 1, 1) := by decide +kernel
theorem dX10_count_121 : decode cX10_count 121 = .ok (.goto 4, 3) := by decide +kernel
theorem dX10_count_124 : decode cX10_count 124 = .ok (.iconst 0, 1) := by decide +kernel
theorem dX10_count_125 : decode cX10_count 125 = .ok (.ireturn, 1) := by decide +kernel
theorem dX10_count_126 : decode cX10_count 126 = .ok (.bipush (-2), 2) := by decide +kernel
theorem dX10_count_128 : decode cX10_count 128 = .ok (.ireturn, 1) := by decide +kernel
theorem dX10_undo_0 : decode cX10_undo 0 = .ok (.aload_n 0, 1) := by decide +kernel
theorem dX10_undo_1 : decode cX10_undo 1 = .ok (.getfield 56, 3) := by decide +kernel
theorem dX10_undo_4 : decode cX10_undo 4 = .ok (.invokevirtual 220, 3) := by decide +kernel
theorem dX10_undo_7 : decode cX10_undo 7 = .ok (.aload_n 0, 1) := by decide +kernel
theorem dX10_undo_8 : decode cX10_undo 8 = .ok (.getfield 19, 3) := by decide +kernel
theorem dX10_undo_11 : decode cX10_undo 11 = .ok (.aload_n 0, 1) := by decide +kernel
theorem dX10_undo_12 : decode cX10_undo 12 = .ok (.getfield 12, 3) := by decide +kernel
theorem dX10_undo_15 : decode cX10_undo 15 = .ok (.invokevirtual 223, 3) := by decide +kernel
theorem dX10_undo_18 : decode cX10_undo 18 = .ok (.ifCond .eq 13, 3) := by decide +kernel
theorem dX10_undo_21 : decode cX10_undo 21 = .ok (.aload_n 0, 1) := by decide +kernel
theorem dX10_undo_22 : decode cX10_undo 22 = .ok (.getfield 19, 3) := by decide +kernel
theorem dX10_undo_25 : decode cX10_undo 25 = .ok (.getfield 219, 3) := by decide +kernel
theorem dX10_undo_28 : decode cX10_undo 28 = .ok (.goto 4, 3) := by decide +kernel
theorem dX10_undo_31 : decode cX10_undo 31 = .ok (.iconst (-1), 1) := by decide +kernel
theorem dX10_undo_32 : decode cX10_undo 32 = .ok (.ireturn, 1) := by decide +kernel
theorem dX10_beginChange_0 : decode cX10_beginChange 0 = .ok (.aload_n 0, 1) := by decide +kernel
theorem dX10_beginChange_1 : decode cX10_beginChange 1 = .ok (.getfield 19, 3) := by decide +kernel
theorem dX10_beginChange_4 : decode cX10_beginChange 4 = .ok (.aload_n 0, 1) := by decide +kernel
theorem dX10_beginChange_5 : decode cX10_beginChange 5 = .ok (.getfield 12, 3) := by decide +kernel
theorem dX10_beginChange_8 : decode cX10_beginChange 8 = .ok (.invokevirtual 201, 3) := by decide +kernel
theorem dX10_beginChange_11 : decode cX10_beginChange 11 = .ok (.aload_n 0, 1) := by decide +kernel
theorem dX10_beginChange_12 : decode cX10_beginChange 12 = .ok (.getfield 56, 3) := by decide +kernel
theorem dX10_beginChange_15 : decode cX10_beginChange 15 = .ok (.invokevirtual 220, 3) := by decide +kernel
theorem dX10_beginChange_18 : decode cX10_beginChange 18 = .ok (.return_, 1) := by decide +kernel
theorem dX10_addPlace_0 : decode cX10_addPlace 0 = .ok (.iload_n 2, 1) := by decide +kernel
theorem dX10_addPlace_1 : decode cX10_addPlace 1 = .ok (.invokestatic 74, 3) := by decide +kernel
theorem dX10_addPlace_4 : decode cX10_addPlace 4 = .ok (.ifCond .ne 6, 3) := by decide +kernel
theorem dX10_addPlace_7 : decode cX10_addPlace 7 = .ok (.bipush (-2), 2) := by decide +kernel
theorem dX10_addPlace_9 : decode cX10_addPlace 9 = .ok (.ireturn, 1) := by decide +kernel
theorem dX10_addPlace_10 : decode cX10_addPlace 10 = .ok (.aload_n 1, 1) := by decide +kernel
theorem dX10_addPlace_11 : decode cX10_addPlace 11 = .ok (.getfield 100, 3) := by decide +kernel
theorem dX10_addPlace_14 : decode cX10_addPlace 14 = .ok (.bipush 6, 2) := by decide +kernel
theorem dX10_addPlace_16 : decode cX10_addPlace 16 = .ok (.if_icmp .lt 6, 3) := by decide +kernel
theorem dX10_addPlace_19 : decode cX10_addPlace 19 = .ok (.bipush (-3), 2) := by decide +kernel
theorem dX10_addPlace_21 : decode cX10_addPlace 21 = .ok (.ireturn, 1) := by decide +kernel
theorem dX10_addPlace_22 : decode cX10_addPlace 22 = .ok (.aload_n 0, 1) := by decide +kernel
theorem dX10_addPlace_23 : decode cX10_addPlace 23 = .ok (.getfield 12, 3) := by decide +kernel
theorem dX10_addPlace_26 : decode cX10_addPlace 26 = .ok (.getfield 90, 3) := by decide +kernel
theorem dX10_addPlace_29 : decode cX10_addPlace 29 = .ok (.iload_n 2, 1) := by decide +kernel
theorem dX10_addPlace_30 : decode cX10_addPlace 30 = .ok (.iaload, 1) := by decide +kernel
theorem dX10_addPlace_31 : decode cX10_addPlace 31 = .ok (.ifCond .ne 12, 3) := by decide +kernel
theorem dX10_addPlace_34 : decode cX10_addPlace 34 = .ok (.aload_n 1, 1) := by decide +kernel
theorem dX10_addPlace_35 : decode cX10_addPlace 35 = .ok (.iload_n 2, 1) := by decide +kernel
theorem dX10_addPlace_36 : decode cX10_addPlace 36 = .ok (.invokevirtual 81, 3) := by decide +kernel
theorem dX10_addPlace_39 : decode cX10_addPlace 39 = .ok (.iconst (-1), 1) := by decide +kernel
theorem dX10_addPlace_40 : decode cX10_addPlace 40 = .ok (.if_icmp .eq 6, 3) := by decide +kernel
theorem dX10_addPlace_43 : decode cX10_addPlace 43 = .ok (.bipush (-4), 2) := by decide +kernel
theorem dX10_addPlace_45 : decode cX10_addPlace 45 = .ok (.ireturn, 1) := by decide +kernel
theorem dX10_addPlace_46 : decode cX10_addPlace 46 = .ok (.aload_n 0, 1) := by decide +kernel
theorem dX10_addPlace_47 : decode cX10_addPlace 47 = .ok (.invokevirtual 67, 3) := by decide +kernel
theorem dX10_addPlace_50 : decode cX10_addPlace 50 = .ok (.aload_n 1, 1) := by decide +kernel
theorem dX10_addPlace_51 : decode cX10_addPlace 51 = .ok (.iload_n 2, 1) := by decide +kernel
theorem dX10_addPlace_52 : decode cX10_addPlace 52 = .ok (.invokevirtual 227, 3) := by decide +kernel
theorem dX10_addPlace_55 : decode cX10_addPlace 55 = .ok (.aload_n 1, 1) := by decide +kernel
theorem dX10_addPlace_56 : decode cX10_addPlace 56 = .ok (.getfield 100, 3) := by decide +kernel
theorem dX10_addPlace_59 : decode cX10_addPlace 59 = .ok (.iconst 1, 1) := by decide +kernel
theorem dX10_addPlace_60 : decode cX10_addPlace 60 = .ok (.isub, 1) := by decide +kernel
theorem dX10_addPlace_61 : decode cX10_addPlace 61 = .ok (.ireturn, 1) := by decide +kernel
theorem dX10_hasObstacle_0 : decode cX10_hasObstacle 0 = .ok (.iconst 0, 1) := by decide +kernel
theorem dX10_hasObstacle_1 : decode cX10_hasObstacle 1 = .ok (.istore_n 2, 1) := by decide +kernel
theorem dX10_hasObstacle_2 : decode cX10_hasObstacle 2 = .ok (.iload_n 2, 1) := by decide +kernel
theorem dX10_hasObstacle_3 : decode cX10_hasObstacle 3 = .ok (.aload_n 1, 1) := by decide +kernel
theorem dX10_hasObstacle_4 : decode cX10_hasObstacle 4 = .ok (.getfield 100, 3) := by decide +kernel
theorem dX10_hasObstacle_7 : decode cX10_hasObstacle 7 = .ok (.if_icmp .ge 26, 3) := by decide +kernel
theorem dX10_hasObstacle_10 : decode cX10_hasObstacle 10 = .ok (.aload_n 0, 1) := by decide +kernel
theorem dX10_hasObstacle_11 : decode cX10_hasObstacle 11 = .ok (.getfield 12, 3) := by decide +kernel
theorem dX10_hasObstacle_14 : decode cX10_hasObstacle 14 = .ok (.aload_n 1, 1) := by decide +kernel
theorem dX10_hasObstacle_15 : decode cX10_hasObstacle 15 = .ok (.iload_n 2, 1) := by decide +kernel
theorem dX10_hasObstacle_16 : decode cX10_hasObstacle 16 = .ok (.invokevirtual 210, 3) := by decide +kernel
theorem dX10_hasObstacle_19 : decode cX10_hasObstacle 19 = .ok (.invokevirtual 230, 3) := by decide +kernel
theorem dX10_hasObstacle_22 : decode cX10_hasObstacle 22 = .ok (.ifCond .eq 5, 3) := by decide +kernel
theorem dX10_hasObstacle_25 : decode cX10_hasObstacle 25 = .ok (.iconst 1, 1) := by decide +kernel
theorem dX10_hasObstacle_26 : decode cX10_hasObstacle 26 = .ok (.ireturn, 1) := by decide +kernel
theorem dX10_hasObstacle_27 : decode cX10_hasObstacle 27 = .ok (.iinc 2 1, 3) := by decide +kernel
theorem dX10_hasObstacle_30 : decode cX10_hasObstacle 30 = .ok (.goto (-28), 3) := by decide +kernel
theorem dX10_hasObstacle_33 : decode cX10_hasObstacle 33 = .ok (.iconst 0, 1) := by decide +kernel
theorem dX10_hasObstacle_34 : decode cX10_hasObstacle 34 = .ok (.ireturn, 1) := by decide +kernel
theorem dX10_planError_0 : decode cX10_planError 0 = .ok (.aload_n 0, 1) := by decide +kernel
theorem dX10_planError_1 : decode cX10_planError 1 = .ok (.getfield 12, 3) := by decide +kernel
theorem dX10_planError_4 : decode cX10_planError 4 = .ok (.getfield 77, 3) := by decide +kernel
theorem dX10_planError_7 : decode cX10_planError 7 = .ok (.iload_n 1, 1) := by decide +kernel
theorem dX10_planError_8 : decode cX10_planError 8 = .ok (.invokevirtual 140, 3) := by decide +kernel
theorem dX10_planError_11 : decode cX10_planError 11 = .ok (.ifCond .ne 5, 3) := by decide +kernel
theorem dX10_planError_14 : decode cX10_planError 14 = .ok (.iconst (-1), 1) := by decide +kernel
theorem dX10_planError_15 : decode cX10_planError 15 = .ok (.ireturn, 1) := by decide +kernel
theorem dX10_planError_16 : decode cX10_planError 16 = .ok (.iload_n 2, 1) := by decide +kernel
theorem dX10_planError_17 : decode cX10_planError 17 = .ok (.ifCond .ne 6, 3) := by decide +kernel
theorem dX10_planError_20 : decode cX10_planError 20 = .ok (.bipush (-2), 2) := by decide +kernel
theorem dX10_planError_22 : decode cX10_planError 22 = .ok (.ireturn, 1) := by decide +kernel
theorem dX10_planError_23 : decode cX10_planError 23 = .ok (.aload_n 0, 1) := by decide +kernel
theorem dX10_planError_24 : decode cX10_planError 24 = .ok (.getfield 56, 3) := by decide +kernel
theorem dX10_planError_27 : decode cX10_planError 27 = .ok (.getfield 195, 3) := by decide +kernel
theorem dX10_planError_30 : decode cX10_planError 30 = .ok (.ifCond .eq 7, 3) := by decide +kernel
theorem dX10_planError_33 : decode cX10_planError 33 = .ok (.iconst 0, 1) := by decide +kernel
theorem dX10_planError_34 : decode cX10_planError 34 = .ok (.goto 5, 3) := by decide +kernel
theorem dX10_planError_37 : decode cX10_planError 37 = .ok (.bipush (-7), 2) := by decide +kernel
theorem dX10_planError_39 : decode cX10_planError 39 = .ok (.ireturn, 1) := by decide +kernel
theorem dX10_isCell_0 : decode cX10_isCell 0 = .ok (.iload_n 0, 1) := by decide +kernel
theorem dX10_isCell_1 : decode cX10_isCell 1 = .ok (.ifCond .lt 13, 3) := by decide +kernel
theorem dX10_isCell_4 : decode cX10_isCell 4 = .ok (.iload_n 0, 1) := by decide +kernel
theorem dX10_isCell_5 : decode cX10_isCell 5 = .ok (.bipush 108, 2) := by decide +kernel
theorem dX10_isCell_7 : decode cX10_isCell 7 = .ok (.if_icmp .ge 7, 3) := by decide +kernel
theorem dX10_isCell_10 : decode cX10_isCell 10 = .ok (.iconst 1, 1) := by decide +kernel
theorem dX10_isCell_11 : decode cX10_isCell 11 = .ok (.goto 4, 3) := by decide +kernel
theorem dX10_isCell_14 : decode cX10_isCell 14 = .ok (.iconst 0, 1) := by decide +kernel
theorem dX10_isCell_15 : decode cX10_isCell 15 = .ok (.ireturn, 1) := by decide +kernel
theorem dX10_isLayer_0 : decode cX10_isLayer 0 = .ok (.iload_n 0, 1) := by decide +kernel
theorem dX10_isLayer_1 : decode cX10_isLayer 1 = .ok (.ifCond .lt 12, 3) := by decide +kernel
theorem dX10_isLayer_4 : decode cX10_isLayer 4 = .ok (.iload_n 0, 1) := by decide +kernel
theorem dX10_isLayer_5 : decode cX10_isLayer 5 = .ok (.iconst 3, 1) := by decide +kernel
theorem dX10_isLayer_6 : decode cX10_isLayer 6 = .ok (.if_icmp .ge 7, 3) := by decide +kernel
theorem dX10_isLayer_9 : decode cX10_isLayer 9 = .ok (.iconst 1, 1) := by decide +kernel
theorem dX10_isLayer_10 : decode cX10_isLayer 10 = .ok (.goto 4, 3) := by decide +kernel
theorem dX10_isLayer_13 : decode cX10_isLayer 13 = .ok (.iconst 0, 1) := by decide +kernel
theorem dX10_isLayer_14 : decode cX10_isLayer 14 = .ok (.ireturn, 1) := by decide +kernel
theorem dX10_isWind_0 : decode cX10_isWind 0 = .ok (.iload_n 0, 1) := by decide +kernel
theorem dX10_isWind_1 : decode cX10_isWind 1 = .ok (.ifCond .lt 12, 3) := by decide +kernel
theorem dX10_isWind_4 : decode cX10_isWind 4 = .ok (.iload_n 0, 1) := by decide +kernel
theorem dX10_isWind_5 : decode cX10_isWind 5 = .ok (.iconst 5, 1) := by decide +kernel
theorem dX10_isWind_6 : decode cX10_isWind 6 = .ok (.if_icmp .ge 7, 3) := by decide +kernel
theorem dX10_isWind_9 : decode cX10_isWind 9 = .ok (.iconst 1, 1) := by decide +kernel
theorem dX10_isWind_10 : decode cX10_isWind 10 = .ok (.goto 4, 3) := by decide +kernel
theorem dX10_isWind_13 : decode cX10_isWind 13 = .ok (.iconst 0, 1) := by decide +kernel
theorem dX10_isWind_14 : decode cX10_isWind 14 = .ok (.ireturn, 1) := by decide +kernel
theorem dX10_isAction_0 : decode cX10_isAction 0 = .ok (.iload_n 0, 1) := by decide +kernel
theorem dX10_isAction_1 : decode cX10_isAction 1 = .ok (.ifCond .lt 13, 3) := by decide +kernel
theorem dX10_isAction_4 : decode cX10_isAction 4 = .ok (.iload_n 0, 1) := by decide +kernel
theorem dX10_isAction_5 : decode cX10_isAction 5 = .ok (.bipush 7, 2) := by decide +kernel
theorem dX10_isAction_7 : decode cX10_isAction 7 = .ok (.if_icmp .ge 7, 3) := by decide +kernel
theorem dX10_isAction_10 : decode cX10_isAction 10 = .ok (.iconst 1, 1) := by decide +kernel
theorem dX10_isAction_11 : decode cX10_isAction 11 = .ok (.goto 4, 3) := by decide +kernel
theorem dX10_isAction_14 : decode cX10_isAction 14 = .ok (.iconst 0, 1) := by decide +kernel
theorem dX10_isAction_15 : decode cX10_isAction 15 = .ok (.ireturn, 1) := by decide +kernel
theorem dJ9_floorMod_7cf53_0 : decode cJ9_floorMod_7cf53 0 = .ok (.iload_n 0, 1) := by decide +kernel
theorem dJ9_floorMod_7cf53_1 : decode cJ9_floorMod_7cf53 1 = .ok (.iload_n 1, 1) := by decide +kernel
theorem dJ9_floorMod_7cf53_2 : decode cJ9_floorMod_7cf53 2 = .ok (.irem, 1) := by decide +kernel
theorem dJ9_floorMod_7cf53_3 : decode cJ9_floorMod_7cf53 3 = .ok (.istore_n 2, 1) := by decide +kernel
theorem dJ9_floorMod_7cf53_4 : decode cJ9_floorMod_7cf53 4 = .ok (.iload_n 0, 1) := by decide +kernel
theorem dJ9_floorMod_7cf53_5 : decode cJ9_floorMod_7cf53 5 = .ok (.iload_n 1, 1) := by decide +kernel
theorem dJ9_floorMod_7cf53_6 : decode cJ9_floorMod_7cf53 6 = .ok (.ixor, 1) := by decide +kernel
theorem dJ9_floorMod_7cf53_7 : decode cJ9_floorMod_7cf53 7 = .ok (.ifCond .ge 11, 3) := by decide +kernel
theorem dJ9_floorMod_7cf53_10 : decode cJ9_floorMod_7cf53 10 = .ok (.iload_n 2, 1) := by decide +kernel
theorem dJ9_floorMod_7cf53_11 : decode cJ9_floorMod_7cf53 11 = .ok (.ifCond .eq 7, 3) := by decide +kernel
theorem dJ9_floorMod_7cf53_14 : decode cJ9_floorMod_7cf53 14 = .ok (.iload_n 2, 1) := by decide +kernel
theorem dJ9_floorMod_7cf53_15 : decode cJ9_floorMod_7cf53 15 = .ok (.iload_n 1, 1) := by decide +kernel
theorem dJ9_floorMod_7cf53_16 : decode cJ9_floorMod_7cf53 16 = .ok (.iadd, 1) := by decide +kernel
theorem dJ9_floorMod_7cf53_17 : decode cJ9_floorMod_7cf53 17 = .ok (.ireturn, 1) := by decide +kernel
theorem dJ9_floorMod_7cf53_18 : decode cJ9_floorMod_7cf53 18 = .ok (.iload_n 2, 1) := by decide +kernel
theorem dJ9_floorMod_7cf53_19 : decode cJ9_floorMod_7cf53 19 = .ok (.ireturn, 1) := by decide +kernel
theorem dJ9_max_7cf53_0 : decode cJ9_max_7cf53 0 = .ok (.iload_n 0, 1) := by decide +kernel
theorem dJ9_max_7cf53_1 : decode cJ9_max_7cf53 1 = .ok (.iload_n 1, 1) := by decide +kernel
theorem dJ9_max_7cf53_2 : decode cJ9_max_7cf53 2 = .ok (.if_icmp .lt 7, 3) := by decide +kernel
theorem dJ9_max_7cf53_5 : decode cJ9_max_7cf53 5 = .ok (.iload_n 0, 1) := by decide +kernel
theorem dJ9_max_7cf53_6 : decode cJ9_max_7cf53 6 = .ok (.goto 4, 3) := by decide +kernel
theorem dJ9_max_7cf53_9 : decode cJ9_max_7cf53 9 = .ok (.iload_n 1, 1) := by decide +kernel
theorem dJ9_max_7cf53_10 : decode cJ9_max_7cf53 10 = .ok (.ireturn, 1) := by decide +kernel
theorem dJ9_min_7cf53_0 : decode cJ9_min_7cf53 0 = .ok (.iload_n 0, 1) := by decide +kernel
theorem dJ9_min_7cf53_1 : decode cJ9_min_7cf53 1 = .ok (.iload_n 1, 1) := by decide +kernel
theorem dJ9_min_7cf53_2 : decode cJ9_min_7cf53 2 = .ok (.if_icmp .gt 7, 3) := by decide +kernel
theorem dJ9_min_7cf53_5 : decode cJ9_min_7cf53 5 = .ok (.iload_n 0, 1) := by decide +kernel
theorem dJ9_min_7cf53_6 : decode cJ9_min_7cf53 6 = .ok (.goto 4, 3) := by decide +kernel
theorem dJ9_min_7cf53_9 : decode cJ9_min_7cf53 9 = .ok (.iload_n 1, 1) := by decide +kernel
theorem dJ9_min_7cf53_10 : decode cJ9_min_7cf53 10 = .ok (.ireturn, 1) := by decide +kernel
theorem dJ7_fill_53178_0 : decode cJ7_fill_53178 0 = .ok (.iconst 0, 1) := by decide +kernel
theorem dJ7_fill_53178_1 : decode cJ7_fill_53178 1 = .ok (.istore_n 2, 1) := by decide +kernel
theorem dJ7_fill_53178_2 : decode cJ7_fill_53178 2 = .ok (.aload_n 0, 1) := by decide +kernel
theorem dJ7_fill_53178_3 : decode cJ7_fill_53178 3 = .ok (.arraylength, 1) := by decide +kernel
theorem dJ7_fill_53178_4 : decode cJ7_fill_53178 4 = .ok (.istore_n 3, 1) := by decide +kernel
theorem dJ7_fill_53178_5 : decode cJ7_fill_53178 5 = .ok (.iload_n 2, 1) := by decide +kernel
theorem dJ7_fill_53178_6 : decode cJ7_fill_53178 6 = .ok (.iload_n 3, 1) := by decide +kernel
theorem dJ7_fill_53178_7 : decode cJ7_fill_53178 7 = .ok (.if_icmp .ge 13, 3) := by decide +kernel
theorem dJ7_fill_53178_10 : decode cJ7_fill_53178 10 = .ok (.aload_n 0, 1) := by decide +kernel
theorem dJ7_fill_53178_11 : decode cJ7_fill_53178 11 = .ok (.iload_n 2, 1) := by decide +kernel
theorem dJ7_fill_53178_12 : decode cJ7_fill_53178 12 = .ok (.iload_n 1, 1) := by decide +kernel
theorem dJ7_fill_53178_13 : decode cJ7_fill_53178 13 = .ok (.iastore, 1) := by decide +kernel
theorem dJ7_fill_53178_14 : decode cJ7_fill_53178 14 = .ok (.iinc 2 1, 3) := by decide +kernel
theorem dJ7_fill_53178_17 : decode cJ7_fill_53178 17 = .ok (.goto (-12), 3) := by decide +kernel
theorem dJ7_fill_53178_20 : decode cJ7_fill_53178 20 = .ok (.return_, 1) := by decide +kernel
end
section
/-! The world of the class: 135 cells, numbered; ad: where each lies; iv: the numbers in the objects by object and field, ar: the contents of the rows of numbers. -/
def kdl : List (Nat × Nat) := [(10, 0), (8, 0), (12, 3), (12, 108), (5, 0), (12, 6), (5, 0), (12, 6), (3, 0), (15, 10), (8, 0), (12, 3), (12, 108), (5, 0), (12, 6), (5, 0), (12, 6), (8, 0), (12, 3), (12, 108), (5, 0), (12, 6), (5, 0), (12, 6), (8, 0), (12, 3), (12, 108), (5, 0), (12, 6), (5, 0), (12, 6), (8, 0), (12, 3), (12, 108), (5, 0), (12, 6), (5, 0), (12, 6), (8, 0), (12, 3), (12, 108), (5, 0), (12, 6), (5, 0), (12, 6), (8, 0), (12, 3), (12, 108), (5, 0), (12, 6), (5, 0), (12, 6), (8, 0), (12, 3), (12, 108), (5, 0), (12, 6), (5, 0), (12, 6), (8, 0), (12, 3), (12, 108), (5, 0), (12, 6), (5, 0), (12, 6), (2, 0), (12, 60), (5, 0), (12, 6), (4, 0), (12, 756), (9, 0), (12, 108), (0, 0), (16, 78), (12, 6), (12, 6), (9, 0), (12, 108), (9, 0), (12, 108), (9, 0), (12, 108), (9, 0), (12, 108), (9, 0), (12, 108), (9, 0), (12, 108), (6, 0), (9, 0), (12, 108), (7, 0), (12, 6588), (12, 6588), (14, 99), (14, 117), (12, 6), (1, 0), (12, 61), (12, 61), (1, 0), (12, 61), (12, 61), (1, 0), (12, 61), (12, 61), (1, 0), (12, 61), (12, 61), (1, 0), (12, 61), (12, 61), (1, 0), (12, 61), (12, 61), (1, 0), (12, 61), (12, 61), (1, 0), (12, 61), (12, 61), (1, 0), (12, 61), (12, 61), (1, 0), (12, 61), (12, 61), (1, 0), (12, 61), (12, 61), (1, 0), (12, 61), (12, 61)]
def kd (k : Nat) : Nat := (kdl.getD k (99, 0)).1
def ln (k : Nat) : Nat := (kdl.getD k (99, 0)).2
abbrev gIv : Type := Nat → Nat → Int32
abbrev gAr : Type := Nat → Nat → Int32
def gE (cy : Nat → ClassId) (ad : Nat → Nat) (iv : gIv) (ar : gAr) (k : Nat) : va_E := match kd k with
  | 0 => .inr (0, [.ref (ad (1)), .ref (ad (75)), .ref (ad (76)), .ref (ad (77)), .int (iv k 4), .int (iv k 5), .int (iv k 6), .int (iv k 7), .int (iv k 8)])
  | 1 => .inr (1, [.ref (ad (k+1)), .ref (ad (k+2)), .int (iv k 2), .int (iv k 3), .int (iv k 4)])
  | 2 => .inr (2, [.ref (ad (67)), .ref (ad (68)), .int (iv k 2), .int (iv k 3), .int (iv k 4)])
  | 3 => .inr (3, [.ref (ad (9)), .int (iv k 1), .int (iv k 2)])
  | 4 => .inr (4, [.ref (ad (1)), .ref (ad (71))])
  | 5 => .inr (5, [.ref (ad (k+1)), .int (iv k 1)])
  | 6 => .inr (6, [.ref (ad (1)), .ref (ad (70)), .ref (ad (91)), .ref (ad (93)), .ref (ad (96)), .ref (ad (97)), .ref (ad (98)), .int (iv k 7), .int (iv k 8), .int (iv k 9), .int (iv k 10)])
  | 7 => .inr (7, [.ref (ad (70)), .ref (ad (94)), .ref (ad (95))])
  | 8 => .inr (8, [.ref (ad (k+1)), .ref (ad (k+2)), .ref (ad (k+3)), .ref (ad (k+5)), .int (iv k 4)])
  | 9 => .inr (9, [.ref (ad (70)), .ref (ad (k+1))])
  | 10 => .inr (10, [.ref (ad (1)), .ref (ad (8)), .ref (ad (66)), .ref (ad (72)), .ref (ad (74)), .ref (ad (90))])
  | 12 => .inl (cy 0, ln k, .inl (ar k))
  | 14 => .inl (cy 2, 6, .inr (.inr (.inr (.inr (fun j => some (ad (ln k + 3 * j)))))))
  | 15 => .inl (cy 3, 8, .inr (.inr (.inr (.inr (fun j => some (ad (ln k + 7 * j)))))))
  | 16 => .inl (cy 4, 6, .inr (.inr (.inr (.inr (fun j => some (ad (ln k + 2 * j)))))))
  | _ => .inr (99, [])
def GW (cy : Nat → ClassId) (ad : Nat → Nat) (iv : gIv) (ar : gAr) : va_W := (List.range 135).map (fun k => (ad k, gE cy ad iv ar k))
def u2 (iv : gIv) (k j : Nat) (x : Int32) : gIv := fun a b => if a = k ∧ b = j then x else iv a b
theorem u2_s (iv : gIv) (k j : Nat) (x : Int32) : u2 iv k j x k j = x := by simp [u2]
theorem u2_o {iv : gIv} {k j a b : Nat} {x : Int32} (h : ¬ (a = k ∧ b = j)) : u2 iv k j x a b = iv a b := by simp only [u2, if_neg h]
theorem ua_s (ar : gAr) (k : Nat) (f : Nat → Int32) : va_up ar k f k = f := by simp [va_up]
theorem ua_o {ar : gAr} {k a : Nat} {f : Nat → Int32} (h : a ≠ k) : va_up ar k f a = ar a := by simp [va_up, h]
section GWS
variable {cy : Nat → ClassId} {ad : Nat → Nat} {iv iv2 : gIv} {ar ar2 : gAr} {k : Nat} {x : Int32}
theorem GW_get (hk : k < 135) : (GW cy ad iv ar)[k]? = some (ad k, gE cy ad iv ar k) := by simp [GW, hk]
theorem GW_len : (GW cy ad iv ar).length = 135 := by simp [GW]
theorem gE_ext (h1 : ∀ b, iv2 k b = iv k b) (h2 : ar2 k = ar k) : gE cy ad iv2 ar2 k = gE cy ad iv ar k := by simp only [gE, h1, h2]
theorem GW_set (hk : k < 135) {e : va_E} (he : e = gE cy ad iv2 ar2 k) (h1 : ∀ j b, j ≠ k → iv2 j b = iv j b) (h2 : ∀ j, j ≠ k → ar2 j = ar j) : (GW cy ad iv ar).set k (ad k, e) = GW cy ad iv2 ar2 := by
  subst he
  refine List.ext_getElem? (fun j => ?_)
  rw [List.getElem?_set]
  by_cases hj : k = j
  · subst hj
    rw [if_pos rfl, if_pos (by rw [GW_len]; exact hk), GW_get hk]
  · rw [if_neg hj]
    by_cases hl : j < 135
    · rw [GW_get hl, GW_get hl, gE_ext (fun b => h1 j b (fun q => hj q.symm)) (h2 j (fun q => hj q.symm))]
    · rw [List.getElem?_eq_none (by rw [GW_len]; omega), List.getElem?_eq_none (by rw [GW_len]; omega)]
theorem g_at0 (hk : k < 135) (h : kd k = 0) : (GW cy ad iv ar)[k]? = some (ad k, .inr (0, [.ref (ad (1)), .ref (ad (75)), .ref (ad (76)), .ref (ad (77)), .int (iv k 4), .int (iv k 5), .int (iv k 6), .int (iv k 7), .int (iv k 8)])) := by rw [GW_get hk]; simp only [gE, h]
theorem g_at1 (hk : k < 135) (h : kd k = 1) : (GW cy ad iv ar)[k]? = some (ad k, .inr (1, [.ref (ad (k+1)), .ref (ad (k+2)), .int (iv k 2), .int (iv k 3), .int (iv k 4)])) := by rw [GW_get hk]; simp only [gE, h]
theorem g_at2 (hk : k < 135) (h : kd k = 2) : (GW cy ad iv ar)[k]? = some (ad k, .inr (2, [.ref (ad (67)), .ref (ad (68)), .int (iv k 2), .int (iv k 3), .int (iv k 4)])) := by rw [GW_get hk]; simp only [gE, h]
theorem g_at3 (hk : k < 135) (h : kd k = 3) : (GW cy ad iv ar)[k]? = some (ad k, .inr (3, [.ref (ad (9)), .int (iv k 1), .int (iv k 2)])) := by rw [GW_get hk]; simp only [gE, h]
theorem g_at4 (hk : k < 135) (h : kd k = 4) : (GW cy ad iv ar)[k]? = some (ad k, .inr (4, [.ref (ad (1)), .ref (ad (71))])) := by rw [GW_get hk]; simp only [gE, h]
theorem g_at5 (hk : k < 135) (h : kd k = 5) : (GW cy ad iv ar)[k]? = some (ad k, .inr (5, [.ref (ad (k+1)), .int (iv k 1)])) := by rw [GW_get hk]; simp only [gE, h]
theorem g_at6 (hk : k < 135) (h : kd k = 6) : (GW cy ad iv ar)[k]? = some (ad k, .inr (6, [.ref (ad (1)), .ref (ad (70)), .ref (ad (91)), .ref (ad (93)), .ref (ad (96)), .ref (ad (97)), .ref (ad (98)), .int (iv k 7), .int (iv k 8), .int (iv k 9), .int (iv k 10)])) := by rw [GW_get hk]; simp only [gE, h]
theorem g_at7 (hk : k < 135) (h : kd k = 7) : (GW cy ad iv ar)[k]? = some (ad k, .inr (7, [.ref (ad (70)), .ref (ad (94)), .ref (ad (95))])) := by rw [GW_get hk]; simp only [gE, h]
theorem g_at8 (hk : k < 135) (h : kd k = 8) : (GW cy ad iv ar)[k]? = some (ad k, .inr (8, [.ref (ad (k+1)), .ref (ad (k+2)), .ref (ad (k+3)), .ref (ad (k+5)), .int (iv k 4)])) := by rw [GW_get hk]; simp only [gE, h]
theorem g_at9 (hk : k < 135) (h : kd k = 9) : (GW cy ad iv ar)[k]? = some (ad k, .inr (9, [.ref (ad (70)), .ref (ad (k+1))])) := by rw [GW_get hk]; simp only [gE, h]
theorem g_at10 (hk : k < 135) (h : kd k = 10) : (GW cy ad iv ar)[k]? = some (ad k, .inr (10, [.ref (ad (1)), .ref (ad (8)), .ref (ad (66)), .ref (ad (72)), .ref (ad (74)), .ref (ad (90))])) := by rw [GW_get hk]; simp only [gE, h]
theorem g_at12 (hk : k < 135) (h : kd k = 12) : (GW cy ad iv ar)[k]? = some (ad k, .inl (cy 0, ln k, .inl (ar k))) := by rw [GW_get hk]; simp only [gE, h]
theorem g_at14 (hk : k < 135) (h : kd k = 14) : (GW cy ad iv ar)[k]? = some (ad k, .inl (cy 2, 6, .inr (.inr (.inr (.inr (fun j => some (ad (ln k + 3 * j)))))))) := by rw [GW_get hk]; simp only [gE, h]
theorem g_at15 (hk : k < 135) (h : kd k = 15) : (GW cy ad iv ar)[k]? = some (ad k, .inl (cy 3, 8, .inr (.inr (.inr (.inr (fun j => some (ad (ln k + 7 * j)))))))) := by rw [GW_get hk]; simp only [gE, h]
theorem g_at16 (hk : k < 135) (h : kd k = 16) : (GW cy ad iv ar)[k]? = some (ad k, .inl (cy 4, 6, .inr (.inr (.inr (.inr (fun j => some (ad (ln k + 2 * j)))))))) := by rw [GW_get hk]; simp only [gE, h]
theorem g_pt0_4 (hk : k < 135) (h : kd k = 0) : (GW cy ad iv ar).set k (ad k, .inr (0, [.ref (ad (1)), .ref (ad (75)), .ref (ad (76)), .ref (ad (77)), .int x, .int (iv k 5), .int (iv k 6), .int (iv k 7), .int (iv k 8)])) = GW cy ad (u2 iv k 4 x) ar := GW_set hk (by simp only [gE, h]; simp [u2]) (fun j b hj => u2_o (fun q => hj q.1)) (fun _ _ => rfl)
theorem g_pt0_5 (hk : k < 135) (h : kd k = 0) : (GW cy ad iv ar).set k (ad k, .inr (0, [.ref (ad (1)), .ref (ad (75)), .ref (ad (76)), .ref (ad (77)), .int (iv k 4), .int x, .int (iv k 6), .int (iv k 7), .int (iv k 8)])) = GW cy ad (u2 iv k 5 x) ar := GW_set hk (by simp only [gE, h]; simp [u2]) (fun j b hj => u2_o (fun q => hj q.1)) (fun _ _ => rfl)
theorem g_pt0_6 (hk : k < 135) (h : kd k = 0) : (GW cy ad iv ar).set k (ad k, .inr (0, [.ref (ad (1)), .ref (ad (75)), .ref (ad (76)), .ref (ad (77)), .int (iv k 4), .int (iv k 5), .int x, .int (iv k 7), .int (iv k 8)])) = GW cy ad (u2 iv k 6 x) ar := GW_set hk (by simp only [gE, h]; simp [u2]) (fun j b hj => u2_o (fun q => hj q.1)) (fun _ _ => rfl)
theorem g_pt0_7 (hk : k < 135) (h : kd k = 0) : (GW cy ad iv ar).set k (ad k, .inr (0, [.ref (ad (1)), .ref (ad (75)), .ref (ad (76)), .ref (ad (77)), .int (iv k 4), .int (iv k 5), .int (iv k 6), .int x, .int (iv k 8)])) = GW cy ad (u2 iv k 7 x) ar := GW_set hk (by simp only [gE, h]; simp [u2]) (fun j b hj => u2_o (fun q => hj q.1)) (fun _ _ => rfl)
theorem g_pt0_8 (hk : k < 135) (h : kd k = 0) : (GW cy ad iv ar).set k (ad k, .inr (0, [.ref (ad (1)), .ref (ad (75)), .ref (ad (76)), .ref (ad (77)), .int (iv k 4), .int (iv k 5), .int (iv k 6), .int (iv k 7), .int x])) = GW cy ad (u2 iv k 8 x) ar := GW_set hk (by simp only [gE, h]; simp [u2]) (fun j b hj => u2_o (fun q => hj q.1)) (fun _ _ => rfl)
theorem g_pt1_2 (hk : k < 135) (h : kd k = 1) : (GW cy ad iv ar).set k (ad k, .inr (1, [.ref (ad (k+1)), .ref (ad (k+2)), .int x, .int (iv k 3), .int (iv k 4)])) = GW cy ad (u2 iv k 2 x) ar := GW_set hk (by simp only [gE, h]; simp [u2]) (fun j b hj => u2_o (fun q => hj q.1)) (fun _ _ => rfl)
theorem g_pt1_3 (hk : k < 135) (h : kd k = 1) : (GW cy ad iv ar).set k (ad k, .inr (1, [.ref (ad (k+1)), .ref (ad (k+2)), .int (iv k 2), .int x, .int (iv k 4)])) = GW cy ad (u2 iv k 3 x) ar := GW_set hk (by simp only [gE, h]; simp [u2]) (fun j b hj => u2_o (fun q => hj q.1)) (fun _ _ => rfl)
theorem g_pt1_4 (hk : k < 135) (h : kd k = 1) : (GW cy ad iv ar).set k (ad k, .inr (1, [.ref (ad (k+1)), .ref (ad (k+2)), .int (iv k 2), .int (iv k 3), .int x])) = GW cy ad (u2 iv k 4 x) ar := GW_set hk (by simp only [gE, h]; simp [u2]) (fun j b hj => u2_o (fun q => hj q.1)) (fun _ _ => rfl)
theorem g_pt2_2 (hk : k < 135) (h : kd k = 2) : (GW cy ad iv ar).set k (ad k, .inr (2, [.ref (ad (67)), .ref (ad (68)), .int x, .int (iv k 3), .int (iv k 4)])) = GW cy ad (u2 iv k 2 x) ar := GW_set hk (by simp only [gE, h]; simp [u2]) (fun j b hj => u2_o (fun q => hj q.1)) (fun _ _ => rfl)
theorem g_pt2_3 (hk : k < 135) (h : kd k = 2) : (GW cy ad iv ar).set k (ad k, .inr (2, [.ref (ad (67)), .ref (ad (68)), .int (iv k 2), .int x, .int (iv k 4)])) = GW cy ad (u2 iv k 3 x) ar := GW_set hk (by simp only [gE, h]; simp [u2]) (fun j b hj => u2_o (fun q => hj q.1)) (fun _ _ => rfl)
theorem g_pt2_4 (hk : k < 135) (h : kd k = 2) : (GW cy ad iv ar).set k (ad k, .inr (2, [.ref (ad (67)), .ref (ad (68)), .int (iv k 2), .int (iv k 3), .int x])) = GW cy ad (u2 iv k 4 x) ar := GW_set hk (by simp only [gE, h]; simp [u2]) (fun j b hj => u2_o (fun q => hj q.1)) (fun _ _ => rfl)
theorem g_pt3_1 (hk : k < 135) (h : kd k = 3) : (GW cy ad iv ar).set k (ad k, .inr (3, [.ref (ad (9)), .int x, .int (iv k 2)])) = GW cy ad (u2 iv k 1 x) ar := GW_set hk (by simp only [gE, h]; simp [u2]) (fun j b hj => u2_o (fun q => hj q.1)) (fun _ _ => rfl)
theorem g_pt3_2 (hk : k < 135) (h : kd k = 3) : (GW cy ad iv ar).set k (ad k, .inr (3, [.ref (ad (9)), .int (iv k 1), .int x])) = GW cy ad (u2 iv k 2 x) ar := GW_set hk (by simp only [gE, h]; simp [u2]) (fun j b hj => u2_o (fun q => hj q.1)) (fun _ _ => rfl)
theorem g_pt5_1 (hk : k < 135) (h : kd k = 5) : (GW cy ad iv ar).set k (ad k, .inr (5, [.ref (ad (k+1)), .int x])) = GW cy ad (u2 iv k 1 x) ar := GW_set hk (by simp only [gE, h]; simp [u2]) (fun j b hj => u2_o (fun q => hj q.1)) (fun _ _ => rfl)
theorem g_pt6_7 (hk : k < 135) (h : kd k = 6) : (GW cy ad iv ar).set k (ad k, .inr (6, [.ref (ad (1)), .ref (ad (70)), .ref (ad (91)), .ref (ad (93)), .ref (ad (96)), .ref (ad (97)), .ref (ad (98)), .int x, .int (iv k 8), .int (iv k 9), .int (iv k 10)])) = GW cy ad (u2 iv k 7 x) ar := GW_set hk (by simp only [gE, h]; simp [u2]) (fun j b hj => u2_o (fun q => hj q.1)) (fun _ _ => rfl)
theorem g_pt6_8 (hk : k < 135) (h : kd k = 6) : (GW cy ad iv ar).set k (ad k, .inr (6, [.ref (ad (1)), .ref (ad (70)), .ref (ad (91)), .ref (ad (93)), .ref (ad (96)), .ref (ad (97)), .ref (ad (98)), .int (iv k 7), .int x, .int (iv k 9), .int (iv k 10)])) = GW cy ad (u2 iv k 8 x) ar := GW_set hk (by simp only [gE, h]; simp [u2]) (fun j b hj => u2_o (fun q => hj q.1)) (fun _ _ => rfl)
theorem g_pt6_9 (hk : k < 135) (h : kd k = 6) : (GW cy ad iv ar).set k (ad k, .inr (6, [.ref (ad (1)), .ref (ad (70)), .ref (ad (91)), .ref (ad (93)), .ref (ad (96)), .ref (ad (97)), .ref (ad (98)), .int (iv k 7), .int (iv k 8), .int x, .int (iv k 10)])) = GW cy ad (u2 iv k 9 x) ar := GW_set hk (by simp only [gE, h]; simp [u2]) (fun j b hj => u2_o (fun q => hj q.1)) (fun _ _ => rfl)
theorem g_pt6_10 (hk : k < 135) (h : kd k = 6) : (GW cy ad iv ar).set k (ad k, .inr (6, [.ref (ad (1)), .ref (ad (70)), .ref (ad (91)), .ref (ad (93)), .ref (ad (96)), .ref (ad (97)), .ref (ad (98)), .int (iv k 7), .int (iv k 8), .int (iv k 9), .int x])) = GW cy ad (u2 iv k 10 x) ar := GW_set hk (by simp only [gE, h]; simp [u2]) (fun j b hj => u2_o (fun q => hj q.1)) (fun _ _ => rfl)
theorem g_pt8_4 (hk : k < 135) (h : kd k = 8) : (GW cy ad iv ar).set k (ad k, .inr (8, [.ref (ad (k+1)), .ref (ad (k+2)), .ref (ad (k+3)), .ref (ad (k+5)), .int x])) = GW cy ad (u2 iv k 4 x) ar := GW_set hk (by simp only [gE, h]; simp [u2]) (fun j b hj => u2_o (fun q => hj q.1)) (fun _ _ => rfl)
theorem g_pt12 {f : Nat → Int32} (hk : k < 135) (h : kd k = 12) : (GW cy ad iv ar).set k (ad k, .inl (cy 0, ln k, .inl f)) = GW cy ad iv (va_up ar k f) := GW_set hk (by simp only [gE, h]; simp [va_up]) (fun _ _ _ => rfl) (fun j hj => ua_o hj)
end GWS
def gInj (ad : Nat → Nat) : Prop := ∀ i j, i < 135 → j < 135 → ad i = ad j → i = j
def gA (ad : Nat → Nat) (sz : Nat) : Nat → Prop := fun q => (∃ k, k < 135 ∧ q = ad k) ∨ sz ≤ q
theorem gD {cy : Nat → ClassId} {ad : Nat → Nat} {iv : gIv} {ar : gAr} {sz : Nat} (hI : gInj ad) : va_D (gA ad sz) (GW cy ad iv ar) := by
  have key : ∀ (k : Nat) (q : Nat × va_E), (GW cy ad iv ar)[k]? = some q → k < 135 ∧ q.1 = ad k := by
    intro k q h
    have hk : k < 135 := by rw [← GW_len (cy := cy) (ad := ad) (iv := iv) (ar := ar)]; exact (List.getElem?_eq_some_iff.mp h).1
    rw [GW_get hk] at h
    exact ⟨hk, by rw [← Option.some.inj h]⟩
  exact ⟨fun i j p q hi hj e => hI i j (key i p hi).1 (key j q hj).1 (by rw [← (key i p hi).2, ← (key j q hj).2, e]), fun k q h => Or.inl ⟨k, (key k q h).1, (key k q h).2⟩⟩
def gty (cy : Nat → ClassId) : List (ClassId × FieldType) := [(cy 0, .int), (cy 2, .object "FormationPlanner$Flight"), (cy 3, .object "FormationPlanner$Scene"), (cy 4, .object "FormationPlanner$TimesTo")]
def tBACK (j : Nat) : Int32 := [0, 2, 1, 4, 3, 6, 5].getD j 0
def tCOL (j : Nat) : Int32 := [0, 1, -1, 0, 0, 0, 0].getD j 0
def tROW (j : Nat) : Int32 := [0, 0, 0, 1, -1, 0, 0].getD j 0
def tLAY (j : Nat) : Int32 := [0, 0, 0, 0, 0, 1, -1].getD j 0
def gSt1 (n : String) (f : Nat → Int32) (A : Nat → Prop) (U : State) (H : Heap) : Prop := ∃ t : Nat, va_Z "FormationPlanner" n "[I" (.ref t) A U H ∧ va_T .int t 7 (fun j => .int (f j)) A U H
def gSt (A : Nat → Prop) (U : State) (H : Heap) : Prop := gSt1 "BACK" tBACK A U H ∧ gSt1 "COLUMN_STEP" tCOL A U H ∧ gSt1 "ROW_STEP" tROW A U H ∧ gSt1 "LAYER_STEP" tLAY A U H
theorem gSt1.moved {n : String} {f : Nat → Int32} {A : Nat → Prop} {u U : State} {H : Heap} (hvm : u.vm.Alike U.vm) (h : gSt1 n f A u H) : gSt1 n f A U H := by
  obtain ⟨t, h1, h2⟩ := h
  exact ⟨t, h1.moved hvm, h2.moved hvm⟩
theorem gSt.moved {A : Nat → Prop} {u U : State} {H : Heap} (hvm : u.vm.Alike U.vm) (h : gSt A u H) : gSt A U H := ⟨h.1.moved hvm, h.2.1.moved hvm, h.2.2.1.moved hvm, h.2.2.2.moved hvm⟩
theorem gSt1.pass {n : String} {f : Nat → Int32} {A B : Nat → Prop} {U : State} {H H1 : Heap} (h : gSt1 n f A U H) (hq : ∀ a : Nat, a < H.size → ¬ A a → H1[a]? = H[a]?) (hAB : ∀ q, B q → A q) : gSt1 n f B U H1 := by
  obtain ⟨t, h1, h2⟩ := h
  exact ⟨t, (h1.kept hq).narrow hAB, (h2.kept hq).narrow hAB⟩
theorem gSt.pass {A B : Nat → Prop} {U : State} {H H1 : Heap} (h : gSt A U H) (hq : ∀ a : Nat, a < H.size → ¬ A a → H1[a]? = H[a]?) (hAB : ∀ q, B q → A q) : gSt B U H1 := ⟨h.1.pass hq hAB, h.2.1.pass hq hAB, h.2.2.1.pass hq hAB, h.2.2.2.pass hq hAB⟩
def gNest : List Cond := [Cond.fieldLinkNest "FormationPlanner$Lattice" 38 "FormationPlanner" "BACK" "[I" "FormationPlanner", Cond.fieldLinkNest "FormationPlanner$Lattice" 41 "FormationPlanner" "COLUMN_STEP" "[I" "FormationPlanner", Cond.fieldLinkNest "FormationPlanner$Lattice" 44 "FormationPlanner" "ROW_STEP" "[I" "FormationPlanner", Cond.fieldLinkNest "FormationPlanner$Lattice" 47 "FormationPlanner" "LAYER_STEP" "[I" "FormationPlanner", Cond.fieldLinkNest "FormationPlanner$TimesTo" 59 "FormationPlanner" "BACK" "[I" "FormationPlanner", Cond.methodLinkNest RX10 11 yX8_init "FormationPlanner", Cond.methodLinkNest RX10 25 yX2_init "FormationPlanner", Cond.methodLinkNest RX2 17 yX5_init "FormationPlanner", Cond.methodLinkNest RX3 17 yX8_init "FormationPlanner", Cond.methodLinkNest RX4 23 yX10_isCell "FormationPlanner", Cond.methodLinkNest RX4 27 yX10_isAction "FormationPlanner", Cond.methodLinkNest RX4 50 yX10_isLayer "FormationPlanner", Cond.methodLinkNest RX6 52 yX1_init "FormationPlanner", Cond.methodLinkNest RX7 83 yX10_isCell "FormationPlanner", Cond.methodLinkNest RX8 20 yX5_init "FormationPlanner", Cond.methodLinkNest RX8 28 yX10_isCell "FormationPlanner", Cond.methodLinkNest RX9 25 yX10_isCell "FormationPlanner"]
def gNw (U : State) : Prop := ∀ w ∈ gNest, va_Nw w U
theorem gNw.warm {s U : State} (hW : s.WarmedH U.vm) (h : gNw s) : gNw U := by
  intro w hw
  have h1 := h w hw
  simp only [gNest, List.mem_cons, List.not_mem_nil, or_false] at hw
  rcases hw with rfl | rfl | rfl | rfl | rfl | rfl | rfl | rfl | rfl | rfl | rfl | rfl | rfl | rfl | rfl | rfl | rfl <;> first | exact h1.warmF hW | exact va_Nw.warmF hW h1 | exact va_Nw.warmM hW h1
theorem gNw.same {s U : State} (hW : s.vm = U.vm) (h : gNw s) : gNw U := by
  intro w hw
  have h1 := h w hw
  simp only [gNest, List.mem_cons, List.not_mem_nil, or_false] at hw
  rcases hw with rfl | rfl | rfl | rfl | rfl | rfl | rfl | rfl | rfl | rfl | rfl | rfl | rfl | rfl | rfl | rfl | rfl <;> exact va_Nw.same rfl hW h1
def gPre (D : va_G) (cy : Nat → ClassId) (ad : Nat → Nat) (sz : Nat) (iv : gIv) (ar : gAr) (U : State) : Prop := U.heap.size = sz ∧ va_P D vwCl (GW cy ad iv ar) U.heap ∧ va_K D vwCl (gty cy) U ∧ gSt (gA ad sz) U U.heap ∧ gNw U
def gPost (D : va_G) (cy : Nat → ClassId) (ad : Nat → Nat) (u : gIv × gAr) (t : State) : Prop := va_P D vwCl (GW cy ad u.1 u.2) t.heap
theorem gPre.blind {D : va_G} {cy : Nat → ClassId} {ad : Nat → Nat} {sz : Nat} {iv : gIv} {ar : gAr} {av : List Value} : FrameBlind (va_Pc av (gPre D cy ad sz iv ar)) := fun a U g mk q => by
  obtain ⟨q0, q1, q2, q3, q4, q5⟩ := q
  exact ⟨q0, q1, q2, va_K.moved (u := U) (U := U.calling g mk a) (Vm.Alike.refl U.vm) q3, gSt.moved (u := U) (U := U.calling g mk a) (Vm.Alike.refl U.vm) q4, gNw.same (s := U) (U := U.calling g mk a) rfl q5⟩
theorem gA_mono {ad : Nat → Nat} {a b : Nat} (h : a ≤ b) : ∀ q, gA ad b q → gA ad a q := fun q hq => hq.elim (fun z => Or.inl z) (fun z => Or.inr (Nat.le_trans h z))
section GC
variable {p : Program} {l : Launch} {e : Env} {R : Room} {s : State} {m : MethodId} {args : Array Value} {below : List Frame} {meth : Method} {c : Code} {H : Heap} {locs : List Loc} {cells slots : Nat} {Q : State → Prop} {D : va_G} {cy : Nat → ClassId} {ad : Nat → Nat} {iv : gIv} {ar : gAr} {pc : Nat} {ls : Array Slot} {rest st0 : List Value} {a : Array Value}
theorem gPre.at {U : State} (hP : va_P D vwCl (GW cy ad iv ar) H) (hK : va_K D vwCl (gty cy) s) (hSt : gSt (gA ad s.heap.size) s s.heap) (hNw : gNw s) (hS : va_S (gA ad s.heap.size) s.heap H locs) (hU : U.heap = H) (hW : s.WarmedH U.vm) : gPre D cy ad H.size iv ar U :=
  ⟨by rw [hU], by rw [hU]; exact hP, hK.moved hW.alike, by rw [hU]; exact (hSt.pass hS.2.1 (gA_mono hS.1)).moved hW.alike, hNw.warm hW⟩
theorem g_preV {k ci : Nat} {fs As : List Value} {q : vw_C} (hP : va_P D vwCl (GW cy ad iv ar) H) (hK : va_K D vwCl (gty cy) s) (hSt : gSt (gA ad s.heap.size) s s.heap) (hNw : gNw s) (hS : va_S (gA ad s.heap.size) s.heap H locs) (he : (GW cy ad iv ar)[k]? = some (ad k, .inr (ci, fs))) (hc : vwCl[ci]? = some q) : PreV s H q.1 (ad k) (va_Pc (.ref (ad k) :: As) (gPre D cy ad H.size iv ar)) As :=
  ⟨gPre.blind, va_recv hK hP hc he, fun U hU hW => ⟨rfl, gPre.at hP hK hSt hNw hS hU hW⟩⟩
theorem g_preS {As : List Value} (hP : va_P D vwCl (GW cy ad iv ar) H) (hK : va_K D vwCl (gty cy) s) (hSt : gSt (gA ad s.heap.size) s s.heap) (hNw : gNw s) (hS : va_S (gA ad s.heap.size) s.heap H locs) : PreS s H (va_Pc As (gPre D cy ad H.size iv ar)) As :=
  ⟨gPre.blind, fun U hU hW => ⟨rfl, gPre.at hP hK hSt hNw hS hU hW⟩⟩
theorem g_preT {As : List Value} : PreS s H (va_Pc As (fun _ => True)) As := ⟨fun a U g mk q => q, fun U _ _ => ⟨rfl, trivial⟩⟩
theorem g_calli {post : Int32 → gIv × gAr → Prop} (hr : va_Run p l e R s m args below meth c H locs cells slots 0 0 (F0 m pc ls st0) rest (va_Qi post (gPost D cy ad) (gA ad H.size) a) (gA ad H.size)) (hS : va_S (gA ad s.heap.size) s.heap H locs)
    (kk : ∀ (r : Int32) (iv1 : gIv) (ar1 : gAr) (H1 : Heap) (locs1 : List Loc), post r (iv1, ar1) → va_P D vwCl (GW cy ad iv1 ar1) H1 → va_S (gA ad s.heap.size) s.heap H1 locs1 → W p l e R s m args below meth c H1 locs1 cells slots Q (F0 m (pc + 3) ls (.int r :: rest))) : W p l e R s m args below meth c H locs cells slots Q (F0 m pc ls st0) :=
  va_calli hr hS (fun q _ h => gA_mono hS.1 q h) (gA_mono hS.1) (fun r u t H1 locs1 ht _ hp hb _ _ hS1 => kk r u.1 u.2 H1 locs1 hp (by rw [← ht]; exact hb) hS1)
theorem g_callv {post : gIv × gAr → Prop} (hr : va_Run p l e R s m args below meth c H locs cells slots 0 0 (F0 m pc ls st0) rest (va_Qv post (gPost D cy ad) (gA ad H.size) a) (gA ad H.size)) (hS : va_S (gA ad s.heap.size) s.heap H locs)
    (kk : ∀ (iv1 : gIv) (ar1 : gAr) (H1 : Heap) (locs1 : List Loc), post (iv1, ar1) → va_P D vwCl (GW cy ad iv1 ar1) H1 → va_S (gA ad s.heap.size) s.heap H1 locs1 → W p l e R s m args below meth c H1 locs1 cells slots Q (F0 m (pc + 3) ls rest)) : W p l e R s m args below meth c H locs cells slots Q (F0 m pc ls st0) :=
  va_callv hr hS (fun q _ h => gA_mono hS.1 q h) (gA_mono hS.1) (fun u t H1 locs1 ht _ hp hb _ _ hS1 => kk u.1 u.2 H1 locs1 hp (by rw [← ht]; exact hb) hS1)
theorem g_callSi {post : Int32 → Prop} (hr : va_Run p l e R s m args below meth c H locs cells slots 0 0 (F0 m pc ls st0) rest (vp_Si post a) (fun _ => False))
    (kk : ∀ r : Int32, post r → W p l e R s m args below meth c H locs cells slots Q (F0 m (pc + 3) ls (.int r :: rest))) : W p l e R s m args below meth c H locs cells slots Q (F0 m pc ls st0) := by
  intro T hT X
  obtain ⟨v, st₀, t, T', L, h0, X', hL, e1, -, ⟨r, hv, hp, hh⟩, st⟩ := hr T hT X
  cases hv
  obtain ⟨t2, a1, b1⟩ := kk r hp T' (by rw [e1, hh, h0]) (Stand.forget X' (fun q h => (hL q h).elim))
  exact ⟨t2, st t2 a1, b1⟩
theorem g_callSv {post : Unit → Prop} (hr : va_Run p l e R s m args below meth c H locs cells slots 0 0 (F0 m pc ls st0) rest (va_Sv post a) (fun _ => False))
    (kk : post () → W p l e R s m args below meth c H locs cells slots Q (F0 m (pc + 3) ls rest)) : W p l e R s m args below meth c H locs cells slots Q (F0 m pc ls st0) := by
  intro T hT X
  obtain ⟨v, st₀, t, T', L, h0, X', hL, e1, -, ⟨hv, hp, hh⟩, st⟩ := hr T hT X
  cases hv
  obtain ⟨t2, a1, b1⟩ := kk hp T' (by rw [e1, hh, h0]) (Stand.forget X' (fun q h => (hL q h).elim))
  exact ⟨t2, st t2 a1, b1⟩
theorem g_callSr {post : Nat → Prop} {adr : Nat → Value} (hr : va_Run p l e R s m args below meth c H locs cells slots 0 0 (F0 m pc ls st0) rest (va_Sr post adr a) (fun _ => False))
    (kk : ∀ r : Nat, post r → W p l e R s m args below meth c H locs cells slots Q (F0 m (pc + 3) ls (adr r :: rest))) : W p l e R s m args below meth c H locs cells slots Q (F0 m pc ls st0) := by
  intro T hT X
  obtain ⟨v, st₀, t, T', L, h0, X', hL, e1, -, ⟨r, hv, hp, hh⟩, st⟩ := hr T hT X
  cases hv
  obtain ⟨t2, a1, b1⟩ := kk r hp T' (by rw [e1, hh, h0]) (Stand.forget X' (fun q h => (hL q h).elim))
  exact ⟨t2, st t2 a1, b1⟩
end GC
-- Int32 as whole numbers
theorem i_add {x y z : Int32} {a b : Int} (hx : x.toInt = a) (hy : y.toInt = b) (h1 : -2147483648 ≤ a + b) (h2 : a + b < 2147483648) (e : z = x + y) : z.toInt = a + b := by
  subst e; subst hx; subst hy
  rw [Int32.toInt_add, Int.bmod_eq_of_le (by omega) (by omega)]
theorem i_sub {x y z : Int32} {a b : Int} (hx : x.toInt = a) (hy : y.toInt = b) (h1 : -2147483648 ≤ a - b) (h2 : a - b < 2147483648) (e : z = x - y) : z.toInt = a - b := by
  subst e; subst hx; subst hy
  rw [Int32.toInt_sub, Int.bmod_eq_of_le (by omega) (by omega)]
theorem i_mul {x y z : Int32} {a b : Int} (hx : x.toInt = a) (hy : y.toInt = b) (h1 : -2147483648 ≤ a * b) (h2 : a * b < 2147483648) (e : z = x * y) : z.toInt = a * b := by
  subst e; subst hx; subst hy
  rw [Int32.toInt_mul, Int.bmod_eq_of_le (by omega) (by omega)]
theorem i_rng (x : Int32) : -2147483648 ≤ x.toInt ∧ x.toInt < 2147483648 := ⟨by have := Int32.le_toInt x; omega, by have := Int32.toInt_lt x; omega⟩
theorem i_le {x y : Int32} (h : x ≤ y) : x.toInt ≤ y.toInt := Int32.le_iff_toInt_le.mp h
theorem i_nle {x y : Int32} (h : ¬ x ≤ y) : y.toInt < x.toInt := Int.not_le.mp (fun q => h (Int32.le_iff_toInt_le.mpr q))
theorem i_lt {x y : Int32} (h : x < y) : x.toInt < y.toInt := Int32.lt_iff_toInt_lt.mp h
theorem i_nlt {x y : Int32} (h : ¬ x < y) : y.toInt ≤ x.toInt := Int.not_lt.mp (fun q => h (Int32.lt_iff_toInt_lt.mpr q))
theorem i_eq {x y : Int32} (h : x = y) : x.toInt = y.toInt := congrArg _ h
theorem i_ne {x y : Int32} (h : ¬ x = y) : x.toInt ≠ y.toInt := fun q => h (Int32.toInt_inj.mp q)
theorem i_of {x y : Int32} (h : x.toInt = y.toInt) : x = y := Int32.toInt_inj.mp h
theorem i_le2 {x y : Int32} {a b : Int} (hx : x.toInt = a) (hy : y.toInt = b) (h : x ≤ y) : a ≤ b := by subst hx; subst hy; exact i_le h
theorem i_nle2 {x y : Int32} {a b : Int} (hx : x.toInt = a) (hy : y.toInt = b) (h : ¬ x ≤ y) : b < a := by subst hx; subst hy; exact i_nle h
theorem i_lt2 {x y : Int32} {a b : Int} (hx : x.toInt = a) (hy : y.toInt = b) (h : x < y) : a < b := by subst hx; subst hy; exact i_lt h
theorem i_nlt2 {x y : Int32} {a b : Int} (hx : x.toInt = a) (hy : y.toInt = b) (h : ¬ x < y) : b ≤ a := by subst hx; subst hy; exact i_nlt h
theorem i_eq2 {x y : Int32} {a b : Int} (hx : x.toInt = a) (hy : y.toInt = b) (h : x = y) : a = b := by subst hx; subst hy; exact i_eq h
theorem i_ne2 {x y : Int32} {a b : Int} (hx : x.toInt = a) (hy : y.toInt = b) (h : ¬ x = y) : a ≠ b := by subst hx; subst hy; exact i_ne h
theorem i_max {x y z : Int32} {a b : Int} (hx : x.toInt = a) (hy : y.toInt = b) (e : z = if x < y then y else x) : z.toInt = max a b := by
  subst e; subst hx; subst hy
  by_cases h : x < y
  · rw [if_pos h]; have := i_lt h; omega
  · rw [if_neg h]; have := i_nlt h; omega
theorem i_min {x y z : Int32} {a b : Int} (hx : x.toInt = a) (hy : y.toInt = b) (e : z = if y < x then y else x) : z.toInt = min a b := by
  subst e; subst hx; subst hy
  by_cases h : y < x
  · rw [if_pos h]; have := i_lt h; omega
  · rw [if_neg h]; have := i_nlt h; omega
theorem i_div {x y z : Int32} {a b : Int} (hx : x.toInt = a) (hy : y.toInt = b) (h0 : 0 ≤ a) (hb : 0 < b) (e : z = x / y) : z.toInt = a / b := by
  have h1 := i_rng x
  have h2 : a / b ≤ a := Int.ediv_le_self _ h0
  have h3 : 0 ≤ a / b := Int.ediv_nonneg h0 (by omega)
  subst e; subst hx; subst hy
  rw [Int32.toInt_div, Int.tdiv_eq_ediv_of_nonneg h0, Int.bmod_eq_of_le (by omega) (by omega)]
theorem i_rem {x y z : Int32} {a b : Int} (hx : x.toInt = a) (hy : y.toInt = b) (h0 : 0 ≤ a) (hb : 0 < b) (e : z = x - x / y * y) : z.toInt = a % b := by
  have h1 := i_rng x
  have h2 : a / b ≤ a := Int.ediv_le_self _ h0
  have h3 : 0 ≤ a / b := Int.ediv_nonneg h0 (by omega)
  have h4 : a / b * b ≤ a := Int.ediv_mul_le _ (by omega)
  have h5 : 0 ≤ a / b * b := Int.mul_nonneg h3 (by omega)
  have e1 : (x / y).toInt = a / b := i_div hx hy h0 hb rfl
  have e2 : (x / y * y).toInt = a / b * b := i_mul e1 hy (by omega) (by omega) rfl
  rw [i_sub hx e2 (by omega) (by omega) e, Int.emod_def, Int.mul_comm b]
theorem g_in {i : Int32} {n N : Nat} {a : Int} (hi : i.toInt = a) (h : n = N) (h0 : 0 ≤ a) (h1 : a < N) : vp_in i n := vp_in_iff.mpr ⟨by omega, by omega⟩
theorem g_le3 {n0 N a b : Nat} (h : n0 = N) (h2 : a + b ≤ N) : a + b ≤ n0 := by omega
theorem g_cl {x : Int32} {a : Int} {N : Nat} (hx : x.toInt = a) (h0 : 0 ≤ a) (h1 : a < N) : x.toNatClampNeg < N := by
  have : x.toNatClampNeg = x.toInt.toNat := rfl
  omega
theorem g_cN {x : Int32} {a : Int} (hx : x.toInt = a) : x.toNatClampNeg = a.toNat := by subst hx; rfl
theorem g_un {f : Nat → Int32} {i j : Nat} {x : Int32} (h : j ≠ i) : upd f i x j = f j := pk_un h
theorem g_ch96 {j : Nat} (h : j < 6) : ln 96 + 3 * j < 135 ∧ kd (ln 96 + 3 * j) = 1 := (by decide +kernel : ∀ j, j < 6 → (ln 96 + 3 * j < 135 ∧ kd (ln 96 + 3 * j) = 1)) j h
theorem g_ch97 {j : Nat} (h : j < 6) : ln 97 + 3 * j < 135 ∧ kd (ln 97 + 3 * j) = 1 := (by decide +kernel : ∀ j, j < 6 → (ln 97 + 3 * j < 135 ∧ kd (ln 97 + 3 * j) = 1)) j h
theorem g_ch9 {j : Nat} (h : j < 8) : ln 9 + 7 * j < 135 ∧ kd (ln 9 + 7 * j) = 8 := (by decide +kernel : ∀ j, j < 8 → (ln 9 + 7 * j < 135 ∧ kd (ln 9 + 7 * j) = 8)) j h
theorem g_ch75 {j : Nat} (h : j < 6) : ln 75 + 2 * j < 135 ∧ kd (ln 75 + 2 * j) = 9 := (by decide +kernel : ∀ j, j < 6 → (ln 75 + 2 * j < 135 ∧ kd (ln 75 + 2 * j) = 9)) j h
-- the class's state behind its constructor
def nbN (c a : Nat) : Int := if a = 1 then (if c % 6 < 5 then c + 1 else -1) else if a = 2 then (if 0 < c % 6 then (c : Int) - 1 else -1) else if a = 3 then (if c / 6 % 6 < 5 then c + 6 else -1) else if a = 4 then (if 0 < c / 6 % 6 then (c : Int) - 6 else -1) else if a = 5 then (if c < 72 then c + 36 else -1) else if a = 6 then (if 36 ≤ c then (c : Int) - 36 else -1) else c
def gFr (iv : gIv) (ar : gAr) : Prop := (∀ k j, ¬ (k = 90 ∧ j = 8) → iv k j = 0) ∧ iv 90 8 = -1 ∧ (∀ k i, k ≠ 71 → ar k i = 0) ∧ ∀ c a, c < 108 → a < 7 → (ar 71 (c * 7 + a)).toInt = nbN c a
theorem fr0 {iv : gIv} {ar : gAr} (h : gFr iv ar) (k j : Nat) (hn : ¬ (k = 90 ∧ j = 8)) : (iv k j).toInt = 0 := by rw [h.1 k j hn]; rfl
theorem frm {iv : gIv} {ar : gAr} (h : gFr iv ar) : (iv 90 8).toInt = -1 := by rw [h.2.1]; rfl
theorem fra {iv : gIv} {ar : gAr} (h : gFr iv ar) (k i : Nat) (hn : k ≠ 71) : (ar k i).toInt = 0 := by rw [h.2.2.1 k i hn]; rfl
theorem fru {iv : gIv} {ar : gAr} (h : gFr iv ar) (k j : Nat) (hn : ¬ (k = 90 ∧ j = 8)) {x : Int32} (hx : x.toInt = 0) : gFr (u2 iv k j x) ar := by
  have hx0 : x = 0 := i_of (hx.trans (rfl : (0 : Int) = (0 : Int32).toInt))
  subst hx0
  refine ⟨fun a b hab => ?_, ?_, h.2.2.1, h.2.2.2⟩
  · by_cases q : a = k ∧ b = j
    · rw [q.1, q.2, u2_s]
    · rw [u2_o q, h.1 a b hab]
  · rw [u2_o (fun q => hn ⟨q.1.symm, q.2.symm⟩), h.2.1]
theorem i_l0 : (0 : Int32).toInt = 0 := rfl
theorem i_l1 : (1 : Int32).toInt = 1 := rfl
theorem i_m1 : (-1 : Int32).toInt = -1 := rfl
theorem i_m2 : (-2 : Int32).toInt = -2 := rfl
theorem i_m3 : (-3 : Int32).toInt = -3 := rfl
theorem i_m4 : (-4 : Int32).toInt = -4 := rfl
theorem i_m5 : (-5 : Int32).toInt = -5 := rfl
theorem i_m6 : (-6 : Int32).toInt = -6 := rfl
theorem i_m7 : (-7 : Int32).toInt = -7 := rfl
theorem g_ln {k : Nat} (hk : k < 135) {v : Int32} (e : v = Int32.ofNat (ln k)) : v.toInt = (ln k : Int) ∧ (ln k : Int) ≤ 6588 := by
  have h := (by decide +kernel : ∀ k, k < 135 → ln k ≤ 6588) k hk
  subst e
  exact ⟨nI_toInt (n := ln k) (by omega), by omega⟩
theorem g_pl_in {k : Nat} (hk : k < 135) (h : kd k = 8) {d : Nat} (hd : d < 7) (h5 : kd (k + d) = 5) : d = 3 ∨ d = 5 := (by decide +kernel : ∀ k, k < 135 → kd k = 8 → ∀ d, d < 7 → kd (k + d) = 5 → d = 3 ∨ d = 5) k hk h d hd h5
theorem i_fmod {a b r : Int} (hr : r = a.tmod 8) (hb : b = 8) : (0 ≤ a → 0 ≤ r ∧ r < 8 ∧ r = a % 8) ∧ (a < 0 → -8 < r ∧ r ≤ 0) := by
  subst hr; subst hb
  refine ⟨fun h => ⟨Int.tmod_nonneg _ h, Int.tmod_lt_of_pos _ (by decide), by rw [Int.tmod_eq_emod_of_nonneg h]⟩, fun h => ⟨by have := Int.lt_tmod_of_pos a (b := 8) (by decide); omega, ?_⟩⟩
  have := Int.neg_tmod (a := a) (b := 8)
  have h2 := Int.tmod_nonneg (a := -a) 8 (by omega)
  omega
theorem i_trem {x y z : Int32} (hy : y.toInt = 8) (e : z = x - x / y * y) : z.toInt = x.toInt.tmod 8 := by
  have h1 := i_rng x
  have e0 : y = 8 := i_of (hy.trans (rfl : (8 : Int) = (8 : Int32).toInt))
  subst e0
  have e1 : (x / 8).toInt = x.toInt.tdiv 8 := by
    rw [Int32.toInt_div, show (8 : Int32).toInt = 8 from rfl]
    rcases Int.le_total 0 x.toInt with h | h
    · rw [Int.tdiv_eq_ediv_of_nonneg h, Int.bmod_eq_of_le (by omega) (by omega)]
    · rw [show x.toInt.tdiv 8 = -((-x.toInt).tdiv 8) from by rw [Int.neg_tdiv, Int.neg_neg], Int.tdiv_eq_ediv_of_nonneg (by omega), Int.bmod_eq_of_le (by omega) (by omega)]
  have h2 : x.toInt.tmod 8 = x.toInt - x.toInt.tdiv 8 * 8 := by rw [Int.tmod_def, Int.mul_comm]
  have h3 : -8 < x.toInt.tmod 8 ∧ x.toInt.tmod 8 < 8 := ⟨by have := Int.lt_tmod_of_pos x.toInt (b := 8) (by decide); omega, Int.tmod_lt_of_pos _ (by decide)⟩
  have hf := i_fmod (a := x.toInt) (r := x.toInt.tmod 8) rfl (rfl : (8 : Int) = 8)
  have e2 : (x / 8 * 8).toInt = x.toInt.tdiv 8 * 8 := i_mul e1 (rfl : (8 : Int32).toInt = 8) (by omega) (by omega) rfl
  rw [i_sub rfl e2 (by omega) (by omega) e, h2]
theorem i_xneg {x y : Int32} (hy : 0 ≤ y.toInt) : (x ^^^ y).toInt < 0 ↔ x.toInt < 0 := by
  have h : ∀ z : Int32, z.toBitVec.msb = decide (z.toInt < 0) := fun z => BitVec.msb_eq_toInt
  have hy' : y.toBitVec.msb = false := by rw [h]; exact decide_eq_false (by omega)
  have hz : (x ^^^ y).toBitVec.msb = x.toBitVec.msb := by rw [Int32.toBitVec_xor, BitVec.msb_xor, hy', Bool.xor_false]
  rw [h, h] at hz
  constructor <;> intro q
  · exact of_decide_eq_true (hz ▸ decide_eq_true q)
  · exact of_decide_eq_true (hz.symm ▸ decide_eq_true q)
theorem g_k1_0 {k : Nat} (hk : k < 135) (h : kd k = 1) : k + 1 < 135 ∧ kd (k + 1) = 12 := (by decide +kernel : ∀ k, k < 135 → kd k = 1 → (k + 1 < 135 ∧ kd (k + 1) = 12)) k hk h
theorem g_l1_0 {k : Nat} (hk : k < 135) (h : kd k = 1) : ln (k + 1) = 61 := (by decide +kernel : ∀ k, k < 135 → kd k = 1 → ln (k + 1) = 61) k hk h
theorem g_k1_1 {k : Nat} (hk : k < 135) (h : kd k = 1) : k + 2 < 135 ∧ kd (k + 2) = 12 := (by decide +kernel : ∀ k, k < 135 → kd k = 1 → (k + 2 < 135 ∧ kd (k + 2) = 12)) k hk h
theorem g_l1_1 {k : Nat} (hk : k < 135) (h : kd k = 1) : ln (k + 2) = 61 := (by decide +kernel : ∀ k, k < 135 → kd k = 1 → ln (k + 2) = 61) k hk h
theorem g_k5_0 {k : Nat} (hk : k < 135) (h : kd k = 5) : k + 1 < 135 ∧ kd (k + 1) = 12 := (by decide +kernel : ∀ k, k < 135 → kd k = 5 → (k + 1 < 135 ∧ kd (k + 1) = 12)) k hk h
theorem g_l5_0 {k : Nat} (hk : k < 135) (h : kd k = 5) : ln (k + 1) = 6 := (by decide +kernel : ∀ k, k < 135 → kd k = 5 → ln (k + 1) = 6) k hk h
theorem g_k8_0 {k : Nat} (hk : k < 135) (h : kd k = 8) : k + 1 < 135 ∧ kd (k + 1) = 12 := (by decide +kernel : ∀ k, k < 135 → kd k = 8 → (k + 1 < 135 ∧ kd (k + 1) = 12)) k hk h
theorem g_l8_0 {k : Nat} (hk : k < 135) (h : kd k = 8) : ln (k + 1) = 3 := (by decide +kernel : ∀ k, k < 135 → kd k = 8 → ln (k + 1) = 3) k hk h
theorem g_k8_1 {k : Nat} (hk : k < 135) (h : kd k = 8) : k + 2 < 135 ∧ kd (k + 2) = 12 := (by decide +kernel : ∀ k, k < 135 → kd k = 8 → (k + 2 < 135 ∧ kd (k + 2) = 12)) k hk h
theorem g_l8_1 {k : Nat} (hk : k < 135) (h : kd k = 8) : ln (k + 2) = 108 := (by decide +kernel : ∀ k, k < 135 → kd k = 8 → ln (k + 2) = 108) k hk h
theorem g_k8_2 {k : Nat} (hk : k < 135) (h : kd k = 8) : k + 3 < 135 ∧ kd (k + 3) = 5 := (by decide +kernel : ∀ k, k < 135 → kd k = 8 → (k + 3 < 135 ∧ kd (k + 3) = 5)) k hk h
theorem g_k8_3 {k : Nat} (hk : k < 135) (h : kd k = 8) : k + 5 < 135 ∧ kd (k + 5) = 5 := (by decide +kernel : ∀ k, k < 135 → kd k = 8 → (k + 5 < 135 ∧ kd (k + 5) = 5)) k hk h
theorem g_k9_1 {k : Nat} (hk : k < 135) (h : kd k = 9) : k + 1 < 135 ∧ kd (k + 1) = 12 := (by decide +kernel : ∀ k, k < 135 → kd k = 9 → (k + 1 < 135 ∧ kd (k + 1) = 12)) k hk h
theorem g_l9_1 {k : Nat} (hk : k < 135) (h : kd k = 9) : ln (k + 1) = 108 := (by decide +kernel : ∀ k, k < 135 → kd k = 9 → ln (k + 1) = 108) k hk h
end
section
set_option maxHeartbeats 4000000 in
set_option maxRecDepth 100000 in
theorem c_X10_isCell (l : Launch) (a : Int32)  : Met l yX10_isCell wsX10_isCell ({ frames := 0, cells := 0, slots := 0, locals := 0 } : Room) (va_Pc [.int a] (fun _ => True)) (vp_Si (fun r => r.toInt = 1 ∧ (0 ≤ a.toInt ∧ a.toInt < 108) ∨ r.toInt = 0 ∧ ¬ (0 ≤ a.toInt ∧ a.toInt < 108))) 0 0 (fun _ => False) := by
  refine Met.ofW (cc := cX10_isCell) (maxL := 1) (ret := (some .boolean)) (by decide) rfl ?_
  intro p e s m args below meth c s₁ B hml hv
  obtain ⟨rfl, -⟩ := hv
  have hx := B.exec
  have hb := B.bytes
  have hr := B.returns
  have hts := atoms_spec (ws := wsX10_isCell) B.pre
  have hown : s.vm.findClass RX10 = some m.cls := findClass_of_methodNamed B.named
  have hlocks := B.notSynchronized
  have hl := lv_entry ([.int a]) (n := 1) (Nat.le_of_ble_eq_true rfl)
  rw [lg_entry_eq]
  generalize (lg_sl ([.int a]) ++ List.replicate (1 - (lg_sl ([.int a])).length) Slot.unset).toArray = ls at hl ⊢
  have hl : lv_has ls 1 [(0, .int a)] := hl
  obtain ⟨Q, hQ⟩ : ∃ Q, Q = MQ below (vp_Si (fun r => r.toInt = 1 ∧ (0 ≤ a.toInt ∧ a.toInt < 108) ∨ r.toInt = 0 ∧ ¬ (0 ≤ a.toInt ∧ a.toInt < 108))) (([.int a] : List Value).toArray) s 0 0 (fun _ => False) := ⟨_, rfl⟩
  rw [← hQ]
  refine lv_iload_n hx hb dX10_isCell_0 rfl (lv_at hl 0 rfl) ?_
  refine lv_if_lt (tgt := 14) hx hb dX10_isCell_1 (by decide) (fun c_1 => ?_) (fun c_1 => ?_)
  · skip
    have q_1 : a.toInt < 0 := i_lt2 (rfl : a.toInt = a.toInt) (rfl : (0 : Int32).toInt = 0) c_1
    refine lv_iconst (v := 0) hx hb dX10_isCell_14 (by decide) ?_
    rw [hQ]
    exact W.zret (v := 0) hx hb hr rfl (fun t ht hW => ⟨0, rfl, by have z0 := i_l0; have z1 := i_l1; have zm := i_m1; have z2 := i_m2; omega, ht⟩) (fun q h => by cases h) dX10_isCell_15
  · skip
    have q_1 : 0 ≤ a.toInt := i_nlt2 (rfl : a.toInt = a.toInt) (rfl : (0 : Int32).toInt = 0) c_1
    refine lv_iload_n hx hb dX10_isCell_4 rfl (lv_at hl 0 rfl) ?_
    refine lv_bipush (v := 108) hx hb dX10_isCell_5 (by decide) ?_
    refine lv_icmp_ge (tgt := 14) hx hb dX10_isCell_7 (by decide) (fun c_2 => ?_) (fun c_2 => ?_)
    · skip
      have q_2 : 108 ≤ a.toInt := i_le2 (rfl : (108 : Int32).toInt = 108) (rfl : a.toInt = a.toInt) c_2
      refine lv_iconst (v := 0) hx hb dX10_isCell_14 (by decide) ?_
      rw [hQ]
      exact W.zret (v := 0) hx hb hr rfl (fun t ht hW => ⟨0, rfl, by have z0 := i_l0; have z1 := i_l1; have zm := i_m1; have z2 := i_m2; omega, ht⟩) (fun q h => by cases h) dX10_isCell_15
    · skip
      have q_2 : a.toInt < 108 := i_nle2 (rfl : (108 : Int32).toInt = 108) (rfl : a.toInt = a.toInt) c_2
      refine lv_iconst (v := 1) hx hb dX10_isCell_10 (by decide) ?_
      refine lv_goto (tgt := 15) hx hb dX10_isCell_11 (by decide) ?_
      rw [hQ]
      exact W.zret (v := 1) hx hb hr rfl (fun t ht hW => ⟨1, rfl, by have z0 := i_l0; have z1 := i_l1; have zm := i_m1; have z2 := i_m2; omega, ht⟩) (fun q h => by cases h) dX10_isCell_15
set_option maxHeartbeats 4000000 in
set_option maxRecDepth 100000 in
theorem c_X10_isLayer (l : Launch) (a : Int32)  : Met l yX10_isLayer wsX10_isLayer ({ frames := 0, cells := 0, slots := 0, locals := 0 } : Room) (va_Pc [.int a] (fun _ => True)) (vp_Si (fun r => r.toInt = 1 ∧ (0 ≤ a.toInt ∧ a.toInt < 3) ∨ r.toInt = 0 ∧ ¬ (0 ≤ a.toInt ∧ a.toInt < 3))) 0 0 (fun _ => False) := by
  refine Met.ofW (cc := cX10_isLayer) (maxL := 1) (ret := (some .boolean)) (by decide) rfl ?_
  intro p e s m args below meth c s₁ B hml hv
  obtain ⟨rfl, -⟩ := hv
  have hx := B.exec
  have hb := B.bytes
  have hr := B.returns
  have hts := atoms_spec (ws := wsX10_isLayer) B.pre
  have hown : s.vm.findClass RX10 = some m.cls := findClass_of_methodNamed B.named
  have hlocks := B.notSynchronized
  have hl := lv_entry ([.int a]) (n := 1) (Nat.le_of_ble_eq_true rfl)
  rw [lg_entry_eq]
  generalize (lg_sl ([.int a]) ++ List.replicate (1 - (lg_sl ([.int a])).length) Slot.unset).toArray = ls at hl ⊢
  have hl : lv_has ls 1 [(0, .int a)] := hl
  obtain ⟨Q, hQ⟩ : ∃ Q, Q = MQ below (vp_Si (fun r => r.toInt = 1 ∧ (0 ≤ a.toInt ∧ a.toInt < 3) ∨ r.toInt = 0 ∧ ¬ (0 ≤ a.toInt ∧ a.toInt < 3))) (([.int a] : List Value).toArray) s 0 0 (fun _ => False) := ⟨_, rfl⟩
  rw [← hQ]
  refine lv_iload_n hx hb dX10_isLayer_0 rfl (lv_at hl 0 rfl) ?_
  refine lv_if_lt (tgt := 13) hx hb dX10_isLayer_1 (by decide) (fun c_1 => ?_) (fun c_1 => ?_)
  · skip
    have q_1 : a.toInt < 0 := i_lt2 (rfl : a.toInt = a.toInt) (rfl : (0 : Int32).toInt = 0) c_1
    refine lv_iconst (v := 0) hx hb dX10_isLayer_13 (by decide) ?_
    rw [hQ]
    exact W.zret (v := 0) hx hb hr rfl (fun t ht hW => ⟨0, rfl, by have z0 := i_l0; have z1 := i_l1; have zm := i_m1; have z2 := i_m2; omega, ht⟩) (fun q h => by cases h) dX10_isLayer_14
  · skip
    have q_1 : 0 ≤ a.toInt := i_nlt2 (rfl : a.toInt = a.toInt) (rfl : (0 : Int32).toInt = 0) c_1
    refine lv_iload_n hx hb dX10_isLayer_4 rfl (lv_at hl 0 rfl) ?_
    refine lv_iconst (v := 3) hx hb dX10_isLayer_5 (by decide) ?_
    refine lv_icmp_ge (tgt := 13) hx hb dX10_isLayer_6 (by decide) (fun c_2 => ?_) (fun c_2 => ?_)
    · skip
      have q_2 : 3 ≤ a.toInt := i_le2 (rfl : (3 : Int32).toInt = 3) (rfl : a.toInt = a.toInt) c_2
      refine lv_iconst (v := 0) hx hb dX10_isLayer_13 (by decide) ?_
      rw [hQ]
      exact W.zret (v := 0) hx hb hr rfl (fun t ht hW => ⟨0, rfl, by have z0 := i_l0; have z1 := i_l1; have zm := i_m1; have z2 := i_m2; omega, ht⟩) (fun q h => by cases h) dX10_isLayer_14
    · skip
      have q_2 : a.toInt < 3 := i_nle2 (rfl : (3 : Int32).toInt = 3) (rfl : a.toInt = a.toInt) c_2
      refine lv_iconst (v := 1) hx hb dX10_isLayer_9 (by decide) ?_
      refine lv_goto (tgt := 14) hx hb dX10_isLayer_10 (by decide) ?_
      rw [hQ]
      exact W.zret (v := 1) hx hb hr rfl (fun t ht hW => ⟨1, rfl, by have z0 := i_l0; have z1 := i_l1; have zm := i_m1; have z2 := i_m2; omega, ht⟩) (fun q h => by cases h) dX10_isLayer_14
set_option maxHeartbeats 4000000 in
set_option maxRecDepth 100000 in
theorem c_X10_isWind (l : Launch) (a : Int32)  : Met l yX10_isWind wsX10_isWind ({ frames := 0, cells := 0, slots := 0, locals := 0 } : Room) (va_Pc [.int a] (fun _ => True)) (vp_Si (fun r => r.toInt = 1 ∧ (0 ≤ a.toInt ∧ a.toInt < 5) ∨ r.toInt = 0 ∧ ¬ (0 ≤ a.toInt ∧ a.toInt < 5))) 0 0 (fun _ => False) := by
  refine Met.ofW (cc := cX10_isWind) (maxL := 1) (ret := (some .boolean)) (by decide) rfl ?_
  intro p e s m args below meth c s₁ B hml hv
  obtain ⟨rfl, -⟩ := hv
  have hx := B.exec
  have hb := B.bytes
  have hr := B.returns
  have hts := atoms_spec (ws := wsX10_isWind) B.pre
  have hown : s.vm.findClass RX10 = some m.cls := findClass_of_methodNamed B.named
  have hlocks := B.notSynchronized
  have hl := lv_entry ([.int a]) (n := 1) (Nat.le_of_ble_eq_true rfl)
  rw [lg_entry_eq]
  generalize (lg_sl ([.int a]) ++ List.replicate (1 - (lg_sl ([.int a])).length) Slot.unset).toArray = ls at hl ⊢
  have hl : lv_has ls 1 [(0, .int a)] := hl
  obtain ⟨Q, hQ⟩ : ∃ Q, Q = MQ below (vp_Si (fun r => r.toInt = 1 ∧ (0 ≤ a.toInt ∧ a.toInt < 5) ∨ r.toInt = 0 ∧ ¬ (0 ≤ a.toInt ∧ a.toInt < 5))) (([.int a] : List Value).toArray) s 0 0 (fun _ => False) := ⟨_, rfl⟩
  rw [← hQ]
  refine lv_iload_n hx hb dX10_isWind_0 rfl (lv_at hl 0 rfl) ?_
  refine lv_if_lt (tgt := 13) hx hb dX10_isWind_1 (by decide) (fun c_1 => ?_) (fun c_1 => ?_)
  · skip
    have q_1 : a.toInt < 0 := i_lt2 (rfl : a.toInt = a.toInt) (rfl : (0 : Int32).toInt = 0) c_1
    refine lv_iconst (v := 0) hx hb dX10_isWind_13 (by decide) ?_
    rw [hQ]
    exact W.zret (v := 0) hx hb hr rfl (fun t ht hW => ⟨0, rfl, by have z0 := i_l0; have z1 := i_l1; have zm := i_m1; have z2 := i_m2; omega, ht⟩) (fun q h => by cases h) dX10_isWind_14
  · skip
    have q_1 : 0 ≤ a.toInt := i_nlt2 (rfl : a.toInt = a.toInt) (rfl : (0 : Int32).toInt = 0) c_1
    refine lv_iload_n hx hb dX10_isWind_4 rfl (lv_at hl 0 rfl) ?_
    refine lv_iconst (v := 5) hx hb dX10_isWind_5 (by decide) ?_
    refine lv_icmp_ge (tgt := 13) hx hb dX10_isWind_6 (by decide) (fun c_2 => ?_) (fun c_2 => ?_)
    · skip
      have q_2 : 5 ≤ a.toInt := i_le2 (rfl : (5 : Int32).toInt = 5) (rfl : a.toInt = a.toInt) c_2
      refine lv_iconst (v := 0) hx hb dX10_isWind_13 (by decide) ?_
      rw [hQ]
      exact W.zret (v := 0) hx hb hr rfl (fun t ht hW => ⟨0, rfl, by have z0 := i_l0; have z1 := i_l1; have zm := i_m1; have z2 := i_m2; omega, ht⟩) (fun q h => by cases h) dX10_isWind_14
    · skip
      have q_2 : a.toInt < 5 := i_nle2 (rfl : (5 : Int32).toInt = 5) (rfl : a.toInt = a.toInt) c_2
      refine lv_iconst (v := 1) hx hb dX10_isWind_9 (by decide) ?_
      refine lv_goto (tgt := 14) hx hb dX10_isWind_10 (by decide) ?_
      rw [hQ]
      exact W.zret (v := 1) hx hb hr rfl (fun t ht hW => ⟨1, rfl, by have z0 := i_l0; have z1 := i_l1; have zm := i_m1; have z2 := i_m2; omega, ht⟩) (fun q h => by cases h) dX10_isWind_14
set_option maxHeartbeats 4000000 in
set_option maxRecDepth 100000 in
theorem c_X10_isAction (l : Launch) (a : Int32)  : Met l yX10_isAction wsX10_isAction ({ frames := 0, cells := 0, slots := 0, locals := 0 } : Room) (va_Pc [.int a] (fun _ => True)) (vp_Si (fun r => r.toInt = 1 ∧ (0 ≤ a.toInt ∧ a.toInt < 7) ∨ r.toInt = 0 ∧ ¬ (0 ≤ a.toInt ∧ a.toInt < 7))) 0 0 (fun _ => False) := by
  refine Met.ofW (cc := cX10_isAction) (maxL := 1) (ret := (some .boolean)) (by decide) rfl ?_
  intro p e s m args below meth c s₁ B hml hv
  obtain ⟨rfl, -⟩ := hv
  have hx := B.exec
  have hb := B.bytes
  have hr := B.returns
  have hts := atoms_spec (ws := wsX10_isAction) B.pre
  have hown : s.vm.findClass RX10 = some m.cls := findClass_of_methodNamed B.named
  have hlocks := B.notSynchronized
  have hl := lv_entry ([.int a]) (n := 1) (Nat.le_of_ble_eq_true rfl)
  rw [lg_entry_eq]
  generalize (lg_sl ([.int a]) ++ List.replicate (1 - (lg_sl ([.int a])).length) Slot.unset).toArray = ls at hl ⊢
  have hl : lv_has ls 1 [(0, .int a)] := hl
  obtain ⟨Q, hQ⟩ : ∃ Q, Q = MQ below (vp_Si (fun r => r.toInt = 1 ∧ (0 ≤ a.toInt ∧ a.toInt < 7) ∨ r.toInt = 0 ∧ ¬ (0 ≤ a.toInt ∧ a.toInt < 7))) (([.int a] : List Value).toArray) s 0 0 (fun _ => False) := ⟨_, rfl⟩
  rw [← hQ]
  refine lv_iload_n hx hb dX10_isAction_0 rfl (lv_at hl 0 rfl) ?_
  refine lv_if_lt (tgt := 14) hx hb dX10_isAction_1 (by decide) (fun c_1 => ?_) (fun c_1 => ?_)
  · skip
    have q_1 : a.toInt < 0 := i_lt2 (rfl : a.toInt = a.toInt) (rfl : (0 : Int32).toInt = 0) c_1
    refine lv_iconst (v := 0) hx hb dX10_isAction_14 (by decide) ?_
    rw [hQ]
    exact W.zret (v := 0) hx hb hr rfl (fun t ht hW => ⟨0, rfl, by have z0 := i_l0; have z1 := i_l1; have zm := i_m1; have z2 := i_m2; omega, ht⟩) (fun q h => by cases h) dX10_isAction_15
  · skip
    have q_1 : 0 ≤ a.toInt := i_nlt2 (rfl : a.toInt = a.toInt) (rfl : (0 : Int32).toInt = 0) c_1
    refine lv_iload_n hx hb dX10_isAction_4 rfl (lv_at hl 0 rfl) ?_
    refine lv_bipush (v := 7) hx hb dX10_isAction_5 (by decide) ?_
    refine lv_icmp_ge (tgt := 14) hx hb dX10_isAction_7 (by decide) (fun c_2 => ?_) (fun c_2 => ?_)
    · skip
      have q_2 : 7 ≤ a.toInt := i_le2 (rfl : (7 : Int32).toInt = 7) (rfl : a.toInt = a.toInt) c_2
      refine lv_iconst (v := 0) hx hb dX10_isAction_14 (by decide) ?_
      rw [hQ]
      exact W.zret (v := 0) hx hb hr rfl (fun t ht hW => ⟨0, rfl, by have z0 := i_l0; have z1 := i_l1; have zm := i_m1; have z2 := i_m2; omega, ht⟩) (fun q h => by cases h) dX10_isAction_15
    · skip
      have q_2 : a.toInt < 7 := i_nle2 (rfl : (7 : Int32).toInt = 7) (rfl : a.toInt = a.toInt) c_2
      refine lv_iconst (v := 1) hx hb dX10_isAction_10 (by decide) ?_
      refine lv_goto (tgt := 15) hx hb dX10_isAction_11 (by decide) ?_
      rw [hQ]
      exact W.zret (v := 1) hx hb hr rfl (fun t ht hW => ⟨1, rfl, by have z0 := i_l0; have z1 := i_l1; have zm := i_m1; have z2 := i_m2; omega, ht⟩) (fun q h => by cases h) dX10_isAction_15
set_option maxHeartbeats 4000000 in
set_option maxRecDepth 100000 in
theorem c_X5_has (l : Launch) (D : va_G) (cy : Nat → ClassId) (ad : Nat → Nat) (hI : gInj ad) (sz : Nat) (iv : gIv) (ar : gAr) (k : Nat) (hk : k < 135) (hd : kd k = 5) (a : Int32)  : Met l yX5_has wsX5_has ({ frames := 0, cells := 0, slots := 0, locals := 0 } : Room) (va_Pc [.ref (ad k), .int a] (gPre D cy ad sz iv ar)) (vp_Si (fun r => r.toInt = 1 ∧ (0 ≤ a.toInt ∧ a.toInt < (iv k 1).toInt ∧ a.toInt < 6) ∨ r.toInt = 0 ∧ ¬ (0 ≤ a.toInt ∧ a.toInt < (iv k 1).toInt ∧ a.toInt < 6))) 0 0 (fun _ => False) := by
  refine Met.ofW (cc := cX5_has) (maxL := 2) (ret := (some .boolean)) (by decide) rfl ?_
  intro p e s m args below meth c s₁ B hml hv
  obtain ⟨rfl, rfl, hP, hK, hSt, hNw⟩ := hv
  have hx := B.exec
  have hb := B.bytes
  have hr := B.returns
  have hts := atoms_spec (ws := wsX5_has) B.pre
  have hown : s.vm.findClass RX5 = some m.cls := findClass_of_methodNamed B.named
  have hlocks := B.notSynchronized
  have hS : va_S (gA ad s.heap.size) s.heap s.heap [] := va_S.rf
  have inX5 : ∀ w ∈ u_ws RX5 TX5 2, w ∈ wsX5_has := by decide +kernel
  have lk0 := hts (.fieldLink RX5 15 "FormationPlanner$Places" "size" "I") (by decide +kernel)
  have hl := lv_entry ([.ref (ad k), .int a]) (n := 2) (Nat.le_of_ble_eq_true rfl)
  rw [lg_entry_eq]
  generalize (lg_sl ([.ref (ad k), .int a]) ++ List.replicate (2 - (lg_sl ([.ref (ad k), .int a])).length) Slot.unset).toArray = ls at hl ⊢
  have hl : lv_has ls 2 [(0, .ref (ad k)), (1, .int a)] := hl
  obtain ⟨Q, hQ⟩ : ∃ Q, Q = MQ below (vp_Si (fun r => r.toInt = 1 ∧ (0 ≤ a.toInt ∧ a.toInt < (iv k 1).toInt ∧ a.toInt < 6) ∨ r.toInt = 0 ∧ ¬ (0 ≤ a.toInt ∧ a.toInt < (iv k 1).toInt ∧ a.toInt < 6))) (([.ref (ad k), .int a] : List Value).toArray) s 0 0 (fun _ => False) := ⟨_, rfl⟩
  rw [← hQ]
  refine lv_iload_n hx hb dX5_has_0 rfl (lv_at hl 1 rfl) ?_
  refine lv_if_lt (tgt := 22) hx hb dX5_has_1 (by decide) (fun c_1 => ?_) (fun c_1 => ?_)
  · skip
    have q_1 : a.toInt < 0 := i_lt2 (rfl : a.toInt = a.toInt) (rfl : (0 : Int32).toInt = 0) c_1
    refine lv_iconst (v := 0) hx hb dX5_has_22 (by decide) ?_
    rw [hQ]
    exact W.zret (v := 0) hx hb hr rfl (fun t ht hW => ⟨0, rfl, by have z0 := i_l0; have z1 := i_l1; have zm := i_m1; have z2 := i_m2; omega, ht⟩) (fun q h => by cases h) dX5_has_23
  · skip
    have q_1 : 0 ≤ a.toInt := i_nlt2 (rfl : a.toInt = a.toInt) (rfl : (0 : Int32).toInt = 0) c_1
    refine lv_iload_n hx hb dX5_has_4 rfl (lv_at hl 1 rfl) ?_
    refine lv_aload_n hx hb dX5_has_5 rfl (lv_at hl 0 rfl) ?_
    refine va_get (D := D) (ci := 5) (v := .int (iv k 1)) (C := RX5) (T := TX5) (N := 2) hx hb hts inX5 hown hK hP k (g_at5 hk hd) rfl 1 (by decide) lk0 (fun _ h9 => h9) rfl dX5_has_6 ?_
    refine lv_icmp_ge (tgt := 22) hx hb dX5_has_9 (by decide) (fun c_2 => ?_) (fun c_2 => ?_)
    · skip
      have q_2 : (iv k 1).toInt ≤ a.toInt := i_le2 (rfl : (iv k 1).toInt = (iv k 1).toInt) (rfl : a.toInt = a.toInt) c_2
      refine lv_iconst (v := 0) hx hb dX5_has_22 (by decide) ?_
      rw [hQ]
      exact W.zret (v := 0) hx hb hr rfl (fun t ht hW => ⟨0, rfl, by have z0 := i_l0; have z1 := i_l1; have zm := i_m1; have z2 := i_m2; omega, ht⟩) (fun q h => by cases h) dX5_has_23
    · skip
      have q_2 : a.toInt < (iv k 1).toInt := i_nle2 (rfl : (iv k 1).toInt = (iv k 1).toInt) (rfl : a.toInt = a.toInt) c_2
      refine lv_iload_n hx hb dX5_has_12 rfl (lv_at hl 1 rfl) ?_
      refine lv_bipush (v := 6) hx hb dX5_has_13 (by decide) ?_
      refine lv_icmp_ge (tgt := 22) hx hb dX5_has_15 (by decide) (fun c_3 => ?_) (fun c_3 => ?_)
      · skip
        have q_3 : 6 ≤ a.toInt := i_le2 (rfl : (6 : Int32).toInt = 6) (rfl : a.toInt = a.toInt) c_3
        refine lv_iconst (v := 0) hx hb dX5_has_22 (by decide) ?_
        rw [hQ]
        exact W.zret (v := 0) hx hb hr rfl (fun t ht hW => ⟨0, rfl, by have z0 := i_l0; have z1 := i_l1; have zm := i_m1; have z2 := i_m2; omega, ht⟩) (fun q h => by cases h) dX5_has_23
      · skip
        have q_3 : a.toInt < 6 := i_nle2 (rfl : (6 : Int32).toInt = 6) (rfl : a.toInt = a.toInt) c_3
        refine lv_iconst (v := 1) hx hb dX5_has_18 (by decide) ?_
        refine lv_goto (tgt := 23) hx hb dX5_has_19 (by decide) ?_
        rw [hQ]
        exact W.zret (v := 1) hx hb hr rfl (fun t ht hW => ⟨1, rfl, by have z0 := i_l0; have z1 := i_l1; have zm := i_m1; have z2 := i_m2; omega, ht⟩) (fun q h => by cases h) dX5_has_23
set_option maxHeartbeats 4000000 in
set_option maxRecDepth 100000 in
theorem c_X5_cellAt (l : Launch) (D : va_G) (cy : Nat → ClassId) (ad : Nat → Nat) (hI : gInj ad) (sz : Nat) (iv : gIv) (ar : gAr) (k : Nat) (hk : k < 135) (hd : kd k = 5) (a : Int32)  : Met l yX5_cellAt wsX5_cellAt ({ frames := 1, cells := 0, slots := 0, locals := 21 } : Room) (va_Pc [.ref (ad k), .int a] (gPre D cy ad sz iv ar)) (vp_Si (fun r => (0 ≤ a.toInt ∧ a.toInt < (iv k 1).toInt ∧ a.toInt < 6) ∧ r = ar (k + 1) a.toNatClampNeg ∨ ¬ (0 ≤ a.toInt ∧ a.toInt < (iv k 1).toInt ∧ a.toInt < 6) ∧ r = -1)) 0 0 (fun _ => False) := by
  refine Met.ofW (cc := cX5_cellAt) (maxL := 2) (ret := (some .int)) (by decide) rfl ?_
  intro p e s m args below meth c s₁ B hml hv
  obtain ⟨rfl, rfl, hP, hK, hSt, hNw⟩ := hv
  have hx := B.exec
  have hb := B.bytes
  have hr := B.returns
  have hts := atoms_spec (ws := wsX5_cellAt) B.pre
  have hown : s.vm.findClass RX5 = some m.cls := findClass_of_methodNamed B.named
  have hlocks := B.notSynchronized
  have hS : va_S (gA ad s.heap.size) s.heap s.heap [] := va_S.rf
  have inX5 : ∀ w ∈ u_ws RX5 TX5 2, w ∈ wsX5_cellAt := by decide +kernel
  have lk0 := hts (.fieldLink RX5 9 "FormationPlanner$Places" "cells" "[I") (by decide +kernel)
  have hl := lv_entry ([.ref (ad k), .int a]) (n := 2) (Nat.le_of_ble_eq_true rfl)
  rw [lg_entry_eq]
  generalize (lg_sl ([.ref (ad k), .int a]) ++ List.replicate (2 - (lg_sl ([.ref (ad k), .int a])).length) Slot.unset).toArray = ls at hl ⊢
  have hl : lv_has ls 2 [(0, .ref (ad k)), (1, .int a)] := hl
  obtain ⟨Q, hQ⟩ : ∃ Q, Q = MQ below (vp_Si (fun r => (0 ≤ a.toInt ∧ a.toInt < (iv k 1).toInt ∧ a.toInt < 6) ∧ r = ar (k + 1) a.toNatClampNeg ∨ ¬ (0 ≤ a.toInt ∧ a.toInt < (iv k 1).toInt ∧ a.toInt < 6) ∧ r = -1)) (([.ref (ad k), .int a] : List Value).toArray) s 0 0 (fun _ => False) := ⟨_, rfl⟩
  rw [← hQ]
  refine lv_aload_n hx hb dX5_cellAt_0 rfl (lv_at hl 0 rfl) ?_
  refine lv_iload_n hx hb dX5_cellAt_1 rfl (lv_at hl 1 rfl) ?_
  refine g_callSi (va_runV (As := [.int a]) (rest := []) ⟨hx, hb, hml, hown, hts⟩ (c_X5_has l D cy ad hI _ iv ar k hk hd a) (cwV 1 hts gX5_cellAt_X5_has rfl rfl rfl (by decide +kernel) ⟨Nat.le_of_ble_eq_true rfl, Nat.le_of_ble_eq_true rfl⟩) (g_preV hP hK hSt hNw hS (g_at5 hk hd) rfl) rfl rfl hl.1 rfl (lv_room (Nat.le_of_ble_eq_true rfl)) dX5_cellAt_2 ⟨Nat.zero_le _, Nat.zero_le _⟩) (fun r_1 w_1 => ?_)
  try dsimp only at w_1
  refine lv_if_eq (tgt := 17) hx hb dX5_cellAt_5 (by decide) (fun c_2 => ?_) (fun c_2 => ?_)
  · skip
    have q_2 : r_1.toInt = 0 := i_eq2 (rfl : r_1.toInt = r_1.toInt) (rfl : (0 : Int32).toInt = 0) c_2
    refine lv_iconst (v := (-1)) hx hb dX5_cellAt_17 (by decide) ?_
    rw [hQ]
    exact W.iret (v := (-1)) hx hb hr (fun t ht hW => ⟨(-1), rfl, Or.inr ⟨by omega, rfl⟩, ht⟩) (fun q h => by cases h) dX5_cellAt_18
  · skip
    have q_2 : r_1.toInt ≠ 0 := i_ne2 (rfl : r_1.toInt = r_1.toInt) (rfl : (0 : Int32).toInt = 0) c_2
    refine lv_aload_n hx hb dX5_cellAt_8 rfl (lv_at hl 0 rfl) ?_
    refine va_get (D := D) (ci := 5) (v := .ref (ad (k + 1))) (C := RX5) (T := TX5) (N := 2) hx hb hts inX5 hown hK hP k (g_at5 hk hd) rfl 0 (by decide) lk0 (fun _ h9 => h9) rfl dX5_cellAt_9 ?_
    refine lv_iload_n hx hb dX5_cellAt_12 rfl (lv_at hl 1 rfl) ?_
    refine va_iald hx hb hK hP (k + 1) 0 (g_at12 (g_k5_0 hk hd).1 (g_k5_0 hk hd).2) rfl (g_in (N := 6) (rfl : a.toInt = a.toInt) (g_l5_0 hk hd) (by omega) (by omega)) dX5_cellAt_13 ?_
    refine lv_topi (fun v_3 ev_3 => ?_)
    refine lv_goto (tgt := 18) hx hb dX5_cellAt_14 (by decide) ?_
    rw [hQ]
    exact W.iret (v := v_3) hx hb hr (fun t ht hW => ⟨v_3, rfl, Or.inl ⟨by omega, ev_3⟩, ht⟩) (fun q h => by cases h) dX5_cellAt_18
set_option maxHeartbeats 4000000 in
set_option maxRecDepth 100000 in
theorem c_X5_find (l : Launch) (D : va_G) (cy : Nat → ClassId) (ad : Nat → Nat) (hI : gInj ad) (sz : Nat) (iv : gIv) (ar : gAr) (k : Nat) (hk : k < 135) (hd : kd k = 5) (a : Int32)  : Met l yX5_find wsX5_find ({ frames := 0, cells := 0, slots := 0, locals := 0 } : Room) (va_Pc [.ref (ad k), .int a] (gPre D cy ad sz iv ar)) (vp_Si (fun r => (r.toInt = -1 ∧ ∀ j : Nat, j < 6 → (j : Int) < (iv k 1).toInt → ar (k + 1) j ≠ a) ∨ (0 ≤ r.toInt ∧ r.toInt < (iv k 1).toInt ∧ r.toInt < 6 ∧ ar (k + 1) r.toNatClampNeg = a))) 0 0 (fun _ => False) := by
  refine Met.ofW (cc := cX5_find) (maxL := 3) (ret := (some .int)) (by decide) rfl ?_
  intro p e s m args below meth c s₁ B hml hv
  obtain ⟨rfl, rfl, hP, hK, hSt, hNw⟩ := hv
  have hx := B.exec
  have hb := B.bytes
  have hr := B.returns
  have hts := atoms_spec (ws := wsX5_find) B.pre
  have hown : s.vm.findClass RX5 = some m.cls := findClass_of_methodNamed B.named
  have hlocks := B.notSynchronized
  have hS : va_S (gA ad s.heap.size) s.heap s.heap [] := va_S.rf
  have inX5 : ∀ w ∈ u_ws RX5 TX5 2, w ∈ wsX5_find := by decide +kernel
  have lk0 := hts (.fieldLink RX5 15 "FormationPlanner$Places" "size" "I") (by decide +kernel)
  have lk1 := hts (.fieldLink RX5 9 "FormationPlanner$Places" "cells" "[I") (by decide +kernel)
  have hl := lv_entry ([.ref (ad k), .int a]) (n := 3) (Nat.le_of_ble_eq_true rfl)
  rw [lg_entry_eq]
  generalize (lg_sl ([.ref (ad k), .int a]) ++ List.replicate (3 - (lg_sl ([.ref (ad k), .int a])).length) Slot.unset).toArray = ls at hl ⊢
  have hl : lv_has ls 3 [(0, .ref (ad k)), (1, .int a)] := hl
  obtain ⟨Q, hQ⟩ : ∃ Q, Q = MQ below (vp_Si (fun r => (r.toInt = -1 ∧ ∀ j : Nat, j < 6 → (j : Int) < (iv k 1).toInt → ar (k + 1) j ≠ a) ∨ (0 ≤ r.toInt ∧ r.toInt < (iv k 1).toInt ∧ r.toInt < 6 ∧ ar (k + 1) r.toNatClampNeg = a))) (([.ref (ad k), .int a] : List Value).toArray) s 0 0 (fun _ => False) := ⟨_, rfl⟩
  rw [← hQ]
  refine lv_iconst (v := 0) hx hb dX5_find_0 (by decide) ?_
  refine lv_istore_n (lv' := [(2, .int 0), (0, .ref (ad k)), (1, .int a)]) hx hb dX5_find_1 rfl hl (by decide) rfl (fun ls hl => ?_)
  have loop2 : ∀ (n : Nat) (x2_1 : Int32) (ls : Array Slot), ((6 - (x2_1.toInt)).toNat) < n → (0 ≤ (x2_1.toInt) ∧ (x2_1.toInt) ≤ 6) → (∀ j : Nat, (j : Int) < (x2_1.toInt) → ar (k + 1) j ≠ a) → lv_has ls 3 [(2, .int x2_1), (0, .ref (ad k)), (1, .int a)] → W p l e (headSpec wsX5_find (({ frames := 0, cells := 0, slots := 0, locals := 0 } : Room))).room s m (([.ref (ad k), .int a] : List Value).toArray) below meth c s.heap [] 0 0 Q (F0 m 2 ls []) := by
    intro n
    induction n with
    | zero => intro x2_1 ls hm; omega
    | succ n ih2 =>
      intro x2_1 ls hm hg0 hg1 hl
      refine lv_iload_n hx hb dX5_find_2 rfl (lv_at hl 0 rfl) ?_
      refine lv_aload_n hx hb dX5_find_3 rfl (lv_at hl 1 rfl) ?_
      refine va_get (D := D) (ci := 5) (v := .int (iv k 1)) (C := RX5) (T := TX5) (N := 2) hx hb hts inX5 hown hK hP k (g_at5 hk hd) rfl 1 (by decide) lk0 (fun _ h9 => h9) rfl dX5_find_4 ?_
      refine lv_icmp_ge (tgt := 34) hx hb dX5_find_7 (by decide) (fun c_3 => ?_) (fun c_3 => ?_)
      · skip
        have q_3 : (iv k 1).toInt ≤ x2_1.toInt := i_le2 (rfl : (iv k 1).toInt = (iv k 1).toInt) (rfl : x2_1.toInt = x2_1.toInt) c_3
        refine lv_iconst (v := (-1)) hx hb dX5_find_34 (by decide) ?_
        rw [hQ]
        exact W.iret (v := (-1)) hx hb hr (fun t ht hW => ⟨(-1), rfl, Or.inl ⟨rfl, fun j h6 hj => hg1 j (by omega)⟩, ht⟩) (fun q h => by cases h) dX5_find_35
      · skip
        have q_3 : x2_1.toInt < (iv k 1).toInt := i_nle2 (rfl : (iv k 1).toInt = (iv k 1).toInt) (rfl : x2_1.toInt = x2_1.toInt) c_3
        refine lv_iload_n hx hb dX5_find_10 rfl (lv_at hl 0 rfl) ?_
        refine lv_bipush (v := 6) hx hb dX5_find_11 (by decide) ?_
        refine lv_icmp_ge (tgt := 34) hx hb dX5_find_13 (by decide) (fun c_4 => ?_) (fun c_4 => ?_)
        · skip
          have q_4 : 6 ≤ x2_1.toInt := i_le2 (rfl : (6 : Int32).toInt = 6) (rfl : x2_1.toInt = x2_1.toInt) c_4
          refine lv_iconst (v := (-1)) hx hb dX5_find_34 (by decide) ?_
          rw [hQ]
          exact W.iret (v := (-1)) hx hb hr (fun t ht hW => ⟨(-1), rfl, Or.inl ⟨rfl, fun j h6 hj => hg1 j (by omega)⟩, ht⟩) (fun q h => by cases h) dX5_find_35
        · skip
          have q_4 : x2_1.toInt < 6 := i_nle2 (rfl : (6 : Int32).toInt = 6) (rfl : x2_1.toInt = x2_1.toInt) c_4
          refine lv_aload_n hx hb dX5_find_16 rfl (lv_at hl 1 rfl) ?_
          refine va_get (D := D) (ci := 5) (v := .ref (ad (k + 1))) (C := RX5) (T := TX5) (N := 2) hx hb hts inX5 hown hK hP k (g_at5 hk hd) rfl 0 (by decide) lk1 (fun _ h9 => h9) rfl dX5_find_17 ?_
          refine lv_iload_n hx hb dX5_find_20 rfl (lv_at hl 0 rfl) ?_
          refine va_iald hx hb hK hP (k + 1) 0 (g_at12 (g_k5_0 hk hd).1 (g_k5_0 hk hd).2) rfl (g_in (N := 6) (rfl : x2_1.toInt = x2_1.toInt) (g_l5_0 hk hd) (by omega) (by omega)) dX5_find_21 ?_
          refine lv_topi (fun v_5 ev_5 => ?_)
          have hev := ev_5
          refine lv_iload_n hx hb dX5_find_22 rfl (lv_at hl 2 rfl) ?_
          refine lv_icmp_ne (tgt := 28) hx hb dX5_find_23 (by decide) (fun c_6 => ?_) (fun c_6 => ?_)
          · skip
            have q_6 : v_5.toInt ≠ a.toInt := i_ne2 (rfl : v_5.toInt = v_5.toInt) (rfl : a.toInt = a.toInt) c_6
            have hfx : ∀ j : Nat, (j : Int) < (x2_1.toInt) + 1 → ar (k + 1) j ≠ a := fun j hj => by
              by_cases hh : (j : Int) < (x2_1.toInt)
              · exact hg1 j hh
              · intro hq
                exact c_6 (hev.trans ((congrArg (ar (k + 1)) (show x2_1.toNatClampNeg = j from by rw [g_cN (rfl : x2_1.toInt = _)]; omega)).trans hq))
            obtain ⟨x2_7, ex2_7⟩ : ∃ y : Int32, y = x2_1 + 1 := ⟨_, rfl⟩
            have tx2_7 : x2_7.toInt = x2_1.toInt + 1 := i_add (rfl : x2_1.toInt = x2_1.toInt) (rfl : (1 : Int32).toInt = 1) (by omega) (by omega) ex2_7
            refine lv_iinc (v := x2_7) (lv' := [(2, .int x2_7), (0, .ref (ad k)), (1, .int a)]) hx hb dX5_find_28 hl (k := 0) rfl (by rw [ex2_7]; rfl) (by decide) rfl (fun ls hl => ?_)
            refine lv_goto (tgt := 2) hx hb dX5_find_31 (by decide) ?_
            exact ih2 x2_7 _ (by omega) (by omega) (fun j hj => hfx j (by omega)) (lv_sub hl [0, 1, 2] rfl)
          · skip
            have q_6 : v_5.toInt = a.toInt := i_eq2 (rfl : v_5.toInt = v_5.toInt) (rfl : a.toInt = a.toInt) c_6
            have heq := c_6
            refine lv_iload_n hx hb dX5_find_26 rfl (lv_at hl 0 rfl) ?_
            rw [hQ]
            exact W.iret (v := x2_1) hx hb hr (fun t ht hW => ⟨x2_1, rfl, Or.inr ⟨by omega, by omega, by omega, hev.symm.trans heq⟩, ht⟩) (fun q h => by cases h) dX5_find_27
  have zl_8 : (0 : Int32).toInt = 0 := rfl
  exact loop2 (((6 - (0 : Int)).toNat) + 1) 0 _ (by omega) (by omega) (fun j hj => by exfalso; omega) (lv_sub hl [0, 1, 2] rfl)
set_option maxHeartbeats 4000000 in
set_option maxRecDepth 100000 in
theorem c_X5_move (l : Launch) (D : va_G) (cy : Nat → ClassId) (ad : Nat → Nat) (hI : gInj ad) (sz : Nat) (iv : gIv) (ar : gAr) (k : Nat) (hk : k < 135) (hd : kd k = 5) (a : Int32) (b : Int32)  : Met l yX5_move wsX5_move ({ frames := 1, cells := 0, slots := 0, locals := 21 } : Room) (va_Pc [.ref (ad k), .int a, .int b] (gPre D cy ad sz iv ar)) (va_Qv (fun (u : gIv × gAr) => u.1 = iv ∧ (∀ j, j ≠ k + 1 → u.2 j = ar j)) (gPost D cy ad) (gA ad sz)) 0 0 (gA ad sz) := by
  refine Met.ofW (cc := cX5_move) (maxL := 3) (ret := none) (by decide) rfl ?_
  intro p e s m args below meth c s₁ B hml hv
  obtain ⟨rfl, rfl, hP, hK, hSt, hNw⟩ := hv
  have hx := B.exec
  have hb := B.bytes
  have hr := B.returns
  have hts := atoms_spec (ws := wsX5_move) B.pre
  have hown : s.vm.findClass RX5 = some m.cls := findClass_of_methodNamed B.named
  have hlocks := B.notSynchronized
  have hS : va_S (gA ad s.heap.size) s.heap s.heap [] := va_S.rf
  have inX5 : ∀ w ∈ u_ws RX5 TX5 2, w ∈ wsX5_move := by decide +kernel
  have lk0 := hts (.fieldLink RX5 9 "FormationPlanner$Places" "cells" "[I") (by decide +kernel)
  have hl := lv_entry ([.ref (ad k), .int a, .int b]) (n := 3) (Nat.le_of_ble_eq_true rfl)
  rw [lg_entry_eq]
  generalize (lg_sl ([.ref (ad k), .int a, .int b]) ++ List.replicate (3 - (lg_sl ([.ref (ad k), .int a, .int b])).length) Slot.unset).toArray = ls at hl ⊢
  have hl : lv_has ls 3 [(0, .ref (ad k)), (1, .int a), (2, .int b)] := hl
  obtain ⟨Q, hQ⟩ : ∃ Q, Q = MQ below (va_Qv (fun (u : gIv × gAr) => u.1 = iv ∧ (∀ j, j ≠ k + 1 → u.2 j = ar j)) (gPost D cy ad) (gA ad s.heap.size)) (([.ref (ad k), .int a, .int b] : List Value).toArray) s 0 0 (gA ad s.heap.size) := ⟨_, rfl⟩
  rw [← hQ]
  refine lv_aload_n hx hb dX5_move_0 rfl (lv_at hl 0 rfl) ?_
  refine lv_iload_n hx hb dX5_move_1 rfl (lv_at hl 1 rfl) ?_
  refine g_callSi (va_runV (As := [.int a]) (rest := []) ⟨hx, hb, hml, hown, hts⟩ (c_X5_has l D cy ad hI _ iv ar k hk hd a) (cwV 1 hts gX5_move_X5_has rfl rfl rfl (by decide +kernel) ⟨Nat.le_of_ble_eq_true rfl, Nat.le_of_ble_eq_true rfl⟩) (g_preV hP hK hSt hNw hS (g_at5 hk hd) rfl) rfl rfl hl.1 rfl (lv_room (Nat.le_of_ble_eq_true rfl)) dX5_move_2 ⟨Nat.zero_le _, Nat.zero_le _⟩) (fun r_1 w_1 => ?_)
  try dsimp only at w_1
  refine lv_if_eq (tgt := 15) hx hb dX5_move_5 (by decide) (fun c_2 => ?_) (fun c_2 => ?_)
  · skip
    have q_2 : r_1.toInt = 0 := i_eq2 (rfl : r_1.toInt = r_1.toInt) (rfl : (0 : Int32).toInt = 0) c_2
    rw [hQ]
    exact W.vret hx hb hr (fun t ht hW => ⟨⟨(iv, ar), rfl, ⟨rfl, fun j hj => by rfl⟩, by show va_P _ _ _ _; rw [ht]; exact hP⟩, hS.F ht⟩) hS.2.2 dX5_move_15
  · skip
    have q_2 : r_1.toInt ≠ 0 := i_ne2 (rfl : r_1.toInt = r_1.toInt) (rfl : (0 : Int32).toInt = 0) c_2
    refine lv_aload_n hx hb dX5_move_8 rfl (lv_at hl 0 rfl) ?_
    refine va_get (D := D) (ci := 5) (v := .ref (ad (k + 1))) (C := RX5) (T := TX5) (N := 2) hx hb hts inX5 hown hK hP k (g_at5 hk hd) rfl 0 (by decide) lk0 (fun _ h9 => h9) rfl dX5_move_9 ?_
    refine lv_iload_n hx hb dX5_move_12 rfl (lv_at hl 1 rfl) ?_
    refine lv_iload_n hx hb dX5_move_13 rfl (lv_at hl 2 rfl) ?_
    refine va_iast hx hb hK hP (gD hI) hS (k + 1) 0 (g_at12 (g_k5_0 hk hd).1 (g_k5_0 hk hd).2) rfl (g_in (N := 6) (rfl : a.toInt = a.toInt) (g_l5_0 hk hd) (by omega) (by omega)) dX5_move_14 (fun H locs hP _ hS => ?_)
    rw [g_pt12 (g_k5_0 hk hd).1 (g_k5_0 hk hd).2] at hP
    obtain ⟨ar_3, ear_3⟩ : ∃ z : gAr, z = va_up ar (k + 1) (upd (ar (k + 1)) a.toNatClampNeg b) := ⟨_, rfl⟩
    rw [← ear_3] at hP
    rw [hQ]
    exact W.vret hx hb hr (fun t ht hW => ⟨⟨(iv, ar_3), rfl, ⟨rfl, fun j hj => by show ar_3 j = ar j; rw [ear_3, ua_o hj]⟩, by show va_P _ _ _ _; rw [ht]; exact hP⟩, hS.F ht⟩) hS.2.2 dX5_move_15
set_option maxHeartbeats 4000000 in
set_option maxRecDepth 100000 in
theorem c_X5_clear (l : Launch) (D : va_G) (cy : Nat → ClassId) (ad : Nat → Nat) (hI : gInj ad) (sz : Nat) (iv : gIv) (ar : gAr) (k : Nat) (hk : k < 135) (hd : kd k = 5)  : Met l yX5_clear wsX5_clear ({ frames := 0, cells := 0, slots := 0, locals := 0 } : Room) (va_Pc [.ref (ad k)] (gPre D cy ad sz iv ar)) (va_Qv (fun (u : gIv × gAr) => u.1 = u2 iv k 1 0 ∧ u.2 = ar) (gPost D cy ad) (gA ad sz)) 0 0 (gA ad sz) := by
  refine Met.ofW (cc := cX5_clear) (maxL := 1) (ret := none) (by decide) rfl ?_
  intro p e s m args below meth c s₁ B hml hv
  obtain ⟨rfl, rfl, hP, hK, hSt, hNw⟩ := hv
  have hx := B.exec
  have hb := B.bytes
  have hr := B.returns
  have hts := atoms_spec (ws := wsX5_clear) B.pre
  have hown : s.vm.findClass RX5 = some m.cls := findClass_of_methodNamed B.named
  have hlocks := B.notSynchronized
  have hS : va_S (gA ad s.heap.size) s.heap s.heap [] := va_S.rf
  have inX5 : ∀ w ∈ u_ws RX5 TX5 2, w ∈ wsX5_clear := by decide +kernel
  have lk0 := hts (.fieldLink RX5 15 "FormationPlanner$Places" "size" "I") (by decide +kernel)
  have hl := lv_entry ([.ref (ad k)]) (n := 1) (Nat.le_of_ble_eq_true rfl)
  rw [lg_entry_eq]
  generalize (lg_sl ([.ref (ad k)]) ++ List.replicate (1 - (lg_sl ([.ref (ad k)])).length) Slot.unset).toArray = ls at hl ⊢
  have hl : lv_has ls 1 [(0, .ref (ad k))] := hl
  obtain ⟨Q, hQ⟩ : ∃ Q, Q = MQ below (va_Qv (fun (u : gIv × gAr) => u.1 = u2 iv k 1 0 ∧ u.2 = ar) (gPost D cy ad) (gA ad s.heap.size)) (([.ref (ad k)] : List Value).toArray) s 0 0 (gA ad s.heap.size) := ⟨_, rfl⟩
  rw [← hQ]
  refine lv_aload_n hx hb dX5_clear_0 rfl (lv_at hl 0 rfl) ?_
  refine lv_iconst (v := 0) hx hb dX5_clear_1 (by decide) ?_
  refine va_put (D := D) (ci := 5) (v := .int 0) (ty := .int) (C := RX5) (T := TX5) (N := 2) hx hb hts inX5 tyX5 tyX5_ok nmX5 hown hK hP (gD hI) hS k (g_at5 hk hd) rfl 1 (by decide) lk0 (fun _ h9 => h9) rfl (by decide +kernel) rfl rfl (Nat.le_of_ble_eq_true rfl) dX5_clear_2 (fun H locs hP _ hS => ?_)
  have hP : va_P D vwCl (GW cy ad (u2 iv k 1 0) ar) H := by rw [← g_pt5_1 hk hd]; exact hP
  obtain ⟨iv_1, eiv_1⟩ : ∃ z : gIv, z = u2 iv k 1 0 := ⟨_, rfl⟩
  rw [← eiv_1] at hP
  rw [hQ]
  exact W.vret hx hb hr (fun t ht hW => ⟨⟨(iv_1, ar), rfl, ⟨eiv_1, rfl⟩, by show va_P _ _ _ _; rw [ht]; exact hP⟩, hS.F ht⟩) hS.2.2 dX5_clear_5
set_option maxHeartbeats 4000000 in
set_option maxRecDepth 100000 in
theorem c_X5_add (l : Launch) (D : va_G) (cy : Nat → ClassId) (ad : Nat → Nat) (hI : gInj ad) (sz : Nat) (iv : gIv) (ar : gAr) (k : Nat) (hk : k < 135) (hd : kd k = 5) (a : Int32)  : Met l yX5_add wsX5_add ({ frames := 0, cells := 0, slots := 0, locals := 0 } : Room) (va_Pc [.ref (ad k), .int a] (gPre D cy ad sz iv ar)) (va_Qv (fun (u : gIv × gAr) => (u = (iv, ar) ∨ (0 ≤ (iv k 1).toInt ∧ (iv k 1).toInt < 6 ∧ ∃ x : Int32, x.toInt = (iv k 1).toInt + 1 ∧ u = (u2 iv k 1 x, va_up ar (k + 1) (upd (ar (k + 1)) (iv k 1).toNatClampNeg a))))) (gPost D cy ad) (gA ad sz)) 0 0 (gA ad sz) := by
  refine Met.ofW (cc := cX5_add) (maxL := 2) (ret := none) (by decide) rfl ?_
  intro p e s m args below meth c s₁ B hml hv
  obtain ⟨rfl, rfl, hP, hK, hSt, hNw⟩ := hv
  have hx := B.exec
  have hb := B.bytes
  have hr := B.returns
  have hts := atoms_spec (ws := wsX5_add) B.pre
  have hown : s.vm.findClass RX5 = some m.cls := findClass_of_methodNamed B.named
  have hlocks := B.notSynchronized
  have hS : va_S (gA ad s.heap.size) s.heap s.heap [] := va_S.rf
  have inX5 : ∀ w ∈ u_ws RX5 TX5 2, w ∈ wsX5_add := by decide +kernel
  have lk0 := hts (.fieldLink RX5 15 "FormationPlanner$Places" "size" "I") (by decide +kernel)
  have lk1 := hts (.fieldLink RX5 9 "FormationPlanner$Places" "cells" "[I") (by decide +kernel)
  have hl := lv_entry ([.ref (ad k), .int a]) (n := 2) (Nat.le_of_ble_eq_true rfl)
  rw [lg_entry_eq]
  generalize (lg_sl ([.ref (ad k), .int a]) ++ List.replicate (2 - (lg_sl ([.ref (ad k), .int a])).length) Slot.unset).toArray = ls at hl ⊢
  have hl : lv_has ls 2 [(0, .ref (ad k)), (1, .int a)] := hl
  obtain ⟨Q, hQ⟩ : ∃ Q, Q = MQ below (va_Qv (fun (u : gIv × gAr) => (u = (iv, ar) ∨ (0 ≤ (iv k 1).toInt ∧ (iv k 1).toInt < 6 ∧ ∃ x : Int32, x.toInt = (iv k 1).toInt + 1 ∧ u = (u2 iv k 1 x, va_up ar (k + 1) (upd (ar (k + 1)) (iv k 1).toNatClampNeg a))))) (gPost D cy ad) (gA ad s.heap.size)) (([.ref (ad k), .int a] : List Value).toArray) s 0 0 (gA ad s.heap.size) := ⟨_, rfl⟩
  rw [← hQ]
  refine lv_aload_n hx hb dX5_add_0 rfl (lv_at hl 0 rfl) ?_
  refine va_get (D := D) (ci := 5) (v := .int (iv k 1)) (C := RX5) (T := TX5) (N := 2) hx hb hts inX5 hown hK hP k (g_at5 hk hd) rfl 1 (by decide) lk0 (fun _ h9 => h9) rfl dX5_add_1 ?_
  refine lv_if_lt (tgt := 36) hx hb dX5_add_4 (by decide) (fun c_1 => ?_) (fun c_1 => ?_)
  · skip
    have q_1 : (iv k 1).toInt < 0 := i_lt2 (rfl : (iv k 1).toInt = (iv k 1).toInt) (rfl : (0 : Int32).toInt = 0) c_1
    rw [hQ]
    exact W.vret hx hb hr (fun t ht hW => ⟨⟨(iv, ar), rfl, Or.inl rfl, by show va_P _ _ _ _; rw [ht]; exact hP⟩, hS.F ht⟩) hS.2.2 dX5_add_36
  · skip
    have q_1 : 0 ≤ (iv k 1).toInt := i_nlt2 (rfl : (iv k 1).toInt = (iv k 1).toInt) (rfl : (0 : Int32).toInt = 0) c_1
    refine lv_aload_n hx hb dX5_add_7 rfl (lv_at hl 0 rfl) ?_
    refine va_get (D := D) (ci := 5) (v := .int (iv k 1)) (C := RX5) (T := TX5) (N := 2) hx hb hts inX5 hown hK hP k (g_at5 hk hd) rfl 1 (by decide) lk0 (fun _ h9 => h9) rfl dX5_add_8 ?_
    refine lv_bipush (v := 6) hx hb dX5_add_11 (by decide) ?_
    refine lv_icmp_ge (tgt := 36) hx hb dX5_add_13 (by decide) (fun c_2 => ?_) (fun c_2 => ?_)
    · skip
      have q_2 : 6 ≤ (iv k 1).toInt := i_le2 (rfl : (6 : Int32).toInt = 6) (rfl : (iv k 1).toInt = (iv k 1).toInt) c_2
      rw [hQ]
      exact W.vret hx hb hr (fun t ht hW => ⟨⟨(iv, ar), rfl, Or.inl rfl, by show va_P _ _ _ _; rw [ht]; exact hP⟩, hS.F ht⟩) hS.2.2 dX5_add_36
    · skip
      have q_2 : (iv k 1).toInt < 6 := i_nle2 (rfl : (6 : Int32).toInt = 6) (rfl : (iv k 1).toInt = (iv k 1).toInt) c_2
      refine lv_aload_n hx hb dX5_add_16 rfl (lv_at hl 0 rfl) ?_
      refine va_get (D := D) (ci := 5) (v := .ref (ad (k + 1))) (C := RX5) (T := TX5) (N := 2) hx hb hts inX5 hown hK hP k (g_at5 hk hd) rfl 0 (by decide) lk1 (fun _ h9 => h9) rfl dX5_add_17 ?_
      refine lv_aload_n hx hb dX5_add_20 rfl (lv_at hl 0 rfl) ?_
      refine va_get (D := D) (ci := 5) (v := .int (iv k 1)) (C := RX5) (T := TX5) (N := 2) hx hb hts inX5 hown hK hP k (g_at5 hk hd) rfl 1 (by decide) lk0 (fun _ h9 => h9) rfl dX5_add_21 ?_
      refine lv_iload_n hx hb dX5_add_24 rfl (lv_at hl 1 rfl) ?_
      refine va_iast hx hb hK hP (gD hI) hS (k + 1) 0 (g_at12 (g_k5_0 hk hd).1 (g_k5_0 hk hd).2) rfl (g_in (N := 6) (rfl : (iv k 1).toInt = (iv k 1).toInt) (g_l5_0 hk hd) (by omega) (by omega)) dX5_add_25 (fun H locs hP _ hS => ?_)
      rw [g_pt12 (g_k5_0 hk hd).1 (g_k5_0 hk hd).2] at hP
      obtain ⟨ar_3, ear_3⟩ : ∃ z : gAr, z = va_up ar (k + 1) (upd (ar (k + 1)) (iv k 1).toNatClampNeg a) := ⟨_, rfl⟩
      rw [← ear_3] at hP
      refine lv_aload_n hx hb dX5_add_26 rfl (lv_at hl 0 rfl) ?_
      refine lv_dup hx hb dX5_add_27 rfl ?_
      refine va_get (D := D) (ci := 5) (v := .int (iv k 1)) (C := RX5) (T := TX5) (N := 2) hx hb hts inX5 hown hK hP k (g_at5 hk hd) rfl 1 (by decide) lk0 (fun _ h9 => h9) rfl dX5_add_28 ?_
      refine lv_iconst (v := 1) hx hb dX5_add_31 (by decide) ?_
      refine lv_iadd hx hb dX5_add_32 ?_
      refine lv_topi (fun v_4 ev_4 => ?_)
      have tv_4 : v_4.toInt = ((iv k 1).toInt) + 1 := i_add (rfl : (iv k 1).toInt = (iv k 1).toInt) (rfl : (1 : Int32).toInt = 1) (by omega) (by omega) ev_4
      refine va_put (D := D) (ci := 5) (v := .int v_4) (ty := .int) (C := RX5) (T := TX5) (N := 2) hx hb hts inX5 tyX5 tyX5_ok nmX5 hown hK hP (gD hI) hS k (g_at5 hk hd) rfl 1 (by decide) lk0 (fun _ h9 => h9) rfl (by decide +kernel) rfl rfl (Nat.le_of_ble_eq_true rfl) dX5_add_33 (fun H locs hP _ hS => ?_)
      have hP : va_P D vwCl (GW cy ad (u2 iv k 1 v_4) ar_3) H := by rw [← g_pt5_1 hk hd]; exact hP
      obtain ⟨iv_5, eiv_5⟩ : ∃ z : gIv, z = u2 iv k 1 v_4 := ⟨_, rfl⟩
      rw [← eiv_5] at hP
      rw [hQ]
      exact W.vret hx hb hr (fun t ht hW => ⟨⟨(iv_5, ar_3), rfl, Or.inr ⟨by omega, by omega, _, tv_4, by rw [eiv_5, ear_3]⟩, by show va_P _ _ _ _; rw [ht]; exact hP⟩, hS.F ht⟩) hS.2.2 dX5_add_36
end
section
set_option maxHeartbeats 4000000 in
set_option maxRecDepth 100000 in
theorem c_J9_floorMod_7cf53 (l : Launch) (a : Int32) (b : Int32) (h8 : b.toInt = 8) : Met l yJ9_floorMod_7cf53 wsJ9_floorMod_7cf53 ({ frames := 0, cells := 0, slots := 0, locals := 0 } : Room) (va_Pc [.int a, .int b] (fun _ => True)) (vp_Si (fun r => 0 ≤ r.toInt ∧ r.toInt < 8 ∧ (0 ≤ a.toInt → r.toInt = a.toInt % 8))) 0 0 (fun _ => False) := by
  refine va_MetF (cc := cJ9_floorMod_7cf53) (maxL := 3) (ret := (some .int)) (by decide +kernel) rfl ?_
  intro p e s m args below meth c s₁ B hml hv
  obtain ⟨rfl, -⟩ := hv
  have hx := B.exec
  have hb := B.bytes
  have hr := B.returns
  have hts := atoms_spec (ws := wsJ9_floorMod_7cf53) B.pre
  have hown : s.vm.findClass RJ9 = some m.cls := findClass_of_methodNamed B.named
  have hlocks := B.notSynchronized
  have hl := lv_entry ([.int a, .int b]) (n := 3) (Nat.le_of_ble_eq_true rfl)
  rw [lg_entry_eq]
  generalize (lg_sl ([.int a, .int b]) ++ List.replicate (3 - (lg_sl ([.int a, .int b])).length) Slot.unset).toArray = ls at hl ⊢
  have hl : lv_has ls 3 [(0, .int a), (1, .int b)] := hl
  obtain ⟨Q, hQ⟩ : ∃ Q, Q = MQ below (vp_Si (fun r => 0 ≤ r.toInt ∧ r.toInt < 8 ∧ (0 ≤ a.toInt → r.toInt = a.toInt % 8))) (([.int a, .int b] : List Value).toArray) s 0 0 (fun _ => False) := ⟨_, rfl⟩
  rw [← hQ]
  refine lv_iload_n hx hb dJ9_floorMod_7cf53_0 rfl (lv_at hl 0 rfl) ?_
  refine lv_iload_n hx hb dJ9_floorMod_7cf53_1 rfl (lv_at hl 1 rfl) ?_
  refine lv_irem hx hb dJ9_floorMod_7cf53_2 (fun q => by have := i_eq q; have z := i_l0; omega) ?_
  refine lv_topi (fun v_1 ev_1 => ?_)
  have hm := i_fmod (i_trem h8 ev_1) (rfl : (8 : Int) = 8)
  refine lv_istore_n (lv' := [(2, .int v_1), (0, .int a), (1, .int b)]) hx hb dJ9_floorMod_7cf53_3 rfl hl (by decide) rfl (fun ls hl => ?_)
  refine lv_iload_n hx hb dJ9_floorMod_7cf53_4 rfl (lv_at hl 1 rfl) ?_
  refine lv_iload_n hx hb dJ9_floorMod_7cf53_5 rfl (lv_at hl 2 rfl) ?_
  refine lv_ixor hx hb dJ9_floorMod_7cf53_6 ?_
  refine lv_topi (fun v_2 ev_2 => ?_)
  have hx6 : v_2.toInt < 0 ↔ a.toInt < 0 := by rw [ev_2]; exact i_xneg (by omega)
  refine lv_if_ge (tgt := 18) hx hb dJ9_floorMod_7cf53_7 (by decide) (fun c_3 => ?_) (fun c_3 => ?_)
  · skip
    have q_3 : 0 ≤ v_2.toInt := i_le2 (rfl : (0 : Int32).toInt = 0) (rfl : v_2.toInt = v_2.toInt) c_3
    refine lv_iload_n hx hb dJ9_floorMod_7cf53_18 rfl (lv_at hl 0 rfl) ?_
    rw [hQ]
    exact W.iret (v := v_1) hx hb hr (fun t ht hW => ⟨v_1, rfl, by have z0 := i_l0; have z1 := i_l1; have zm := i_m1; have z2 := i_m2; omega, ht⟩) (fun q h => by cases h) dJ9_floorMod_7cf53_19
  · skip
    have q_3 : v_2.toInt < 0 := i_nle2 (rfl : (0 : Int32).toInt = 0) (rfl : v_2.toInt = v_2.toInt) c_3
    refine lv_iload_n hx hb dJ9_floorMod_7cf53_10 rfl (lv_at hl 0 rfl) ?_
    refine lv_if_eq (tgt := 18) hx hb dJ9_floorMod_7cf53_11 (by decide) (fun c_4 => ?_) (fun c_4 => ?_)
    · skip
      have q_4 : v_1.toInt = 0 := i_eq2 (rfl : v_1.toInt = v_1.toInt) (rfl : (0 : Int32).toInt = 0) c_4
      refine lv_iload_n hx hb dJ9_floorMod_7cf53_18 rfl (lv_at hl 0 rfl) ?_
      rw [hQ]
      exact W.iret (v := v_1) hx hb hr (fun t ht hW => ⟨v_1, rfl, by have z0 := i_l0; have z1 := i_l1; have zm := i_m1; have z2 := i_m2; omega, ht⟩) (fun q h => by cases h) dJ9_floorMod_7cf53_19
    · skip
      have q_4 : v_1.toInt ≠ 0 := i_ne2 (rfl : v_1.toInt = v_1.toInt) (rfl : (0 : Int32).toInt = 0) c_4
      refine lv_iload_n hx hb dJ9_floorMod_7cf53_14 rfl (lv_at hl 0 rfl) ?_
      refine lv_iload_n hx hb dJ9_floorMod_7cf53_15 rfl (lv_at hl 2 rfl) ?_
      refine lv_iadd hx hb dJ9_floorMod_7cf53_16 ?_
      refine lv_topi (fun v_5 ev_5 => ?_)
      have tv_5 : v_5.toInt = v_1.toInt + b.toInt := i_add (rfl : v_1.toInt = v_1.toInt) (rfl : b.toInt = b.toInt) (by omega) (by omega) ev_5
      rw [hQ]
      exact W.iret (v := v_5) hx hb hr (fun t ht hW => ⟨v_5, rfl, by have z0 := i_l0; have z1 := i_l1; have zm := i_m1; have z2 := i_m2; omega, ht⟩) (fun q h => by cases h) dJ9_floorMod_7cf53_17
set_option maxHeartbeats 4000000 in
set_option maxRecDepth 100000 in
theorem c_X5_copyFrom (l : Launch) (D : va_G) (cy : Nat → ClassId) (ad : Nat → Nat) (hI : gInj ad) (sz : Nat) (iv : gIv) (ar : gAr) (k : Nat) (hk : k < 135) (hd : kd k = 5) (k2 : Nat) (hk_k2 : k2 < 135) (hd_k2 : kd k2 = 5)  : Met l yX5_copyFrom wsX5_copyFrom ({ frames := 1, cells := 0, slots := 0, locals := 40 } : Room) (va_Pc [.ref (ad k), .ref (ad k2)] (gPre D cy ad sz iv ar)) (va_Qv (fun (u : gIv × gAr) => u.1 = u2 iv k 1 (iv k2 1) ∧ ∀ a, a ≠ k + 1 → u.2 a = ar a) (gPost D cy ad) (gA ad sz)) 0 0 (gA ad sz) := by
  refine Met.ofW (cc := cX5_copyFrom) (maxL := 2) (ret := none) (by decide) rfl ?_
  intro p e s m args below meth c s₁ B hml hv
  obtain ⟨rfl, rfl, hP, hK, hSt, hNw⟩ := hv
  have hx := B.exec
  have hb := B.bytes
  have hr := B.returns
  have hts := atoms_spec (ws := wsX5_copyFrom) B.pre
  have hown : s.vm.findClass RX5 = some m.cls := findClass_of_methodNamed B.named
  have hlocks := B.notSynchronized
  have hS : va_S (gA ad s.heap.size) s.heap s.heap [] := va_S.rf
  have inX5 : ∀ w ∈ u_ws RX5 TX5 2, w ∈ wsX5_copyFrom := by decide +kernel
  have lk0 := hts (.fieldLink RX5 9 "FormationPlanner$Places" "cells" "[I") (by decide +kernel)
  have lk1 := hts (.methodLink RX5 23 arraycopyName) (by decide +kernel)
  have lk2 := hts (.native arraycopyName) (by decide +kernel)
  have lk3 := hts (.static arraycopyName) (by decide +kernel)
  have lk4 := hts (.initialized "java/lang/System") (by decide +kernel)
  have lk5 := hts (.fieldLink RX5 15 "FormationPlanner$Places" "size" "I") (by decide +kernel)
  have hl := lv_entry ([.ref (ad k), .ref (ad k2)]) (n := 2) (Nat.le_of_ble_eq_true rfl)
  rw [lg_entry_eq]
  generalize (lg_sl ([.ref (ad k), .ref (ad k2)]) ++ List.replicate (2 - (lg_sl ([.ref (ad k), .ref (ad k2)])).length) Slot.unset).toArray = ls at hl ⊢
  have hl : lv_has ls 2 [(0, .ref (ad k)), (1, .ref (ad k2))] := hl
  obtain ⟨Q, hQ⟩ : ∃ Q, Q = MQ below (va_Qv (fun (u : gIv × gAr) => u.1 = u2 iv k 1 (iv k2 1) ∧ ∀ a, a ≠ k + 1 → u.2 a = ar a) (gPost D cy ad) (gA ad s.heap.size)) (([.ref (ad k), .ref (ad k2)] : List Value).toArray) s 0 0 (gA ad s.heap.size) := ⟨_, rfl⟩
  rw [← hQ]
  refine lv_aload_n hx hb dX5_copyFrom_0 rfl (lv_at hl 1 rfl) ?_
  refine va_get (D := D) (ci := 5) (v := .ref (ad (k2 + 1))) (C := RX5) (T := TX5) (N := 2) hx hb hts inX5 hown hK hP k2 (g_at5 hk_k2 hd_k2) rfl 0 (by decide) lk0 (fun _ h9 => h9) rfl dX5_copyFrom_1 ?_
  refine lv_iconst (v := 0) hx hb dX5_copyFrom_4 (by decide) ?_
  refine lv_aload_n hx hb dX5_copyFrom_5 rfl (lv_at hl 0 rfl) ?_
  refine va_get (D := D) (ci := 5) (v := .ref (ad (k + 1))) (C := RX5) (T := TX5) (N := 2) hx hb hts inX5 hown hK hP k (g_at5 hk hd) rfl 0 (by decide) lk0 (fun _ h9 => h9) rfl dX5_copyFrom_6 ?_
  refine lv_iconst (v := 0) hx hb dX5_copyFrom_9 (by decide) ?_
  refine lv_bipush (v := 6) hx hb dX5_copyFrom_10 (by decide) ?_
  refine va_copyi (rest := []) hx hb (hml.trans hl.1.symm) hown lk1 lk2 lk3 lk4 hK hP (gD hI) hS (k2 + 1) (k + 1) 0 0 (g_at12 (g_k5_0 hk_k2 hd_k2).1 (g_k5_0 hk_k2 hd_k2).2) (g_at12 (g_k5_0 hk hd).1 (g_k5_0 hk hd).2) rfl rfl rfl (by decide) (by decide) (by decide) (g_le3 (N := 6) (g_l5_0 hk_k2 hd_k2) (by decide)) (g_le3 (N := 6) (g_l5_0 hk hd) (by decide)) (fun i _ => rfl) (Nat.le_of_ble_eq_true rfl) (Nat.le_of_ble_eq_true rfl) dX5_copyFrom_12 (fun H locs hP _ hS => ?_)
  rw [g_pt12 (g_k5_0 hk hd).1 (g_k5_0 hk hd).2] at hP
  obtain ⟨ar_1, ear_1⟩ : ∃ z : gAr, z = va_up ar (k + 1) (va_cpy (ar (k2 + 1)) (ar (k + 1)) 0 0 (6 : Int32).toNatClampNeg) := ⟨_, rfl⟩
  have hP : va_P D vwCl (GW cy ad iv ar_1) H := by rw [ear_1]; exact hP
  refine lv_aload_n hx hb dX5_copyFrom_15 rfl (lv_at hl 0 rfl) ?_
  refine lv_aload_n hx hb dX5_copyFrom_16 rfl (lv_at hl 1 rfl) ?_
  refine va_get (D := D) (ci := 5) (v := .int (iv k2 1)) (C := RX5) (T := TX5) (N := 2) hx hb hts inX5 hown hK hP k2 (g_at5 hk_k2 hd_k2) rfl 1 (by decide) lk5 (fun _ h9 => h9) rfl dX5_copyFrom_17 ?_
  refine va_put (D := D) (ci := 5) (v := .int (iv k2 1)) (ty := .int) (C := RX5) (T := TX5) (N := 2) hx hb hts inX5 tyX5 tyX5_ok nmX5 hown hK hP (gD hI) hS k (g_at5 hk hd) rfl 1 (by decide) lk5 (fun _ h9 => h9) rfl (by decide +kernel) rfl rfl (Nat.le_of_ble_eq_true rfl) dX5_copyFrom_20 (fun H locs hP _ hS => ?_)
  have hP : va_P D vwCl (GW cy ad (u2 iv k 1 (iv k2 1)) ar_1) H := by rw [← g_pt5_1 hk hd]; exact hP
  obtain ⟨iv_2, eiv_2⟩ : ∃ z : gIv, z = u2 iv k 1 (iv k2 1) := ⟨_, rfl⟩
  rw [← eiv_2] at hP
  rw [hQ]
  exact W.vret hx hb hr (fun t ht hW => ⟨⟨(iv_2, ar_1), rfl, ⟨eiv_2, fun a h => by show ar_1 a = ar a; rw [ear_1, ua_o (h)]⟩, by show va_P _ _ _ _; rw [ht]; exact hP⟩, hS.F ht⟩) hS.2.2 dX5_copyFrom_23
set_option maxHeartbeats 4000000 in
set_option maxRecDepth 100000 in
theorem c_X8_copyFrom (l : Launch) (D : va_G) (cy : Nat → ClassId) (ad : Nat → Nat) (hI : gInj ad) (sz : Nat) (iv : gIv) (ar : gAr) (k : Nat) (hk : k < 135) (hd : kd k = 8) (k2 : Nat) (hk_k2 : k2 < 135) (hd_k2 : kd k2 = 8) (hne : k + 7 ≤ k2 ∨ k2 + 7 ≤ k) : Met l yX8_copyFrom wsX8_copyFrom ({ frames := 2, cells := 0, slots := 0, locals := 61 } : Room) (va_Pc [.ref (ad k), .ref (ad k2)] (gPre D cy ad sz iv ar)) (va_Qv (fun (u : gIv × gAr) => (∀ a b, (a < k ∨ k + 7 ≤ a) → u.1 a b = iv a b) ∧ (∀ a, (a < k ∨ k + 7 ≤ a) → u.2 a = ar a) ∧ (u.1 (k + 3) 1 = iv (k2 + 3) 1 ∧ u.1 (k + 5) 1 = iv (k2 + 5) 1)) (gPost D cy ad) (gA ad sz)) 0 0 (gA ad sz) := by
  refine Met.ofW (cc := cX8_copyFrom) (maxL := 2) (ret := none) (by decide) rfl ?_
  intro p e s m args below meth c s₁ B hml hv
  obtain ⟨rfl, rfl, hP, hK, hSt, hNw⟩ := hv
  have hx := B.exec
  have hb := B.bytes
  have hr := B.returns
  have hts := atoms_spec (ws := wsX8_copyFrom) B.pre
  have hown : s.vm.findClass RX8 = some m.cls := findClass_of_methodNamed B.named
  have hlocks := B.notSynchronized
  have hS : va_S (gA ad s.heap.size) s.heap s.heap [] := va_S.rf
  have inX8 : ∀ w ∈ u_ws RX8 TX8 5, w ∈ wsX8_copyFrom := by decide +kernel
  have lk0 := hts (.fieldLink RX8 9 "FormationPlanner$Scene" "winds" "[I") (by decide +kernel)
  have lk1 := hts (.methodLink RX8 43 arraycopyName) (by decide +kernel)
  have lk2 := hts (.native arraycopyName) (by decide +kernel)
  have lk3 := hts (.static arraycopyName) (by decide +kernel)
  have lk4 := hts (.initialized "java/lang/System") (by decide +kernel)
  have lk5 := hts (.fieldLink RX8 15 "FormationPlanner$Scene" "obstacles" "[I") (by decide +kernel)
  have lk6 := hts (.fieldLink RX8 21 "FormationPlanner$Scene" "drones" "LFormationPlanner$Places;") (by decide +kernel)
  have lk7 := hts (.fieldLink RX8 25 "FormationPlanner$Scene" "slots" "LFormationPlanner$Places;") (by decide +kernel)
  have lk8 := hts (.fieldLink RX8 53 "FormationPlanner$Scene" "flown" "I") (by decide +kernel)
  have hl := lv_entry ([.ref (ad k), .ref (ad k2)]) (n := 2) (Nat.le_of_ble_eq_true rfl)
  rw [lg_entry_eq]
  generalize (lg_sl ([.ref (ad k), .ref (ad k2)]) ++ List.replicate (2 - (lg_sl ([.ref (ad k), .ref (ad k2)])).length) Slot.unset).toArray = ls at hl ⊢
  have hl : lv_has ls 2 [(0, .ref (ad k)), (1, .ref (ad k2))] := hl
  obtain ⟨Q, hQ⟩ : ∃ Q, Q = MQ below (va_Qv (fun (u : gIv × gAr) => (∀ a b, (a < k ∨ k + 7 ≤ a) → u.1 a b = iv a b) ∧ (∀ a, (a < k ∨ k + 7 ≤ a) → u.2 a = ar a) ∧ (u.1 (k + 3) 1 = iv (k2 + 3) 1 ∧ u.1 (k + 5) 1 = iv (k2 + 5) 1)) (gPost D cy ad) (gA ad s.heap.size)) (([.ref (ad k), .ref (ad k2)] : List Value).toArray) s 0 0 (gA ad s.heap.size) := ⟨_, rfl⟩
  rw [← hQ]
  refine lv_aload_n hx hb dX8_copyFrom_0 rfl (lv_at hl 1 rfl) ?_
  refine va_get (D := D) (ci := 8) (v := .ref (ad (k2 + 1))) (C := RX8) (T := TX8) (N := 5) hx hb hts inX8 hown hK hP k2 (g_at8 hk_k2 hd_k2) rfl 0 (by decide) lk0 (fun _ h9 => h9) rfl dX8_copyFrom_1 ?_
  refine lv_iconst (v := 0) hx hb dX8_copyFrom_4 (by decide) ?_
  refine lv_aload_n hx hb dX8_copyFrom_5 rfl (lv_at hl 0 rfl) ?_
  refine va_get (D := D) (ci := 8) (v := .ref (ad (k + 1))) (C := RX8) (T := TX8) (N := 5) hx hb hts inX8 hown hK hP k (g_at8 hk hd) rfl 0 (by decide) lk0 (fun _ h9 => h9) rfl dX8_copyFrom_6 ?_
  refine lv_iconst (v := 0) hx hb dX8_copyFrom_9 (by decide) ?_
  refine lv_iconst (v := 3) hx hb dX8_copyFrom_10 (by decide) ?_
  refine va_copyi (rest := []) hx hb (hml.trans hl.1.symm) hown lk1 lk2 lk3 lk4 hK hP (gD hI) hS (k2 + 1) (k + 1) 0 0 (g_at12 (g_k8_0 hk_k2 hd_k2).1 (g_k8_0 hk_k2 hd_k2).2) (g_at12 (g_k8_0 hk hd).1 (g_k8_0 hk hd).2) rfl rfl rfl (by decide) (by decide) (by decide) (g_le3 (N := 3) (g_l8_0 hk_k2 hd_k2) (by decide)) (g_le3 (N := 3) (g_l8_0 hk hd) (by decide)) (fun i _ => rfl) (Nat.le_of_ble_eq_true rfl) (Nat.le_of_ble_eq_true rfl) dX8_copyFrom_11 (fun H locs hP _ hS => ?_)
  rw [g_pt12 (g_k8_0 hk hd).1 (g_k8_0 hk hd).2] at hP
  obtain ⟨ar_1, ear_1⟩ : ∃ z : gAr, z = va_up ar (k + 1) (va_cpy (ar (k2 + 1)) (ar (k + 1)) 0 0 (3 : Int32).toNatClampNeg) := ⟨_, rfl⟩
  have hP : va_P D vwCl (GW cy ad iv ar_1) H := by rw [ear_1]; exact hP
  refine lv_aload_n hx hb dX8_copyFrom_14 rfl (lv_at hl 1 rfl) ?_
  refine va_get (D := D) (ci := 8) (v := .ref (ad (k2 + 2))) (C := RX8) (T := TX8) (N := 5) hx hb hts inX8 hown hK hP k2 (g_at8 hk_k2 hd_k2) rfl 1 (by decide) lk5 (fun _ h9 => h9) rfl dX8_copyFrom_15 ?_
  refine lv_iconst (v := 0) hx hb dX8_copyFrom_18 (by decide) ?_
  refine lv_aload_n hx hb dX8_copyFrom_19 rfl (lv_at hl 0 rfl) ?_
  refine va_get (D := D) (ci := 8) (v := .ref (ad (k + 2))) (C := RX8) (T := TX8) (N := 5) hx hb hts inX8 hown hK hP k (g_at8 hk hd) rfl 1 (by decide) lk5 (fun _ h9 => h9) rfl dX8_copyFrom_20 ?_
  refine lv_iconst (v := 0) hx hb dX8_copyFrom_23 (by decide) ?_
  refine lv_bipush (v := 108) hx hb dX8_copyFrom_24 (by decide) ?_
  refine va_copyi (rest := []) hx hb (hml.trans hl.1.symm) hown lk1 lk2 lk3 lk4 hK hP (gD hI) hS (k2 + 2) (k + 2) 0 0 (g_at12 (g_k8_1 hk_k2 hd_k2).1 (g_k8_1 hk_k2 hd_k2).2) (g_at12 (g_k8_1 hk hd).1 (g_k8_1 hk hd).2) rfl rfl rfl (by decide) (by decide) (by decide) (g_le3 (N := 108) (g_l8_1 hk_k2 hd_k2) (by decide)) (g_le3 (N := 108) (g_l8_1 hk hd) (by decide)) (fun i _ => rfl) (Nat.le_of_ble_eq_true rfl) (Nat.le_of_ble_eq_true rfl) dX8_copyFrom_26 (fun H locs hP _ hS => ?_)
  rw [g_pt12 (g_k8_1 hk hd).1 (g_k8_1 hk hd).2] at hP
  obtain ⟨ar_2, ear_2⟩ : ∃ z : gAr, z = va_up ar_1 (k + 2) (va_cpy (ar_1 (k2 + 2)) (ar_1 (k + 2)) 0 0 (108 : Int32).toNatClampNeg) := ⟨_, rfl⟩
  have hP : va_P D vwCl (GW cy ad iv ar_2) H := by rw [ear_2]; exact hP
  refine lv_aload_n hx hb dX8_copyFrom_29 rfl (lv_at hl 0 rfl) ?_
  refine va_get (D := D) (ci := 8) (v := .ref (ad (k + 3))) (C := RX8) (T := TX8) (N := 5) hx hb hts inX8 hown hK hP k (g_at8 hk hd) rfl 2 (by decide) lk6 (fun _ h9 => h9) rfl dX8_copyFrom_30 ?_
  refine lv_aload_n hx hb dX8_copyFrom_33 rfl (lv_at hl 1 rfl) ?_
  refine va_get (D := D) (ci := 8) (v := .ref (ad (k2 + 3))) (C := RX8) (T := TX8) (N := 5) hx hb hts inX8 hown hK hP k2 (g_at8 hk_k2 hd_k2) rfl 2 (by decide) lk6 (fun _ h9 => h9) rfl dX8_copyFrom_34 ?_
  refine g_callv (va_runV (As := [.ref (ad (k2 + 3))]) (rest := []) ⟨hx, hb, hml, hown, hts⟩ (c_X5_copyFrom l D cy ad hI _ iv ar_2 (k + 3) (g_k8_2 hk hd).1 (g_k8_2 hk hd).2 (k2 + 3) (g_k8_2 hk_k2 hd_k2).1 (g_k8_2 hk_k2 hd_k2).2) (cwV 1 hts gX8_copyFrom_X5_copyFrom rfl rfl rfl (by decide +kernel) ⟨Nat.le_of_ble_eq_true rfl, Nat.le_of_ble_eq_true rfl⟩) (g_preV hP hK hSt hNw hS (g_at5 (g_k8_2 hk hd).1 (g_k8_2 hk hd).2) rfl) rfl rfl hl.1 rfl (lv_room (Nat.le_of_ble_eq_true rfl)) dX8_copyFrom_37 ⟨Nat.zero_le _, Nat.zero_le _⟩) hS (fun iv_3 ar_3 H locs w_3 hP hS => ?_)
  try dsimp only at w_3
  refine lv_aload_n hx hb dX8_copyFrom_40 rfl (lv_at hl 0 rfl) ?_
  refine va_get (D := D) (ci := 8) (v := .ref (ad (k + 5))) (C := RX8) (T := TX8) (N := 5) hx hb hts inX8 hown hK hP k (g_at8 hk hd) rfl 3 (by decide) lk7 (fun _ h9 => h9) rfl dX8_copyFrom_41 ?_
  refine lv_aload_n hx hb dX8_copyFrom_44 rfl (lv_at hl 1 rfl) ?_
  refine va_get (D := D) (ci := 8) (v := .ref (ad (k2 + 5))) (C := RX8) (T := TX8) (N := 5) hx hb hts inX8 hown hK hP k2 (g_at8 hk_k2 hd_k2) rfl 3 (by decide) lk7 (fun _ h9 => h9) rfl dX8_copyFrom_45 ?_
  refine g_callv (va_runV (As := [.ref (ad (k2 + 5))]) (rest := []) ⟨hx, hb, hml, hown, hts⟩ (c_X5_copyFrom l D cy ad hI _ iv_3 ar_3 (k + 5) (g_k8_3 hk hd).1 (g_k8_3 hk hd).2 (k2 + 5) (g_k8_3 hk_k2 hd_k2).1 (g_k8_3 hk_k2 hd_k2).2) (cwV 1 hts gX8_copyFrom_X5_copyFrom rfl rfl rfl (by decide +kernel) ⟨Nat.le_of_ble_eq_true rfl, Nat.le_of_ble_eq_true rfl⟩) (g_preV hP hK hSt hNw hS (g_at5 (g_k8_3 hk hd).1 (g_k8_3 hk hd).2) rfl) rfl rfl hl.1 rfl (lv_room (Nat.le_of_ble_eq_true rfl)) dX8_copyFrom_48 ⟨Nat.zero_le _, Nat.zero_le _⟩) hS (fun iv_4 ar_4 H locs w_4 hP hS => ?_)
  try dsimp only at w_4
  refine lv_aload_n hx hb dX8_copyFrom_51 rfl (lv_at hl 0 rfl) ?_
  refine lv_aload_n hx hb dX8_copyFrom_52 rfl (lv_at hl 1 rfl) ?_
  refine va_get (D := D) (ci := 8) (v := .int (iv_4 k2 4)) (C := RX8) (T := TX8) (N := 5) hx hb hts inX8 hown hK hP k2 (g_at8 hk_k2 hd_k2) rfl 4 (by decide) lk8 (fun _ h9 => h9) rfl dX8_copyFrom_53 ?_
  refine va_put (D := D) (ci := 8) (v := .int (iv_4 k2 4)) (ty := .int) (C := RX8) (T := TX8) (N := 5) hx hb hts inX8 tyX8 tyX8_ok nmX8 hown hK hP (gD hI) hS k (g_at8 hk hd) rfl 4 (by decide) lk8 (fun _ h9 => h9) rfl (by decide +kernel) rfl rfl (Nat.le_of_ble_eq_true rfl) dX8_copyFrom_56 (fun H locs hP _ hS => ?_)
  have hP : va_P D vwCl (GW cy ad (u2 iv_4 k 4 (iv_4 k2 4)) ar_4) H := by rw [← g_pt8_4 hk hd]; exact hP
  obtain ⟨iv_5, eiv_5⟩ : ∃ z : gIv, z = u2 iv_4 k 4 (iv_4 k2 4) := ⟨_, rfl⟩
  rw [← eiv_5] at hP
  rw [hQ]
  exact W.vret hx hb hr (fun t ht hW => ⟨⟨(iv_5, ar_4), rfl, ⟨fun a b h => by show iv_5 a b = iv a b; rw [eiv_5, u2_o (by omega), w_4.1, u2_o (by omega), w_3.1, u2_o (by omega)], fun a h => by show ar_4 a = ar a; rw [w_4.2 a (by omega)]; rw [w_3.2 a (by omega)]; rw [ear_2, ua_o (by omega)]; rw [ear_1, ua_o (by omega)], ⟨by show iv_5 (k + 3) 1 = _; rw [eiv_5, u2_o (by omega), w_4.1, u2_o (by omega), w_3.1, u2_s], by show iv_5 (k + 5) 1 = _; rw [eiv_5, u2_o (by omega), w_4.1, u2_s, w_3.1, u2_o (by omega)]⟩⟩, by show va_P _ _ _ _; rw [ht]; exact hP⟩, hS.F ht⟩) hS.2.2 dX8_copyFrom_59
set_option maxHeartbeats 4000000 in
set_option maxRecDepth 100000 in
theorem c_X6_discard (l : Launch) (D : va_G) (cy : Nat → ClassId) (ad : Nat → Nat) (hI : gInj ad) (sz : Nat) (iv : gIv) (ar : gAr)   : Met l yX6_discard wsX6_discard ({ frames := 0, cells := 0, slots := 0, locals := 0 } : Room) (va_Pc [.ref (ad 90)] (gPre D cy ad sz iv ar)) (va_Qv (fun (u : gIv × gAr) => u.1 = u2 (u2 iv 90 7 0) 90 8 (-1) ∧ u.2 = ar) (gPost D cy ad) (gA ad sz)) 0 0 (gA ad sz) := by
  refine Met.ofW (cc := cX6_discard) (maxL := 1) (ret := none) (by decide) rfl ?_
  intro p e s m args below meth c s₁ B hml hv
  obtain ⟨rfl, rfl, hP, hK, hSt, hNw⟩ := hv
  have hx := B.exec
  have hb := B.bytes
  have hr := B.returns
  have hts := atoms_spec (ws := wsX6_discard) B.pre
  have hown : s.vm.findClass RX6 = some m.cls := findClass_of_methodNamed B.named
  have hlocks := B.notSynchronized
  have hS : va_S (gA ad s.heap.size) s.heap s.heap [] := va_S.rf
  have inX6 : ∀ w ∈ u_ws RX6 TX6 11, w ∈ wsX6_discard := by decide +kernel
  have lk0 := hts (.fieldLink RX6 53 "FormationPlanner$Plan" "stands" "Z") (by decide +kernel)
  have lk1 := hts (.fieldLink RX6 24 "FormationPlanner$Plan" "stuckDrone" "I") (by decide +kernel)
  have hl := lv_entry ([.ref (ad 90)]) (n := 1) (Nat.le_of_ble_eq_true rfl)
  rw [lg_entry_eq]
  generalize (lg_sl ([.ref (ad 90)]) ++ List.replicate (1 - (lg_sl ([.ref (ad 90)])).length) Slot.unset).toArray = ls at hl ⊢
  have hl : lv_has ls 1 [(0, .ref (ad 90))] := hl
  obtain ⟨Q, hQ⟩ : ∃ Q, Q = MQ below (va_Qv (fun (u : gIv × gAr) => u.1 = u2 (u2 iv 90 7 0) 90 8 (-1) ∧ u.2 = ar) (gPost D cy ad) (gA ad s.heap.size)) (([.ref (ad 90)] : List Value).toArray) s 0 0 (gA ad s.heap.size) := ⟨_, rfl⟩
  rw [← hQ]
  refine lv_aload_n hx hb dX6_discard_0 rfl (lv_at hl 0 rfl) ?_
  refine lv_iconst (v := 0) hx hb dX6_discard_1 (by decide) ?_
  refine va_put (D := D) (ci := 6) (v := .int 0) (ty := .boolean) (C := RX6) (T := TX6) (N := 11) hx hb hts inX6 tyX6 tyX6_ok nmX6 hown hK hP (gD hI) hS 90 (g_at6 (Nat.le_of_ble_eq_true rfl) rfl) rfl 7 (by decide) lk0 (fun _ h9 => h9) rfl (by decide +kernel) rfl rfl (Nat.le_of_ble_eq_true rfl) dX6_discard_2 (fun H locs hP _ hS => ?_)
  have hP : va_P D vwCl (GW cy ad (u2 iv 90 7 0) ar) H := by rw [← g_pt6_7 (Nat.le_of_ble_eq_true rfl) rfl]; exact hP
  obtain ⟨iv_1, eiv_1⟩ : ∃ z : gIv, z = u2 iv 90 7 0 := ⟨_, rfl⟩
  rw [← eiv_1] at hP
  refine lv_aload_n hx hb dX6_discard_5 rfl (lv_at hl 0 rfl) ?_
  refine lv_iconst (v := (-1)) hx hb dX6_discard_6 (by decide) ?_
  refine va_put (D := D) (ci := 6) (v := .int (-1)) (ty := .int) (C := RX6) (T := TX6) (N := 11) hx hb hts inX6 tyX6 tyX6_ok nmX6 hown hK hP (gD hI) hS 90 (g_at6 (Nat.le_of_ble_eq_true rfl) rfl) rfl 8 (by decide) lk1 (fun _ h9 => h9) rfl (by decide +kernel) rfl rfl (Nat.le_of_ble_eq_true rfl) dX6_discard_7 (fun H locs hP _ hS => ?_)
  have hP : va_P D vwCl (GW cy ad (u2 iv_1 90 8 (-1)) ar) H := by rw [← g_pt6_8 (Nat.le_of_ble_eq_true rfl) rfl]; exact hP
  obtain ⟨iv_2, eiv_2⟩ : ∃ z : gIv, z = u2 iv_1 90 8 (-1) := ⟨_, rfl⟩
  rw [← eiv_2] at hP
  rw [hQ]
  exact W.vret hx hb hr (fun t ht hW => ⟨⟨(iv_2, ar), rfl, ⟨by show iv_2 = _; rw [eiv_2, eiv_1], rfl⟩, by show va_P _ _ _ _; rw [ht]; exact hP⟩, hS.F ht⟩) hS.2.2 dX6_discard_10
set_option maxHeartbeats 4000000 in
set_option maxRecDepth 100000 in
theorem c_X3_keep (l : Launch) (D : va_G) (cy : Nat → ClassId) (ad : Nat → Nat) (hI : gInj ad) (sz : Nat) (iv : gIv) (ar : gAr)  (hz : (∀ c, c < 135 → kd c = 5 → 0 ≤ (iv c 1).toInt ∧ (iv c 1).toInt ≤ 6)) : Met l yX3_keep wsX3_keep ({ frames := 3, cells := 0, slots := 0, locals := 82 } : Room) (va_Pc [.ref (ad 8), .ref (ad 1)] (gPre D cy ad sz iv ar)) (va_Qv (fun (u : gIv × gAr) => (∀ a b, (a < 8 ∨ 66 ≤ a) → u.1 a b = iv a b) ∧ (∀ a, (a < 8 ∨ 66 ≤ a) → u.2 a = ar a) ∧ (∀ c, c < 135 → kd c = 5 → 0 ≤ (u.1 c 1).toInt ∧ (u.1 c 1).toInt ≤ 6)) (gPost D cy ad) (gA ad sz)) 0 0 (gA ad sz) := by
  refine Met.ofW (cc := cX3_keep) (maxL := 2) (ret := none) (by decide) rfl ?_
  intro p e s m args below meth c s₁ B hml hv
  obtain ⟨rfl, rfl, hP, hK, hSt, hNw⟩ := hv
  have hx := B.exec
  have hb := B.bytes
  have hr := B.returns
  have hts := atoms_spec (ws := wsX3_keep) B.pre
  have hown : s.vm.findClass RX3 = some m.cls := findClass_of_methodNamed B.named
  have hlocks := B.notSynchronized
  have hS : va_S (gA ad s.heap.size) s.heap s.heap [] := va_S.rf
  have inX3 : ∀ w ∈ u_ws RX3 TX3 3, w ∈ wsX3_keep := by decide +kernel
  have lk0 := hts (.fieldLink RX3 11 "FormationPlanner$History" "scenes" "[LFormationPlanner$Scene;") (by decide +kernel)
  have lk1 := hts (.fieldLink RX3 18 "FormationPlanner$History" "next" "I") (by decide +kernel)
  have lk2 := hts (.fieldLink RX3 32 "FormationPlanner$History" "size" "I") (by decide +kernel)
  have lk3 := hts (.methodLink RX3 35 Lib.Math.min.name) (by decide +kernel)
  have lk4 := hts (.static Lib.Math.min.name) (by decide +kernel)
  have lk5 := hts (.initialized "java/lang/Math") (by decide +kernel)
  have lk6 := hts (.code Lib.Math.min.name Lib.Math.min.code 2 (some .int)) (by decide +kernel)
  have hl := lv_entry ([.ref (ad 8), .ref (ad 1)]) (n := 2) (Nat.le_of_ble_eq_true rfl)
  rw [lg_entry_eq]
  generalize (lg_sl ([.ref (ad 8), .ref (ad 1)]) ++ List.replicate (2 - (lg_sl ([.ref (ad 8), .ref (ad 1)])).length) Slot.unset).toArray = ls at hl ⊢
  have hl : lv_has ls 2 [(0, .ref (ad 8)), (1, .ref (ad 1))] := hl
  obtain ⟨Q, hQ⟩ : ∃ Q, Q = MQ below (va_Qv (fun (u : gIv × gAr) => (∀ a b, (a < 8 ∨ 66 ≤ a) → u.1 a b = iv a b) ∧ (∀ a, (a < 8 ∨ 66 ≤ a) → u.2 a = ar a) ∧ (∀ c, c < 135 → kd c = 5 → 0 ≤ (u.1 c 1).toInt ∧ (u.1 c 1).toInt ≤ 6)) (gPost D cy ad) (gA ad s.heap.size)) (([.ref (ad 8), .ref (ad 1)] : List Value).toArray) s 0 0 (gA ad s.heap.size) := ⟨_, rfl⟩
  rw [← hQ]
  have h9 : ln 9 = 10 := rfl
  refine lv_aload_n hx hb dX3_keep_0 rfl (lv_at hl 0 rfl) ?_
  refine va_get (D := D) (ci := 3) (v := .ref (ad 9)) (C := RX3) (T := TX3) (N := 3) hx hb hts inX3 hown hK hP 8 (g_at3 (Nat.le_of_ble_eq_true rfl) rfl) rfl 0 (by decide) lk0 (fun _ h9 => h9) rfl dX3_keep_1 ?_
  refine lv_aload_n hx hb dX3_keep_4 rfl (lv_at hl 0 rfl) ?_
  refine va_get (D := D) (ci := 3) (v := .int (iv 8 1)) (C := RX3) (T := TX3) (N := 3) hx hb hts inX3 hown hK hP 8 (g_at3 (Nat.le_of_ble_eq_true rfl) rfl) rfl 1 (by decide) lk1 (fun _ h9 => h9) rfl dX3_keep_5 ?_
  refine lv_bipush (v := 8) hx hb dX3_keep_8 (by decide) ?_
  refine g_callSi (va_runS (As := [.int (iv 8 1), .int 8]) (rest := [.ref (ad 9)]) ⟨hx, hb, hml, hown, hts⟩ (c_J9_floorMod_7cf53 l (iv 8 1) 8 rfl) (va_cwS 2 hts gX3_keep_J9_floorMod_7cf53 rfl rfl rfl (by decide +kernel) ⟨Nat.le_of_ble_eq_true rfl, Nat.le_of_ble_eq_true rfl⟩) (g_preT) rfl rfl hl.1 rfl (lv_room (Nat.le_of_ble_eq_true rfl)) dX3_keep_10 ⟨Nat.zero_le _, Nat.zero_le _⟩) (fun r_1 w_1 => ?_)
  try dsimp only at w_1
  refine va_aldq hx hb hK hP 9 2 (g_at15 (Nat.le_of_ble_eq_true rfl) rfl) rfl (g_in (N := 8) (rfl : r_1.toInt = r_1.toInt) rfl (by omega) (by omega)) dX3_keep_13 ?_
  obtain ⟨k_2, ek_2⟩ : ∃ z : Nat, z = ln 9 + 7 * r_1.toNatClampNeg := ⟨_, rfl⟩
  have hk_2 : k_2 < 135 ∧ kd k_2 = 8 := by rw [ek_2]; exact g_ch9 (g_cl (rfl : r_1.toInt = r_1.toInt) (by omega) (by omega))
  show W p l e _ s m _ below meth c _ _ _ _ Q (F0 m 14 _ (Value.ref (ad (ln 9 + 7 * r_1.toNatClampNeg)) :: []))
  rw [← ek_2]
  have hck_2 := g_cN (rfl : r_1.toInt = r_1.toInt)
  refine lv_aload_n hx hb dX3_keep_14 rfl (lv_at hl 1 rfl) ?_
  refine g_callv (va_runV (As := [.ref (ad 1)]) (rest := []) ⟨hx, hb, hml, hown, hts⟩ (c_X8_copyFrom l D cy ad hI _ iv ar k_2 hk_2.1 hk_2.2 1 (Nat.le_of_ble_eq_true rfl) rfl (by have h9 : ln 9 = 10 := rfl; omega)) (cwV 1 hts gX3_keep_X8_copyFrom rfl rfl rfl (by decide +kernel) ⟨Nat.le_of_ble_eq_true rfl, Nat.le_of_ble_eq_true rfl⟩) (g_preV hP hK hSt hNw hS (g_at8 hk_2.1 hk_2.2) rfl) rfl rfl hl.1 rfl (lv_room (Nat.le_of_ble_eq_true rfl)) dX3_keep_15 ⟨Nat.zero_le _, Nat.zero_le _⟩) hS (fun iv_3 ar_3 H locs w_3 hP hS => ?_)
  try dsimp only at w_3
  refine lv_aload_n hx hb dX3_keep_18 rfl (lv_at hl 0 rfl) ?_
  refine lv_aload_n hx hb dX3_keep_19 rfl (lv_at hl 0 rfl) ?_
  refine va_get (D := D) (ci := 3) (v := .int (iv_3 8 1)) (C := RX3) (T := TX3) (N := 3) hx hb hts inX3 hown hK hP 8 (g_at3 (Nat.le_of_ble_eq_true rfl) rfl) rfl 1 (by decide) lk1 (fun _ h9 => h9) rfl dX3_keep_20 ?_
  refine lv_iconst (v := 1) hx hb dX3_keep_23 (by decide) ?_
  refine lv_iadd hx hb dX3_keep_24 ?_
  refine lv_topi (fun v_4 ev_4 => ?_)
  refine lv_bipush (v := 8) hx hb dX3_keep_25 (by decide) ?_
  refine g_callSi (va_runS (As := [.int v_4, .int 8]) (rest := [.ref (ad 8)]) ⟨hx, hb, hml, hown, hts⟩ (c_J9_floorMod_7cf53 l v_4 8 rfl) (va_cwS 2 hts gX3_keep_J9_floorMod_7cf53 rfl rfl rfl (by decide +kernel) ⟨Nat.le_of_ble_eq_true rfl, Nat.le_of_ble_eq_true rfl⟩) (g_preT) rfl rfl hl.1 rfl (lv_room (Nat.le_of_ble_eq_true rfl)) dX3_keep_27 ⟨Nat.zero_le _, Nat.zero_le _⟩) (fun r_5 w_5 => ?_)
  try dsimp only at w_5
  refine va_put (D := D) (ci := 3) (v := .int r_5) (ty := .int) (C := RX3) (T := TX3) (N := 3) hx hb hts inX3 tyX3 tyX3_ok nmX3 hown hK hP (gD hI) hS 8 (g_at3 (Nat.le_of_ble_eq_true rfl) rfl) rfl 1 (by decide) lk1 (fun _ h9 => h9) rfl (by decide +kernel) rfl rfl (Nat.le_of_ble_eq_true rfl) dX3_keep_30 (fun H locs hP _ hS => ?_)
  have hP : va_P D vwCl (GW cy ad (u2 iv_3 8 1 r_5) ar_3) H := by rw [← g_pt3_1 (Nat.le_of_ble_eq_true rfl) rfl]; exact hP
  obtain ⟨iv_6, eiv_6⟩ : ∃ z : gIv, z = u2 iv_3 8 1 r_5 := ⟨_, rfl⟩
  rw [← eiv_6] at hP
  refine lv_aload_n hx hb dX3_keep_33 rfl (lv_at hl 0 rfl) ?_
  refine lv_aload_n hx hb dX3_keep_34 rfl (lv_at hl 0 rfl) ?_
  refine va_get (D := D) (ci := 3) (v := .int (iv_6 8 2)) (C := RX3) (T := TX3) (N := 3) hx hb hts inX3 hown hK hP 8 (g_at3 (Nat.le_of_ble_eq_true rfl) rfl) rfl 2 (by decide) lk2 (fun _ h9 => h9) rfl dX3_keep_35 ?_
  have f_7 : iv_6 8 2 = iv_3 8 2 := by rw [eiv_6, u2_o (by omega)]
  refine lv_iconst (v := 1) hx hb dX3_keep_38 (by decide) ?_
  refine lv_iadd hx hb dX3_keep_39 ?_
  refine lv_topi (fun v_8 ev_8 => ?_)
  refine lv_bipush (v := 8) hx hb dX3_keep_40 (by decide) ?_
  refine va_mmin (rest := [.ref (ad 8)]) hx hb (hml.trans hl.1.symm) hown lk3 lk4 lk5 lk6 (Nat.le_of_ble_eq_true rfl) (Nat.le_of_ble_eq_true rfl) (Nat.zero_le _) (Nat.zero_le _) dX3_keep_42 ?_
  refine lv_topi (fun v_9 ev_9 => ?_)
  have tv_9 : v_9.toInt = min v_8.toInt 8 := i_min (rfl : v_8.toInt = v_8.toInt) (rfl : (8 : Int32).toInt = 8) ev_9
  refine va_put (D := D) (ci := 3) (v := .int v_9) (ty := .int) (C := RX3) (T := TX3) (N := 3) hx hb hts inX3 tyX3 tyX3_ok nmX3 hown hK hP (gD hI) hS 8 (g_at3 (Nat.le_of_ble_eq_true rfl) rfl) rfl 2 (by decide) lk2 (fun _ h9 => h9) rfl (by decide +kernel) rfl rfl (Nat.le_of_ble_eq_true rfl) dX3_keep_45 (fun H locs hP _ hS => ?_)
  have hP : va_P D vwCl (GW cy ad (u2 iv_6 8 2 v_9) ar_3) H := by rw [← g_pt3_2 (Nat.le_of_ble_eq_true rfl) rfl]; exact hP
  obtain ⟨iv_10, eiv_10⟩ : ∃ z : gIv, z = u2 iv_6 8 2 v_9 := ⟨_, rfl⟩
  rw [← eiv_10] at hP
  have hsz : (∀ c, c < 135 → kd c = 5 → 0 ≤ (iv_10 c 1).toInt ∧ (iv_10 c 1).toInt ≤ 6) := by
    intro c hc h5
    have hc8 : c ≠ 8 := fun q => by rw [q] at h5; exact absurd h5 (by decide)
    rw [eiv_10, u2_o (fun q => hc8 q.1), eiv_6, u2_o (fun q => hc8 q.1)]
    by_cases hin : k_2 ≤ c ∧ c < k_2 + 7
    · obtain ⟨d, hd⟩ : ∃ d, c = k_2 + d := ⟨c - k_2, by omega⟩
      rw [hd] at h5
      rcases g_pl_in hk_2.1 hk_2.2 (by omega) h5 with h3 | h3
      · rw [hd, h3, w_3.2.2.1]; exact hz (1 + 3) (by decide) (by decide)
      · rw [hd, h3, w_3.2.2.2]; exact hz (1 + 5) (by decide) (by decide)
    · rw [w_3.1 c 1 (by omega)]; exact hz c hc h5
  rw [hQ]
  exact W.vret hx hb hr (fun t ht hW => ⟨⟨(iv_10, ar_3), rfl, ⟨fun a b h => by show iv_10 a b = iv a b; rw [eiv_10, u2_o (by omega)]; rw [eiv_6, u2_o (by omega)]; rw [w_3.1 a b (by omega)], fun a h => by show ar_3 a = ar a; rw [w_3.2.1 a (by omega)], hsz⟩, by show va_P _ _ _ _; rw [ht]; exact hP⟩, hS.F ht⟩) hS.2.2 dX3_keep_48
set_option maxHeartbeats 4000000 in
set_option maxRecDepth 100000 in
theorem c_X10_beginChange (l : Launch) (D : va_G) (cy : Nat → ClassId) (ad : Nat → Nat) (hI : gInj ad) (sz : Nat) (iv : gIv) (ar : gAr)  (hz : (∀ c, c < 135 → kd c = 5 → 0 ≤ (iv c 1).toInt ∧ (iv c 1).toInt ≤ 6)) : Met l yX10_beginChange wsX10_beginChange ({ frames := 4, cells := 0, slots := 0, locals := 103 } : Room) (va_Pc [.ref (ad 0)] (gPre D cy ad sz iv ar)) (va_Qv (fun (u : gIv × gAr) => (∀ a b, (a < 8 ∨ 66 ≤ a) → a ≠ 90 → u.1 a b = iv a b) ∧ (∀ a, (a < 8 ∨ 66 ≤ a) → u.2 a = ar a) ∧ (∀ c, c < 135 → kd c = 5 → 0 ≤ (u.1 c 1).toInt ∧ (u.1 c 1).toInt ≤ 6)) (gPost D cy ad) (gA ad sz)) 0 0 (gA ad sz) := by
  refine Met.ofW (cc := cX10_beginChange) (maxL := 1) (ret := none) (by decide) rfl ?_
  intro p e s m args below meth c s₁ B hml hv
  obtain ⟨rfl, rfl, hP, hK, hSt, hNw⟩ := hv
  have hx := B.exec
  have hb := B.bytes
  have hr := B.returns
  have hts := atoms_spec (ws := wsX10_beginChange) B.pre
  have hown : s.vm.findClass RX10 = some m.cls := findClass_of_methodNamed B.named
  have hlocks := B.notSynchronized
  have hS : va_S (gA ad s.heap.size) s.heap s.heap [] := va_S.rf
  have inX10 : ∀ w ∈ u_ws RX10 TX10 6, w ∈ wsX10_beginChange := by decide +kernel
  have lk0 := hts (.fieldLink RX10 19 "FormationPlanner" "history" "LFormationPlanner$History;") (by decide +kernel)
  have lk1 := hts (.fieldLink RX10 12 "FormationPlanner" "scene" "LFormationPlanner$Scene;") (by decide +kernel)
  have lk2 := hts (.fieldLink RX10 56 "FormationPlanner" "plan" "LFormationPlanner$Plan;") (by decide +kernel)
  have hl := lv_entry ([.ref (ad 0)]) (n := 1) (Nat.le_of_ble_eq_true rfl)
  rw [lg_entry_eq]
  generalize (lg_sl ([.ref (ad 0)]) ++ List.replicate (1 - (lg_sl ([.ref (ad 0)])).length) Slot.unset).toArray = ls at hl ⊢
  have hl : lv_has ls 1 [(0, .ref (ad 0))] := hl
  obtain ⟨Q, hQ⟩ : ∃ Q, Q = MQ below (va_Qv (fun (u : gIv × gAr) => (∀ a b, (a < 8 ∨ 66 ≤ a) → a ≠ 90 → u.1 a b = iv a b) ∧ (∀ a, (a < 8 ∨ 66 ≤ a) → u.2 a = ar a) ∧ (∀ c, c < 135 → kd c = 5 → 0 ≤ (u.1 c 1).toInt ∧ (u.1 c 1).toInt ≤ 6)) (gPost D cy ad) (gA ad s.heap.size)) (([.ref (ad 0)] : List Value).toArray) s 0 0 (gA ad s.heap.size) := ⟨_, rfl⟩
  rw [← hQ]
  refine lv_aload_n hx hb dX10_beginChange_0 rfl (lv_at hl 0 rfl) ?_
  refine va_get (D := D) (ci := 10) (v := .ref (ad 8)) (C := RX10) (T := TX10) (N := 6) hx hb hts inX10 hown hK hP 0 (g_at10 (Nat.le_of_ble_eq_true rfl) rfl) rfl 1 (by decide) lk0 (fun _ h9 => h9) rfl dX10_beginChange_1 ?_
  refine lv_aload_n hx hb dX10_beginChange_4 rfl (lv_at hl 0 rfl) ?_
  refine va_get (D := D) (ci := 10) (v := .ref (ad 1)) (C := RX10) (T := TX10) (N := 6) hx hb hts inX10 hown hK hP 0 (g_at10 (Nat.le_of_ble_eq_true rfl) rfl) rfl 0 (by decide) lk1 (fun _ h9 => h9) rfl dX10_beginChange_5 ?_
  refine g_callv (va_runV (As := [.ref (ad 1)]) (rest := []) ⟨hx, hb, hml, hown, hts⟩ (c_X3_keep l D cy ad hI _ iv ar hz) (cwV 1 hts gX10_beginChange_X3_keep rfl rfl rfl (by decide +kernel) ⟨Nat.le_of_ble_eq_true rfl, Nat.le_of_ble_eq_true rfl⟩) (g_preV hP hK hSt hNw hS (g_at3 (Nat.le_of_ble_eq_true rfl) rfl) rfl) rfl rfl hl.1 rfl (lv_room (Nat.le_of_ble_eq_true rfl)) dX10_beginChange_8 ⟨Nat.zero_le _, Nat.zero_le _⟩) hS (fun iv_1 ar_1 H locs w_1 hP hS => ?_)
  try dsimp only at w_1
  refine lv_aload_n hx hb dX10_beginChange_11 rfl (lv_at hl 0 rfl) ?_
  refine va_get (D := D) (ci := 10) (v := .ref (ad 90)) (C := RX10) (T := TX10) (N := 6) hx hb hts inX10 hown hK hP 0 (g_at10 (Nat.le_of_ble_eq_true rfl) rfl) rfl 5 (by decide) lk2 (fun _ h9 => h9) rfl dX10_beginChange_12 ?_
  refine g_callv (va_runV (As := []) (rest := []) ⟨hx, hb, hml, hown, hts⟩ (c_X6_discard l D cy ad hI _ iv_1 ar_1) (cwV 0 hts gX10_beginChange_X6_discard rfl rfl rfl (by decide +kernel) ⟨Nat.le_of_ble_eq_true rfl, Nat.le_of_ble_eq_true rfl⟩) (g_preV hP hK hSt hNw hS (g_at6 (Nat.le_of_ble_eq_true rfl) rfl) rfl) rfl rfl hl.1 rfl (lv_room (Nat.le_of_ble_eq_true rfl)) dX10_beginChange_15 ⟨Nat.zero_le _, Nat.zero_le _⟩) hS (fun iv_2 ar_2 H locs w_2 hP hS => ?_)
  try dsimp only at w_2
  rw [hQ]
  exact W.vret hx hb hr (fun t ht hW => ⟨⟨(iv_2, ar_2), rfl, ⟨fun a b h h9 => by show iv_2 a b = iv a b; rw [w_2.1, u2_o (by omega), u2_o (by omega), w_1.1 a b h], fun a h => by show ar_2 a = ar a; rw [w_2.2, w_1.2.1 a h], fun c hc h5 => by
      have hc9 : c ≠ 90 := fun q => by rw [q] at h5; exact absurd h5 (by decide)
      show 0 ≤ (iv_2 c 1).toInt ∧ (iv_2 c 1).toInt ≤ 6
      rw [w_2.1, u2_o (by omega), u2_o (by omega)]
      exact w_1.2.2 c hc h5⟩, by show va_P _ _ _ _; rw [ht]; exact hP⟩, hS.F ht⟩) hS.2.2 dX10_beginChange_18
end
section
theorem i_vc : Claimed_1_1 ∧ Claimed_1_2 := sorry
end
