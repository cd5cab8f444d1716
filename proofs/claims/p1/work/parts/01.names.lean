-- ===== PART A: goes FIRST, ahead of the names: the tables' words, and 'selects' of the private methods out of them =====
/-- a private method of a class that the tables say can be made, by its rows of tables_1 -/
def lw_okq (q : MethodName × Nat) : Prop := (q.1.cls ≠ "java/lang/invoke/MethodHandle" ∧ q.1.cls ≠ "java/lang/invoke/VarHandle") ∧ Cond.instantiable q.1.cls q.2 ∈ tables_1 ∧ Cond.privateMethod q.1 ∈ tables_1 ∧ Cond.instanceMethod q.1 ∈ tables_1
theorem lw_p0 : lw_okq (⟨"MoonPromises$Reader", "step", "()V"⟩, 10) := ⟨⟨by decide +kernel, by decide +kernel⟩, List.mem_of_getElem? (i := 30) (by decide +kernel), List.mem_of_getElem? (i := 446) (by decide +kernel), List.mem_of_getElem? (i := 447) (by decide +kernel)⟩
theorem lw_p1 : lw_okq (⟨"MoonPromises$Reader", "isLetter", "(I)Z"⟩, 10) := ⟨⟨by decide +kernel, by decide +kernel⟩, List.mem_of_getElem? (i := 30) (by decide +kernel), List.mem_of_getElem? (i := 450) (by decide +kernel), List.mem_of_getElem? (i := 451) (by decide +kernel)⟩
theorem lw_p2 : lw_okq (⟨"MoonPromises$Reader", "isDigit", "(I)Z"⟩, 10) := ⟨⟨by decide +kernel, by decide +kernel⟩, List.mem_of_getElem? (i := 30) (by decide +kernel), List.mem_of_getElem? (i := 454) (by decide +kernel), List.mem_of_getElem? (i := 455) (by decide +kernel)⟩
theorem lw_p3 : lw_okq (⟨"MoonPromises$Reader", "takeLine", "()Z"⟩, 10) := ⟨⟨by decide +kernel, by decide +kernel⟩, List.mem_of_getElem? (i := 30) (by decide +kernel), List.mem_of_getElem? (i := 462) (by decide +kernel), List.mem_of_getElem? (i := 463) (by decide +kernel)⟩
theorem lw_p4 : lw_okq (⟨"MoonPromises$Reader", "isWord", "(Ljava/lang/String;)Z"⟩, 10) := ⟨⟨by decide +kernel, by decide +kernel⟩, List.mem_of_getElem? (i := 30) (by decide +kernel), List.mem_of_getElem? (i := 467) (by decide +kernel), List.mem_of_getElem? (i := 468) (by decide +kernel)⟩
theorem lw_p5 : lw_okq (⟨"MoonPromises$Reader", "fail", "(I)Z"⟩, 10) := ⟨⟨by decide +kernel, by decide +kernel⟩, List.mem_of_getElem? (i := 30) (by decide +kernel), List.mem_of_getElem? (i := 519) (by decide +kernel), List.mem_of_getElem? (i := 520) (by decide +kernel)⟩
theorem lw_p6 : lw_okq (⟨"MoonPromises$Reader", "takeIsles", "()Z"⟩, 10) := ⟨⟨by decide +kernel, by decide +kernel⟩, List.mem_of_getElem? (i := 30) (by decide +kernel), List.mem_of_getElem? (i := 523) (by decide +kernel), List.mem_of_getElem? (i := 524) (by decide +kernel)⟩
theorem lw_p7 : lw_okq (⟨"MoonPromises$Reader", "takeNumber", "(III)Z"⟩, 10) := ⟨⟨by decide +kernel, by decide +kernel⟩, List.mem_of_getElem? (i := 30) (by decide +kernel), List.mem_of_getElem? (i := 527) (by decide +kernel), List.mem_of_getElem? (i := 528) (by decide +kernel)⟩
theorem lw_p8 : lw_okq (⟨"MoonPromises$Reader", "takeWord", "(Ljava/lang/String;)Z"⟩, 10) := ⟨⟨by decide +kernel, by decide +kernel⟩, List.mem_of_getElem? (i := 30) (by decide +kernel), List.mem_of_getElem? (i := 532) (by decide +kernel), List.mem_of_getElem? (i := 533) (by decide +kernel)⟩
theorem lw_p9 : lw_okq (⟨"MoonPromises$Reader", "takeSea", "()Z"⟩, 10) := ⟨⟨by decide +kernel, by decide +kernel⟩, List.mem_of_getElem? (i := 30) (by decide +kernel), List.mem_of_getElem? (i := 537) (by decide +kernel), List.mem_of_getElem? (i := 538) (by decide +kernel)⟩
theorem lw_p10 : lw_okq (⟨"MoonPromises$Reader", "takePerson", "()Z"⟩, 10) := ⟨⟨by decide +kernel, by decide +kernel⟩, List.mem_of_getElem? (i := 30) (by decide +kernel), List.mem_of_getElem? (i := 547) (by decide +kernel), List.mem_of_getElem? (i := 548) (by decide +kernel)⟩
theorem lw_p11 : lw_okq (⟨"MoonPromises$Reader", "takePromise", "()Z"⟩, 10) := ⟨⟨by decide +kernel, by decide +kernel⟩, List.mem_of_getElem? (i := 30) (by decide +kernel), List.mem_of_getElem? (i := 559) (by decide +kernel), List.mem_of_getElem? (i := 560) (by decide +kernel)⟩
theorem lw_p12 : lw_okq (⟨"MoonPromises$Reader", "takePromiseMarks", "(I)Z"⟩, 10) := ⟨⟨by decide +kernel, by decide +kernel⟩, List.mem_of_getElem? (i := 30) (by decide +kernel), List.mem_of_getElem? (i := 571) (by decide +kernel), List.mem_of_getElem? (i := 572) (by decide +kernel)⟩
theorem lw_p13 : lw_okq (⟨"MoonPromises$Reader", "takeShut", "()Z"⟩, 10) := ⟨⟨by decide +kernel, by decide +kernel⟩, List.mem_of_getElem? (i := 30) (by decide +kernel), List.mem_of_getElem? (i := 576) (by decide +kernel), List.mem_of_getElem? (i := 577) (by decide +kernel)⟩
theorem lw_p14 : lw_okq (⟨"MoonPromises$Reader", "takeSign", "()Z"⟩, 10) := ⟨⟨by decide +kernel, by decide +kernel⟩, List.mem_of_getElem? (i := 30) (by decide +kernel), List.mem_of_getElem? (i := 586) (by decide +kernel), List.mem_of_getElem? (i := 587) (by decide +kernel)⟩
theorem lw_p15 : lw_okq (⟨"MoonPromises$Course", "apply", "(I)V"⟩, 8) := ⟨⟨by decide +kernel, by decide +kernel⟩, List.mem_of_getElem? (i := 185) (by decide +kernel), List.mem_of_getElem? (i := 602) (by decide +kernel), List.mem_of_getElem? (i := 603) (by decide +kernel)⟩
def lw_privs_1 : List (MethodName × Nat) := [(⟨"MoonPromises$Reader", "step", "()V"⟩, 10), (⟨"MoonPromises$Reader", "isLetter", "(I)Z"⟩, 10), (⟨"MoonPromises$Reader", "isDigit", "(I)Z"⟩, 10), (⟨"MoonPromises$Reader", "takeLine", "()Z"⟩, 10), (⟨"MoonPromises$Reader", "isWord", "(Ljava/lang/String;)Z"⟩, 10), (⟨"MoonPromises$Reader", "fail", "(I)Z"⟩, 10), (⟨"MoonPromises$Reader", "takeIsles", "()Z"⟩, 10), (⟨"MoonPromises$Reader", "takeNumber", "(III)Z"⟩, 10), (⟨"MoonPromises$Reader", "takeWord", "(Ljava/lang/String;)Z"⟩, 10), (⟨"MoonPromises$Reader", "takeSea", "()Z"⟩, 10), (⟨"MoonPromises$Reader", "takePerson", "()Z"⟩, 10), (⟨"MoonPromises$Reader", "takePromise", "()Z"⟩, 10), (⟨"MoonPromises$Reader", "takePromiseMarks", "(I)Z"⟩, 10), (⟨"MoonPromises$Reader", "takeShut", "()Z"⟩, 10), (⟨"MoonPromises$Reader", "takeSign", "()Z"⟩, 10), (⟨"MoonPromises$Course", "apply", "(I)V"⟩, 8)]
theorem lw_r1 : ∀ q ∈ lw_privs_1, lw_okq q := List.forall_mem_cons.mpr ⟨lw_p0, List.forall_mem_cons.mpr ⟨lw_p1, List.forall_mem_cons.mpr ⟨lw_p2, List.forall_mem_cons.mpr ⟨lw_p3, List.forall_mem_cons.mpr ⟨lw_p4, List.forall_mem_cons.mpr ⟨lw_p5, List.forall_mem_cons.mpr ⟨lw_p6, List.forall_mem_cons.mpr ⟨lw_p7, List.forall_mem_cons.mpr ⟨lw_p8, List.forall_mem_cons.mpr ⟨lw_p9, List.forall_mem_cons.mpr ⟨lw_p10, List.forall_mem_cons.mpr ⟨lw_p11, List.forall_mem_cons.mpr ⟨lw_p12, List.forall_mem_cons.mpr ⟨lw_p13, List.forall_mem_cons.mpr ⟨lw_p14, List.forall_mem_cons.mpr ⟨lw_p15, fun _ h => absurd h List.not_mem_nil⟩⟩⟩⟩⟩⟩⟩⟩⟩⟩⟩⟩⟩⟩⟩⟩
theorem lw_p16 : lw_okq (⟨"MoonPromises$Course", "lastSaid", "(II)I"⟩, 8) := ⟨⟨by decide +kernel, by decide +kernel⟩, List.mem_of_getElem? (i := 185) (by decide +kernel), List.mem_of_getElem? (i := 658) (by decide +kernel), List.mem_of_getElem? (i := 659) (by decide +kernel)⟩
theorem lw_p17 : lw_okq (⟨"MoonPromises", "arePair", "(II)Z"⟩, 9) := ⟨⟨by decide +kernel, by decide +kernel⟩, List.mem_of_getElem? (i := 22) (by decide +kernel), List.mem_of_getElem? (i := 691) (by decide +kernel), List.mem_of_getElem? (i := 692) (by decide +kernel)⟩
theorem lw_p18 : lw_okq (⟨"MoonPromises", "isToldMoon", "(I)Z"⟩, 9) := ⟨⟨by decide +kernel, by decide +kernel⟩, List.mem_of_getElem? (i := 22) (by decide +kernel), List.mem_of_getElem? (i := 728) (by decide +kernel), List.mem_of_getElem? (i := 729) (by decide +kernel)⟩
theorem lw_p19 : lw_okq (⟨"MoonPromises", "canPlan", "(II)Z"⟩, 9) := ⟨⟨by decide +kernel, by decide +kernel⟩, List.mem_of_getElem? (i := 22) (by decide +kernel), List.mem_of_getElem? (i := 825) (by decide +kernel), List.mem_of_getElem? (i := 826) (by decide +kernel)⟩
theorem lw_p20 : lw_okq (⟨"MoonPromises$Planner", "layLegs", "(LMoonPromises$Course;II)V"⟩, 11) := ⟨⟨by decide +kernel, by decide +kernel⟩, List.mem_of_getElem? (i := 251) (by decide +kernel), List.mem_of_getElem? (i := 833) (by decide +kernel), List.mem_of_getElem? (i := 834) (by decide +kernel)⟩
theorem lw_p21 : lw_okq (⟨"MoonPromises$Planner", "laySpoken", "(LMoonPromises$Course;I)V"⟩, 11) := ⟨⟨by decide +kernel, by decide +kernel⟩, List.mem_of_getElem? (i := 251) (by decide +kernel), List.mem_of_getElem? (i := 841) (by decide +kernel), List.mem_of_getElem? (i := 842) (by decide +kernel)⟩
theorem lw_p22 : lw_okq (⟨"MoonPromises$Planner", "layMissed", "(LMoonPromises$Course;I)V"⟩, 11) := ⟨⟨by decide +kernel, by decide +kernel⟩, List.mem_of_getElem? (i := 251) (by decide +kernel), List.mem_of_getElem? (i := 847) (by decide +kernel), List.mem_of_getElem? (i := 848) (by decide +kernel)⟩
theorem lw_p23 : lw_okq (⟨"MoonPromises$Planner", "leastFrom", "(II)I"⟩, 11) := ⟨⟨by decide +kernel, by decide +kernel⟩, List.mem_of_getElem? (i := 251) (by decide +kernel), List.mem_of_getElem? (i := 857) (by decide +kernel), List.mem_of_getElem? (i := 858) (by decide +kernel)⟩
theorem lw_p24 : lw_okq (⟨"MoonPromises$Planner", "oarsBy", "(III)I"⟩, 11) := ⟨⟨by decide +kernel, by decide +kernel⟩, List.mem_of_getElem? (i := 251) (by decide +kernel), List.mem_of_getElem? (i := 861) (by decide +kernel), List.mem_of_getElem? (i := 862) (by decide +kernel)⟩
theorem lw_p25 : lw_okq (⟨"MoonPromises$Planner", "isKeeping", "(I)Z"⟩, 11) := ⟨⟨by decide +kernel, by decide +kernel⟩, List.mem_of_getElem? (i := 251) (by decide +kernel), List.mem_of_getElem? (i := 865) (by decide +kernel), List.mem_of_getElem? (i := 866) (by decide +kernel)⟩
theorem lw_p26 : lw_okq (⟨"MoonPromises$Planner", "canKeep", "(I)Z"⟩, 11) := ⟨⟨by decide +kernel, by decide +kernel⟩, List.mem_of_getElem? (i := 251) (by decide +kernel), List.mem_of_getElem? (i := 891) (by decide +kernel), List.mem_of_getElem? (i := 892) (by decide +kernel)⟩
theorem lw_p27 : lw_okq (⟨"MoonPromises$Planner", "reached", "(III)I"⟩, 11) := ⟨⟨by decide +kernel, by decide +kernel⟩, List.mem_of_getElem? (i := 251) (by decide +kernel), List.mem_of_getElem? (i := 895) (by decide +kernel), List.mem_of_getElem? (i := 896) (by decide +kernel)⟩
theorem lw_p28 : lw_okq (⟨"MoonPromises", "canLove", "(III)Z"⟩, 9) := ⟨⟨by decide +kernel, by decide +kernel⟩, List.mem_of_getElem? (i := 22) (by decide +kernel), List.mem_of_getElem? (i := 917) (by decide +kernel), List.mem_of_getElem? (i := 918) (by decide +kernel)⟩
theorem lw_p29 : lw_okq (⟨"MoonPromises$Planner", "layReach", "()V"⟩, 11) := ⟨⟨by decide +kernel, by decide +kernel⟩, List.mem_of_getElem? (i := 251) (by decide +kernel), List.mem_of_getElem? (i := 926) (by decide +kernel), List.mem_of_getElem? (i := 927) (by decide +kernel)⟩
theorem lw_p30 : lw_okq (⟨"MoonPromises$Planner", "leastTo", "(II)I"⟩, 11) := ⟨⟨by decide +kernel, by decide +kernel⟩, List.mem_of_getElem? (i := 251) (by decide +kernel), List.mem_of_getElem? (i := 930) (by decide +kernel), List.mem_of_getElem? (i := 931) (by decide +kernel)⟩
theorem lw_p31 : lw_okq (⟨"MoonPromises$Course", "standsAlone", "(I)Z"⟩, 8) := ⟨⟨by decide +kernel, by decide +kernel⟩, List.mem_of_getElem? (i := 185) (by decide +kernel), List.mem_of_getElem? (i := 946) (by decide +kernel), List.mem_of_getElem? (i := 947) (by decide +kernel)⟩
def lw_privs_2 : List (MethodName × Nat) := [(⟨"MoonPromises$Course", "lastSaid", "(II)I"⟩, 8), (⟨"MoonPromises", "arePair", "(II)Z"⟩, 9), (⟨"MoonPromises", "isToldMoon", "(I)Z"⟩, 9), (⟨"MoonPromises", "canPlan", "(II)Z"⟩, 9), (⟨"MoonPromises$Planner", "layLegs", "(LMoonPromises$Course;II)V"⟩, 11), (⟨"MoonPromises$Planner", "laySpoken", "(LMoonPromises$Course;I)V"⟩, 11), (⟨"MoonPromises$Planner", "layMissed", "(LMoonPromises$Course;I)V"⟩, 11), (⟨"MoonPromises$Planner", "leastFrom", "(II)I"⟩, 11), (⟨"MoonPromises$Planner", "oarsBy", "(III)I"⟩, 11), (⟨"MoonPromises$Planner", "isKeeping", "(I)Z"⟩, 11), (⟨"MoonPromises$Planner", "canKeep", "(I)Z"⟩, 11), (⟨"MoonPromises$Planner", "reached", "(III)I"⟩, 11), (⟨"MoonPromises", "canLove", "(III)Z"⟩, 9), (⟨"MoonPromises$Planner", "layReach", "()V"⟩, 11), (⟨"MoonPromises$Planner", "leastTo", "(II)I"⟩, 11), (⟨"MoonPromises$Course", "standsAlone", "(I)Z"⟩, 8)]
theorem lw_r2 : ∀ q ∈ lw_privs_2, lw_okq q := List.forall_mem_cons.mpr ⟨lw_p16, List.forall_mem_cons.mpr ⟨lw_p17, List.forall_mem_cons.mpr ⟨lw_p18, List.forall_mem_cons.mpr ⟨lw_p19, List.forall_mem_cons.mpr ⟨lw_p20, List.forall_mem_cons.mpr ⟨lw_p21, List.forall_mem_cons.mpr ⟨lw_p22, List.forall_mem_cons.mpr ⟨lw_p23, List.forall_mem_cons.mpr ⟨lw_p24, List.forall_mem_cons.mpr ⟨lw_p25, List.forall_mem_cons.mpr ⟨lw_p26, List.forall_mem_cons.mpr ⟨lw_p27, List.forall_mem_cons.mpr ⟨lw_p28, List.forall_mem_cons.mpr ⟨lw_p29, List.forall_mem_cons.mpr ⟨lw_p30, List.forall_mem_cons.mpr ⟨lw_p31, fun _ h => absurd h List.not_mem_nil⟩⟩⟩⟩⟩⟩⟩⟩⟩⟩⟩⟩⟩⟩⟩⟩
theorem lw_p32 : lw_okq (⟨"MoonPromises", "putOnScales", "(II)I"⟩, 9) := ⟨⟨by decide +kernel, by decide +kernel⟩, List.mem_of_getElem? (i := 22) (by decide +kernel), List.mem_of_getElem? (i := 982) (by decide +kernel), List.mem_of_getElem? (i := 983) (by decide +kernel)⟩
theorem lw_p33 : lw_okq (⟨"MoonPromises$Scales", "fits", "(I)Z"⟩, 10) := ⟨⟨by decide +kernel, by decide +kernel⟩, List.mem_of_getElem? (i := 293) (by decide +kernel), List.mem_of_getElem? (i := 1008) (by decide +kernel), List.mem_of_getElem? (i := 1009) (by decide +kernel)⟩
theorem lw_p34 : lw_okq (⟨"MoonPromises$Scales", "addToTally", "(I)V"⟩, 10) := ⟨⟨by decide +kernel, by decide +kernel⟩, List.mem_of_getElem? (i := 293) (by decide +kernel), List.mem_of_getElem? (i := 1018) (by decide +kernel), List.mem_of_getElem? (i := 1019) (by decide +kernel)⟩
theorem lw_p35 : lw_okq (⟨"MoonPromises$Scales", "worstLeft", "(I)I"⟩, 10) := ⟨⟨by decide +kernel, by decide +kernel⟩, List.mem_of_getElem? (i := 293) (by decide +kernel), List.mem_of_getElem? (i := 1038) (by decide +kernel), List.mem_of_getElem? (i := 1039) (by decide +kernel)⟩
theorem lw_p36 : lw_okq (⟨"MoonPromises$Scales", "fitsFirst", "(I)Z"⟩, 10) := ⟨⟨by decide +kernel, by decide +kernel⟩, List.mem_of_getElem? (i := 293) (by decide +kernel), List.mem_of_getElem? (i := 1053) (by decide +kernel), List.mem_of_getElem? (i := 1054) (by decide +kernel)⟩
theorem lw_p37 : lw_okq (⟨"MoonPromises", "putInThreat", "(I)I"⟩, 9) := ⟨⟨by decide +kernel, by decide +kernel⟩, List.mem_of_getElem? (i := 22) (by decide +kernel), List.mem_of_getElem? (i := 1075) (by decide +kernel), List.mem_of_getElem? (i := 1076) (by decide +kernel)⟩
theorem lw_p38 : lw_okq (⟨"MoonPromises", "canDraw", "(III)Z"⟩, 9) := ⟨⟨by decide +kernel, by decide +kernel⟩, List.mem_of_getElem? (i := 22) (by decide +kernel), List.mem_of_getElem? (i := 1102) (by decide +kernel), List.mem_of_getElem? (i := 1103) (by decide +kernel)⟩
theorem lw_p39 : lw_okq (⟨"MoonPromisesModel", "four", "(I)V"⟩, 47) := ⟨⟨by decide +kernel, by decide +kernel⟩, List.mem_of_getElem? (i := 1206) (by decide +kernel), List.mem_of_getElem? (i := 1381) (by decide +kernel), List.mem_of_getElem? (i := 1382) (by decide +kernel)⟩
theorem lw_p40 : lw_okq (⟨"MoonPromisesModel", "clears", "()V"⟩, 47) := ⟨⟨by decide +kernel, by decide +kernel⟩, List.mem_of_getElem? (i := 1206) (by decide +kernel), List.mem_of_getElem? (i := 1397) (by decide +kernel), List.mem_of_getElem? (i := 1398) (by decide +kernel)⟩
theorem lw_p41 : lw_okq (⟨"MoonPromisesModel", "begins", "()V"⟩, 47) := ⟨⟨by decide +kernel, by decide +kernel⟩, List.mem_of_getElem? (i := 1206) (by decide +kernel), List.mem_of_getElem? (i := 1401) (by decide +kernel), List.mem_of_getElem? (i := 1402) (by decide +kernel)⟩
theorem lw_p42 : lw_okq (⟨"MoonPromisesModel", "next", "()V"⟩, 47) := ⟨⟨by decide +kernel, by decide +kernel⟩, List.mem_of_getElem? (i := 1206) (by decide +kernel), List.mem_of_getElem? (i := 1405) (by decide +kernel), List.mem_of_getElem? (i := 1406) (by decide +kernel)⟩
theorem lw_p43 : lw_okq (⟨"MoonPromisesModel", "isByte", "(III)Z"⟩, 47) := ⟨⟨by decide +kernel, by decide +kernel⟩, List.mem_of_getElem? (i := 1206) (by decide +kernel), List.mem_of_getElem? (i := 1409) (by decide +kernel), List.mem_of_getElem? (i := 1410) (by decide +kernel)⟩
theorem lw_p44 : lw_okq (⟨"MoonPromisesModel", "isGood", "()Z"⟩, 47) := ⟨⟨by decide +kernel, by decide +kernel⟩, List.mem_of_getElem? (i := 1206) (by decide +kernel), List.mem_of_getElem? (i := 1418) (by decide +kernel), List.mem_of_getElem? (i := 1419) (by decide +kernel)⟩
theorem lw_p45 : lw_okq (⟨"MoonPromisesModel", "asks", "(J)V"⟩, 47) := ⟨⟨by decide +kernel, by decide +kernel⟩, List.mem_of_getElem? (i := 1206) (by decide +kernel), List.mem_of_getElem? (i := 1423) (by decide +kernel), List.mem_of_getElem? (i := 1424) (by decide +kernel)⟩
theorem lw_p46 : lw_okq (⟨"MoonPromisesModel", "takes", "(J)Z"⟩, 47) := ⟨⟨by decide +kernel, by decide +kernel⟩, List.mem_of_getElem? (i := 1206) (by decide +kernel), List.mem_of_getElem? (i := 1427) (by decide +kernel), List.mem_of_getElem? (i := 1428) (by decide +kernel)⟩
theorem lw_p47 : lw_okq (⟨"MoonPromisesModel", "is", "(J)Z"⟩, 47) := ⟨⟨by decide +kernel, by decide +kernel⟩, List.mem_of_getElem? (i := 1206) (by decide +kernel), List.mem_of_getElem? (i := 1431) (by decide +kernel), List.mem_of_getElem? (i := 1432) (by decide +kernel)⟩
def lw_privs_3 : List (MethodName × Nat) := [(⟨"MoonPromises", "putOnScales", "(II)I"⟩, 9), (⟨"MoonPromises$Scales", "fits", "(I)Z"⟩, 10), (⟨"MoonPromises$Scales", "addToTally", "(I)V"⟩, 10), (⟨"MoonPromises$Scales", "worstLeft", "(I)I"⟩, 10), (⟨"MoonPromises$Scales", "fitsFirst", "(I)Z"⟩, 10), (⟨"MoonPromises", "putInThreat", "(I)I"⟩, 9), (⟨"MoonPromises", "canDraw", "(III)Z"⟩, 9), (⟨"MoonPromisesModel", "four", "(I)V"⟩, 47), (⟨"MoonPromisesModel", "clears", "()V"⟩, 47), (⟨"MoonPromisesModel", "begins", "()V"⟩, 47), (⟨"MoonPromisesModel", "next", "()V"⟩, 47), (⟨"MoonPromisesModel", "isByte", "(III)Z"⟩, 47), (⟨"MoonPromisesModel", "isGood", "()Z"⟩, 47), (⟨"MoonPromisesModel", "asks", "(J)V"⟩, 47), (⟨"MoonPromisesModel", "takes", "(J)Z"⟩, 47), (⟨"MoonPromisesModel", "is", "(J)Z"⟩, 47)]
theorem lw_r3 : ∀ q ∈ lw_privs_3, lw_okq q := List.forall_mem_cons.mpr ⟨lw_p32, List.forall_mem_cons.mpr ⟨lw_p33, List.forall_mem_cons.mpr ⟨lw_p34, List.forall_mem_cons.mpr ⟨lw_p35, List.forall_mem_cons.mpr ⟨lw_p36, List.forall_mem_cons.mpr ⟨lw_p37, List.forall_mem_cons.mpr ⟨lw_p38, List.forall_mem_cons.mpr ⟨lw_p39, List.forall_mem_cons.mpr ⟨lw_p40, List.forall_mem_cons.mpr ⟨lw_p41, List.forall_mem_cons.mpr ⟨lw_p42, List.forall_mem_cons.mpr ⟨lw_p43, List.forall_mem_cons.mpr ⟨lw_p44, List.forall_mem_cons.mpr ⟨lw_p45, List.forall_mem_cons.mpr ⟨lw_p46, List.forall_mem_cons.mpr ⟨lw_p47, fun _ h => absurd h List.not_mem_nil⟩⟩⟩⟩⟩⟩⟩⟩⟩⟩⟩⟩⟩⟩⟩⟩
theorem lw_p48 : lw_okq (⟨"MoonPromisesModel", "fails", "(I)V"⟩, 47) := ⟨⟨by decide +kernel, by decide +kernel⟩, List.mem_of_getElem? (i := 1206) (by decide +kernel), List.mem_of_getElem? (i := 1435) (by decide +kernel), List.mem_of_getElem? (i := 1436) (by decide +kernel)⟩
theorem lw_p49 : lw_okq (⟨"MoonPromisesModel", "number", "(II)I"⟩, 47) := ⟨⟨by decide +kernel, by decide +kernel⟩, List.mem_of_getElem? (i := 1206) (by decide +kernel), List.mem_of_getElem? (i := 1439) (by decide +kernel), List.mem_of_getElem? (i := 1440) (by decide +kernel)⟩
theorem lw_p50 : lw_okq (⟨"MoonPromisesModel", "moonHere", "()I"⟩, 47) := ⟨⟨by decide +kernel, by decide +kernel⟩, List.mem_of_getElem? (i := 1206) (by decide +kernel), List.mem_of_getElem? (i := 1444) (by decide +kernel), List.mem_of_getElem? (i := 1445) (by decide +kernel)⟩
theorem lw_p51 : lw_okq (⟨"MoonPromisesModel", "line", "()V"⟩, 47) := ⟨⟨by decide +kernel, by decide +kernel⟩, List.mem_of_getElem? (i := 1206) (by decide +kernel), List.mem_of_getElem? (i := 1448) (by decide +kernel), List.mem_of_getElem? (i := 1449) (by decide +kernel)⟩
theorem lw_p52 : lw_okq (⟨"MoonPromisesModel", "hasRead", "(I)I"⟩, 47) := ⟨⟨by decide +kernel, by decide +kernel⟩, List.mem_of_getElem? (i := 1206) (by decide +kernel), List.mem_of_getElem? (i := 1454) (by decide +kernel), List.mem_of_getElem? (i := 1455) (by decide +kernel)⟩
theorem lw_p53 : lw_okq (⟨"MoonPromisesModel", "personLine", "()V"⟩, 47) := ⟨⟨by decide +kernel, by decide +kernel⟩, List.mem_of_getElem? (i := 1206) (by decide +kernel), List.mem_of_getElem? (i := 1458) (by decide +kernel), List.mem_of_getElem? (i := 1459) (by decide +kernel)⟩
theorem lw_p54 : lw_okq (⟨"MoonPromisesModel", "isleHere", "()I"⟩, 47) := ⟨⟨by decide +kernel, by decide +kernel⟩, List.mem_of_getElem? (i := 1206) (by decide +kernel), List.mem_of_getElem? (i := 1463) (by decide +kernel), List.mem_of_getElem? (i := 1464) (by decide +kernel)⟩
theorem lw_p55 : lw_okq (⟨"MoonPromisesModel", "promiseLine", "()V"⟩, 47) := ⟨⟨by decide +kernel, by decide +kernel⟩, List.mem_of_getElem? (i := 1206) (by decide +kernel), List.mem_of_getElem? (i := 1469) (by decide +kernel), List.mem_of_getElem? (i := 1470) (by decide +kernel)⟩
theorem lw_p56 : lw_okq (⟨"MoonPromisesModel", "personHere", "()I"⟩, 47) := ⟨⟨by decide +kernel, by decide +kernel⟩, List.mem_of_getElem? (i := 1206) (by decide +kernel), List.mem_of_getElem? (i := 1473) (by decide +kernel), List.mem_of_getElem? (i := 1474) (by decide +kernel)⟩
theorem lw_p57 : lw_okq (⟨"MoonPromisesModel", "number", "(JII)I"⟩, 47) := ⟨⟨by decide +kernel, by decide +kernel⟩, List.mem_of_getElem? (i := 1206) (by decide +kernel), List.mem_of_getElem? (i := 1479) (by decide +kernel), List.mem_of_getElem? (i := 1480) (by decide +kernel)⟩
theorem lw_p58 : lw_okq (⟨"MoonPromisesModel", "seaLine", "()V"⟩, 47) := ⟨⟨by decide +kernel, by decide +kernel⟩, List.mem_of_getElem? (i := 1206) (by decide +kernel), List.mem_of_getElem? (i := 1486) (by decide +kernel), List.mem_of_getElem? (i := 1487) (by decide +kernel)⟩
theorem lw_p59 : lw_okq (⟨"MoonPromisesModel", "ends", "()V"⟩, 47) := ⟨⟨by decide +kernel, by decide +kernel⟩, List.mem_of_getElem? (i := 1206) (by decide +kernel), List.mem_of_getElem? (i := 1492) (by decide +kernel), List.mem_of_getElem? (i := 1493) (by decide +kernel)⟩
theorem lw_p60 : lw_okq (⟨"MoonPromisesModel", "isOver", "()V"⟩, 47) := ⟨⟨by decide +kernel, by decide +kernel⟩, List.mem_of_getElem? (i := 1206) (by decide +kernel), List.mem_of_getElem? (i := 1496) (by decide +kernel), List.mem_of_getElem? (i := 1497) (by decide +kernel)⟩
theorem lw_p61 : lw_okq (⟨"MoonPromisesModel", "copyIsles", "(II)V"⟩, 47) := ⟨⟨by decide +kernel, by decide +kernel⟩, List.mem_of_getElem? (i := 1206) (by decide +kernel), List.mem_of_getElem? (i := 1500) (by decide +kernel), List.mem_of_getElem? (i := 1501) (by decide +kernel)⟩
theorem lw_p62 : lw_okq (⟨"MoonPromisesModel", "isPerson", "(I)Z"⟩, 47) := ⟨⟨by decide +kernel, by decide +kernel⟩, List.mem_of_getElem? (i := 1206) (by decide +kernel), List.mem_of_getElem? (i := 1511) (by decide +kernel), List.mem_of_getElem? (i := 1512) (by decide +kernel)⟩
theorem lw_p63 : lw_okq (⟨"MoonPromisesModel", "isPromise", "(I)Z"⟩, 47) := ⟨⟨by decide +kernel, by decide +kernel⟩, List.mem_of_getElem? (i := 1206) (by decide +kernel), List.mem_of_getElem? (i := 1520) (by decide +kernel), List.mem_of_getElem? (i := 1521) (by decide +kernel)⟩
def lw_privs_4 : List (MethodName × Nat) := [(⟨"MoonPromisesModel", "fails", "(I)V"⟩, 47), (⟨"MoonPromisesModel", "number", "(II)I"⟩, 47), (⟨"MoonPromisesModel", "moonHere", "()I"⟩, 47), (⟨"MoonPromisesModel", "line", "()V"⟩, 47), (⟨"MoonPromisesModel", "hasRead", "(I)I"⟩, 47), (⟨"MoonPromisesModel", "personLine", "()V"⟩, 47), (⟨"MoonPromisesModel", "isleHere", "()I"⟩, 47), (⟨"MoonPromisesModel", "promiseLine", "()V"⟩, 47), (⟨"MoonPromisesModel", "personHere", "()I"⟩, 47), (⟨"MoonPromisesModel", "number", "(JII)I"⟩, 47), (⟨"MoonPromisesModel", "seaLine", "()V"⟩, 47), (⟨"MoonPromisesModel", "ends", "()V"⟩, 47), (⟨"MoonPromisesModel", "isOver", "()V"⟩, 47), (⟨"MoonPromisesModel", "copyIsles", "(II)V"⟩, 47), (⟨"MoonPromisesModel", "isPerson", "(I)Z"⟩, 47), (⟨"MoonPromisesModel", "isPromise", "(I)Z"⟩, 47)]
theorem lw_r4 : ∀ q ∈ lw_privs_4, lw_okq q := List.forall_mem_cons.mpr ⟨lw_p48, List.forall_mem_cons.mpr ⟨lw_p49, List.forall_mem_cons.mpr ⟨lw_p50, List.forall_mem_cons.mpr ⟨lw_p51, List.forall_mem_cons.mpr ⟨lw_p52, List.forall_mem_cons.mpr ⟨lw_p53, List.forall_mem_cons.mpr ⟨lw_p54, List.forall_mem_cons.mpr ⟨lw_p55, List.forall_mem_cons.mpr ⟨lw_p56, List.forall_mem_cons.mpr ⟨lw_p57, List.forall_mem_cons.mpr ⟨lw_p58, List.forall_mem_cons.mpr ⟨lw_p59, List.forall_mem_cons.mpr ⟨lw_p60, List.forall_mem_cons.mpr ⟨lw_p61, List.forall_mem_cons.mpr ⟨lw_p62, List.forall_mem_cons.mpr ⟨lw_p63, fun _ h => absurd h List.not_mem_nil⟩⟩⟩⟩⟩⟩⟩⟩⟩⟩⟩⟩⟩⟩⟩⟩
theorem lw_p64 : lw_okq (⟨"MoonPromisesModel", "of", "(II)I"⟩, 47) := ⟨⟨by decide +kernel, by decide +kernel⟩, List.mem_of_getElem? (i := 1206) (by decide +kernel), List.mem_of_getElem? (i := 1525) (by decide +kernel), List.mem_of_getElem? (i := 1526) (by decide +kernel)⟩
theorem lw_p65 : lw_okq (⟨"MoonPromisesModel", "isIsle", "(I)Z"⟩, 47) := ⟨⟨by decide +kernel, by decide +kernel⟩, List.mem_of_getElem? (i := 1206) (by decide +kernel), List.mem_of_getElem? (i := 1533) (by decide +kernel), List.mem_of_getElem? (i := 1534) (by decide +kernel)⟩
theorem lw_p66 : lw_okq (⟨"MoonPromisesModel", "lays", "()V"⟩, 47) := ⟨⟨by decide +kernel, by decide +kernel⟩, List.mem_of_getElem? (i := 1206) (by decide +kernel), List.mem_of_getElem? (i := 1549) (by decide +kernel), List.mem_of_getElem? (i := 1550) (by decide +kernel)⟩
theorem lw_p67 : lw_okq (⟨"MoonPromisesModel", "halvedOf", "(II)I"⟩, 47) := ⟨⟨by decide +kernel, by decide +kernel⟩, List.mem_of_getElem? (i := 1206) (by decide +kernel), List.mem_of_getElem? (i := 1553) (by decide +kernel), List.mem_of_getElem? (i := 1554) (by decide +kernel)⟩
theorem lw_p68 : lw_okq (⟨"MoonPromisesModel", "ownOf", "(II)I"⟩, 47) := ⟨⟨by decide +kernel, by decide +kernel⟩, List.mem_of_getElem? (i := 1206) (by decide +kernel), List.mem_of_getElem? (i := 1557) (by decide +kernel), List.mem_of_getElem? (i := 1558) (by decide +kernel)⟩
theorem lw_p69 : lw_okq (⟨"MoonPromisesModel", "worthOf", "(II)I"⟩, 47) := ⟨⟨by decide +kernel, by decide +kernel⟩, List.mem_of_getElem? (i := 1206) (by decide +kernel), List.mem_of_getElem? (i := 1565) (by decide +kernel), List.mem_of_getElem? (i := 1566) (by decide +kernel)⟩
theorem lw_p70 : lw_okq (⟨"MoonPromisesModel", "areTwo", "(II)Z"⟩, 47) := ⟨⟨by decide +kernel, by decide +kernel⟩, List.mem_of_getElem? (i := 1206) (by decide +kernel), List.mem_of_getElem? (i := 1580) (by decide +kernel), List.mem_of_getElem? (i := 1581) (by decide +kernel)⟩
theorem lw_p71 : lw_okq (⟨"MoonPromisesModel", "owedOf", "(III)I"⟩, 47) := ⟨⟨by decide +kernel, by decide +kernel⟩, List.mem_of_getElem? (i := 1206) (by decide +kernel), List.mem_of_getElem? (i := 1584) (by decide +kernel), List.mem_of_getElem? (i := 1585) (by decide +kernel)⟩
theorem lw_p72 : lw_okq (⟨"MoonPromisesModel", "sumOf", "(III)I"⟩, 47) := ⟨⟨by decide +kernel, by decide +kernel⟩, List.mem_of_getElem? (i := 1206) (by decide +kernel), List.mem_of_getElem? (i := 1593) (by decide +kernel), List.mem_of_getElem? (i := 1594) (by decide +kernel)⟩
theorem lw_p73 : lw_okq (⟨"MoonPromisesModel", "areIsles", "()Z"⟩, 47) := ⟨⟨by decide +kernel, by decide +kernel⟩, List.mem_of_getElem? (i := 1206) (by decide +kernel), List.mem_of_getElem? (i := 1601) (by decide +kernel), List.mem_of_getElem? (i := 1602) (by decide +kernel)⟩
theorem lw_p74 : lw_okq (⟨"MoonPromisesModel", "rootOf", "(I)I"⟩, 47) := ⟨⟨by decide +kernel, by decide +kernel⟩, List.mem_of_getElem? (i := 1206) (by decide +kernel), List.mem_of_getElem? (i := 1613) (by decide +kernel), List.mem_of_getElem? (i := 1614) (by decide +kernel)⟩
theorem lw_p75 : lw_okq (⟨"MoonPromisesModel", "maySail", "(II)Z"⟩, 47) := ⟨⟨by decide +kernel, by decide +kernel⟩, List.mem_of_getElem? (i := 1206) (by decide +kernel), List.mem_of_getElem? (i := 1640) (by decide +kernel), List.mem_of_getElem? (i := 1641) (by decide +kernel)⟩
theorem lw_p76 : lw_okq (⟨"MoonPromisesModel", "isSea", "(IIII)Z"⟩, 47) := ⟨⟨by decide +kernel, by decide +kernel⟩, List.mem_of_getElem? (i := 1206) (by decide +kernel), List.mem_of_getElem? (i := 1644) (by decide +kernel), List.mem_of_getElem? (i := 1645) (by decide +kernel)⟩
theorem lw_p77 : lw_okq (⟨"MoonPromisesModel", "isDead", "(II)Z"⟩, 47) := ⟨⟨by decide +kernel, by decide +kernel⟩, List.mem_of_getElem? (i := 1206) (by decide +kernel), List.mem_of_getElem? (i := 1648) (by decide +kernel), List.mem_of_getElem? (i := 1649) (by decide +kernel)⟩
theorem lw_p78 : lw_okq (⟨"MoonPromisesModel", "isFull", "()Z"⟩, 47) := ⟨⟨by decide +kernel, by decide +kernel⟩, List.mem_of_getElem? (i := 1206) (by decide +kernel), List.mem_of_getElem? (i := 1652) (by decide +kernel), List.mem_of_getElem? (i := 1653) (by decide +kernel)⟩
theorem lw_p79 : lw_okq (⟨"MoonPromisesModel", "acts", "(I)V"⟩, 47) := ⟨⟨by decide +kernel, by decide +kernel⟩, List.mem_of_getElem? (i := 1206) (by decide +kernel), List.mem_of_getElem? (i := 1656) (by decide +kernel), List.mem_of_getElem? (i := 1657) (by decide +kernel)⟩
def lw_privs_5 : List (MethodName × Nat) := [(⟨"MoonPromisesModel", "of", "(II)I"⟩, 47), (⟨"MoonPromisesModel", "isIsle", "(I)Z"⟩, 47), (⟨"MoonPromisesModel", "lays", "()V"⟩, 47), (⟨"MoonPromisesModel", "halvedOf", "(II)I"⟩, 47), (⟨"MoonPromisesModel", "ownOf", "(II)I"⟩, 47), (⟨"MoonPromisesModel", "worthOf", "(II)I"⟩, 47), (⟨"MoonPromisesModel", "areTwo", "(II)Z"⟩, 47), (⟨"MoonPromisesModel", "owedOf", "(III)I"⟩, 47), (⟨"MoonPromisesModel", "sumOf", "(III)I"⟩, 47), (⟨"MoonPromisesModel", "areIsles", "()Z"⟩, 47), (⟨"MoonPromisesModel", "rootOf", "(I)I"⟩, 47), (⟨"MoonPromisesModel", "maySail", "(II)Z"⟩, 47), (⟨"MoonPromisesModel", "isSea", "(IIII)Z"⟩, 47), (⟨"MoonPromisesModel", "isDead", "(II)Z"⟩, 47), (⟨"MoonPromisesModel", "isFull", "()Z"⟩, 47), (⟨"MoonPromisesModel", "acts", "(I)V"⟩, 47)]
theorem lw_r5 : ∀ q ∈ lw_privs_5, lw_okq q := List.forall_mem_cons.mpr ⟨lw_p64, List.forall_mem_cons.mpr ⟨lw_p65, List.forall_mem_cons.mpr ⟨lw_p66, List.forall_mem_cons.mpr ⟨lw_p67, List.forall_mem_cons.mpr ⟨lw_p68, List.forall_mem_cons.mpr ⟨lw_p69, List.forall_mem_cons.mpr ⟨lw_p70, List.forall_mem_cons.mpr ⟨lw_p71, List.forall_mem_cons.mpr ⟨lw_p72, List.forall_mem_cons.mpr ⟨lw_p73, List.forall_mem_cons.mpr ⟨lw_p74, List.forall_mem_cons.mpr ⟨lw_p75, List.forall_mem_cons.mpr ⟨lw_p76, List.forall_mem_cons.mpr ⟨lw_p77, List.forall_mem_cons.mpr ⟨lw_p78, List.forall_mem_cons.mpr ⟨lw_p79, fun _ h => absurd h List.not_mem_nil⟩⟩⟩⟩⟩⟩⟩⟩⟩⟩⟩⟩⟩⟩⟩⟩
theorem lw_p80 : lw_okq (⟨"MoonPromisesModel", "maySay", "(I)Z"⟩, 47) := ⟨⟨by decide +kernel, by decide +kernel⟩, List.mem_of_getElem? (i := 1206) (by decide +kernel), List.mem_of_getElem? (i := 1664) (by decide +kernel), List.mem_of_getElem? (i := 1665) (by decide +kernel)⟩
theorem lw_p81 : lw_okq (⟨"MoonPromisesModel", "isPlan", "(II)Z"⟩, 47) := ⟨⟨by decide +kernel, by decide +kernel⟩, List.mem_of_getElem? (i := 1206) (by decide +kernel), List.mem_of_getElem? (i := 1696) (by decide +kernel), List.mem_of_getElem? (i := 1697) (by decide +kernel)⟩
theorem lw_p82 : lw_okq (⟨"MoonPromisesModel", "keptNow", "(I)I"⟩, 47) := ⟨⟨by decide +kernel, by decide +kernel⟩, List.mem_of_getElem? (i := 1206) (by decide +kernel), List.mem_of_getElem? (i := 1701) (by decide +kernel), List.mem_of_getElem? (i := 1702) (by decide +kernel)⟩
theorem lw_p83 : lw_okq (⟨"MoonPromisesModel", "plansFor", "(III)I"⟩, 47) := ⟨⟨by decide +kernel, by decide +kernel⟩, List.mem_of_getElem? (i := 1206) (by decide +kernel), List.mem_of_getElem? (i := 1705) (by decide +kernel), List.mem_of_getElem? (i := 1706) (by decide +kernel)⟩
theorem lw_p84 : lw_okq (⟨"MoonPromisesModel", "onceNow", "()I"⟩, 47) := ⟨⟨by decide +kernel, by decide +kernel⟩, List.mem_of_getElem? (i := 1206) (by decide +kernel), List.mem_of_getElem? (i := 1709) (by decide +kernel), List.mem_of_getElem? (i := 1710) (by decide +kernel)⟩
theorem lw_p85 : lw_okq (⟨"MoonPromisesModel", "goesOn", "(III)V"⟩, 47) := ⟨⟨by decide +kernel, by decide +kernel⟩, List.mem_of_getElem? (i := 1206) (by decide +kernel), List.mem_of_getElem? (i := 1713) (by decide +kernel), List.mem_of_getElem? (i := 1714) (by decide +kernel)⟩
theorem lw_p86 : lw_okq (⟨"MoonPromisesModel", "oarsBy", "(III)I"⟩, 47) := ⟨⟨by decide +kernel, by decide +kernel⟩, List.mem_of_getElem? (i := 1206) (by decide +kernel), List.mem_of_getElem? (i := 1717) (by decide +kernel), List.mem_of_getElem? (i := 1718) (by decide +kernel)⟩
theorem lw_p87 : lw_okq (⟨"MoonPromisesModel", "onceBehind", "(III)I"⟩, 47) := ⟨⟨by decide +kernel, by decide +kernel⟩, List.mem_of_getElem? (i := 1206) (by decide +kernel), List.mem_of_getElem? (i := 1721) (by decide +kernel), List.mem_of_getElem? (i := 1722) (by decide +kernel)⟩
theorem lw_p88 : lw_okq (⟨"MoonPromisesModel", "saidOn", "(II)I"⟩, 47) := ⟨⟨by decide +kernel, by decide +kernel⟩, List.mem_of_getElem? (i := 1206) (by decide +kernel), List.mem_of_getElem? (i := 1725) (by decide +kernel), List.mem_of_getElem? (i := 1726) (by decide +kernel)⟩
theorem lw_p89 : lw_okq (⟨"MoonPromisesModel", "isStep", "(IIII)Z"⟩, 47) := ⟨⟨by decide +kernel, by decide +kernel⟩, List.mem_of_getElem? (i := 1206) (by decide +kernel), List.mem_of_getElem? (i := 1733) (by decide +kernel), List.mem_of_getElem? (i := 1734) (by decide +kernel)⟩
theorem lw_p90 : lw_okq (⟨"MoonPromisesModel", "fallenOf", "(II)I"⟩, 47) := ⟨⟨by decide +kernel, by decide +kernel⟩, List.mem_of_getElem? (i := 1206) (by decide +kernel), List.mem_of_getElem? (i := 1741) (by decide +kernel), List.mem_of_getElem? (i := 1742) (by decide +kernel)⟩
theorem lw_p91 : lw_okq (⟨"MoonPromisesModel", "isLove", "(III)Z"⟩, 47) := ⟨⟨by decide +kernel, by decide +kernel⟩, List.mem_of_getElem? (i := 1206) (by decide +kernel), List.mem_of_getElem? (i := 1761) (by decide +kernel), List.mem_of_getElem? (i := 1762) (by decide +kernel)⟩
theorem lw_p92 : lw_okq (⟨"MoonPromisesModel", "loves", "(III)V"⟩, 47) := ⟨⟨by decide +kernel, by decide +kernel⟩, List.mem_of_getElem? (i := 1206) (by decide +kernel), List.mem_of_getElem? (i := 1765) (by decide +kernel), List.mem_of_getElem? (i := 1766) (by decide +kernel)⟩
theorem lw_p93 : lw_okq (⟨"MoonPromisesModel", "worthSaid", "(III)I"⟩, 47) := ⟨⟨by decide +kernel, by decide +kernel⟩, List.mem_of_getElem? (i := 1206) (by decide +kernel), List.mem_of_getElem? (i := 1769) (by decide +kernel), List.mem_of_getElem? (i := 1770) (by decide +kernel)⟩
theorem lw_p94 : lw_okq (⟨"MoonPromisesModel", "joinOf", "(II)I"⟩, 47) := ⟨⟨by decide +kernel, by decide +kernel⟩, List.mem_of_getElem? (i := 1206) (by decide +kernel), List.mem_of_getElem? (i := 1781) (by decide +kernel), List.mem_of_getElem? (i := 1782) (by decide +kernel)⟩
theorem lw_p95 : lw_okq (⟨"MoonPromisesModel", "isUnder", "(I)Z"⟩, 47) := ⟨⟨by decide +kernel, by decide +kernel⟩, List.mem_of_getElem? (i := 1206) (by decide +kernel), List.mem_of_getElem? (i := 1785) (by decide +kernel), List.mem_of_getElem? (i := 1786) (by decide +kernel)⟩
def lw_privs_6 : List (MethodName × Nat) := [(⟨"MoonPromisesModel", "maySay", "(I)Z"⟩, 47), (⟨"MoonPromisesModel", "isPlan", "(II)Z"⟩, 47), (⟨"MoonPromisesModel", "keptNow", "(I)I"⟩, 47), (⟨"MoonPromisesModel", "plansFor", "(III)I"⟩, 47), (⟨"MoonPromisesModel", "onceNow", "()I"⟩, 47), (⟨"MoonPromisesModel", "goesOn", "(III)V"⟩, 47), (⟨"MoonPromisesModel", "oarsBy", "(III)I"⟩, 47), (⟨"MoonPromisesModel", "onceBehind", "(III)I"⟩, 47), (⟨"MoonPromisesModel", "saidOn", "(II)I"⟩, 47), (⟨"MoonPromisesModel", "isStep", "(IIII)Z"⟩, 47), (⟨"MoonPromisesModel", "fallenOf", "(II)I"⟩, 47), (⟨"MoonPromisesModel", "isLove", "(III)Z"⟩, 47), (⟨"MoonPromisesModel", "loves", "(III)V"⟩, 47), (⟨"MoonPromisesModel", "worthSaid", "(III)I"⟩, 47), (⟨"MoonPromisesModel", "joinOf", "(II)I"⟩, 47), (⟨"MoonPromisesModel", "isUnder", "(I)Z"⟩, 47)]
theorem lw_r6 : ∀ q ∈ lw_privs_6, lw_okq q := List.forall_mem_cons.mpr ⟨lw_p80, List.forall_mem_cons.mpr ⟨lw_p81, List.forall_mem_cons.mpr ⟨lw_p82, List.forall_mem_cons.mpr ⟨lw_p83, List.forall_mem_cons.mpr ⟨lw_p84, List.forall_mem_cons.mpr ⟨lw_p85, List.forall_mem_cons.mpr ⟨lw_p86, List.forall_mem_cons.mpr ⟨lw_p87, List.forall_mem_cons.mpr ⟨lw_p88, List.forall_mem_cons.mpr ⟨lw_p89, List.forall_mem_cons.mpr ⟨lw_p90, List.forall_mem_cons.mpr ⟨lw_p91, List.forall_mem_cons.mpr ⟨lw_p92, List.forall_mem_cons.mpr ⟨lw_p93, List.forall_mem_cons.mpr ⟨lw_p94, List.forall_mem_cons.mpr ⟨lw_p95, fun _ h => absurd h List.not_mem_nil⟩⟩⟩⟩⟩⟩⟩⟩⟩⟩⟩⟩⟩⟩⟩⟩
theorem lw_p96 : lw_okq (⟨"MoonPromisesModel", "ringOf", "(I)I"⟩, 47) := ⟨⟨by decide +kernel, by decide +kernel⟩, List.mem_of_getElem? (i := 1206) (by decide +kernel), List.mem_of_getElem? (i := 1799) (by decide +kernel), List.mem_of_getElem? (i := 1800) (by decide +kernel)⟩
theorem lw_p97 : lw_okq (⟨"MoonPromisesModel", "struckOf", "(IIII)I"⟩, 47) := ⟨⟨by decide +kernel, by decide +kernel⟩, List.mem_of_getElem? (i := 1206) (by decide +kernel), List.mem_of_getElem? (i := 1803) (by decide +kernel), List.mem_of_getElem? (i := 1804) (by decide +kernel)⟩
theorem lw_p98 : lw_okq (⟨"MoonPromisesModel", "whyNot", "(II)I"⟩, 47) := ⟨⟨by decide +kernel, by decide +kernel⟩, List.mem_of_getElem? (i := 1206) (by decide +kernel), List.mem_of_getElem? (i := 1819) (by decide +kernel), List.mem_of_getElem? (i := 1820) (by decide +kernel)⟩
theorem lw_p99 : lw_okq (⟨"MoonPromisesModel", "laysWays", "(II)V"⟩, 47) := ⟨⟨by decide +kernel, by decide +kernel⟩, List.mem_of_getElem? (i := 1206) (by decide +kernel), List.mem_of_getElem? (i := 1824) (by decide +kernel), List.mem_of_getElem? (i := 1825) (by decide +kernel)⟩
theorem lw_p100 : lw_okq (⟨"MoonPromisesModel", "isWay", "(III)Z"⟩, 47) := ⟨⟨by decide +kernel, by decide +kernel⟩, List.mem_of_getElem? (i := 1206) (by decide +kernel), List.mem_of_getElem? (i := 1828) (by decide +kernel), List.mem_of_getElem? (i := 1829) (by decide +kernel)⟩
theorem lw_p101 : lw_okq (⟨"MoonPromisesModel", "worthBy", "(III)I"⟩, 47) := ⟨⟨by decide +kernel, by decide +kernel⟩, List.mem_of_getElem? (i := 1206) (by decide +kernel), List.mem_of_getElem? (i := 1832) (by decide +kernel), List.mem_of_getElem? (i := 1833) (by decide +kernel)⟩
theorem lw_p102 : lw_okq (⟨"MoonPromisesModel", "worstOf", "(III)I"⟩, 47) := ⟨⟨by decide +kernel, by decide +kernel⟩, List.mem_of_getElem? (i := 1206) (by decide +kernel), List.mem_of_getElem? (i := 1848) (by decide +kernel), List.mem_of_getElem? (i := 1849) (by decide +kernel)⟩
theorem lw_p103 : lw_okq (⟨"MoonPromisesModel", "whyNoThreat", "(I)I"⟩, 47) := ⟨⟨by decide +kernel, by decide +kernel⟩, List.mem_of_getElem? (i := 1206) (by decide +kernel), List.mem_of_getElem? (i := 1864) (by decide +kernel), List.mem_of_getElem? (i := 1865) (by decide +kernel)⟩
theorem lw_p104 : lw_okq (⟨"MoonPromisesModel", "xorOf", "(I)I"⟩, 47) := ⟨⟨by decide +kernel, by decide +kernel⟩, List.mem_of_getElem? (i := 1206) (by decide +kernel), List.mem_of_getElem? (i := 1868) (by decide +kernel), List.mem_of_getElem? (i := 1869) (by decide +kernel)⟩
theorem lw_p105 : lw_okq (⟨"MoonPromisesModel", "laysNimbers", "()V"⟩, 47) := ⟨⟨by decide +kernel, by decide +kernel⟩, List.mem_of_getElem? (i := 1206) (by decide +kernel), List.mem_of_getElem? (i := 1872) (by decide +kernel), List.mem_of_getElem? (i := 1873) (by decide +kernel)⟩
theorem lw_p106 : lw_okq (⟨"MoonPromisesModel", "isDraw", "(III)Z"⟩, 47) := ⟨⟨by decide +kernel, by decide +kernel⟩, List.mem_of_getElem? (i := 1206) (by decide +kernel), List.mem_of_getElem? (i := 1884) (by decide +kernel), List.mem_of_getElem? (i := 1885) (by decide +kernel)⟩
theorem lw_p107 : lw_okq (⟨"MoonPromisesModel", "draws", "(JII)I"⟩, 47) := ⟨⟨by decide +kernel, by decide +kernel⟩, List.mem_of_getElem? (i := 1206) (by decide +kernel), List.mem_of_getElem? (i := 1890) (by decide +kernel), List.mem_of_getElem? (i := 1891) (by decide +kernel)⟩
def lw_privs_7 : List (MethodName × Nat) := [(⟨"MoonPromisesModel", "ringOf", "(I)I"⟩, 47), (⟨"MoonPromisesModel", "struckOf", "(IIII)I"⟩, 47), (⟨"MoonPromisesModel", "whyNot", "(II)I"⟩, 47), (⟨"MoonPromisesModel", "laysWays", "(II)V"⟩, 47), (⟨"MoonPromisesModel", "isWay", "(III)Z"⟩, 47), (⟨"MoonPromisesModel", "worthBy", "(III)I"⟩, 47), (⟨"MoonPromisesModel", "worstOf", "(III)I"⟩, 47), (⟨"MoonPromisesModel", "whyNoThreat", "(I)I"⟩, 47), (⟨"MoonPromisesModel", "xorOf", "(I)I"⟩, 47), (⟨"MoonPromisesModel", "laysNimbers", "()V"⟩, 47), (⟨"MoonPromisesModel", "isDraw", "(III)Z"⟩, 47), (⟨"MoonPromisesModel", "draws", "(JII)I"⟩, 47)]
theorem lw_r7 : ∀ q ∈ lw_privs_7, lw_okq q := List.forall_mem_cons.mpr ⟨lw_p96, List.forall_mem_cons.mpr ⟨lw_p97, List.forall_mem_cons.mpr ⟨lw_p98, List.forall_mem_cons.mpr ⟨lw_p99, List.forall_mem_cons.mpr ⟨lw_p100, List.forall_mem_cons.mpr ⟨lw_p101, List.forall_mem_cons.mpr ⟨lw_p102, List.forall_mem_cons.mpr ⟨lw_p103, List.forall_mem_cons.mpr ⟨lw_p104, List.forall_mem_cons.mpr ⟨lw_p105, List.forall_mem_cons.mpr ⟨lw_p106, List.forall_mem_cons.mpr ⟨lw_p107, fun _ h => absurd h List.not_mem_nil⟩⟩⟩⟩⟩⟩⟩⟩⟩⟩⟩⟩
def lw_privs : List (MethodName × Nat) := lw_privs_1 ++ (lw_privs_2 ++ (lw_privs_3 ++ (lw_privs_4 ++ (lw_privs_5 ++ (lw_privs_6 ++ (lw_privs_7))))))
def lw_tbl : List Cond := k2_sels lw_privs ++ tables_1
theorem lw_privs_ok : ∀ q ∈ lw_privs, lw_okq q := by
  show ∀ q ∈ lw_privs_1 ++ (lw_privs_2 ++ (lw_privs_3 ++ (lw_privs_4 ++ (lw_privs_5 ++ (lw_privs_6 ++ (lw_privs_7)))))), lw_okq q
  exact List.forall_mem_append.mpr ⟨lw_r1, List.forall_mem_append.mpr ⟨lw_r2, List.forall_mem_append.mpr ⟨lw_r3, List.forall_mem_append.mpr ⟨lw_r4, List.forall_mem_append.mpr ⟨lw_r5, List.forall_mem_append.mpr ⟨lw_r6, lw_r7⟩⟩⟩⟩⟩⟩
-- ===== end of PART A; then your names; then what follows =====
/-! ===== BEGIN words of one list among another's, by their places ===== -/
theorem goodIn_r {big : List Cond} (ws : List Cond) (ps : List Nat) (hp : ws = ps.filterMap (fun i => big[i]?)) (h : ws.all goodWord = true) : GoodIn big ws := by
  intro w hw
  have h1 := List.all_eq_true.mp h w hw
  rw [hp] at hw
  obtain ⟨i, -, hi⟩ := List.mem_filterMap.mp hw
  have hm : w ∈ big := by first | exact List.mem_of_getElem? hi | exact List.getElem?_mem hi
  exact ⟨hm, good_of_word h1⟩
theorem goodIn_app {big a b : List Cond} (ha : GoodIn big a) (hb : GoodIn big b) : GoodIn big (a ++ b) := fun w h => (List.mem_append.mp h).elim (ha w) (hb w)
theorem goodIn_ca {big a b : List Cond} {c : Cond} (ha : GoodIn big (c :: a)) (hb : GoodIn big b) : GoodIn big (c :: (a ++ b)) := fun w h => (List.mem_cons.mp h).elim (fun e => ha w (List.mem_cons.mpr (Or.inl e))) (fun h => (List.mem_append.mp h).elim (fun h => ha w (List.mem_cons.mpr (Or.inr h))) (hb w))
theorem goodIn_sub {big ws : List Cond} (hm : ∀ w ∈ ws, w ∈ big) (h : ws.all goodWord = true) : GoodIn big ws := fun w hw => ⟨hm w hw, good_of_word (List.all_eq_true.mp h w hw)⟩
/-! ===== END ===== -/
def RX0 : String := "MoonPromises$Course"
def TX0 : u_T := fun k => match k with
  | 0 => ("MoonPromises$Course", "told", "LMoonPromises$Told;", true)
  | 1 => ("MoonPromises$Course", "moon", "I", false)
  | 2 => ("MoonPromises$Course", "place", "[I", true)
  | 3 => ("MoonPromises$Course", "oars", "[I", true)
  | 4 => ("MoonPromises$Course", "rowedIn", "[I", true)
  | 5 => ("MoonPromises$Course", "heard", "[J", true)
  | 6 => ("MoonPromises$Course", "lasts", "[I", true)
  | _ => ("MoonPromises$Course", "worths", "[I", true)
def tyX0 : Nat → FieldType := fun k => match k with
  | 0 => .object "MoonPromises$Told"
  | 1 => .int
  | 2 => .array .int
  | 3 => .array .int
  | 4 => .array .int
  | 5 => .array .long
  | 6 => .array .int
  | _ => .array .int
abbrev wsX00 : List Cond := u_ws RX0 TX0 8
theorem nmX0 : ∀ a, a < 8 → ∀ b, b < 8 → a ≠ b → (TX0 a).2.1 ≠ (TX0 b).2.1 := by decide +kernel
theorem tyX0_ok : ∀ k, k < 8 → parseFieldDescriptor (TX0 k).2.2.1 = some (tyX0 k) := by decide +kernel
abbrev cX0_init : ByteArray := prog_2_method_1_code
def yX0_init : MethodName := ⟨RX0, "<init>", "()V"⟩
abbrev cX0_replay : ByteArray := prog_2_method_2_code
def yX0_replay : MethodName := ⟨RX0, "replay", "()V"⟩
abbrev cX0_addAct : ByteArray := prog_2_method_3_code
def yX0_addAct : MethodName := ⟨RX0, "addAct", "(I)Z"⟩
abbrev cX0_apply : ByteArray := prog_2_method_4_code
def yX0_apply : MethodName := ⟨RX0, "apply", "(I)V"⟩
abbrev cX0_canRow : ByteArray := prog_2_method_5_code
def yX0_canRow : MethodName := ⟨RX0, "canRow", "(II)Z"⟩
abbrev cX0_canSay : ByteArray := prog_2_method_6_code
def yX0_canSay : MethodName := ⟨RX0, "canSay", "(I)Z"⟩
abbrev cX0_lastsAt : ByteArray := prog_2_method_7_code
def yX0_lastsAt : MethodName := ⟨RX0, "lastsAt", "(I)[I"⟩
abbrev cX0_lastSaid : ByteArray := prog_2_method_8_code
def yX0_lastSaid : MethodName := ⟨RX0, "lastSaid", "(II)I"⟩
abbrev cX0_worthsAt : ByteArray := prog_2_method_9_code
def yX0_worthsAt : MethodName := ⟨RX0, "worthsAt", "(I)[I"⟩
abbrev cX0_gainByJoin : ByteArray := prog_2_method_10_code
def yX0_gainByJoin : MethodName := ⟨RX0, "gainByJoin", "(II)I"⟩
abbrev cX0_standsAlone : ByteArray := prog_2_method_11_code
def yX0_standsAlone : MethodName := ⟨RX0, "standsAlone", "(I)Z"⟩
def RX1 : String := "MoonPromises$Ledger"
def TX1 : u_T := fun k => match k with
  | 0 => ("MoonPromises$Ledger", "debts", "[I", true)
  | 1 => ("MoonPromises$Ledger", "people", "I", false)
  | 2 => ("MoonPromises$Ledger", "ringWorth", "I", false)
  | _ => ("MoonPromises$Ledger", "ringPeople", "[I", true)
def tyX1 : Nat → FieldType := fun k => match k with
  | 0 => .array .int
  | 1 => .int
  | 2 => .int
  | _ => .array .int
abbrev wsX10 : List Cond := u_ws RX1 TX1 4
theorem nmX1 : ∀ a, a < 4 → ∀ b, b < 4 → a ≠ b → (TX1 a).2.1 ≠ (TX1 b).2.1 := by decide +kernel
theorem tyX1_ok : ∀ k, k < 4 → parseFieldDescriptor (TX1 k).2.2.1 = some (tyX1 k) := by decide +kernel
abbrev cX1_init : ByteArray := prog_3_method_1_code
def yX1_init : MethodName := ⟨RX1, "<init>", "()V"⟩
abbrev cX1_fill : ByteArray := prog_3_method_2_code
def yX1_fill : MethodName := ⟨RX1, "fill", "(LMoonPromises$Course;I)V"⟩
abbrev cX1_debt : ByteArray := prog_3_method_3_code
def yX1_debt : MethodName := ⟨RX1, "debt", "(II)I"⟩
abbrev cX1_owing : ByteArray := prog_3_method_4_code
def yX1_owing : MethodName := ⟨RX1, "owing", "(I)I"⟩
abbrev cX1_due : ByteArray := prog_3_method_5_code
def yX1_due : MethodName := ⟨RX1, "due", "(I)I"⟩
abbrev cX1_first : ByteArray := prog_3_method_6_code
def yX1_first : MethodName := ⟨RX1, "first", "()I"⟩
abbrev cX1_ringOf : ByteArray := prog_3_method_7_code
def yX1_ringOf : MethodName := ⟨RX1, "ringOf", "(III)I"⟩
abbrev cX1_seekRing : ByteArray := prog_3_method_8_code
def yX1_seekRing : MethodName := ⟨RX1, "seekRing", "()V"⟩
def RX2 : String := "MoonPromises$Planner"
def TX2 : u_T := fun k => match k with
  | 0 => ("MoonPromises$Planner", "isles", "I", false)
  | 1 => ("MoonPromises$Planner", "length", "I", false)
  | 2 => ("MoonPromises$Planner", "start", "I", false)
  | 3 => ("MoonPromises$Planner", "asked", "I", false)
  | 4 => ("MoonPromises$Planner", "legs", "[I", true)
  | 5 => ("MoonPromises$Planner", "missed", "[I", true)
  | 6 => ("MoonPromises$Planner", "spoken", "[I", true)
  | 7 => ("MoonPromises$Planner", "least", "[I", true)
  | 8 => ("MoonPromises$Planner", "ways", "[J", true)
  | 9 => ("MoonPromises$Planner", "loveOars", "I", false)
  | _ => ("MoonPromises$Planner", "loveMoon", "I", false)
def tyX2 : Nat → FieldType := fun k => match k with
  | 0 => .int
  | 1 => .int
  | 2 => .int
  | 3 => .int
  | 4 => .array .int
  | 5 => .array .int
  | 6 => .array .int
  | 7 => .array .int
  | 8 => .array .long
  | 9 => .int
  | _ => .int
abbrev wsX20 : List Cond := u_ws RX2 TX2 11
theorem nmX2 : ∀ a, a < 11 → ∀ b, b < 11 → a ≠ b → (TX2 a).2.1 ≠ (TX2 b).2.1 := by decide +kernel
theorem tyX2_ok : ∀ k, k < 11 → parseFieldDescriptor (TX2 k).2.2.1 = some (tyX2 k) := by decide +kernel
abbrev cX2_init : ByteArray := prog_4_method_1_code
def yX2_init : MethodName := ⟨RX2, "<init>", "()V"⟩
abbrev cX2_prepare : ByteArray := prog_4_method_2_code
def yX2_prepare : MethodName := ⟨RX2, "prepare", "(LMoonPromises$Course;II)V"⟩
abbrev cX2_layLegs : ByteArray := prog_4_method_3_code
def yX2_layLegs : MethodName := ⟨RX2, "layLegs", "(LMoonPromises$Course;II)V"⟩
abbrev cX2_laySpoken : ByteArray := prog_4_method_4_code
def yX2_laySpoken : MethodName := ⟨RX2, "laySpoken", "(LMoonPromises$Course;I)V"⟩
abbrev cX2_layMissed : ByteArray := prog_4_method_5_code
def yX2_layMissed : MethodName := ⟨RX2, "layMissed", "(LMoonPromises$Course;I)V"⟩
abbrev cX2_leg : ByteArray := prog_4_method_6_code
def yX2_leg : MethodName := ⟨RX2, "leg", "(III)I"⟩
abbrev cX2_isKeeping : ByteArray := prog_4_method_7_code
def yX2_isKeeping : MethodName := ⟨RX2, "isKeeping", "(I)Z"⟩
abbrev cX2_leastOars : ByteArray := prog_4_method_8_code
def yX2_leastOars : MethodName := ⟨RX2, "leastOars", "()I"⟩
abbrev cX2_leastFrom : ByteArray := prog_4_method_9_code
def yX2_leastFrom : MethodName := ⟨RX2, "leastFrom", "(II)I"⟩
abbrev cX2_oarsBy : ByteArray := prog_4_method_10_code
def yX2_oarsBy : MethodName := ⟨RX2, "oarsBy", "(III)I"⟩
abbrev cX2_isleOfFirst : ByteArray := prog_4_method_11_code
def yX2_isleOfFirst : MethodName := ⟨RX2, "isleOfFirst", "(I)I"⟩
abbrev cX2_countPlans : ByteArray := prog_4_method_12_code
def yX2_countPlans : MethodName := ⟨RX2, "countPlans", "()J"⟩
abbrev cX2_leastFallen : ByteArray := prog_4_method_13_code
def yX2_leastFallen : MethodName := ⟨RX2, "leastFallen", "()I"⟩
abbrev cX2_canKeep : ByteArray := prog_4_method_14_code
def yX2_canKeep : MethodName := ⟨RX2, "canKeep", "(I)Z"⟩
abbrev cX2_reached : ByteArray := prog_4_method_15_code
def yX2_reached : MethodName := ⟨RX2, "reached", "(III)I"⟩
abbrev cX2_seekLove : ByteArray := prog_4_method_16_code
def yX2_seekLove : MethodName := ⟨RX2, "seekLove", "(LMoonPromises$Course;III)V"⟩
abbrev cX2_layReach : ByteArray := prog_4_method_17_code
def yX2_layReach : MethodName := ⟨RX2, "layReach", "()V"⟩
abbrev cX2_leastTo : ByteArray := prog_4_method_18_code
def yX2_leastTo : MethodName := ⟨RX2, "leastTo", "(II)I"⟩
def RX3 : String := "MoonPromises$Reader"
def TX3 : u_T := fun k => match k with
  | 0 => ("MoonPromises$Reader", "tape", "[B", true)
  | 1 => ("MoonPromises$Reader", "length", "I", false)
  | 2 => ("MoonPromises$Reader", "draft", "LMoonPromises$Told;", true)
  | 3 => ("MoonPromises$Reader", "fault", "I", false)
  | 4 => ("MoonPromises$Reader", "faultPlace", "I", false)
  | 5 => ("MoonPromises$Reader", "kind", "I", false)
  | 6 => ("MoonPromises$Reader", "start", "I", false)
  | 7 => ("MoonPromises$Reader", "stop", "I", false)
  | 8 => ("MoonPromises$Reader", "value", "I", false)
  | _ => ("MoonPromises$Reader", "taken", "I", false)
def tyX3 : Nat → FieldType := fun k => match k with
  | 0 => .array .byte
  | 1 => .int
  | 2 => .object "MoonPromises$Told"
  | 3 => .int
  | 4 => .int
  | 5 => .int
  | 6 => .int
  | 7 => .int
  | 8 => .int
  | _ => .int
abbrev wsX30 : List Cond := u_ws RX3 TX3 10
theorem nmX3 : ∀ a, a < 10 → ∀ b, b < 10 → a ≠ b → (TX3 a).2.1 ≠ (TX3 b).2.1 := by decide +kernel
theorem tyX3_ok : ∀ k, k < 10 → parseFieldDescriptor (TX3 k).2.2.1 = some (tyX3 k) := by decide +kernel
abbrev cX3_init : ByteArray := prog_5_method_1_code
def yX3_init : MethodName := ⟨RX3, "<init>", "()V"⟩
abbrev cX3_addFour : ByteArray := prog_5_method_2_code
def yX3_addFour : MethodName := ⟨RX3, "addFour", "(I)V"⟩
abbrev cX3_readAll : ByteArray := prog_5_method_3_code
def yX3_readAll : MethodName := ⟨RX3, "readAll", "()Z"⟩
abbrev cX3_takeLine : ByteArray := prog_5_method_4_code
def yX3_takeLine : MethodName := ⟨RX3, "takeLine", "()Z"⟩
abbrev cX3_takeIsles : ByteArray := prog_5_method_5_code
def yX3_takeIsles : MethodName := ⟨RX3, "takeIsles", "()Z"⟩
abbrev cX3_takeSea : ByteArray := prog_5_method_6_code
def yX3_takeSea : MethodName := ⟨RX3, "takeSea", "()Z"⟩
abbrev cX3_takePerson : ByteArray := prog_5_method_7_code
def yX3_takePerson : MethodName := ⟨RX3, "takePerson", "()Z"⟩
abbrev cX3_takePromise : ByteArray := prog_5_method_8_code
def yX3_takePromise : MethodName := ⟨RX3, "takePromise", "()Z"⟩
abbrev cX3_takePromiseMarks : ByteArray := prog_5_method_9_code
def yX3_takePromiseMarks : MethodName := ⟨RX3, "takePromiseMarks", "(I)Z"⟩
abbrev cX3_takeShut : ByteArray := prog_5_method_10_code
def yX3_takeShut : MethodName := ⟨RX3, "takeShut", "()Z"⟩
abbrev cX3_takeWord : ByteArray := prog_5_method_11_code
def yX3_takeWord : MethodName := ⟨RX3, "takeWord", "(Ljava/lang/String;)Z"⟩
abbrev cX3_takeNumber : ByteArray := prog_5_method_12_code
def yX3_takeNumber : MethodName := ⟨RX3, "takeNumber", "(III)Z"⟩
abbrev cX3_takeSign : ByteArray := prog_5_method_13_code
def yX3_takeSign : MethodName := ⟨RX3, "takeSign", "()Z"⟩
abbrev cX3_fail : ByteArray := prog_5_method_14_code
def yX3_fail : MethodName := ⟨RX3, "fail", "(I)Z"⟩
abbrev cX3_isWord : ByteArray := prog_5_method_15_code
def yX3_isWord : MethodName := ⟨RX3, "isWord", "(Ljava/lang/String;)Z"⟩
abbrev cX3_step : ByteArray := prog_5_method_16_code
def yX3_step : MethodName := ⟨RX3, "step", "()V"⟩
abbrev cX3_isLetter : ByteArray := prog_5_method_17_code
def yX3_isLetter : MethodName := ⟨RX3, "isLetter", "(I)Z"⟩
abbrev cX3_isDigit : ByteArray := prog_5_method_18_code
def yX3_isDigit : MethodName := ⟨RX3, "isDigit", "(I)Z"⟩
def RX4 : String := "MoonPromises$Scales"
def TX4 : u_T := fun k => match k with
  | 0 => ("MoonPromises$Scales", "full", "I", false)
  | 1 => ("MoonPromises$Scales", "first", "I", false)
  | 2 => ("MoonPromises$Scales", "drunk", "I", false)
  | 3 => ("MoonPromises$Scales", "weights", "[I", true)
  | 4 => ("MoonPromises$Scales", "clashing", "Z", false)
  | 5 => ("MoonPromises$Scales", "ways", "I", false)
  | 6 => ("MoonPromises$Scales", "inAll", "I", false)
  | 7 => ("MoonPromises$Scales", "inSome", "I", false)
  | 8 => ("MoonPromises$Scales", "fewest", "I", false)
  | _ => ("MoonPromises$Scales", "tally", "[I", true)
def tyX4 : Nat → FieldType := fun k => match k with
  | 0 => .int
  | 1 => .int
  | 2 => .int
  | 3 => .array .int
  | 4 => .boolean
  | 5 => .int
  | 6 => .int
  | 7 => .int
  | 8 => .int
  | _ => .array .int
abbrev wsX40 : List Cond := u_ws RX4 TX4 10
theorem nmX4 : ∀ a, a < 10 → ∀ b, b < 10 → a ≠ b → (TX4 a).2.1 ≠ (TX4 b).2.1 := by decide +kernel
theorem tyX4_ok : ∀ k, k < 10 → parseFieldDescriptor (TX4 k).2.2.1 = some (tyX4 k) := by decide +kernel
abbrev cX4_init : ByteArray := prog_6_method_1_code
def yX4_init : MethodName := ⟨RX4, "<init>", "()V"⟩
abbrev cX4_load : ByteArray := prog_6_method_2_code
def yX4_load : MethodName := ⟨RX4, "load", "(LMoonPromises$Told;ILMoonPromises$Slots;I)Z"⟩
abbrev cX4_survey : ByteArray := prog_6_method_3_code
def yX4_survey : MethodName := ⟨RX4, "survey", "()V"⟩
abbrev cX4_fits : ByteArray := prog_6_method_4_code
def yX4_fits : MethodName := ⟨RX4, "fits", "(I)Z"⟩
abbrev cX4_halvingsIn : ByteArray := prog_6_method_5_code
def yX4_halvingsIn : MethodName := ⟨RX4, "halvingsIn", "(III)I"⟩
abbrev cX4_addToTally : ByteArray := prog_6_method_6_code
def yX4_addToTally : MethodName := ⟨RX4, "addToTally", "(I)V"⟩
abbrev cX4_bestMoon : ByteArray := prog_6_method_7_code
def yX4_bestMoon : MethodName := ⟨RX4, "bestMoon", "()I"⟩
abbrev cX4_worstLeft : ByteArray := prog_6_method_8_code
def yX4_worstLeft : MethodName := ⟨RX4, "worstLeft", "(I)I"⟩
abbrev cX4_firstMoons : ByteArray := prog_6_method_9_code
def yX4_firstMoons : MethodName := ⟨RX4, "firstMoons", "()I"⟩
abbrev cX4_fitsFirst : ByteArray := prog_6_method_10_code
def yX4_fitsFirst : MethodName := ⟨RX4, "fitsFirst", "(I)Z"⟩
abbrev cX4_fullBound : ByteArray := prog_6_method_11_code
def yX4_fullBound : MethodName := ⟨RX4, "fullBound", "(I)I"⟩
def RX5 : String := "MoonPromises$Slots"
def TX5 : u_T := fun k => match k with
  | 0 => ("MoonPromises$Slots", "numbers", "[J", true)
  | 1 => ("MoonPromises$Slots", "widths", "[I", true)
  | _ => ("MoonPromises$Slots", "lengths", "[I", true)
def tyX5 : Nat → FieldType := fun k => match k with
  | 0 => .array .long
  | 1 => .array .int
  | _ => .array .int
abbrev wsX50 : List Cond := u_ws RX5 TX5 3
theorem nmX5 : ∀ a, a < 3 → ∀ b, b < 3 → a ≠ b → (TX5 a).2.1 ≠ (TX5 b).2.1 := by decide +kernel
theorem tyX5_ok : ∀ k, k < 3 → parseFieldDescriptor (TX5 k).2.2.1 = some (tyX5 k) := by decide +kernel
abbrev cX5_init : ByteArray := prog_7_method_1_code
def yX5_init : MethodName := ⟨RX5, "<init>", "()V"⟩
abbrev cX5_isSlot : ByteArray := prog_7_method_2_code
def yX5_isSlot : MethodName := ⟨RX5, "isSlot", "(I)Z"⟩
abbrev cX5_isTaken : ByteArray := prog_7_method_3_code
def yX5_isTaken : MethodName := ⟨RX5, "isTaken", "(I)Z"⟩
abbrev cX5_countTaken : ByteArray := prog_7_method_4_code
def yX5_countTaken : MethodName := ⟨RX5, "countTaken", "()I"⟩
abbrev cX5_lay : ByteArray := prog_7_method_5_code
def yX5_lay : MethodName := ⟨RX5, "lay", "(III)V"⟩
abbrev cX5_at : ByteArray := prog_7_method_6_code
def yX5_at : MethodName := ⟨RX5, "at", "(II)J"⟩
abbrev cX5_put : ByteArray := prog_7_method_7_code
def yX5_put : MethodName := ⟨RX5, "put", "(IIJ)V"⟩
abbrev cX5_cut : ByteArray := prog_7_method_8_code
def yX5_cut : MethodName := ⟨RX5, "cut", "(JI)J"⟩
abbrev cX5_holds : ByteArray := prog_7_method_9_code
def yX5_holds : MethodName := ⟨RX5, "holds", "(III)Z"⟩
abbrev cX5_move : ByteArray := prog_7_method_10_code
def yX5_move : MethodName := ⟨RX5, "move", "(IIIII)V"⟩
def RX6 : String := "MoonPromises$Threat"
def TX6 : u_T := fun k => match k with
  | 0 => ("MoonPromises$Threat", "heaps", "I", false)
  | 1 => ("MoonPromises$Threat", "heap", "[I", true)
  | _ => ("MoonPromises$Threat", "values", "[I", true)
def tyX6 : Nat → FieldType := fun k => match k with
  | 0 => .int
  | 1 => .array .int
  | _ => .array .int
abbrev wsX60 : List Cond := u_ws RX6 TX6 3
theorem nmX6 : ∀ a, a < 3 → ∀ b, b < 3 → a ≠ b → (TX6 a).2.1 ≠ (TX6 b).2.1 := by decide +kernel
theorem tyX6_ok : ∀ k, k < 3 → parseFieldDescriptor (TX6 k).2.2.1 = some (tyX6 k) := by decide +kernel
abbrev cX6_init : ByteArray := prog_8_method_1_code
def yX6_init : MethodName := ⟨RX6, "<init>", "()V"⟩
abbrev cX6_load : ByteArray := prog_8_method_2_code
def yX6_load : MethodName := ⟨RX6, "load", "(LMoonPromises$Slots;I)Z"⟩
abbrev cX6_total : ByteArray := prog_8_method_3_code
def yX6_total : MethodName := ⟨RX6, "total", "()I"⟩
abbrev cX6_winningTurn : ByteArray := prog_8_method_4_code
def yX6_winningTurn : MethodName := ⟨RX6, "winningTurn", "()I"⟩
def RX7 : String := "MoonPromises$Told"
def TX7 : u_T := fun k => match k with
  | 0 => ("MoonPromises$Told", "lines", "I", false)
  | 1 => ("MoonPromises$Told", "isles", "I", false)
  | 2 => ("MoonPromises$Told", "moon", "I", false)
  | 3 => ("MoonPromises$Told", "people", "I", false)
  | 4 => ("MoonPromises$Told", "promises", "I", false)
  | 5 => ("MoonPromises$Told", "actCount", "I", false)
  | 6 => ("MoonPromises$Told", "seas", "[I", true)
  | 7 => ("MoonPromises$Told", "shut", "[J", true)
  | 8 => ("MoonPromises$Told", "home", "[I", true)
  | 9 => ("MoonPromises$Told", "death", "[I", true)
  | 10 => ("MoonPromises$Told", "tending", "[I", true)
  | 11 => ("MoonPromises$Told", "ower", "[I", true)
  | 12 => ("MoonPromises$Told", "owee", "[I", true)
  | 13 => ("MoonPromises$Told", "full", "[I", true)
  | 14 => ("MoonPromises$Told", "first", "[I", true)
  | 15 => ("MoonPromises$Told", "drunk", "[I", true)
  | 16 => ("MoonPromises$Told", "base", "[I", true)
  | _ => ("MoonPromises$Told", "acts", "[I", true)
def tyX7 : Nat → FieldType := fun k => match k with
  | 0 => .int
  | 1 => .int
  | 2 => .int
  | 3 => .int
  | 4 => .int
  | 5 => .int
  | 6 => .array .int
  | 7 => .array .long
  | 8 => .array .int
  | 9 => .array .int
  | 10 => .array .int
  | 11 => .array .int
  | 12 => .array .int
  | 13 => .array .int
  | 14 => .array .int
  | 15 => .array .int
  | 16 => .array .int
  | _ => .array .int
abbrev wsX70 : List Cond := u_ws RX7 TX7 18
theorem nmX7 : ∀ a, a < 18 → ∀ b, b < 18 → a ≠ b → (TX7 a).2.1 ≠ (TX7 b).2.1 := by decide +kernel
theorem tyX7_ok : ∀ k, k < 18 → parseFieldDescriptor (TX7 k).2.2.1 = some (tyX7 k) := by decide +kernel
abbrev cX7_init : ByteArray := prog_9_method_1_code
def yX7_init : MethodName := ⟨RX7, "<init>", "()V"⟩
abbrev cX7_clear : ByteArray := prog_9_method_2_code
def yX7_clear : MethodName := ⟨RX7, "clear", "()V"⟩
abbrev cX7_copyFrom : ByteArray := prog_9_method_3_code
def yX7_copyFrom : MethodName := ⟨RX7, "copyFrom", "(LMoonPromises$Told;)V"⟩
abbrev cX7_isIsle : ByteArray := prog_9_method_4_code
def yX7_isIsle : MethodName := ⟨RX7, "isIsle", "(I)Z"⟩
abbrev cX7_isPerson : ByteArray := prog_9_method_5_code
def yX7_isPerson : MethodName := ⟨RX7, "isPerson", "(I)Z"⟩
abbrev cX7_isPromise : ByteArray := prog_9_method_6_code
def yX7_isPromise : MethodName := ⟨RX7, "isPromise", "(I)Z"⟩
abbrev cX7_addPerson : ByteArray := prog_9_method_7_code
def yX7_addPerson : MethodName := ⟨RX7, "addPerson", "(I)V"⟩
abbrev cX7_addPromise : ByteArray := prog_9_method_8_code
def yX7_addPromise : MethodName := ⟨RX7, "addPromise", "(IIII)V"⟩
abbrev cX7_laySea : ByteArray := prog_9_method_9_code
def yX7_laySea : MethodName := ⟨RX7, "laySea", "(III)V"⟩
abbrev cX7_oarsBetween : ByteArray := prog_9_method_10_code
def yX7_oarsBetween : MethodName := ⟨RX7, "oarsBetween", "(II)I"⟩
abbrev cX7_countSeas : ByteArray := prog_9_method_11_code
def yX7_countSeas : MethodName := ⟨RX7, "countSeas", "()I"⟩
abbrev cX7_isShut : ByteArray := prog_9_method_12_code
def yX7_isShut : MethodName := ⟨RX7, "isShut", "(II)Z"⟩
abbrev cX7_setShut : ByteArray := prog_9_method_13_code
def yX7_setShut : MethodName := ⟨RX7, "setShut", "(IIZ)V"⟩
abbrev cX7_countShut : ByteArray := prog_9_method_14_code
def yX7_countShut : MethodName := ⟨RX7, "countShut", "()I"⟩
abbrev cX7_lives : ByteArray := prog_9_method_15_code
def yX7_lives : MethodName := ⟨RX7, "lives", "(II)Z"⟩
abbrev cX7_bothLive : ByteArray := prog_9_method_16_code
def yX7_bothLive : MethodName := ⟨RX7, "bothLive", "(II)Z"⟩
abbrev cX7_oarsOfLeg : ByteArray := prog_9_method_17_code
def yX7_oarsOfLeg : MethodName := ⟨RX7, "oarsOfLeg", "(IIII)I"⟩
abbrev cX7_ownHalvings : ByteArray := prog_9_method_18_code
def yX7_ownHalvings : MethodName := ⟨RX7, "ownHalvings", "(III)I"⟩
abbrev cX7_halvingsBy : ByteArray := prog_9_method_19_code
def yX7_halvingsBy : MethodName := ⟨RX7, "halvingsBy", "([III)I"⟩
abbrev cX7_worthBy : ByteArray := prog_9_method_20_code
def yX7_worthBy : MethodName := ⟨RX7, "worthBy", "([III)I"⟩
def RX8 : String := "MoonPromises$Years"
def TX8 : u_T := fun k => match k with
  | 0 => ("MoonPromises$Years", "lasts", "[I", true)
  | 1 => ("MoonPromises$Years", "worthAtLast", "I", false)
  | _ => ("MoonPromises$Years", "sayings", "I", false)
def tyX8 : Nat → FieldType := fun k => match k with
  | 0 => .array .int
  | 1 => .int
  | _ => .int
abbrev wsX80 : List Cond := u_ws RX8 TX8 3
theorem nmX8 : ∀ a, a < 3 → ∀ b, b < 3 → a ≠ b → (TX8 a).2.1 ≠ (TX8 b).2.1 := by decide +kernel
theorem tyX8_ok : ∀ k, k < 3 → parseFieldDescriptor (TX8 k).2.2.1 = some (tyX8 k) := by decide +kernel
abbrev cX8_init : ByteArray := prog_10_method_1_code
def yX8_init : MethodName := ⟨RX8, "<init>", "()V"⟩
abbrev cX8_pass : ByteArray := prog_10_method_2_code
def yX8_pass : MethodName := ⟨RX8, "pass", "(LMoonPromises$Course;III)V"⟩
def RX9 : String := "MoonPromises"
def TX9 : u_T := fun k => match k with
  | 0 => ("MoonPromises", "reader", "LMoonPromises$Reader;", true)
  | 1 => ("MoonPromises", "course", "LMoonPromises$Course;", true)
  | 2 => ("MoonPromises", "images", "[LMoonPromises$Told;", true)
  | 3 => ("MoonPromises", "ledger", "LMoonPromises$Ledger;", true)
  | 4 => ("MoonPromises", "planner", "LMoonPromises$Planner;", true)
  | 5 => ("MoonPromises", "scales", "LMoonPromises$Scales;", true)
  | 6 => ("MoonPromises", "threat", "LMoonPromises$Threat;", true)
  | 7 => ("MoonPromises", "years", "LMoonPromises$Years;", true)
  | _ => ("MoonPromises", "slots", "LMoonPromises$Slots;", true)
def tyX9 : Nat → FieldType := fun k => match k with
  | 0 => .object "MoonPromises$Reader"
  | 1 => .object "MoonPromises$Course"
  | 2 => .array (.object "MoonPromises$Told")
  | 3 => .object "MoonPromises$Ledger"
  | 4 => .object "MoonPromises$Planner"
  | 5 => .object "MoonPromises$Scales"
  | 6 => .object "MoonPromises$Threat"
  | 7 => .object "MoonPromises$Years"
  | _ => .object "MoonPromises$Slots"
abbrev wsX90 : List Cond := u_ws RX9 TX9 9
theorem nmX9 : ∀ a, a < 9 → ∀ b, b < 9 → a ≠ b → (TX9 a).2.1 ≠ (TX9 b).2.1 := by decide +kernel
theorem tyX9_ok : ∀ k, k < 9 → parseFieldDescriptor (TX9 k).2.2.1 = some (tyX9 k) := by decide +kernel
abbrev cX9_init : ByteArray := prog_1_method_1_code
def yX9_init : MethodName := ⟨RX9, "<init>", "()V"⟩
abbrev cX9_feed : ByteArray := prog_1_method_2_code
def yX9_feed : MethodName := ⟨RX9, "feed", "(IIIII)I"⟩
abbrev cX9_end : ByteArray := prog_1_method_3_code
def yX9_end : MethodName := ⟨RX9, "end", "(I)I"⟩
abbrev cX9_isles : ByteArray := prog_1_method_4_code
def yX9_isles : MethodName := ⟨RX9, "isles", "()I"⟩
abbrev cX9_fault : ByteArray := prog_1_method_5_code
def yX9_fault : MethodName := ⟨RX9, "fault", "(I)I"⟩
abbrev cX9_person : ByteArray := prog_1_method_6_code
def yX9_person : MethodName := ⟨RX9, "person", "(II)I"⟩
abbrev cX9_promise : ByteArray := prog_1_method_7_code
def yX9_promise : MethodName := ⟨RX9, "promise", "(II)I"⟩
abbrev cX9_sea : ByteArray := prog_1_method_8_code
def yX9_sea : MethodName := ⟨RX9, "sea", "(II)I"⟩
abbrev cX9_open : ByteArray := prog_1_method_9_code
def yX9_open : MethodName := ⟨RX9, "open", "(II)I"⟩
abbrev cX9_halvings : ByteArray := prog_1_method_10_code
def yX9_halvings : MethodName := ⟨RX9, "halvings", "(II)I"⟩
abbrev cX9_worth : ByteArray := prog_1_method_11_code
def yX9_worth : MethodName := ⟨RX9, "worth", "(II)I"⟩
abbrev cX9_falls : ByteArray := prog_1_method_12_code
def yX9_falls : MethodName := ⟨RX9, "falls", "(II)I"⟩
abbrev cX9_owed : ByteArray := prog_1_method_13_code
def yX9_owed : MethodName := ⟨RX9, "owed", "(III)I"⟩
abbrev cX9_sum : ByteArray := prog_1_method_14_code
def yX9_sum : MethodName := ⟨RX9, "sum", "(III)I"⟩
abbrev cX9_richest : ByteArray := prog_1_method_15_code
def yX9_richest : MethodName := ⟨RX9, "richest", "(I)I"⟩
abbrev cX9_greatest : ByteArray := prog_1_method_16_code
def yX9_greatest : MethodName := ⟨RX9, "greatest", "(I)I"⟩
abbrev cX9_root : ByteArray := prog_1_method_17_code
def yX9_root : MethodName := ⟨RX9, "root", "(I)I"⟩
abbrev cX9_upon : ByteArray := prog_1_method_18_code
def yX9_upon : MethodName := ⟨RX9, "upon", "(I)I"⟩
abbrev cX9_now : ByteArray := prog_1_method_19_code
def yX9_now : MethodName := ⟨RX9, "now", "()I"⟩
abbrev cX9_where : ByteArray := prog_1_method_20_code
def yX9_where : MethodName := ⟨RX9, "where", "(I)I"⟩
abbrev cX9_rowed : ByteArray := prog_1_method_21_code
def yX9_rowed : MethodName := ⟨RX9, "rowed", "(I)I"⟩
abbrev cX9_rows : ByteArray := prog_1_method_22_code
def yX9_rows : MethodName := ⟨RX9, "rows", "(II)I"⟩
abbrev cX9_says : ByteArray := prog_1_method_23_code
def yX9_says : MethodName := ⟨RX9, "says", "(I)I"⟩
abbrev cX9_passes : ByteArray := prog_1_method_24_code
def yX9_passes : MethodName := ⟨RX9, "passes", "()I"⟩
abbrev cX9_undo : ByteArray := prog_1_method_25_code
def yX9_undo : MethodName := ⟨RX9, "undo", "()I"⟩
abbrev cX9_anew : ByteArray := prog_1_method_26_code
def yX9_anew : MethodName := ⟨RX9, "anew", "()I"⟩
abbrev cX9_act : ByteArray := prog_1_method_27_code
def yX9_act : MethodName := ⟨RX9, "act", "(I)I"⟩
abbrev cX9_can : ByteArray := prog_1_method_28_code
def yX9_can : MethodName := ⟨RX9, "can", "()I"⟩
abbrev cX9_sails : ByteArray := prog_1_method_29_code
def yX9_sails : MethodName := ⟨RX9, "sails", "(I)I"⟩
abbrev cX9_keeps : ByteArray := prog_1_method_30_code
def yX9_keeps : MethodName := ⟨RX9, "keeps", "(II)I"⟩
abbrev cX9_plan : ByteArray := prog_1_method_31_code
def yX9_plan : MethodName := ⟨RX9, "plan", "(III)I"⟩
abbrev cX9_lets : ByteArray := prog_1_method_32_code
def yX9_lets : MethodName := ⟨RX9, "lets", "(II)I"⟩
abbrev cX9_fallen : ByteArray := prog_1_method_33_code
def yX9_fallen : MethodName := ⟨RX9, "fallen", "(II)I"⟩
abbrev cX9_plans : ByteArray := prog_1_method_34_code
def yX9_plans : MethodName := ⟨RX9, "plans", "(II)J"⟩
abbrev cX9_love : ByteArray := prog_1_method_35_code
def yX9_love : MethodName := ⟨RX9, "love", "(III)I"⟩
abbrev cX9_when : ByteArray := prog_1_method_36_code
def yX9_when : MethodName := ⟨RX9, "when", "(III)I"⟩
abbrev cX9_joins : ByteArray := prog_1_method_37_code
def yX9_joins : MethodName := ⟨RX9, "joins", "(II)I"⟩
abbrev cX9_joined : ByteArray := prog_1_method_38_code
def yX9_joined : MethodName := ⟨RX9, "joined", "()I"⟩
abbrev cX9_ring : ByteArray := prog_1_method_39_code
def yX9_ring : MethodName := ⟨RX9, "ring", "(I)I"⟩
abbrev cX9_ringed : ByteArray := prog_1_method_40_code
def yX9_ringed : MethodName := ⟨RX9, "ringed", "(II)I"⟩
abbrev cX9_strikes : ByteArray := prog_1_method_41_code
def yX9_strikes : MethodName := ⟨RX9, "strikes", "(IIII)I"⟩
abbrev cX9_weighed : ByteArray := prog_1_method_42_code
def yX9_weighed : MethodName := ⟨RX9, "weighed", "(II)I"⟩
abbrev cX9_must : ByteArray := prog_1_method_43_code
def yX9_must : MethodName := ⟨RX9, "must", "(III)I"⟩
abbrev cX9_times : ByteArray := prog_1_method_44_code
def yX9_times : MethodName := ⟨RX9, "times", "(II)I"⟩
abbrev cX9_weigh : ByteArray := prog_1_method_45_code
def yX9_weigh : MethodName := ⟨RX9, "weigh", "(II)I"⟩
abbrev cX9_said : ByteArray := prog_1_method_46_code
def yX9_said : MethodName := ⟨RX9, "said", "(II)I"⟩
abbrev cX9_span : ByteArray := prog_1_method_47_code
def yX9_span : MethodName := ⟨RX9, "span", "(III)I"⟩
abbrev cX9_wins : ByteArray := prog_1_method_48_code
def yX9_wins : MethodName := ⟨RX9, "wins", "(I)I"⟩
abbrev cX9_turn : ByteArray := prog_1_method_49_code
def yX9_turn : MethodName := ⟨RX9, "turn", "(I)I"⟩
abbrev cX9_drawn : ByteArray := prog_1_method_50_code
def yX9_drawn : MethodName := ⟨RX9, "drawn", "(III)I"⟩
abbrev cX9_often : ByteArray := prog_1_method_51_code
def yX9_often : MethodName := ⟨RX9, "often", "(III)I"⟩
abbrev cX9_lucky : ByteArray := prog_1_method_52_code
def yX9_lucky : MethodName := ⟨RX9, "lucky", "(IIII)I"⟩
abbrev cX9_promises : ByteArray := prog_1_method_53_code
def yX9_promises : MethodName := ⟨RX9, "promises", "(III)I"⟩
abbrev cX9_shuts : ByteArray := prog_1_method_54_code
def yX9_shuts : MethodName := ⟨RX9, "shuts", "(III)I"⟩
abbrev cX9_tends : ByteArray := prog_1_method_55_code
def yX9_tends : MethodName := ⟨RX9, "tends", "(II)I"⟩
abbrev cX9_count : ByteArray := prog_1_method_56_code
def yX9_count : MethodName := ⟨RX9, "count", "(I)I"⟩
abbrev cX9_image : ByteArray := prog_1_method_57_code
def yX9_image : MethodName := ⟨RX9, "image", "(I)I"⟩
abbrev cX9_back : ByteArray := prog_1_method_58_code
def yX9_back : MethodName := ⟨RX9, "back", "(I)I"⟩
abbrev cX9_row : ByteArray := prog_1_method_59_code
def yX9_row : MethodName := ⟨RX9, "row", "(III)I"⟩
abbrev cX9_write : ByteArray := prog_1_method_60_code
def yX9_write : MethodName := ⟨RX9, "write", "(IIJ)I"⟩
abbrev cX9_paste : ByteArray := prog_1_method_61_code
def yX9_paste : MethodName := ⟨RX9, "paste", "(IIIII)I"⟩
abbrev cX9_isMoon : ByteArray := prog_1_method_62_code
def yX9_isMoon : MethodName := ⟨RX9, "isMoon", "(I)Z"⟩
abbrev cX9_isToldMoon : ByteArray := prog_1_method_63_code
def yX9_isToldMoon : MethodName := ⟨RX9, "isToldMoon", "(I)Z"⟩
abbrev cX9_arePair : ByteArray := prog_1_method_64_code
def yX9_arePair : MethodName := ⟨RX9, "arePair", "(II)Z"⟩
abbrev cX9_canPlan : ByteArray := prog_1_method_65_code
def yX9_canPlan : MethodName := ⟨RX9, "canPlan", "(II)Z"⟩
abbrev cX9_canLove : ByteArray := prog_1_method_66_code
def yX9_canLove : MethodName := ⟨RX9, "canLove", "(III)Z"⟩
abbrev cX9_canDraw : ByteArray := prog_1_method_67_code
def yX9_canDraw : MethodName := ⟨RX9, "canDraw", "(III)Z"⟩
abbrev cX9_putOnScales : ByteArray := prog_1_method_68_code
def yX9_putOnScales : MethodName := ⟨RX9, "putOnScales", "(II)I"⟩
abbrev cX9_putInThreat : ByteArray := prog_1_method_69_code
def yX9_putInThreat : MethodName := ⟨RX9, "putInThreat", "(I)I"⟩
abbrev cX9_halved : ByteArray := prog_1_method_70_code
def yX9_halved : MethodName := ⟨RX9, "halved", "(II)I"⟩
def RX10 : String := "MoonPromisesModel"
def TX10 : u_T := fun k => match k with
  | 0 => ("MoonPromisesModel", "thrown", "I", false)
  | 1 => ("MoonPromisesModel", "width", "[I", true)
  | 2 => ("MoonPromisesModel", "many", "[I", true)
  | 3 => ("MoonPromisesModel", "cells", "[J", true)
  | 4 => ("MoonPromisesModel", "moved", "[J", true)
  | 5 => ("MoonPromisesModel", "tape", "[B", true)
  | 6 => ("MoonPromisesModel", "taped", "I", false)
  | 7 => ("MoonPromisesModel", "at", "I", false)
  | 8 => ("MoonPromisesModel", "token", "I", false)
  | 9 => ("MoonPromisesModel", "place", "I", false)
  | 10 => ("MoonPromisesModel", "value", "I", false)
  | 11 => ("MoonPromisesModel", "word", "J", false)
  | 12 => ("MoonPromisesModel", "bad", "I", false)
  | 13 => ("MoonPromisesModel", "badPlace", "I", false)
  | 14 => ("MoonPromisesModel", "fault", "I", false)
  | 15 => ("MoonPromisesModel", "faultPlace", "I", false)
  | 16 => ("MoonPromisesModel", "lines", "[I", true)
  | 17 => ("MoonPromisesModel", "has", "[I", true)
  | 18 => ("MoonPromisesModel", "sea", "[I", true)
  | 19 => ("MoonPromisesModel", "isShut", "[Z", true)
  | 20 => ("MoonPromisesModel", "person", "[I", true)
  | 21 => ("MoonPromisesModel", "promise", "[I", true)
  | 22 => ("MoonPromisesModel", "act", "[I", true)
  | 23 => ("MoonPromisesModel", "isKept", "[Z", true)
  | 24 => ("MoonPromisesModel", "moon", "I", false)
  | 25 => ("MoonPromisesModel", "where", "[I", true)
  | 26 => ("MoonPromisesModel", "rowed", "[I", true)
  | 27 => ("MoonPromisesModel", "lastRow", "[I", true)
  | 28 => ("MoonPromisesModel", "again", "[Z", true)
  | 29 => ("MoonPromisesModel", "planner", "I", false)
  | 30 => ("MoonPromisesModel", "planMoons", "I", false)
  | 31 => ("MoonPromisesModel", "tracked", "I", false)
  | 32 => ("MoonPromisesModel", "least", "[I", true)
  | 33 => ("MoonPromisesModel", "ways", "[J", true)
  | 34 => ("MoonPromisesModel", "loveOars", "I", false)
  | 35 => ("MoonPromisesModel", "loveMoon", "I", false)
  | 36 => ("MoonPromisesModel", "reach", "[I", true)
  | 37 => ("MoonPromisesModel", "reachThen", "[I", true)
  | 38 => ("MoonPromisesModel", "ring", "[I", true)
  | 39 => ("MoonPromisesModel", "wayMany", "I", false)
  | 40 => ("MoonPromisesModel", "wayAll", "I", false)
  | 41 => ("MoonPromisesModel", "waySome", "I", false)
  | 42 => ("MoonPromisesModel", "wayFewest", "I", false)
  | 43 => ("MoonPromisesModel", "byWorth", "[I", true)
  | 44 => ("MoonPromisesModel", "worthIs", "[I", true)
  | 45 => ("MoonPromisesModel", "nimber", "[I", true)
  | _ => ("MoonPromisesModel", "saidOften", "I", false)
def tyX10 : Nat → FieldType := fun k => match k with
  | 0 => .int
  | 1 => .array .int
  | 2 => .array .int
  | 3 => .array .long
  | 4 => .array .long
  | 5 => .array .byte
  | 6 => .int
  | 7 => .int
  | 8 => .int
  | 9 => .int
  | 10 => .int
  | 11 => .long
  | 12 => .int
  | 13 => .int
  | 14 => .int
  | 15 => .int
  | 16 => .array .int
  | 17 => .array .int
  | 18 => .array .int
  | 19 => .array .boolean
  | 20 => .array .int
  | 21 => .array .int
  | 22 => .array .int
  | 23 => .array .boolean
  | 24 => .int
  | 25 => .array .int
  | 26 => .array .int
  | 27 => .array .int
  | 28 => .array .boolean
  | 29 => .int
  | 30 => .int
  | 31 => .int
  | 32 => .array .int
  | 33 => .array .long
  | 34 => .int
  | 35 => .int
  | 36 => .array .int
  | 37 => .array .int
  | 38 => .array .int
  | 39 => .int
  | 40 => .int
  | 41 => .int
  | 42 => .int
  | 43 => .array .int
  | 44 => .array .int
  | 45 => .array .int
  | _ => .int
abbrev wsX100 : List Cond := u_ws RX10 TX10 47
theorem nmX10 : ∀ a, a < 47 → ∀ b, b < 47 → a ≠ b → (TX10 a).2.1 ≠ (TX10 b).2.1 := by decide +kernel
theorem tyX10_ok : ∀ k, k < 47 → parseFieldDescriptor (TX10 k).2.2.1 = some (tyX10 k) := by decide +kernel
abbrev cX10_init : ByteArray := prog_12_method_1_code
def yX10_init : MethodName := ⟨RX10, "<init>", "()V"⟩
abbrev cX10_in : ByteArray := prog_12_method_3_code
def yX10_in : MethodName := ⟨RX10, "in", "(JJJ)Z"⟩
abbrev cX10_isSlot : ByteArray := prog_12_method_4_code
def yX10_isSlot : MethodName := ⟨RX10, "isSlot", "(I)Z"⟩
abbrev cX10_row : ByteArray := prog_12_method_5_code
def yX10_row : MethodName := ⟨RX10, "row", "(III)I"⟩
abbrev cX10_cut : ByteArray := prog_12_method_6_code
def yX10_cut : MethodName := ⟨RX10, "cut", "(JI)J"⟩
abbrev cX10_write : ByteArray := prog_12_method_7_code
def yX10_write : MethodName := ⟨RX10, "write", "(IIJ)I"⟩
abbrev cX10_paste : ByteArray := prog_12_method_8_code
def yX10_paste : MethodName := ⟨RX10, "paste", "(IIIII)I"⟩
abbrev cX10_feed : ByteArray := prog_12_method_9_code
def yX10_feed : MethodName := ⟨RX10, "feed", "(IIIII)I"⟩
abbrev cX10_four : ByteArray := prog_12_method_10_code
def yX10_four : MethodName := ⟨RX10, "four", "(I)V"⟩
abbrev cX10_end : ByteArray := prog_12_method_11_code
def yX10_end : MethodName := ⟨RX10, "end", "(I)I"⟩
abbrev cX10_isByte : ByteArray := prog_12_method_12_code
def yX10_isByte : MethodName := ⟨RX10, "isByte", "(III)Z"⟩
abbrev cX10_next : ByteArray := prog_12_method_13_code
def yX10_next : MethodName := ⟨RX10, "next", "()V"⟩
abbrev cX10_isGood : ByteArray := prog_12_method_14_code
def yX10_isGood : MethodName := ⟨RX10, "isGood", "()Z"⟩
abbrev cX10_fails : ByteArray := prog_12_method_15_code
def yX10_fails : MethodName := ⟨RX10, "fails", "(I)V"⟩
abbrev cX10_is : ByteArray := prog_12_method_16_code
def yX10_is : MethodName := ⟨RX10, "is", "(J)Z"⟩
abbrev cX10_takes : ByteArray := prog_12_method_17_code
def yX10_takes : MethodName := ⟨RX10, "takes", "(J)Z"⟩
abbrev cX10_asks : ByteArray := prog_12_method_18_code
def yX10_asks : MethodName := ⟨RX10, "asks", "(J)V"⟩
abbrev cX10_number : ByteArray := prog_12_method_19_code
def yX10_number : MethodName := ⟨RX10, "number", "(II)I"⟩
abbrev cX10_number_ : ByteArray := prog_12_method_20_code
def yX10_number_ : MethodName := ⟨RX10, "number", "(JII)I"⟩
abbrev cX10_ends : ByteArray := prog_12_method_21_code
def yX10_ends : MethodName := ⟨RX10, "ends", "()V"⟩
abbrev cX10_begins : ByteArray := prog_12_method_22_code
def yX10_begins : MethodName := ⟨RX10, "begins", "()V"⟩
abbrev cX10_isOver : ByteArray := prog_12_method_23_code
def yX10_isOver : MethodName := ⟨RX10, "isOver", "()V"⟩
abbrev cX10_fault : ByteArray := prog_12_method_24_code
def yX10_fault : MethodName := ⟨RX10, "fault", "(I)I"⟩
abbrev cX10_hasRead : ByteArray := prog_12_method_25_code
def yX10_hasRead : MethodName := ⟨RX10, "hasRead", "(I)I"⟩
abbrev cX10_isleHere : ByteArray := prog_12_method_26_code
def yX10_isleHere : MethodName := ⟨RX10, "isleHere", "()I"⟩
abbrev cX10_personHere : ByteArray := prog_12_method_27_code
def yX10_personHere : MethodName := ⟨RX10, "personHere", "()I"⟩
abbrev cX10_moonHere : ByteArray := prog_12_method_28_code
def yX10_moonHere : MethodName := ⟨RX10, "moonHere", "()I"⟩
abbrev cX10_seaLine : ByteArray := prog_12_method_29_code
def yX10_seaLine : MethodName := ⟨RX10, "seaLine", "()V"⟩
abbrev cX10_personLine : ByteArray := prog_12_method_30_code
def yX10_personLine : MethodName := ⟨RX10, "personLine", "()V"⟩
abbrev cX10_promiseLine : ByteArray := prog_12_method_31_code
def yX10_promiseLine : MethodName := ⟨RX10, "promiseLine", "()V"⟩
abbrev cX10_line : ByteArray := prog_12_method_32_code
def yX10_line : MethodName := ⟨RX10, "line", "()V"⟩
abbrev cX10_clears : ByteArray := prog_12_method_33_code
def yX10_clears : MethodName := ⟨RX10, "clears", "()V"⟩
abbrev cX10_isles : ByteArray := prog_12_method_34_code
def yX10_isles : MethodName := ⟨RX10, "isles", "()I"⟩
abbrev cX10_copyRow : ByteArray := prog_12_method_35_code
def yX10_copyRow : MethodName := ⟨RX10, "copyRow", "([IIII)V"⟩
abbrev cX10_copyIsles : ByteArray := prog_12_method_36_code
def yX10_copyIsles : MethodName := ⟨RX10, "copyIsles", "(II)V"⟩
abbrev cX10_areIsles : ByteArray := prog_12_method_37_code
def yX10_areIsles : MethodName := ⟨RX10, "areIsles", "()Z"⟩
abbrev cX10_isIsle : ByteArray := prog_12_method_38_code
def yX10_isIsle : MethodName := ⟨RX10, "isIsle", "(I)Z"⟩
abbrev cX10_isPerson : ByteArray := prog_12_method_39_code
def yX10_isPerson : MethodName := ⟨RX10, "isPerson", "(I)Z"⟩
abbrev cX10_isPromise : ByteArray := prog_12_method_40_code
def yX10_isPromise : MethodName := ⟨RX10, "isPromise", "(I)Z"⟩
abbrev cX10_areTwo : ByteArray := prog_12_method_41_code
def yX10_areTwo : MethodName := ⟨RX10, "areTwo", "(II)Z"⟩
abbrev cX10_isMoon : ByteArray := prog_12_method_42_code
def yX10_isMoon : MethodName := ⟨RX10, "isMoon", "(I)Z"⟩
abbrev cX10_isBit : ByteArray := prog_12_method_43_code
def yX10_isBit : MethodName := ⟨RX10, "isBit", "(II)Z"⟩
abbrev cX10_sizeOf : ByteArray := prog_12_method_44_code
def yX10_sizeOf : MethodName := ⟨RX10, "sizeOf", "(I)I"⟩
abbrev cX10_of : ByteArray := prog_12_method_45_code
def yX10_of : MethodName := ⟨RX10, "of", "(II)I"⟩
abbrev cX10_person : ByteArray := prog_12_method_46_code
def yX10_person : MethodName := ⟨RX10, "person", "(II)I"⟩
abbrev cX10_promise : ByteArray := prog_12_method_47_code
def yX10_promise : MethodName := ⟨RX10, "promise", "(II)I"⟩
abbrev cX10_sea : ByteArray := prog_12_method_48_code
def yX10_sea : MethodName := ⟨RX10, "sea", "(II)I"⟩
abbrev cX10_open : ByteArray := prog_12_method_49_code
def yX10_open : MethodName := ⟨RX10, "open", "(II)I"⟩
abbrev cX10_isDead : ByteArray := prog_12_method_50_code
def yX10_isDead : MethodName := ⟨RX10, "isDead", "(II)Z"⟩
abbrev cX10_lays : ByteArray := prog_12_method_51_code
def yX10_lays : MethodName := ⟨RX10, "lays", "()V"⟩
abbrev cX10_ownOf : ByteArray := prog_12_method_52_code
def yX10_ownOf : MethodName := ⟨RX10, "ownOf", "(II)I"⟩
abbrev cX10_halvedOf : ByteArray := prog_12_method_53_code
def yX10_halvedOf : MethodName := ⟨RX10, "halvedOf", "(II)I"⟩
abbrev cX10_halved : ByteArray := prog_12_method_54_code
def yX10_halved : MethodName := ⟨RX10, "halved", "(II)I"⟩
abbrev cX10_worthOf : ByteArray := prog_12_method_55_code
def yX10_worthOf : MethodName := ⟨RX10, "worthOf", "(II)I"⟩
abbrev cX10_halvings : ByteArray := prog_12_method_56_code
def yX10_halvings : MethodName := ⟨RX10, "halvings", "(II)I"⟩
abbrev cX10_worth : ByteArray := prog_12_method_57_code
def yX10_worth : MethodName := ⟨RX10, "worth", "(II)I"⟩
abbrev cX10_falls : ByteArray := prog_12_method_58_code
def yX10_falls : MethodName := ⟨RX10, "falls", "(II)I"⟩
abbrev cX10_owedOf : ByteArray := prog_12_method_59_code
def yX10_owedOf : MethodName := ⟨RX10, "owedOf", "(III)I"⟩
abbrev cX10_owed : ByteArray := prog_12_method_60_code
def yX10_owed : MethodName := ⟨RX10, "owed", "(III)I"⟩
abbrev cX10_sumOf : ByteArray := prog_12_method_61_code
def yX10_sumOf : MethodName := ⟨RX10, "sumOf", "(III)I"⟩
abbrev cX10_sum : ByteArray := prog_12_method_62_code
def yX10_sum : MethodName := ⟨RX10, "sum", "(III)I"⟩
abbrev cX10_richest : ByteArray := prog_12_method_63_code
def yX10_richest : MethodName := ⟨RX10, "richest", "(I)I"⟩
abbrev cX10_greatest : ByteArray := prog_12_method_64_code
def yX10_greatest : MethodName := ⟨RX10, "greatest", "(I)I"⟩
abbrev cX10_rootOf : ByteArray := prog_12_method_65_code
def yX10_rootOf : MethodName := ⟨RX10, "rootOf", "(I)I"⟩
abbrev cX10_root : ByteArray := prog_12_method_66_code
def yX10_root : MethodName := ⟨RX10, "root", "(I)I"⟩
abbrev cX10_upon : ByteArray := prog_12_method_67_code
def yX10_upon : MethodName := ⟨RX10, "upon", "(I)I"⟩
abbrev cX10_now : ByteArray := prog_12_method_68_code
def yX10_now : MethodName := ⟨RX10, "now", "()I"⟩
abbrev cX10_where : ByteArray := prog_12_method_69_code
def yX10_where : MethodName := ⟨RX10, "where", "(I)I"⟩
abbrev cX10_rowed : ByteArray := prog_12_method_70_code
def yX10_rowed : MethodName := ⟨RX10, "rowed", "(I)I"⟩
abbrev cX10_isSea : ByteArray := prog_12_method_71_code
def yX10_isSea : MethodName := ⟨RX10, "isSea", "(IIII)Z"⟩
abbrev cX10_maySail : ByteArray := prog_12_method_72_code
def yX10_maySail : MethodName := ⟨RX10, "maySail", "(II)Z"⟩
abbrev cX10_maySay : ByteArray := prog_12_method_73_code
def yX10_maySay : MethodName := ⟨RX10, "maySay", "(I)Z"⟩
abbrev cX10_acts : ByteArray := prog_12_method_74_code
def yX10_acts : MethodName := ⟨RX10, "acts", "(I)V"⟩
abbrev cX10_isFull : ByteArray := prog_12_method_75_code
def yX10_isFull : MethodName := ⟨RX10, "isFull", "()Z"⟩
abbrev cX10_rows : ByteArray := prog_12_method_76_code
def yX10_rows : MethodName := ⟨RX10, "rows", "(II)I"⟩
abbrev cX10_says : ByteArray := prog_12_method_77_code
def yX10_says : MethodName := ⟨RX10, "says", "(I)I"⟩
abbrev cX10_passes : ByteArray := prog_12_method_78_code
def yX10_passes : MethodName := ⟨RX10, "passes", "()I"⟩
abbrev cX10_undo : ByteArray := prog_12_method_79_code
def yX10_undo : MethodName := ⟨RX10, "undo", "()I"⟩
abbrev cX10_anew : ByteArray := prog_12_method_80_code
def yX10_anew : MethodName := ⟨RX10, "anew", "()I"⟩
abbrev cX10_act : ByteArray := prog_12_method_81_code
def yX10_act : MethodName := ⟨RX10, "act", "(I)I"⟩
abbrev cX10_can : ByteArray := prog_12_method_82_code
def yX10_can : MethodName := ⟨RX10, "can", "()I"⟩
abbrev cX10_sails : ByteArray := prog_12_method_83_code
def yX10_sails : MethodName := ⟨RX10, "sails", "(I)I"⟩
abbrev cX10_saidOn : ByteArray := prog_12_method_84_code
def yX10_saidOn : MethodName := ⟨RX10, "saidOn", "(II)I"⟩
abbrev cX10_onceBehind : ByteArray := prog_12_method_85_code
def yX10_onceBehind : MethodName := ⟨RX10, "onceBehind", "(III)I"⟩
abbrev cX10_goesOn : ByteArray := prog_12_method_86_code
def yX10_goesOn : MethodName := ⟨RX10, "goesOn", "(III)V"⟩
abbrev cX10_oarsBy : ByteArray := prog_12_method_87_code
def yX10_oarsBy : MethodName := ⟨RX10, "oarsBy", "(III)I"⟩
abbrev cX10_onceNow : ByteArray := prog_12_method_88_code
def yX10_onceNow : MethodName := ⟨RX10, "onceNow", "()I"⟩
abbrev cX10_keptNow : ByteArray := prog_12_method_89_code
def yX10_keptNow : MethodName := ⟨RX10, "keptNow", "(I)I"⟩
abbrev cX10_plansFor : ByteArray := prog_12_method_90_code
def yX10_plansFor : MethodName := ⟨RX10, "plansFor", "(III)I"⟩
abbrev cX10_isPlan : ByteArray := prog_12_method_91_code
def yX10_isPlan : MethodName := ⟨RX10, "isPlan", "(II)Z"⟩
abbrev cX10_keeps : ByteArray := prog_12_method_92_code
def yX10_keeps : MethodName := ⟨RX10, "keeps", "(II)I"⟩
abbrev cX10_plan : ByteArray := prog_12_method_93_code
def yX10_plan : MethodName := ⟨RX10, "plan", "(III)I"⟩
abbrev cX10_isStep : ByteArray := prog_12_method_94_code
def yX10_isStep : MethodName := ⟨RX10, "isStep", "(IIII)Z"⟩
abbrev cX10_fallenOf : ByteArray := prog_12_method_95_code
def yX10_fallenOf : MethodName := ⟨RX10, "fallenOf", "(II)I"⟩
abbrev cX10_lets : ByteArray := prog_12_method_96_code
def yX10_lets : MethodName := ⟨RX10, "lets", "(II)I"⟩
abbrev cX10_fallen : ByteArray := prog_12_method_97_code
def yX10_fallen : MethodName := ⟨RX10, "fallen", "(II)I"⟩
abbrev cX10_plans : ByteArray := prog_12_method_98_code
def yX10_plans : MethodName := ⟨RX10, "plans", "(II)J"⟩
abbrev cX10_worthSaid : ByteArray := prog_12_method_99_code
def yX10_worthSaid : MethodName := ⟨RX10, "worthSaid", "(III)I"⟩
abbrev cX10_loves : ByteArray := prog_12_method_100_code
def yX10_loves : MethodName := ⟨RX10, "loves", "(III)V"⟩
abbrev cX10_isLove : ByteArray := prog_12_method_101_code
def yX10_isLove : MethodName := ⟨RX10, "isLove", "(III)Z"⟩
abbrev cX10_love : ByteArray := prog_12_method_102_code
def yX10_love : MethodName := ⟨RX10, "love", "(III)I"⟩
abbrev cX10_when : ByteArray := prog_12_method_103_code
def yX10_when : MethodName := ⟨RX10, "when", "(III)I"⟩
abbrev cX10_isUnder : ByteArray := prog_12_method_104_code
def yX10_isUnder : MethodName := ⟨RX10, "isUnder", "(I)Z"⟩
abbrev cX10_joinOf : ByteArray := prog_12_method_105_code
def yX10_joinOf : MethodName := ⟨RX10, "joinOf", "(II)I"⟩
abbrev cX10_joins : ByteArray := prog_12_method_106_code
def yX10_joins : MethodName := ⟨RX10, "joins", "(II)I"⟩
abbrev cX10_joined : ByteArray := prog_12_method_107_code
def yX10_joined : MethodName := ⟨RX10, "joined", "()I"⟩
abbrev cX10_struckOf : ByteArray := prog_12_method_108_code
def yX10_struckOf : MethodName := ⟨RX10, "struckOf", "(IIII)I"⟩
abbrev cX10_ringOf : ByteArray := prog_12_method_109_code
def yX10_ringOf : MethodName := ⟨RX10, "ringOf", "(I)I"⟩
abbrev cX10_ring : ByteArray := prog_12_method_110_code
def yX10_ring : MethodName := ⟨RX10, "ring", "(I)I"⟩
abbrev cX10_ringed : ByteArray := prog_12_method_111_code
def yX10_ringed : MethodName := ⟨RX10, "ringed", "(II)I"⟩
abbrev cX10_strikes : ByteArray := prog_12_method_112_code
def yX10_strikes : MethodName := ⟨RX10, "strikes", "(IIII)I"⟩
abbrev cX10_whyNot : ByteArray := prog_12_method_113_code
def yX10_whyNot : MethodName := ⟨RX10, "whyNot", "(II)I"⟩
abbrev cX10_worthBy : ByteArray := prog_12_method_114_code
def yX10_worthBy : MethodName := ⟨RX10, "worthBy", "(III)I"⟩
abbrev cX10_isWay : ByteArray := prog_12_method_115_code
def yX10_isWay : MethodName := ⟨RX10, "isWay", "(III)Z"⟩
abbrev cX10_laysWays : ByteArray := prog_12_method_116_code
def yX10_laysWays : MethodName := ⟨RX10, "laysWays", "(II)V"⟩
abbrev cX10_weighed : ByteArray := prog_12_method_117_code
def yX10_weighed : MethodName := ⟨RX10, "weighed", "(II)I"⟩
abbrev cX10_must : ByteArray := prog_12_method_118_code
def yX10_must : MethodName := ⟨RX10, "must", "(III)I"⟩
abbrev cX10_times : ByteArray := prog_12_method_119_code
def yX10_times : MethodName := ⟨RX10, "times", "(II)I"⟩
abbrev cX10_worstOf : ByteArray := prog_12_method_120_code
def yX10_worstOf : MethodName := ⟨RX10, "worstOf", "(III)I"⟩
abbrev cX10_weigh : ByteArray := prog_12_method_121_code
def yX10_weigh : MethodName := ⟨RX10, "weigh", "(II)I"⟩
abbrev cX10_said : ByteArray := prog_12_method_122_code
def yX10_said : MethodName := ⟨RX10, "said", "(II)I"⟩
abbrev cX10_span : ByteArray := prog_12_method_123_code
def yX10_span : MethodName := ⟨RX10, "span", "(III)I"⟩
abbrev cX10_laysNimbers : ByteArray := prog_12_method_124_code
def yX10_laysNimbers : MethodName := ⟨RX10, "laysNimbers", "()V"⟩
abbrev cX10_whyNoThreat : ByteArray := prog_12_method_125_code
def yX10_whyNoThreat : MethodName := ⟨RX10, "whyNoThreat", "(I)I"⟩
abbrev cX10_xorOf : ByteArray := prog_12_method_126_code
def yX10_xorOf : MethodName := ⟨RX10, "xorOf", "(I)I"⟩
abbrev cX10_wins : ByteArray := prog_12_method_127_code
def yX10_wins : MethodName := ⟨RX10, "wins", "(I)I"⟩
abbrev cX10_turn : ByteArray := prog_12_method_128_code
def yX10_turn : MethodName := ⟨RX10, "turn", "(I)I"⟩
abbrev cX10_draws : ByteArray := prog_12_method_129_code
def yX10_draws : MethodName := ⟨RX10, "draws", "(JII)I"⟩
abbrev cX10_isDraw : ByteArray := prog_12_method_130_code
def yX10_isDraw : MethodName := ⟨RX10, "isDraw", "(III)Z"⟩
abbrev cX10_drawn : ByteArray := prog_12_method_131_code
def yX10_drawn : MethodName := ⟨RX10, "drawn", "(III)I"⟩
abbrev cX10_often : ByteArray := prog_12_method_132_code
def yX10_often : MethodName := ⟨RX10, "often", "(III)I"⟩
abbrev cX10_lucky : ByteArray := prog_12_method_133_code
def yX10_lucky : MethodName := ⟨RX10, "lucky", "(IIII)I"⟩
abbrev cX10_promises : ByteArray := prog_12_method_134_code
def yX10_promises : MethodName := ⟨RX10, "promises", "(III)I"⟩
abbrev cX10_shuts : ByteArray := prog_12_method_135_code
def yX10_shuts : MethodName := ⟨RX10, "shuts", "(III)I"⟩
abbrev cX10_tends : ByteArray := prog_12_method_136_code
def yX10_tends : MethodName := ⟨RX10, "tends", "(II)I"⟩
abbrev cX10_count : ByteArray := prog_12_method_137_code
def yX10_count : MethodName := ⟨RX10, "count", "(I)I"⟩
abbrev cX10_image : ByteArray := prog_12_method_138_code
def yX10_image : MethodName := ⟨RX10, "image", "(I)I"⟩
abbrev cX10_back : ByteArray := prog_12_method_139_code
def yX10_back : MethodName := ⟨RX10, "back", "(I)I"⟩
def RJx145de : String := "java/io/Serializable"
def TJx145de : u_T := fun k => match k with
  | _ => ("", "", "", false)
def tyJx145de : Nat → FieldType := fun k => match k with
  | _ => .int
theorem tyJx145de_ok : ∀ k, k < 0 → parseFieldDescriptor (TJx145de k).2.2.1 = some (tyJx145de k) := by decide +kernel
def RJx9f9b0 : String := "java/lang/CharSequence"
def TJx9f9b0 : u_T := fun k => match k with
  | _ => ("", "", "", false)
def tyJx9f9b0 : Nat → FieldType := fun k => match k with
  | _ => .int
theorem tyJx9f9b0_ok : ∀ k, k < 0 → parseFieldDescriptor (TJx9f9b0 k).2.2.1 = some (tyJx9f9b0 k) := by decide +kernel
def RJxb160c : String := "java/lang/Comparable"
def TJxb160c : u_T := fun k => match k with
  | _ => ("", "", "", false)
def tyJxb160c : Nat → FieldType := fun k => match k with
  | _ => .int
theorem tyJxb160c_ok : ∀ k, k < 0 → parseFieldDescriptor (TJxb160c k).2.2.1 = some (tyJxb160c k) := by decide +kernel
def RJ6 : String := "java/lang/Integer"
def TJ6 : u_T := fun k => match k with
  | _ => ("", "", "", false)
def tyJ6 : Nat → FieldType := fun k => match k with
  | _ => .int
theorem tyJ6_ok : ∀ k, k < 0 → parseFieldDescriptor (TJ6 k).2.2.1 = some (tyJ6 k) := by decide +kernel
abbrev cJ6_bitCount_0f7a4 : ByteArray := prog_13_method_49_code
def yJ6_bitCount_0f7a4 : MethodName := ⟨RJ6, "bitCount", "(I)I"⟩
def RJ13 : String := "java/lang/Long"
def TJ13 : u_T := fun k => match k with
  | _ => ("", "", "", false)
def tyJ13 : Nat → FieldType := fun k => match k with
  | _ => .int
theorem tyJ13_ok : ∀ k, k < 0 → parseFieldDescriptor (TJ13 k).2.2.1 = some (tyJ13 k) := by decide +kernel
abbrev cJ13_bitCount_95d88 : ByteArray := prog_14_method_50_code
def yJ13_bitCount_95d88 : MethodName := ⟨RJ13, "bitCount", "(J)I"⟩
def RJ9 : String := "java/lang/Math"
def TJ9 : u_T := fun k => match k with
  | _ => ("", "", "", false)
def tyJ9 : Nat → FieldType := fun k => match k with
  | _ => .int
theorem tyJ9_ok : ∀ k, k < 0 → parseFieldDescriptor (TJ9 k).2.2.1 = some (tyJ9 k) := by decide +kernel
abbrev cJ9_max_7cf53 : ByteArray := prog_15_method_65_code
def yJ9_max_7cf53 : MethodName := ⟨RJ9, "max", "(II)I"⟩
abbrev cJ9_max_f86c9 : ByteArray := prog_15_method_66_code
def yJ9_max_f86c9 : MethodName := ⟨RJ9, "max", "(JJ)J"⟩
abbrev cJ9_min_7cf53 : ByteArray := prog_15_method_69_code
def yJ9_min_7cf53 : MethodName := ⟨RJ9, "min", "(II)I"⟩
abbrev cJ9_min_f86c9 : ByteArray := prog_15_method_70_code
def yJ9_min_f86c9 : MethodName := ⟨RJ9, "min", "(JJ)J"⟩
def RJ0 : String := "java/lang/String"
def TJ0 : u_T := fun k => match k with
  | _ => ("", "", "", false)
def tyJ0 : Nat → FieldType := fun k => match k with
  | _ => .int
theorem tyJ0_ok : ∀ k, k < 0 → parseFieldDescriptor (TJ0 k).2.2.1 = some (tyJ0 k) := by decide +kernel
abbrev cJ0_length_8abf5 : ByteArray := prog_16_method_54_code
def yJ0_length_8abf5 : MethodName := ⟨RJ0, "length", "()I"⟩
abbrev cJ0_charAt_5068e : ByteArray := prog_16_method_56_code
def yJ0_charAt_5068e : MethodName := ⟨RJ0, "charAt", "(I)C"⟩
abbrev cJ0_coder_7d493 : ByteArray := prog_16_method_152_code
def yJ0_coder_7d493 : MethodName := ⟨RJ0, "coder", "()B"⟩
abbrev cJ0_isLatin1_aae02 : ByteArray := prog_16_method_154_code
def yJ0_isLatin1_aae02 : MethodName := ⟨RJ0, "isLatin1", "()Z"⟩
abbrev cJ0_checkIndex_df160 : ByteArray := prog_16_method_155_code
def yJ0_checkIndex_df160 : MethodName := ⟨RJ0, "checkIndex", "(II)V"⟩
def RJ1 : String := "java/lang/StringLatin1"
def TJ1 : u_T := fun k => match k with
  | _ => ("", "", "", false)
def tyJ1 : Nat → FieldType := fun k => match k with
  | _ => .int
theorem tyJ1_ok : ∀ k, k < 0 → parseFieldDescriptor (TJ1 k).2.2.1 = some (tyJ1 k) := by decide +kernel
abbrev cJ1_charAt_3b067 : ByteArray := prog_17_method_2_code
def yJ1_charAt_3b067 : MethodName := ⟨RJ1, "charAt", "([BI)C"⟩
def RJ2 : String := "java/lang/StringUTF16"
def TJ2 : u_T := fun k => match k with
  | _ => ("", "", "", false)
def tyJ2 : Nat → FieldType := fun k => match k with
  | _ => .int
theorem tyJ2_ok : ∀ k, k < 0 → parseFieldDescriptor (TJ2 k).2.2.1 = some (tyJ2 k) := by decide +kernel
abbrev cJ2_getChar_3b067 : ByteArray := prog_18_method_5_code
def yJ2_getChar_3b067 : MethodName := ⟨RJ2, "getChar", "([BI)C"⟩
abbrev cJ2_length_9d52b : ByteArray := prog_18_method_6_code
def yJ2_length_9d52b : MethodName := ⟨RJ2, "length", "([B)I"⟩
abbrev cJ2_charAt_3b067 : ByteArray := prog_18_method_83_code
def yJ2_charAt_3b067 : MethodName := ⟨RJ2, "charAt", "([BI)C"⟩
abbrev cJ2_checkIndex_2214a : ByteArray := prog_18_method_91_code
def yJ2_checkIndex_2214a : MethodName := ⟨RJ2, "checkIndex", "(I[B)V"⟩
def RJ10 : String := "java/lang/System"
def TJ10 : u_T := fun k => match k with
  | _ => ("", "", "", false)
def tyJ10 : Nat → FieldType := fun k => match k with
  | _ => .int
theorem tyJ10_ok : ∀ k, k < 0 → parseFieldDescriptor (TJ10 k).2.2.1 = some (tyJ10 k) := by decide +kernel
def RJxfd54e : String := "java/lang/constant/Constable"
def TJxfd54e : u_T := fun k => match k with
  | _ => ("", "", "", false)
def tyJxfd54e : Nat → FieldType := fun k => match k with
  | _ => .int
theorem tyJxfd54e_ok : ∀ k, k < 0 → parseFieldDescriptor (TJxfd54e k).2.2.1 = some (tyJxfd54e k) := by decide +kernel
def RJx3cf43 : String := "java/lang/constant/ConstantDesc"
def TJx3cf43 : u_T := fun k => match k with
  | _ => ("", "", "", false)
def tyJx3cf43 : Nat → FieldType := fun k => match k with
  | _ => .int
theorem tyJx3cf43_ok : ∀ k, k < 0 → parseFieldDescriptor (TJx3cf43 k).2.2.1 = some (tyJx3cf43 k) := by decide +kernel
def RJ7 : String := "java/util/Arrays"
def TJ7 : u_T := fun k => match k with
  | _ => ("", "", "", false)
def tyJ7 : Nat → FieldType := fun k => match k with
  | _ => .int
theorem tyJ7_ok : ∀ k, k < 0 → parseFieldDescriptor (TJ7 k).2.2.1 = some (tyJ7 k) := by decide +kernel
abbrev cJ7_fill_d0a16 : ByteArray := prog_20_method_101_code
def yJ7_fill_d0a16 : MethodName := ⟨RJ7, "fill", "([JJ)V"⟩
abbrev cJ7_fill_53178 : ByteArray := prog_20_method_103_code
def yJ7_fill_53178 : MethodName := ⟨RJ7, "fill", "([II)V"⟩
def RJ3 : String := "jdk/internal/util/Preconditions"
def TJ3 : u_T := fun k => match k with
  | _ => ("", "", "", false)
def tyJ3 : Nat → FieldType := fun k => match k with
  | _ => .int
theorem tyJ3_ok : ∀ k, k < 0 → parseFieldDescriptor (TJ3 k).2.2.1 = some (tyJ3 k) := by decide +kernel
abbrev cJ3_checkIndex_8e157 : ByteArray := prog_21_method_11_code
def yJ3_checkIndex_8e157 : MethodName := ⟨RJ3, "checkIndex", "(IILjava/util/function/BiFunction;)I"⟩
def RL : String := "MoonPromisesLaw"
abbrev cL_law : ByteArray := code
def yL_law : MethodName := ⟨RL, "law", "([I)Z"⟩
def wsL_law_r1 : List Cond := [Cond.classLink RL 7 RX9, Cond.instantiable RX9 9, Cond.initialized RX9, Cond.classLink RL 10 RX10, Cond.instantiable RX10 47, Cond.initialized RX10, Cond.constantLong RL 252 (4294967295), Cond.methodLink RL 9 yX9_init, Cond.instanceMethod yX9_init, Cond.code yX9_init cX9_init 1 none, Cond.methodLink RX9 1 objectInit, Cond.instanceMethod objectInit, Cond.code objectInit ⟨#[0xb1]⟩ 1 none, Cond.classLink RX9 7 RX3, Cond.instantiable RX3 10, Cond.initialized RX3, Cond.fieldLink RX9 10 "MoonPromises" "reader" "LMoonPromises$Reader;", Cond.classLink RX9 16 RX0, Cond.instantiable RX0 8, Cond.initialized RX0, Cond.fieldLink RX9 19 "MoonPromises" "course" "LMoonPromises$Course;", Cond.classLink RX9 23 RX7, Cond.fieldLink RX9 25 "MoonPromises" "images" "[LMoonPromises$Told;", Cond.classLink RX9 29 RX1]
def wsL_law_r2 : List Cond := [Cond.instantiable RX1 4, Cond.initialized RX1, Cond.fieldLink RX9 32 "MoonPromises" "ledger" "LMoonPromises$Ledger;", Cond.classLink RX9 36 RX2, Cond.instantiable RX2 11, Cond.initialized RX2, Cond.fieldLink RX9 39 "MoonPromises" "planner" "LMoonPromises$Planner;", Cond.classLink RX9 43 RX4, Cond.instantiable RX4 10, Cond.initialized RX4, Cond.fieldLink RX9 46 "MoonPromises" "scales" "LMoonPromises$Scales;", Cond.classLink RX9 50 RX6, Cond.instantiable RX6 3, Cond.initialized RX6, Cond.fieldLink RX9 53 "MoonPromises" "threat" "LMoonPromises$Threat;", Cond.classLink RX9 57 RX8, Cond.instantiable RX8 3, Cond.initialized RX8, Cond.fieldLink RX9 60 "MoonPromises" "years" "LMoonPromises$Years;", Cond.classLink RX9 64 RX5, Cond.instantiable RX5 3, Cond.initialized RX5, Cond.fieldLink RX9 67 "MoonPromises" "slots" "LMoonPromises$Slots;", Cond.instanceMethod yX3_init]
def wsL_law_r3 : List Cond := [Cond.code yX3_init cX3_init 1 none, Cond.methodLink RX3 3 objectInit, Cond.arrayClass .byte, Cond.fieldLink RX3 9 "MoonPromises$Reader" "tape" "[B", Cond.classLink RX3 15 RX7, Cond.instantiable RX7 18, Cond.initialized RX7, Cond.fieldLink RX3 18 "MoonPromises$Reader" "draft" "LMoonPromises$Told;", Cond.fieldLink RX3 22 "MoonPromises$Reader" "faultPlace" "I", Cond.instanceMethod yX7_init, Cond.code yX7_init cX7_init 1 none, Cond.methodLink RX7 3 objectInit, Cond.arrayClass .int, Cond.fieldLink RX7 9 "MoonPromises$Told" "seas" "[I", Cond.arrayClass .long, Cond.fieldLink RX7 15 "MoonPromises$Told" "shut" "[J", Cond.fieldLink RX7 19 "MoonPromises$Told" "home" "[I", Cond.fieldLink RX7 22 "MoonPromises$Told" "death" "[I", Cond.fieldLink RX7 25 "MoonPromises$Told" "tending" "[I", Cond.fieldLink RX7 28 "MoonPromises$Told" "ower" "[I", Cond.fieldLink RX7 31 "MoonPromises$Told" "owee" "[I", Cond.fieldLink RX7 34 "MoonPromises$Told" "full" "[I", Cond.fieldLink RX7 37 "MoonPromises$Told" "first" "[I", Cond.fieldLink RX7 40 "MoonPromises$Told" "drunk" "[I"]
def wsL_law_r4 : List Cond := [Cond.fieldLink RX7 43 "MoonPromises$Told" "base" "[I", Cond.fieldLink RX7 46 "MoonPromises$Told" "acts" "[I", Cond.instanceMethod yX0_init, Cond.code yX0_init cX0_init 1 none, Cond.methodLink RX0 3 objectInit, Cond.classLink RX0 9 RX7, Cond.fieldLink RX0 12 "MoonPromises$Course" "told" "LMoonPromises$Told;", Cond.fieldLink RX0 18 "MoonPromises$Course" "place" "[I", Cond.fieldLink RX0 22 "MoonPromises$Course" "oars" "[I", Cond.fieldLink RX0 25 "MoonPromises$Course" "rowedIn" "[I", Cond.fieldLink RX0 28 "MoonPromises$Course" "heard" "[J", Cond.fieldLink RX0 32 "MoonPromises$Course" "lasts" "[I", Cond.fieldLink RX0 35 "MoonPromises$Course" "worths" "[I", Cond.instanceMethod yX1_init, Cond.code yX1_init cX1_init 1 none, Cond.methodLink RX1 3 objectInit, Cond.fieldLink RX1 9 "MoonPromises$Ledger" "debts" "[I", Cond.fieldLink RX1 15 "MoonPromises$Ledger" "ringPeople" "[I", Cond.instanceMethod yX2_init, Cond.code yX2_init cX2_init 1 none, Cond.methodLink RX2 3 objectInit, Cond.fieldLink RX2 11 "MoonPromises$Planner" "legs" "[I", Cond.fieldLink RX2 15 "MoonPromises$Planner" "missed" "[I", Cond.fieldLink RX2 18 "MoonPromises$Planner" "spoken" "[I"]
def wsL_law_r5 : List Cond := [Cond.fieldLink RX2 21 "MoonPromises$Planner" "least" "[I", Cond.fieldLink RX2 24 "MoonPromises$Planner" "ways" "[J", Cond.instanceMethod yX4_init, Cond.code yX4_init cX4_init 1 none, Cond.methodLink RX4 3 objectInit, Cond.fieldLink RX4 11 "MoonPromises$Scales" "weights" "[I", Cond.fieldLink RX4 15 "MoonPromises$Scales" "tally" "[I", Cond.methodLink RX9 52 yX6_init, Cond.instanceMethod yX6_init, Cond.code yX6_init cX6_init 4 none, Cond.methodLink RX6 3 objectInit, Cond.fieldLink RX6 11 "MoonPromises$Threat" "heap" "[I", Cond.fieldLink RX6 15 "MoonPromises$Threat" "values" "[I", Cond.instanceMethod yX8_init, Cond.code yX8_init cX8_init 1 none, Cond.methodLink RX8 3 objectInit, Cond.fieldLink RX8 9 "MoonPromises$Years" "lasts" "[I", Cond.methodLink RX9 66 yX5_init, Cond.instanceMethod yX5_init, Cond.code yX5_init cX5_init 2 none, Cond.methodLink RX5 3 objectInit, Cond.fieldLink RX5 9 "MoonPromises$Slots" "numbers" "[J", Cond.fieldLink RX5 15 "MoonPromises$Slots" "widths" "[I", Cond.fieldLink RX5 19 "MoonPromises$Slots" "lengths" "[I"]
def wsL_law_r6 : List Cond := [Cond.methodLink RL 12 yX10_init, Cond.instanceMethod yX10_init, Cond.code yX10_init cX10_init 2 none, Cond.methodLink RX10 1 objectInit, Cond.fieldLink RX10 7 "MoonPromisesModel" "width" "[I", Cond.fieldLink RX10 13 "MoonPromisesModel" "many" "[I", Cond.fieldLink RX10 16 "MoonPromisesModel" "cells" "[J", Cond.fieldLink RX10 20 "MoonPromisesModel" "moved" "[J", Cond.fieldLink RX10 23 "MoonPromisesModel" "tape" "[B", Cond.fieldLink RX10 27 "MoonPromisesModel" "faultPlace" "I", Cond.fieldLink RX10 31 "MoonPromisesModel" "lines" "[I", Cond.fieldLink RX10 34 "MoonPromisesModel" "has" "[I", Cond.fieldLink RX10 37 "MoonPromisesModel" "sea" "[I", Cond.arrayClass .boolean, Cond.fieldLink RX10 40 "MoonPromisesModel" "isShut" "[Z", Cond.fieldLink RX10 44 "MoonPromisesModel" "person" "[I", Cond.fieldLink RX10 47 "MoonPromisesModel" "promise" "[I", Cond.fieldLink RX10 50 "MoonPromisesModel" "act" "[I", Cond.fieldLink RX10 53 "MoonPromisesModel" "isKept" "[Z", Cond.fieldLink RX10 56 "MoonPromisesModel" "where" "[I", Cond.fieldLink RX10 59 "MoonPromisesModel" "rowed" "[I", Cond.fieldLink RX10 62 "MoonPromisesModel" "lastRow" "[I", Cond.fieldLink RX10 65 "MoonPromisesModel" "again" "[Z", Cond.fieldLink RX10 68 "MoonPromisesModel" "least" "[I"]
def wsL_law_r7 : List Cond := [Cond.fieldLink RX10 71 "MoonPromisesModel" "ways" "[J", Cond.fieldLink RX10 74 "MoonPromisesModel" "reach" "[I", Cond.fieldLink RX10 77 "MoonPromisesModel" "reachThen" "[I", Cond.fieldLink RX10 80 "MoonPromisesModel" "ring" "[I", Cond.fieldLink RX10 83 "MoonPromisesModel" "byWorth" "[I", Cond.fieldLink RX10 86 "MoonPromisesModel" "worthIs" "[I", Cond.fieldLink RX10 89 "MoonPromisesModel" "nimber" "[I", Cond.methodLink RL 13 yX9_feed, Cond.instanceMethod yX9_feed, Cond.selects RX9 yX9_feed yX9_feed, Cond.code yX9_feed cX9_feed 6 (some .int), Cond.fieldLink RX9 71 "MoonPromises$Reader" "length" "I", Cond.methodLink RX9 75 yX3_addFour, Cond.instanceMethod yX3_addFour, Cond.selects RX3 yX3_addFour yX3_addFour, Cond.code yX3_addFour cX3_addFour 3 none, Cond.fieldLink RX3 26 "MoonPromises$Reader" "length" "I", Cond.methodLink RL 17 yX10_feed, Cond.instanceMethod yX10_feed, Cond.selects RX10 yX10_feed yX10_feed, Cond.code yX10_feed cX10_feed 6 (some .int), Cond.fieldLink RX10 92 "MoonPromisesModel" "thrown" "I", Cond.fieldLink RX10 109 "MoonPromisesModel" "taped" "I", Cond.methodLink RX10 112 yX10_four]
def wsL_law_r8 : List Cond := [Cond.instanceMethod yX10_four, Cond.selects RX10 yX10_four yX10_four, Cond.code yX10_four cX10_four 3 none, Cond.methodLink RL 18 yX9_end, Cond.instanceMethod yX9_end, Cond.selects RX9 yX9_end yX9_end, Cond.code yX9_end cX9_end 2 (some .int), Cond.methodLink RL 22 yX10_end, Cond.instanceMethod yX10_end, Cond.selects RX10 yX10_end yX10_end, Cond.code yX10_end cX10_end 2 (some .int), Cond.methodLink RX10 97 yX10_in, Cond.static yX10_in, Cond.code yX10_in cX10_in 6 (some .boolean), Cond.methodLink RL 23 yX9_isles, Cond.instanceMethod yX9_isles, Cond.selects RX9 yX9_isles yX9_isles, Cond.code yX9_isles cX9_isles 2 (some .int), Cond.fieldLink RX9 83 "MoonPromises$Course" "told" "LMoonPromises$Told;", Cond.fieldLink RX9 87 "MoonPromises$Reader" "draft" "LMoonPromises$Told;", Cond.fieldLink RX9 97 "MoonPromises$Told" "lines" "I", Cond.methodLink RX9 79 yX3_readAll, Cond.instanceMethod yX3_readAll, Cond.selects RX3 yX3_readAll yX3_readAll]
def wsL_law_r9 : List Cond := [Cond.code yX3_readAll cX3_readAll 2 (some .boolean), Cond.fieldLink RX3 32 "MoonPromises$Reader" "fault" "I", Cond.fieldLink RX3 35 "MoonPromises$Reader" "stop" "I", Cond.fieldLink RX3 41 "MoonPromises$Reader" "kind" "I", Cond.fieldLink RX3 51 "MoonPromises$Told" "lines" "I", Cond.methodLink RX3 29 yX7_clear, Cond.instanceMethod yX7_clear, Cond.selects RX7 yX7_clear yX7_clear, Cond.code yX7_clear cX7_clear 1 none, Cond.fieldLink RX7 49 "MoonPromises$Told" "lines" "I", Cond.fieldLink RX7 53 "MoonPromises$Told" "isles" "I", Cond.fieldLink RX7 56 "MoonPromises$Told" "moon" "I", Cond.fieldLink RX7 59 "MoonPromises$Told" "people" "I", Cond.fieldLink RX7 62 "MoonPromises$Told" "promises" "I", Cond.fieldLink RX7 65 "MoonPromises$Told" "actCount" "I", Cond.methodLink RX7 68 yJ7_fill_53178, Cond.static yJ7_fill_53178, Cond.initialized RJ7, Cond.code yJ7_fill_53178 cJ7_fill_53178 4 none, Cond.methodLink RX7 74 yJ7_fill_d0a16, Cond.static yJ7_fill_d0a16, Cond.code yJ7_fill_d0a16 cJ7_fill_d0a16 5 none, Cond.methodLink RX3 38 yX3_step, Cond.instanceMethod yX3_step]
def wsL_law_r10 : List Cond := [Cond.selects RX3 yX3_step yX3_step, Cond.code yX3_step cX3_step 1 none, Cond.fieldLink RX3 161 "MoonPromises$Reader" "start" "I", Cond.fieldLink RX3 158 "MoonPromises$Reader" "value" "I", Cond.constant RX3 179 (100000000), Cond.methodLink RX3 180 Lib.Math.min.name, Cond.static Lib.Math.min.name, Cond.initialized "java/lang/Math", Cond.code Lib.Math.min.name Lib.Math.min.code 2 (some .int), Cond.methodLink RX3 173 yX3_isLetter, Cond.instanceMethod yX3_isLetter, Cond.selects RX3 yX3_isLetter yX3_isLetter, Cond.code yX3_isLetter cX3_isLetter 2 (some .boolean), Cond.methodLink RX3 176 yX3_isDigit, Cond.instanceMethod yX3_isDigit, Cond.selects RX3 yX3_isDigit yX3_isDigit, Cond.code yX3_isDigit cX3_isDigit 2 (some .boolean), Cond.methodLink RX3 44 yX3_takeLine, Cond.instanceMethod yX3_takeLine, Cond.selects RX3 yX3_takeLine yX3_takeLine, Cond.code yX3_takeLine cX3_takeLine 2 (some .boolean), Cond.fieldLink RX3 82 "MoonPromises$Told" "promises" "I", Cond.methodLink RX3 56 yX3_isWord, Cond.instanceMethod yX3_isWord]
def wsL_law_r11 : List Cond := [Cond.selects RX3 yX3_isWord yX3_isWord, Cond.code yX3_isWord cX3_isWord 3 (some .boolean), Cond.methodLink RX3 164 yJ0_length_8abf5, Cond.instanceMethod yJ0_length_8abf5, Cond.selects RJ0 yJ0_length_8abf5 yJ0_length_8abf5, Cond.initialized RJ0, Cond.code yJ0_length_8abf5 cJ0_length_8abf5 1 (some .int), Cond.fieldLink RJ0 9 "java/lang/String" "value" "[B", Cond.methodLink RJ0 335 yJ0_coder_7d493, Cond.instanceMethod yJ0_coder_7d493, Cond.selects RJ0 yJ0_coder_7d493 yJ0_coder_7d493, Cond.code yJ0_coder_7d493 cJ0_coder_7d493 1 (some .byte), Cond.fieldLink RJ0 38 "java/lang/String" "COMPACT_STRINGS" "Z", Cond.fieldLink RJ0 15 "java/lang/String" "coder" "B", Cond.methodLink RX3 169 yJ0_charAt_5068e, Cond.instanceMethod yJ0_charAt_5068e, Cond.selects RJ0 yJ0_charAt_5068e yJ0_charAt_5068e, Cond.code yJ0_charAt_5068e cJ0_charAt_5068e 2 (some .char), Cond.methodLink RJ0 492 yJ0_isLatin1_aae02, Cond.instanceMethod yJ0_isLatin1_aae02, Cond.selects RJ0 yJ0_isLatin1_aae02 yJ0_isLatin1_aae02, Cond.code yJ0_isLatin1_aae02 cJ0_isLatin1_aae02 1 (some .boolean), Cond.methodLink RJ0 495 yJ1_charAt_3b067, Cond.static yJ1_charAt_3b067]
def wsL_law_r12 : List Cond := [Cond.initialized RJ1, Cond.code yJ1_charAt_3b067 cJ1_charAt_3b067 2 (some .char), Cond.methodLink RJ1 9 yJ0_checkIndex_df160, Cond.static yJ0_checkIndex_df160, Cond.code yJ0_checkIndex_df160 cJ0_checkIndex_df160 2 none, Cond.fieldLink RJ0 1053 "jdk/internal/util/Preconditions" "SIOOBE_FORMATTER" "Ljava/util/function/BiFunction;", Cond.methodLink RJ0 1059 yJ3_checkIndex_8e157, Cond.static yJ3_checkIndex_8e157, Cond.initialized RJ3, Cond.code yJ3_checkIndex_8e157 cJ3_checkIndex_8e157 3 (some .int), Cond.methodLink RJ0 498 yJ2_charAt_3b067, Cond.static yJ2_charAt_3b067, Cond.initialized RJ2, Cond.code yJ2_charAt_3b067 cJ2_charAt_3b067 2 (some .char), Cond.methodLink RJ2 67 yJ2_checkIndex_2214a, Cond.static yJ2_checkIndex_2214a, Cond.code yJ2_checkIndex_2214a cJ2_checkIndex_2214a 2 none, Cond.methodLink RJ2 48 yJ2_length_9d52b, Cond.static yJ2_length_9d52b, Cond.code yJ2_length_9d52b cJ2_length_9d52b 1 (some .int), Cond.methodLink RJ2 414 yJ0_checkIndex_df160, Cond.methodLink RJ2 71 yJ2_getChar_3b067, Cond.static yJ2_getChar_3b067, Cond.code yJ2_getChar_3b067 cJ2_getChar_3b067 2 (some .char)]
def wsL_law_r13 : List Cond := [Cond.fieldLink RJ2 44 "java/lang/StringUTF16" "$assertionsDisabled" "Z", Cond.fieldLink RJ2 59 "java/lang/StringUTF16" "HI_BYTE_SHIFT" "I", Cond.fieldLink RJ2 63 "java/lang/StringUTF16" "LO_BYTE_SHIFT" "I", Cond.methodLink RX3 60 yX3_fail, Cond.instanceMethod yX3_fail, Cond.selects RX3 yX3_fail yX3_fail, Cond.code yX3_fail cX3_fail 2 (some .boolean), Cond.methodLink RX3 64 yX3_takeIsles, Cond.instanceMethod yX3_takeIsles, Cond.selects RX3 yX3_takeIsles yX3_takeIsles, Cond.code yX3_takeIsles cX3_takeIsles 1 (some .boolean), Cond.fieldLink RX3 95 "MoonPromises$Reader" "taken" "I", Cond.fieldLink RX3 98 "MoonPromises$Told" "isles" "I", Cond.fieldLink RX3 105 "MoonPromises$Told" "moon" "I", Cond.methodLink RX3 91 yX3_takeNumber, Cond.instanceMethod yX3_takeNumber, Cond.selects RX3 yX3_takeNumber yX3_takeNumber, Cond.code yX3_takeNumber cX3_takeNumber 4 (some .boolean), Cond.methodLink RX3 102 yX3_takeWord, Cond.instanceMethod yX3_takeWord, Cond.selects RX3 yX3_takeWord yX3_takeWord, Cond.code yX3_takeWord cX3_takeWord 2 (some .boolean), Cond.methodLink RX3 69 yX3_takeSea, Cond.instanceMethod yX3_takeSea]
def wsL_law_r14 : List Cond := [Cond.selects RX3 yX3_takeSea yX3_takeSea, Cond.code yX3_takeSea cX3_takeSea 3 (some .boolean), Cond.methodLink RX3 110 yX7_laySea, Cond.instanceMethod yX7_laySea, Cond.selects RX7 yX7_laySea yX7_laySea, Cond.code yX7_laySea cX7_laySea 4 none, Cond.methodLink RX3 74 yX3_takePerson, Cond.instanceMethod yX3_takePerson, Cond.selects RX3 yX3_takePerson yX3_takePerson, Cond.code yX3_takePerson cX3_takePerson 5 (some .boolean), Cond.fieldLink RX3 114 "MoonPromises$Told" "people" "I", Cond.fieldLink RX3 125 "MoonPromises$Told" "death" "[I", Cond.fieldLink RX3 131 "MoonPromises$Told" "tending" "[I", Cond.methodLink RX3 119 yX7_addPerson, Cond.instanceMethod yX7_addPerson, Cond.selects RX7 yX7_addPerson yX7_addPerson, Cond.code yX7_addPerson cX7_addPerson 2 none, Cond.methodLink RX3 79 yX3_takePromise, Cond.instanceMethod yX3_takePromise, Cond.selects RX3 yX3_takePromise yX3_takePromise, Cond.code yX3_takePromise cX3_takePromise 4 (some .boolean), Cond.constant RX3 138 (1000000), Cond.methodLink RX3 141 yX7_addPromise, Cond.instanceMethod yX7_addPromise]
def wsL_law_r15 : List Cond := [Cond.selects RX7 yX7_addPromise yX7_addPromise, Cond.code yX7_addPromise cX7_addPromise 5 none, Cond.methodLink RX3 85 yX3_takePromiseMarks, Cond.instanceMethod yX3_takePromiseMarks, Cond.selects RX3 yX3_takePromiseMarks yX3_takePromiseMarks, Cond.code yX3_takePromiseMarks cX3_takePromiseMarks 3 (some .boolean), Cond.fieldLink RX3 145 "MoonPromises$Told" "drunk" "[I", Cond.fieldLink RX3 149 "MoonPromises$Told" "base" "[I", Cond.methodLink RX3 88 yX3_takeShut, Cond.instanceMethod yX3_takeShut, Cond.selects RX3 yX3_takeShut yX3_takeShut, Cond.code yX3_takeShut cX3_takeShut 2 (some .boolean), Cond.methodLink RX3 154 yX7_setShut, Cond.instanceMethod yX7_setShut, Cond.selects RX7 yX7_setShut yX7_setShut, Cond.code yX7_setShut cX7_setShut 7 none, Cond.constantLong RX7 83 (-1), Cond.methodLink RX3 48 yX3_takeSign, Cond.instanceMethod yX3_takeSign, Cond.selects RX3 yX3_takeSign yX3_takeSign, Cond.code yX3_takeSign cX3_takeSign 1 (some .boolean), Cond.methodLink RX9 90 yX7_copyFrom, Cond.instanceMethod yX7_copyFrom, Cond.selects RX7 yX7_copyFrom yX7_copyFrom]
def wsL_law_r16 : List Cond := [Cond.code yX7_copyFrom cX7_copyFrom 2 none, Cond.methodLink RX7 77 arraycopyName, Cond.native arraycopyName, Cond.static arraycopyName, Cond.initialized "java/lang/System", Cond.methodLink RX9 94 yX0_replay, Cond.instanceMethod yX0_replay, Cond.selects RX0 yX0_replay yX0_replay, Cond.code yX0_replay cX0_replay 2 none, Cond.fieldLink RX0 38 "MoonPromises$Told" "moon" "I", Cond.fieldLink RX0 42 "MoonPromises$Course" "moon" "I", Cond.fieldLink RX0 43 "MoonPromises$Told" "people" "I", Cond.fieldLink RX0 46 "MoonPromises$Told" "home" "[I", Cond.fieldLink RX0 55 "MoonPromises$Told" "actCount" "I", Cond.fieldLink RX0 58 "MoonPromises$Told" "acts" "[I", Cond.methodLink RX0 49 yJ7_fill_d0a16, Cond.methodLink RX0 61 yX0_apply, Cond.instanceMethod yX0_apply, Cond.selects RX0 yX0_apply yX0_apply, Cond.code yX0_apply cX0_apply 4 none, Cond.methodLink RX0 65 yX7_oarsBetween, Cond.instanceMethod yX7_oarsBetween, Cond.selects RX7 yX7_oarsBetween yX7_oarsBetween, Cond.code yX7_oarsBetween cX7_oarsBetween 3 (some .int)]
def wsL_law_r17 : List Cond := [Cond.methodLink RL 27 yX10_isles, Cond.instanceMethod yX10_isles, Cond.selects RX10 yX10_isles yX10_isles, Cond.code yX10_isles cX10_isles 1 (some .int), Cond.fieldLink RX10 133 "MoonPromisesModel" "token" "I", Cond.constantLong RX10 234 (5165848), Cond.constantLong RX10 236 (47), Cond.fieldLink RX10 144 "MoonPromisesModel" "bad" "I", Cond.methodLink RX10 228 yX10_clears, Cond.instanceMethod yX10_clears, Cond.selects RX10 yX10_clears yX10_clears, Cond.code yX10_clears cX10_clears 2 none, Cond.methodLink RX10 231 yX10_begins, Cond.instanceMethod yX10_begins, Cond.selects RX10 yX10_begins yX10_begins, Cond.code yX10_begins cX10_begins 1 none, Cond.fieldLink RX10 147 "MoonPromisesModel" "badPlace" "I", Cond.fieldLink RX10 116 "MoonPromisesModel" "at" "I", Cond.methodLink RX10 154 yX10_next, Cond.instanceMethod yX10_next, Cond.selects RX10 yX10_next yX10_next, Cond.code yX10_next cX10_next 2 none, Cond.fieldLink RX10 123 "MoonPromisesModel" "place" "I", Cond.fieldLink RX10 126 "MoonPromisesModel" "value" "I"]
def wsL_law_r18 : List Cond := [Cond.fieldLink RX10 129 "MoonPromisesModel" "word" "J", Cond.constantLong RX10 136 (-1), Cond.constantLong RX10 138 (27), Cond.constantLong RX10 140 (96), Cond.constant RX10 142 (1000000), Cond.constant RX10 143 (10000000), Cond.methodLink RX10 119 yX10_isByte, Cond.instanceMethod yX10_isByte, Cond.selects RX10 yX10_isByte yX10_isByte, Cond.code yX10_isByte cX10_isByte 4 (some .boolean), Cond.methodLink RX10 189 yX10_isGood, Cond.instanceMethod yX10_isGood, Cond.selects RX10 yX10_isGood yX10_isGood, Cond.code yX10_isGood cX10_isGood 1 (some .boolean), Cond.methodLink RX10 163 yX10_asks, Cond.instanceMethod yX10_asks, Cond.selects RX10 yX10_asks yX10_asks, Cond.code yX10_asks cX10_asks 3 none, Cond.methodLink RX10 157 yX10_takes, Cond.instanceMethod yX10_takes, Cond.selects RX10 yX10_takes yX10_takes, Cond.code yX10_takes cX10_takes 3 (some .boolean), Cond.methodLink RX10 150 yX10_is, Cond.instanceMethod yX10_is]
def wsL_law_r19 : List Cond := [Cond.selects RX10 yX10_is yX10_is, Cond.code yX10_is cX10_is 3 (some .boolean), Cond.methodLink RX10 160 yX10_fails, Cond.instanceMethod yX10_fails, Cond.selects RX10 yX10_fails yX10_fails, Cond.code yX10_fails cX10_fails 2 none, Cond.methodLink RX10 167 yX10_number, Cond.instanceMethod yX10_number, Cond.selects RX10 yX10_number yX10_number, Cond.code yX10_number cX10_number 4 (some .int), Cond.methodLink RX10 197 yX10_moonHere, Cond.instanceMethod yX10_moonHere, Cond.selects RX10 yX10_moonHere yX10_moonHere, Cond.code yX10_moonHere cX10_moonHere 1 (some .int), Cond.methodLink RX10 238 yX10_line, Cond.instanceMethod yX10_line, Cond.selects RX10 yX10_line yX10_line, Cond.code yX10_line cX10_line 5 none, Cond.constantLong RX10 211 (232608281), Cond.constantLong RX10 213 (6465242723), Cond.constantLong RX10 221 (13987), Cond.constantLong RX10 226 (380396), Cond.methodLink RX10 174 yX10_hasRead, Cond.instanceMethod yX10_hasRead]
def wsL_law_r20 : List Cond := [Cond.selects RX10 yX10_hasRead yX10_hasRead, Cond.code yX10_hasRead cX10_hasRead 2 (some .int), Cond.methodLink RX10 215 yX10_personLine, Cond.instanceMethod yX10_personLine, Cond.selects RX10 yX10_personLine yX10_personLine, Cond.code yX10_personLine cX10_personLine 4 none, Cond.constantLong RX10 187 (419), Cond.constantLong RX10 193 (85447), Cond.constantLong RX10 195 (10737568), Cond.methodLink RX10 178 yX10_isleHere, Cond.instanceMethod yX10_isleHere, Cond.selects RX10 yX10_isleHere yX10_isleHere, Cond.code yX10_isleHere cX10_isleHere 1 (some .int), Cond.methodLink RX10 218 yX10_promiseLine, Cond.instanceMethod yX10_promiseLine, Cond.selects RX10 yX10_promiseLine yX10_promiseLine, Cond.code yX10_promiseLine cX10_promiseLine 3 none, Cond.constantLong RX10 203 (555), Cond.constantLong RX10 205 (12532058), Cond.constantLong RX10 207 (374953), Cond.constantLong RX10 209 (2495756), Cond.methodLink RX10 200 yX10_personHere, Cond.instanceMethod yX10_personHere, Cond.selects RX10 yX10_personHere yX10_personHere]
def wsL_law_r21 : List Cond := [Cond.code yX10_personHere cX10_personHere 1 (some .int), Cond.methodLink RX10 184 yX10_number_, Cond.instanceMethod yX10_number_, Cond.selects RX10 yX10_number_ yX10_number_, Cond.code yX10_number_ cX10_number_ 5 (some .int), Cond.methodLink RX10 223 yX10_seaLine, Cond.instanceMethod yX10_seaLine, Cond.selects RX10 yX10_seaLine yX10_seaLine, Cond.code yX10_seaLine cX10_seaLine 4 none, Cond.constantLong RX10 182 (296479), Cond.methodLink RX10 241 yX10_ends, Cond.instanceMethod yX10_ends, Cond.selects RX10 yX10_ends yX10_ends, Cond.code yX10_ends cX10_ends 1 none, Cond.methodLink RX10 244 yX10_isOver, Cond.instanceMethod yX10_isOver, Cond.selects RX10 yX10_isOver yX10_isOver, Cond.code yX10_isOver cX10_isOver 1 none, Cond.fieldLink RX10 171 "MoonPromisesModel" "fault" "I", Cond.methodLink RX10 247 yX10_copyIsles, Cond.instanceMethod yX10_copyIsles, Cond.selects RX10 yX10_copyIsles yX10_copyIsles, Cond.code yX10_copyIsles cX10_copyIsles 4 none, Cond.methodLink RX10 251 yX10_copyRow]
def wsL_law_r22 : List Cond := [Cond.static yX10_copyRow, Cond.code yX10_copyRow cX10_copyRow 5 none, Cond.methodLink RL 28 yX9_fault, Cond.instanceMethod yX9_fault, Cond.selects RX9 yX9_fault yX9_fault, Cond.code yX9_fault cX9_fault 2 (some .int), Cond.fieldLink RX9 100 "MoonPromises$Reader" "fault" "I", Cond.fieldLink RX9 103 "MoonPromises$Reader" "faultPlace" "I", Cond.methodLink RL 31 yX10_fault, Cond.instanceMethod yX10_fault, Cond.selects RX10 yX10_fault yX10_fault, Cond.code yX10_fault cX10_fault 2 (some .int), Cond.methodLink RL 32 yX9_person, Cond.instanceMethod yX9_person, Cond.selects RX9 yX9_person yX9_person, Cond.code yX9_person cX9_person 4 (some .int), Cond.fieldLink RX9 110 "MoonPromises$Told" "home" "[I", Cond.fieldLink RX9 114 "MoonPromises$Told" "death" "[I", Cond.fieldLink RX9 117 "MoonPromises$Told" "tending" "[I", Cond.methodLink RX9 106 yX7_isPerson, Cond.instanceMethod yX7_isPerson, Cond.selects RX7 yX7_isPerson yX7_isPerson, Cond.code yX7_isPerson cX7_isPerson 2 (some .boolean), Cond.methodLink RL 36 yX10_person]
def wsL_law_r23 : List Cond := [Cond.instanceMethod yX10_person, Cond.selects RX10 yX10_person yX10_person, Cond.code yX10_person cX10_person 3 (some .int), Cond.constantLong RX10 260 (2), Cond.methodLink RX10 255 yX10_isPerson, Cond.instanceMethod yX10_isPerson, Cond.selects RX10 yX10_isPerson yX10_isPerson, Cond.code yX10_isPerson cX10_isPerson 2 (some .boolean), Cond.methodLink RL 37 yX9_promise, Cond.instanceMethod yX9_promise, Cond.selects RX9 yX9_promise yX9_promise, Cond.code yX9_promise cX9_promise 4 (some .int), Cond.fieldLink RX9 123 "MoonPromises$Told" "ower" "[I", Cond.fieldLink RX9 126 "MoonPromises$Told" "owee" "[I", Cond.fieldLink RX9 129 "MoonPromises$Told" "full" "[I", Cond.fieldLink RX9 132 "MoonPromises$Told" "first" "[I", Cond.fieldLink RX9 135 "MoonPromises$Told" "drunk" "[I", Cond.fieldLink RX9 138 "MoonPromises$Told" "base" "[I", Cond.methodLink RX9 120 yX7_isPromise, Cond.instanceMethod yX7_isPromise, Cond.selects RX7 yX7_isPromise yX7_isPromise, Cond.code yX7_isPromise cX7_isPromise 2 (some .boolean), Cond.methodLink RL 40 yX10_promise, Cond.instanceMethod yX10_promise]
def wsL_law_r24 : List Cond := [Cond.selects RX10 yX10_promise yX10_promise, Cond.code yX10_promise cX10_promise 3 (some .int), Cond.constantLong RX10 265 (5), Cond.methodLink RX10 262 yX10_isPromise, Cond.instanceMethod yX10_isPromise, Cond.selects RX10 yX10_isPromise yX10_isPromise, Cond.code yX10_isPromise cX10_isPromise 2 (some .boolean), Cond.methodLink RX10 267 yX10_of, Cond.instanceMethod yX10_of, Cond.selects RX10 yX10_of yX10_of, Cond.code yX10_of cX10_of 3 (some .int), Cond.methodLink RL 41 yX9_sea, Cond.instanceMethod yX9_sea, Cond.selects RX9 yX9_sea yX9_sea, Cond.code yX9_sea cX9_sea 4 (some .int), Cond.methodLink RX9 141 yX7_isIsle, Cond.instanceMethod yX7_isIsle, Cond.selects RX7 yX7_isIsle yX7_isIsle, Cond.code yX7_isIsle cX7_isIsle 2 (some .boolean), Cond.methodLink RX9 144 yX7_oarsBetween, Cond.methodLink RL 44 yX10_sea, Cond.instanceMethod yX10_sea, Cond.selects RX10 yX10_sea yX10_sea, Cond.code yX10_sea cX10_sea 3 (some .int)]
def wsL_law_r25 : List Cond := [Cond.methodLink RX10 270 yX10_isIsle, Cond.instanceMethod yX10_isIsle, Cond.selects RX10 yX10_isIsle yX10_isIsle, Cond.code yX10_isIsle cX10_isIsle 2 (some .boolean), Cond.methodLink RL 45 yX9_open, Cond.instanceMethod yX9_open, Cond.selects RX9 yX9_open yX9_open, Cond.code yX9_open cX9_open 3 (some .int), Cond.methodLink RX9 148 yX9_isMoon, Cond.static yX9_isMoon, Cond.code yX9_isMoon cX9_isMoon 1 (some .boolean), Cond.methodLink RX9 151 yX7_isShut, Cond.instanceMethod yX7_isShut, Cond.selects RX7 yX7_isShut yX7_isShut, Cond.code yX7_isShut cX7_isShut 3 (some .boolean), Cond.methodLink RL 48 yX10_open, Cond.instanceMethod yX10_open, Cond.selects RX10 yX10_open yX10_open, Cond.code yX10_open cX10_open 3 (some .int), Cond.methodLink RX10 273 yX10_isMoon, Cond.static yX10_isMoon, Cond.code yX10_isMoon cX10_isMoon 1 (some .boolean), Cond.constantLong RX10 258 (99), Cond.methodLink RL 49 yX9_halvings]
def wsL_law_r26 : List Cond := [Cond.instanceMethod yX9_halvings, Cond.selects RX9 yX9_halvings yX9_halvings, Cond.code yX9_halvings cX9_halvings 3 (some .int), Cond.methodLink RX9 155 yX0_lastsAt, Cond.instanceMethod yX0_lastsAt, Cond.selects RX0 yX0_lastsAt yX0_lastsAt, Cond.code yX0_lastsAt cX0_lastsAt 3 (some (.array .int)), Cond.fieldLink RX0 83 "MoonPromises$Told" "promises" "I", Cond.methodLink RX0 86 yX0_lastSaid, Cond.instanceMethod yX0_lastSaid, Cond.selects RX0 yX0_lastSaid yX0_lastSaid, Cond.code yX0_lastSaid cX0_lastSaid 5 (some .int), Cond.fieldLink RX0 89 "MoonPromises$Told" "first" "[I", Cond.methodLink RX0 92 Lib.Math.min.name, Cond.methodLink RX9 159 yX7_halvingsBy, Cond.instanceMethod yX7_halvingsBy, Cond.selects RX7 yX7_halvingsBy yX7_halvingsBy, Cond.code yX7_halvingsBy cX7_halvingsBy 7 (some .int), Cond.methodLink RX7 102 yX7_ownHalvings, Cond.instanceMethod yX7_ownHalvings, Cond.selects RX7 yX7_ownHalvings yX7_ownHalvings, Cond.code yX7_ownHalvings cX7_ownHalvings 6 (some .int), Cond.methodLink RL 52 yX10_halvings, Cond.instanceMethod yX10_halvings]
def wsL_law_r27 : List Cond := [Cond.selects RX10 yX10_halvings yX10_halvings, Cond.code yX10_halvings cX10_halvings 3 (some .int), Cond.methodLink RX10 288 yX10_lays, Cond.instanceMethod yX10_lays, Cond.selects RX10 yX10_lays yX10_lays, Cond.code yX10_lays cX10_lays 4 none, Cond.fieldLink RX10 276 "MoonPromisesModel" "moon" "I", Cond.methodLink RX10 282 yX10_halvedOf, Cond.instanceMethod yX10_halvedOf, Cond.selects RX10 yX10_halvedOf yX10_halvedOf, Cond.code yX10_halvedOf cX10_halvedOf 5 (some .int), Cond.methodLink RX10 279 yX10_ownOf, Cond.instanceMethod yX10_ownOf, Cond.selects RX10 yX10_ownOf yX10_ownOf, Cond.code yX10_ownOf cX10_ownOf 6 (some .int), Cond.methodLink RL 53 yX9_worth, Cond.instanceMethod yX9_worth, Cond.selects RX9 yX9_worth yX9_worth, Cond.code yX9_worth cX9_worth 3 (some .int), Cond.methodLink RX9 163 yX7_worthBy, Cond.instanceMethod yX7_worthBy, Cond.selects RX7 yX7_worthBy yX7_worthBy, Cond.code yX7_worthBy cX7_worthBy 5 (some .int), Cond.methodLink RX7 106 yX7_halvingsBy]
def wsL_law_r28 : List Cond := [Cond.static yX9_halved, Cond.code yX9_halved cX9_halved 2 (some .int), Cond.methodLink RL 56 yX10_worth, Cond.instanceMethod yX10_worth, Cond.selects RX10 yX10_worth yX10_worth, Cond.code yX10_worth cX10_worth 3 (some .int), Cond.methodLink RX10 291 yX10_worthOf, Cond.instanceMethod yX10_worthOf, Cond.selects RX10 yX10_worthOf yX10_worthOf, Cond.code yX10_worthOf cX10_worthOf 4 (some .int), Cond.methodLink RX10 285 yX10_halved, Cond.static yX10_halved, Cond.code yX10_halved cX10_halved 2 (some .int), Cond.methodLink RL 57 yX9_falls, Cond.instanceMethod yX9_falls, Cond.selects RX9 yX9_falls yX9_falls, Cond.code yX9_falls cX9_falls 5 (some .int), Cond.fieldLink RX9 166 "MoonPromises$Course" "moon" "I", Cond.methodLink RL 60 yX10_falls, Cond.instanceMethod yX10_falls, Cond.selects RX10 yX10_falls yX10_falls, Cond.code yX10_falls cX10_falls 4 (some .int), Cond.methodLink RL 61 yX9_owed, Cond.instanceMethod yX9_owed]
def wsL_law_r29 : List Cond := [Cond.selects RX9 yX9_owed yX9_owed, Cond.code yX9_owed cX9_owed 4 (some .int), Cond.methodLink RX9 169 yX9_arePair, Cond.instanceMethod yX9_arePair, Cond.selects RX9 yX9_arePair yX9_arePair, Cond.code yX9_arePair cX9_arePair 3 (some .boolean), Cond.methodLink RX9 172 yX1_fill, Cond.instanceMethod yX1_fill, Cond.selects RX1 yX1_fill yX1_fill, Cond.code yX1_fill cX1_fill 6 none, Cond.fieldLink RX1 18 "MoonPromises$Course" "told" "LMoonPromises$Told;", Cond.fieldLink RX1 28 "MoonPromises$Told" "people" "I", Cond.fieldLink RX1 34 "MoonPromises$Ledger" "people" "I", Cond.fieldLink RX1 41 "MoonPromises$Told" "promises" "I", Cond.fieldLink RX1 44 "MoonPromises$Told" "ower" "[I", Cond.fieldLink RX1 47 "MoonPromises$Told" "owee" "[I", Cond.methodLink RX1 24 yX0_worthsAt, Cond.instanceMethod yX0_worthsAt, Cond.selects RX0 yX0_worthsAt yX0_worthsAt, Cond.code yX0_worthsAt cX0_worthsAt 3 (some (.array .int)), Cond.methodLink RX0 97 yX0_lastsAt, Cond.methodLink RX0 101 yX7_worthBy, Cond.methodLink RX1 35 yJ7_fill_53178, Cond.methodLink RX9 176 yX1_debt]
def wsL_law_r30 : List Cond := [Cond.instanceMethod yX1_debt, Cond.selects RX1 yX1_debt yX1_debt, Cond.code yX1_debt cX1_debt 3 (some .int), Cond.methodLink RL 65 yX10_owed, Cond.instanceMethod yX10_owed, Cond.selects RX10 yX10_owed yX10_owed, Cond.code yX10_owed cX10_owed 4 (some .int), Cond.methodLink RX10 294 yX10_areTwo, Cond.instanceMethod yX10_areTwo, Cond.selects RX10 yX10_areTwo yX10_areTwo, Cond.code yX10_areTwo cX10_areTwo 3 (some .boolean), Cond.methodLink RX10 298 yX10_owedOf, Cond.instanceMethod yX10_owedOf, Cond.selects RX10 yX10_owedOf yX10_owedOf, Cond.code yX10_owedOf cX10_owedOf 6 (some .int), Cond.methodLink RL 66 yX9_sum, Cond.instanceMethod yX9_sum, Cond.selects RX9 yX9_sum yX9_sum, Cond.code yX9_sum cX9_sum 4 (some .int), Cond.constant RX9 179 (-2000000000), Cond.methodLink RX9 180 yX1_owing, Cond.instanceMethod yX1_owing, Cond.selects RX1 yX1_owing yX1_owing, Cond.code yX1_owing cX1_owing 4 (some .int)]
def wsL_law_r31 : List Cond := [Cond.methodLink RX1 50 yX1_debt, Cond.methodLink RX9 184 yX1_due, Cond.instanceMethod yX1_due, Cond.selects RX1 yX1_due yX1_due, Cond.code yX1_due cX1_due 4 (some .int), Cond.methodLink RL 69 yX10_sum, Cond.instanceMethod yX10_sum, Cond.selects RX10 yX10_sum yX10_sum, Cond.code yX10_sum cX10_sum 4 (some .int), Cond.constant RX10 302 (-2000000000), Cond.methodLink RX10 303 yX10_sumOf, Cond.instanceMethod yX10_sumOf, Cond.selects RX10 yX10_sumOf yX10_sumOf, Cond.code yX10_sumOf cX10_sumOf 7 (some .int), Cond.methodLink RL 70 yX9_richest, Cond.instanceMethod yX9_richest, Cond.selects RX9 yX9_richest yX9_richest, Cond.code yX9_richest cX9_richest 2 (some .int), Cond.methodLink RX9 187 yX9_isToldMoon, Cond.instanceMethod yX9_isToldMoon, Cond.selects RX9 yX9_isToldMoon yX9_isToldMoon, Cond.code yX9_isToldMoon cX9_isToldMoon 2 (some .boolean), Cond.methodLink RX9 190 yX1_first, Cond.instanceMethod yX1_first]
def wsL_law_r32 : List Cond := [Cond.selects RX1 yX1_first yX1_first, Cond.code yX1_first cX1_first 5 (some .int), Cond.methodLink RX1 54 yX1_due, Cond.methodLink RX1 58 yX1_owing, Cond.methodLink RL 73 yX10_richest, Cond.instanceMethod yX10_richest, Cond.selects RX10 yX10_richest yX10_richest, Cond.code yX10_richest cX10_richest 4 (some .int), Cond.methodLink RX10 306 yX10_areIsles, Cond.instanceMethod yX10_areIsles, Cond.selects RX10 yX10_areIsles yX10_areIsles, Cond.code yX10_areIsles cX10_areIsles 1 (some .boolean), Cond.methodLink RL 74 yX9_greatest, Cond.instanceMethod yX9_greatest, Cond.selects RX9 yX9_greatest yX9_greatest, Cond.code yX9_greatest cX9_greatest 6 (some .int), Cond.fieldLink RX9 196 "MoonPromises$Told" "promises" "I", Cond.methodLink RX9 193 yX0_worthsAt, Cond.methodLink RL 77 yX10_greatest, Cond.instanceMethod yX10_greatest, Cond.selects RX10 yX10_greatest yX10_greatest, Cond.code yX10_greatest cX10_greatest 4 (some .int), Cond.methodLink RL 78 yX9_root, Cond.instanceMethod yX9_root]
def wsL_law_r33 : List Cond := [Cond.selects RX9 yX9_root yX9_root, Cond.code yX9_root cX9_root 4 (some .int), Cond.methodLink RL 81 yX10_root, Cond.instanceMethod yX10_root, Cond.selects RX10 yX10_root yX10_root, Cond.code yX10_root cX10_root 2 (some .int), Cond.methodLink RX10 309 yX10_rootOf, Cond.instanceMethod yX10_rootOf, Cond.selects RX10 yX10_rootOf yX10_rootOf, Cond.code yX10_rootOf cX10_rootOf 2 (some .int), Cond.methodLink RL 82 yX9_upon, Cond.instanceMethod yX9_upon, Cond.selects RX9 yX9_upon yX9_upon, Cond.code yX9_upon cX9_upon 5 (some .int), Cond.methodLink RL 85 yX10_upon, Cond.instanceMethod yX10_upon, Cond.selects RX10 yX10_upon yX10_upon, Cond.code yX10_upon cX10_upon 4 (some .int), Cond.methodLink RX10 312 yX10_isBit, Cond.static yX10_isBit, Cond.code yX10_isBit cX10_isBit 2 (some .boolean), Cond.methodLink RL 86 yX9_now, Cond.instanceMethod yX9_now, Cond.selects RX9 yX9_now yX9_now]
def wsL_law_r34 : List Cond := [Cond.code yX9_now cX9_now 1 (some .int), Cond.methodLink RL 89 yX10_now, Cond.instanceMethod yX10_now, Cond.selects RX10 yX10_now yX10_now, Cond.code yX10_now cX10_now 1 (some .int), Cond.methodLink RL 90 yX9_where, Cond.instanceMethod yX9_where, Cond.selects RX9 yX9_where yX9_where, Cond.code yX9_where cX9_where 2 (some .int), Cond.fieldLink RX9 199 "MoonPromises$Course" "place" "[I", Cond.methodLink RL 93 yX10_where, Cond.instanceMethod yX10_where, Cond.selects RX10 yX10_where yX10_where, Cond.code yX10_where cX10_where 2 (some .int), Cond.methodLink RL 94 yX9_rowed, Cond.instanceMethod yX9_rowed, Cond.selects RX9 yX9_rowed yX9_rowed, Cond.code yX9_rowed cX9_rowed 2 (some .int), Cond.fieldLink RX9 202 "MoonPromises$Course" "oars" "[I", Cond.methodLink RL 97 yX10_rowed, Cond.instanceMethod yX10_rowed, Cond.selects RX10 yX10_rowed yX10_rowed, Cond.code yX10_rowed cX10_rowed 2 (some .int), Cond.methodLink RL 98 yX9_rows]
def wsL_law_r35 : List Cond := [Cond.instanceMethod yX9_rows, Cond.selects RX9 yX9_rows yX9_rows, Cond.code yX9_rows cX9_rows 4 (some .int), Cond.methodLink RX9 205 yX0_canRow, Cond.instanceMethod yX0_canRow, Cond.selects RX0 yX0_canRow yX0_canRow, Cond.code yX0_canRow cX0_canRow 3 (some .boolean), Cond.methodLink RX0 69 yX7_oarsOfLeg, Cond.instanceMethod yX7_oarsOfLeg, Cond.selects RX7 yX7_oarsOfLeg yX7_oarsOfLeg, Cond.code yX7_oarsOfLeg cX7_oarsOfLeg 6 (some .int), Cond.methodLink RX7 95 yX7_oarsBetween, Cond.methodLink RX7 91 yX7_lives, Cond.instanceMethod yX7_lives, Cond.selects RX7 yX7_lives yX7_lives, Cond.code yX7_lives cX7_lives 3 (some .boolean), Cond.methodLink RX7 99 yX7_isShut, Cond.methodLink RX9 208 yX0_addAct, Cond.instanceMethod yX0_addAct, Cond.selects RX0 yX0_addAct yX0_addAct, Cond.code yX0_addAct cX0_addAct 2 (some .boolean), Cond.methodLink RL 101 yX10_rows, Cond.instanceMethod yX10_rows, Cond.selects RX10 yX10_rows yX10_rows]
def wsL_law_r36 : List Cond := [Cond.code yX10_rows cX10_rows 3 (some .int), Cond.methodLink RX10 322 yX10_maySail, Cond.instanceMethod yX10_maySail, Cond.selects RX10 yX10_maySail yX10_maySail, Cond.code yX10_maySail cX10_maySail 3 (some .boolean), Cond.methodLink RX10 318 yX10_isSea, Cond.instanceMethod yX10_isSea, Cond.selects RX10 yX10_isSea yX10_isSea, Cond.code yX10_isSea cX10_isSea 5 (some .boolean), Cond.methodLink RX10 315 yX10_isDead, Cond.instanceMethod yX10_isDead, Cond.selects RX10 yX10_isDead yX10_isDead, Cond.code yX10_isDead cX10_isDead 3 (some .boolean), Cond.methodLink RX10 325 yX10_isFull, Cond.instanceMethod yX10_isFull, Cond.selects RX10 yX10_isFull yX10_isFull, Cond.code yX10_isFull cX10_isFull 1 (some .boolean), Cond.methodLink RX10 328 yX10_acts, Cond.instanceMethod yX10_acts, Cond.selects RX10 yX10_acts yX10_acts, Cond.code yX10_acts cX10_acts 2 none, Cond.methodLink RL 102 yX9_says, Cond.instanceMethod yX9_says, Cond.selects RX9 yX9_says yX9_says]
def wsL_law_r37 : List Cond := [Cond.code yX9_says cX9_says 2 (some .int), Cond.methodLink RX9 211 yX0_canSay, Cond.instanceMethod yX0_canSay, Cond.selects RX0 yX0_canSay yX0_canSay, Cond.code yX0_canSay cX0_canSay 2 (some .boolean), Cond.fieldLink RX0 73 "MoonPromises$Told" "ower" "[I", Cond.fieldLink RX0 76 "MoonPromises$Told" "owee" "[I", Cond.methodLink RX0 79 yX7_bothLive, Cond.instanceMethod yX7_bothLive, Cond.selects RX7 yX7_bothLive yX7_bothLive, Cond.code yX7_bothLive cX7_bothLive 3 (some .boolean), Cond.methodLink RL 105 yX10_says, Cond.instanceMethod yX10_says, Cond.selects RX10 yX10_says yX10_says, Cond.code yX10_says cX10_says 2 (some .int), Cond.methodLink RX10 331 yX10_maySay, Cond.instanceMethod yX10_maySay, Cond.selects RX10 yX10_maySay yX10_maySay, Cond.code yX10_maySay cX10_maySay 2 (some .boolean), Cond.methodLink RL 106 yX9_passes, Cond.instanceMethod yX9_passes, Cond.selects RX9 yX9_passes yX9_passes, Cond.code yX9_passes cX9_passes 1 (some .int), Cond.methodLink RL 109 yX10_passes]
def wsL_law_r38 : List Cond := [Cond.instanceMethod yX10_passes, Cond.selects RX10 yX10_passes yX10_passes, Cond.code yX10_passes cX10_passes 1 (some .int), Cond.methodLink RL 110 yX9_undo, Cond.instanceMethod yX9_undo, Cond.selects RX9 yX9_undo yX9_undo, Cond.code yX9_undo cX9_undo 2 (some .int), Cond.fieldLink RX9 214 "MoonPromises$Told" "actCount" "I", Cond.methodLink RL 113 yX10_undo, Cond.instanceMethod yX10_undo, Cond.selects RX10 yX10_undo yX10_undo, Cond.code yX10_undo cX10_undo 1 (some .int), Cond.methodLink RL 114 yX9_anew, Cond.instanceMethod yX9_anew, Cond.selects RX9 yX9_anew yX9_anew, Cond.code yX9_anew cX9_anew 3 (some .int), Cond.methodLink RL 117 yX10_anew, Cond.instanceMethod yX10_anew, Cond.selects RX10 yX10_anew yX10_anew, Cond.code yX10_anew cX10_anew 2 (some .int), Cond.methodLink RL 118 yX9_act, Cond.instanceMethod yX9_act, Cond.selects RX9 yX9_act yX9_act, Cond.code yX9_act cX9_act 3 (some .int)]
def wsL_law_r39 : List Cond := [Cond.fieldLink RX9 217 "MoonPromises$Told" "acts" "[I", Cond.methodLink RL 121 yX10_act, Cond.instanceMethod yX10_act, Cond.selects RX10 yX10_act yX10_act, Cond.code yX10_act cX10_act 2 (some .int), Cond.methodLink RL 122 yX9_can, Cond.instanceMethod yX9_can, Cond.selects RX9 yX9_can yX9_can, Cond.code yX9_can cX9_can 3 (some .int), Cond.methodLink RL 125 yX10_can, Cond.instanceMethod yX10_can, Cond.selects RX10 yX10_can yX10_can, Cond.code yX10_can cX10_can 3 (some .int), Cond.methodLink RL 126 yX9_sails, Cond.instanceMethod yX9_sails, Cond.selects RX9 yX9_sails yX9_sails, Cond.code yX9_sails cX9_sails 4 (some .int), Cond.fieldLink RX9 220 "MoonPromises$Told" "isles" "I", Cond.methodLink RL 129 yX10_sails, Cond.instanceMethod yX10_sails, Cond.selects RX10 yX10_sails yX10_sails, Cond.code yX10_sails cX10_sails 4 (some .int), Cond.methodLink RL 130 yX9_keeps, Cond.instanceMethod yX9_keeps]
def wsL_law_r40 : List Cond := [Cond.selects RX9 yX9_keeps yX9_keeps, Cond.code yX9_keeps cX9_keeps 3 (some .int), Cond.methodLink RX9 223 yX9_canPlan, Cond.instanceMethod yX9_canPlan, Cond.selects RX9 yX9_canPlan yX9_canPlan, Cond.code yX9_canPlan cX9_canPlan 3 (some .boolean), Cond.methodLink RX9 226 yX2_prepare, Cond.instanceMethod yX2_prepare, Cond.selects RX2 yX2_prepare yX2_prepare, Cond.code yX2_prepare cX2_prepare 4 none, Cond.methodLink RX2 28 yX2_layLegs, Cond.instanceMethod yX2_layLegs, Cond.selects RX2 yX2_layLegs yX2_layLegs, Cond.code yX2_layLegs cX2_layLegs 7 none, Cond.fieldLink RX2 39 "MoonPromises$Course" "told" "LMoonPromises$Told;", Cond.fieldLink RX2 45 "MoonPromises$Told" "isles" "I", Cond.fieldLink RX2 51 "MoonPromises$Planner" "isles" "I", Cond.fieldLink RX2 52 "MoonPromises$Planner" "length" "I", Cond.fieldLink RX2 55 "MoonPromises$Course" "place" "[I", Cond.fieldLink RX2 58 "MoonPromises$Planner" "start" "I", Cond.fieldLink RX2 65 "MoonPromises$Course" "moon" "I", Cond.methodLink RX2 61 yX2_leg, Cond.static yX2_leg, Cond.code yX2_leg cX2_leg 3 (some .int)]
def wsL_law_r41 : List Cond := [Cond.methodLink RX2 68 yX7_oarsOfLeg, Cond.methodLink RX2 32 yX2_laySpoken, Cond.instanceMethod yX2_laySpoken, Cond.selects RX2 yX2_laySpoken yX2_laySpoken, Cond.code yX2_laySpoken cX2_laySpoken 6 none, Cond.fieldLink RX2 78 "MoonPromises$Told" "promises" "I", Cond.fieldLink RX2 81 "MoonPromises$Told" "ower" "[I", Cond.fieldLink RX2 88 "MoonPromises$Told" "owee" "[I", Cond.methodLink RX2 72 yJ7_fill_53178, Cond.methodLink RX2 84 yX7_bothLive, Cond.methodLink RX2 36 yX2_layMissed, Cond.instanceMethod yX2_layMissed, Cond.selects RX2 yX2_layMissed yX2_layMissed, Cond.code yX2_layMissed cX2_layMissed 10 none, Cond.fieldLink RX2 95 "MoonPromises$Planner" "asked" "I", Cond.methodLink RX2 91 yX0_lastsAt, Cond.methodLink RX2 98 yX7_ownHalvings, Cond.methodLink RX9 230 yX2_leastOars, Cond.instanceMethod yX2_leastOars, Cond.selects RX2 yX2_leastOars yX2_leastOars, Cond.code yX2_leastOars cX2_leastOars 3 (some .int), Cond.methodLink RX2 101 yX2_leastFrom, Cond.instanceMethod yX2_leastFrom, Cond.selects RX2 yX2_leastFrom yX2_leastFrom]
def wsL_law_r42 : List Cond := [Cond.code yX2_leastFrom cX2_leastFrom 6 (some .int), Cond.methodLink RX2 105 yX2_oarsBy, Cond.instanceMethod yX2_oarsBy, Cond.selects RX2 yX2_oarsBy yX2_oarsBy, Cond.code yX2_oarsBy cX2_oarsBy 6 (some .int), Cond.methodLink RX2 108 yX2_isKeeping, Cond.instanceMethod yX2_isKeeping, Cond.selects RX2 yX2_isKeeping yX2_isKeeping, Cond.code yX2_isKeeping cX2_isKeeping 2 (some .boolean), Cond.methodLink RL 133 yX10_keeps, Cond.instanceMethod yX10_keeps, Cond.selects RX10 yX10_keeps yX10_keeps, Cond.code yX10_keeps cX10_keeps 4 (some .int), Cond.methodLink RX10 361 yX10_isPlan, Cond.instanceMethod yX10_isPlan, Cond.selects RX10 yX10_isPlan yX10_isPlan, Cond.code yX10_isPlan cX10_isPlan 3 (some .boolean), Cond.constantLong RX10 359 (12), Cond.methodLink RX10 364 yX10_keptNow, Cond.instanceMethod yX10_keptNow, Cond.selects RX10 yX10_keptNow yX10_keptNow, Cond.code yX10_keptNow cX10_keptNow 4 (some .int), Cond.methodLink RX10 367 yX10_plansFor, Cond.instanceMethod yX10_plansFor]
def wsL_law_r43 : List Cond := [Cond.selects RX10 yX10_plansFor yX10_plansFor, Cond.code yX10_plansFor cX10_plansFor 5 (some .int), Cond.fieldLink RX10 337 "MoonPromisesModel" "planner" "I", Cond.fieldLink RX10 343 "MoonPromisesModel" "planMoons" "I", Cond.fieldLink RX10 334 "MoonPromisesModel" "tracked" "I", Cond.methodLink RX10 356 yX10_onceNow, Cond.instanceMethod yX10_onceNow, Cond.selects RX10 yX10_onceNow yX10_onceNow, Cond.code yX10_onceNow cX10_onceNow 3 (some .int), Cond.methodLink RX10 352 yX10_goesOn, Cond.instanceMethod yX10_goesOn, Cond.selects RX10 yX10_goesOn yX10_goesOn, Cond.code yX10_goesOn cX10_goesOn 9 none, Cond.methodLink RX10 346 yX10_oarsBy, Cond.instanceMethod yX10_oarsBy, Cond.selects RX10 yX10_oarsBy yX10_oarsBy, Cond.code yX10_oarsBy cX10_oarsBy 4 (some .int), Cond.methodLink RX10 349 yX10_onceBehind, Cond.instanceMethod yX10_onceBehind, Cond.selects RX10 yX10_onceBehind yX10_onceBehind, Cond.code yX10_onceBehind cX10_onceBehind 7 (some .int), Cond.methodLink RX10 340 yX10_saidOn, Cond.instanceMethod yX10_saidOn, Cond.selects RX10 yX10_saidOn yX10_saidOn]
def wsL_law_r44 : List Cond := [Cond.code yX10_saidOn cX10_saidOn 5 (some .int), Cond.methodLink RL 134 yX9_plan, Cond.instanceMethod yX9_plan, Cond.selects RX9 yX9_plan yX9_plan, Cond.code yX9_plan cX9_plan 4 (some .int), Cond.methodLink RX9 233 yX2_isleOfFirst, Cond.instanceMethod yX2_isleOfFirst, Cond.selects RX2 yX2_isleOfFirst yX2_isleOfFirst, Cond.code yX2_isleOfFirst cX2_isleOfFirst 6 (some .int), Cond.methodLink RL 137 yX10_plan, Cond.instanceMethod yX10_plan, Cond.selects RX10 yX10_plan yX10_plan, Cond.code yX10_plan cX10_plan 8 (some .int), Cond.methodLink RX10 370 yX10_isStep, Cond.instanceMethod yX10_isStep, Cond.selects RX10 yX10_isStep yX10_isStep, Cond.code yX10_isStep cX10_isStep 6 (some .boolean), Cond.methodLink RL 138 yX9_lets, Cond.instanceMethod yX9_lets, Cond.selects RX9 yX9_lets yX9_lets, Cond.code yX9_lets cX9_lets 3 (some .int), Cond.methodLink RX9 236 yX2_leastFallen, Cond.instanceMethod yX2_leastFallen, Cond.selects RX2 yX2_leastFallen yX2_leastFallen]
def wsL_law_r45 : List Cond := [Cond.code yX2_leastFallen cX2_leastFallen 5 (some .int), Cond.methodLink RX2 112 yJ6_bitCount_0f7a4, Cond.static yJ6_bitCount_0f7a4, Cond.initialized RJ6, Cond.code yJ6_bitCount_0f7a4 cJ6_bitCount_0f7a4 1 (some .int), Cond.constant RJ6 265 (1431655765), Cond.constant RJ6 266 (858993459), Cond.constant RJ6 267 (252645135), Cond.methodLink RX2 118 yX2_canKeep, Cond.instanceMethod yX2_canKeep, Cond.selects RX2 yX2_canKeep yX2_canKeep, Cond.code yX2_canKeep cX2_canKeep 6 (some .boolean), Cond.methodLink RX2 121 yX2_reached, Cond.instanceMethod yX2_reached, Cond.selects RX2 yX2_reached yX2_reached, Cond.code yX2_reached cX2_reached 7 (some .int), Cond.methodLink RX9 239 yJ6_bitCount_0f7a4, Cond.methodLink RL 141 yX10_lets, Cond.instanceMethod yX10_lets, Cond.selects RX10 yX10_lets yX10_lets, Cond.code yX10_lets cX10_lets 3 (some .int), Cond.methodLink RX10 376 yX10_fallenOf, Cond.instanceMethod yX10_fallenOf, Cond.selects RX10 yX10_fallenOf yX10_fallenOf]
def wsL_law_r46 : List Cond := [Cond.code yX10_fallenOf cX10_fallenOf 6 (some .int), Cond.methodLink RX10 373 yX10_sizeOf, Cond.static yX10_sizeOf, Cond.code yX10_sizeOf cX10_sizeOf 3 (some .int), Cond.methodLink RL 142 yX9_fallen, Cond.instanceMethod yX9_fallen, Cond.selects RX9 yX9_fallen yX9_fallen, Cond.code yX9_fallen cX9_fallen 3 (some .int), Cond.methodLink RL 145 yX10_fallen, Cond.instanceMethod yX10_fallen, Cond.selects RX10 yX10_fallen yX10_fallen, Cond.code yX10_fallen cX10_fallen 3 (some .int), Cond.methodLink RL 146 yX9_plans, Cond.instanceMethod yX9_plans, Cond.selects RX9 yX9_plans yX9_plans, Cond.code yX9_plans cX9_plans 3 (some .long), Cond.constantLong RX9 244 (-2), Cond.methodLink RX9 246 yX2_countPlans, Cond.instanceMethod yX2_countPlans, Cond.selects RX2 yX2_countPlans yX2_countPlans, Cond.code yX2_countPlans cX2_countPlans 6 (some .long), Cond.methodLink RL 150 yX10_plans, Cond.instanceMethod yX10_plans, Cond.selects RX10 yX10_plans yX10_plans]
def wsL_law_r47 : List Cond := [Cond.code yX10_plans cX10_plans 3 (some .long), Cond.constantLong RX10 379 (-2), Cond.methodLink RL 151 yX9_love, Cond.instanceMethod yX9_love, Cond.selects RX9 yX9_love yX9_love, Cond.code yX9_love cX9_love 4 (some .int), Cond.fieldLink RX9 258 "MoonPromises$Planner" "loveOars" "I", Cond.methodLink RX9 250 yX9_canLove, Cond.instanceMethod yX9_canLove, Cond.selects RX9 yX9_canLove yX9_canLove, Cond.code yX9_canLove cX9_canLove 4 (some .boolean), Cond.methodLink RX9 254 yX2_seekLove, Cond.instanceMethod yX2_seekLove, Cond.selects RX2 yX2_seekLove yX2_seekLove, Cond.code yX2_seekLove cX2_seekLove 11 none, Cond.fieldLink RX2 124 "MoonPromises$Planner" "loveOars" "I", Cond.fieldLink RX2 127 "MoonPromises$Planner" "loveMoon" "I", Cond.methodLink RX2 130 yX7_worthBy, Cond.methodLink RX2 134 yX2_layReach, Cond.instanceMethod yX2_layReach, Cond.selects RX2 yX2_layReach yX2_layReach, Cond.code yX2_layReach cX2_layReach 3 none, Cond.methodLink RX2 137 yX2_leastTo, Cond.instanceMethod yX2_leastTo]
def wsL_law_r48 : List Cond := [Cond.selects RX2 yX2_leastTo yX2_leastTo, Cond.code yX2_leastTo cX2_leastTo 7 (some .int), Cond.methodLink RL 154 yX10_love, Cond.instanceMethod yX10_love, Cond.selects RX10 yX10_love yX10_love, Cond.code yX10_love cX10_love 4 (some .int), Cond.fieldLink RX10 381 "MoonPromisesModel" "loveOars" "I", Cond.methodLink RX10 390 yX10_isLove, Cond.instanceMethod yX10_isLove, Cond.selects RX10 yX10_isLove yX10_isLove, Cond.code yX10_isLove cX10_isLove 4 (some .boolean), Cond.methodLink RX10 393 yX10_loves, Cond.instanceMethod yX10_loves, Cond.selects RX10 yX10_loves yX10_loves, Cond.code yX10_loves cX10_loves 10 none, Cond.fieldLink RX10 384 "MoonPromisesModel" "loveMoon" "I", Cond.methodLink RX10 387 yX10_worthSaid, Cond.instanceMethod yX10_worthSaid, Cond.selects RX10 yX10_worthSaid yX10_worthSaid, Cond.code yX10_worthSaid cX10_worthSaid 7 (some .int), Cond.methodLink RL 155 yX9_when, Cond.instanceMethod yX9_when, Cond.selects RX9 yX9_when yX9_when, Cond.code yX9_when cX9_when 4 (some .int)]
def wsL_law_r49 : List Cond := [Cond.fieldLink RX9 261 "MoonPromises$Planner" "loveMoon" "I", Cond.methodLink RL 158 yX10_when, Cond.instanceMethod yX10_when, Cond.selects RX10 yX10_when yX10_when, Cond.code yX10_when cX10_when 4 (some .int), Cond.methodLink RL 159 yX9_joins, Cond.instanceMethod yX9_joins, Cond.selects RX9 yX9_joins yX9_joins, Cond.code yX9_joins cX9_joins 4 (some .int), Cond.methodLink RX9 264 yX0_gainByJoin, Cond.instanceMethod yX0_gainByJoin, Cond.selects RX0 yX0_gainByJoin yX0_gainByJoin, Cond.code yX0_gainByJoin cX0_gainByJoin 6 (some .int), Cond.fieldLink RX0 112 "MoonPromises$Told" "full" "[I", Cond.methodLink RX0 105 yX0_standsAlone, Cond.instanceMethod yX0_standsAlone, Cond.selects RX0 yX0_standsAlone yX0_standsAlone, Cond.code yX0_standsAlone cX0_standsAlone 3 (some .boolean), Cond.fieldLink RX0 118 "MoonPromises$Told" "base" "[I", Cond.methodLink RX0 109 yX7_halvingsBy, Cond.methodLink RL 162 yX10_joins, Cond.instanceMethod yX10_joins, Cond.selects RX10 yX10_joins yX10_joins, Cond.code yX10_joins cX10_joins 4 (some .int)]
def wsL_law_r50 : List Cond := [Cond.constant RX10 399 (-1000000), Cond.methodLink RX10 402 yX10_joinOf, Cond.instanceMethod yX10_joinOf, Cond.selects RX10 yX10_joinOf yX10_joinOf, Cond.code yX10_joinOf cX10_joinOf 4 (some .int), Cond.constantLong RX10 400 (20), Cond.methodLink RX10 396 yX10_isUnder, Cond.instanceMethod yX10_isUnder, Cond.selects RX10 yX10_isUnder yX10_isUnder, Cond.code yX10_isUnder cX10_isUnder 3 (some .boolean), Cond.methodLink RL 163 yX9_joined, Cond.instanceMethod yX9_joined, Cond.selects RX9 yX9_joined yX9_joined, Cond.code yX9_joined cX9_joined 6 (some .int), Cond.methodLink RL 166 yX10_joined, Cond.instanceMethod yX10_joined, Cond.selects RX10 yX10_joined yX10_joined, Cond.code yX10_joined cX10_joined 6 (some .int), Cond.methodLink RL 167 yX9_ring, Cond.instanceMethod yX9_ring, Cond.selects RX9 yX9_ring yX9_ring, Cond.code yX9_ring cX9_ring 2 (some .int), Cond.fieldLink RX9 270 "MoonPromises$Ledger" "ringWorth" "I", Cond.methodLink RX9 267 yX1_seekRing]
def wsL_law_r51 : List Cond := [Cond.instanceMethod yX1_seekRing, Cond.selects RX1 yX1_seekRing yX1_seekRing, Cond.code yX1_seekRing cX1_seekRing 4 none, Cond.fieldLink RX1 66 "MoonPromises$Ledger" "ringWorth" "I", Cond.methodLink RX1 69 yX1_ringOf, Cond.instanceMethod yX1_ringOf, Cond.selects RX1 yX1_ringOf yX1_ringOf, Cond.code yX1_ringOf cX1_ringOf 4 (some .int), Cond.methodLink RX1 61 Lib.Math.min.name, Cond.methodLink RL 170 yX10_ring, Cond.instanceMethod yX10_ring, Cond.selects RX10 yX10_ring yX10_ring, Cond.code yX10_ring cX10_ring 2 (some .int), Cond.methodLink RX10 409 yX10_ringOf, Cond.instanceMethod yX10_ringOf, Cond.selects RX10 yX10_ringOf yX10_ringOf, Cond.code yX10_ringOf cX10_ringOf 6 (some .int), Cond.methodLink RX10 405 yX10_struckOf, Cond.instanceMethod yX10_struckOf, Cond.selects RX10 yX10_struckOf yX10_struckOf, Cond.code yX10_struckOf cX10_struckOf 9 (some .int), Cond.methodLink RL 171 yX9_ringed, Cond.instanceMethod yX9_ringed, Cond.selects RX9 yX9_ringed yX9_ringed]
def wsL_law_r52 : List Cond := [Cond.code yX9_ringed cX9_ringed 3 (some .int), Cond.fieldLink RX9 273 "MoonPromises$Ledger" "ringPeople" "[I", Cond.methodLink RL 174 yX10_ringed, Cond.instanceMethod yX10_ringed, Cond.selects RX10 yX10_ringed yX10_ringed, Cond.code yX10_ringed cX10_ringed 3 (some .int), Cond.methodLink RL 175 yX9_strikes, Cond.instanceMethod yX9_strikes, Cond.selects RX9 yX9_strikes yX9_strikes, Cond.code yX9_strikes cX9_strikes 5 (some .int), Cond.methodLink RX9 276 yX1_ringOf, Cond.methodLink RL 179 yX10_strikes, Cond.instanceMethod yX10_strikes, Cond.selects RX10 yX10_strikes yX10_strikes, Cond.code yX10_strikes cX10_strikes 5 (some .int), Cond.methodLink RL 180 yX9_weighed, Cond.instanceMethod yX9_weighed, Cond.selects RX9 yX9_weighed yX9_weighed, Cond.code yX9_weighed cX9_weighed 4 (some .int), Cond.fieldLink RX9 286 "MoonPromises$Scales" "ways" "I", Cond.methodLink RX9 280 yX9_putOnScales, Cond.instanceMethod yX9_putOnScales, Cond.selects RX9 yX9_putOnScales yX9_putOnScales, Cond.code yX9_putOnScales cX9_putOnScales 4 (some .int)]
def wsL_law_r53 : List Cond := [Cond.methodLink RX9 351 yX5_isSlot, Cond.instanceMethod yX5_isSlot, Cond.selects RX5 yX5_isSlot yX5_isSlot, Cond.code yX5_isSlot cX5_isSlot 2 (some .boolean), Cond.methodLink RX9 358 yX5_isTaken, Cond.instanceMethod yX5_isTaken, Cond.selects RX5 yX5_isTaken yX5_isTaken, Cond.code yX5_isTaken cX5_isTaken 2 (some .boolean), Cond.methodLink RX9 379 yX4_load, Cond.instanceMethod yX4_load, Cond.selects RX4 yX4_load yX4_load, Cond.code yX4_load cX4_load 12 (some .boolean), Cond.fieldLink RX4 18 "MoonPromises$Told" "full" "[I", Cond.fieldLink RX4 23 "MoonPromises$Scales" "full" "I", Cond.fieldLink RX4 26 "MoonPromises$Told" "first" "[I", Cond.fieldLink RX4 29 "MoonPromises$Scales" "first" "I", Cond.fieldLink RX4 31 "MoonPromises$Told" "drunk" "[I", Cond.fieldLink RX4 34 "MoonPromises$Scales" "drunk" "I", Cond.fieldLink RX4 36 "MoonPromises$Scales" "clashing" "Z", Cond.fieldLink RX4 46 "MoonPromises$Slots" "lengths" "[I", Cond.constantLong RX4 55 (1000000), Cond.methodLink RX4 40 yJ7_fill_53178, Cond.methodLink RX4 51 yX5_at, Cond.instanceMethod yX5_at]
def wsL_law_r54 : List Cond := [Cond.selects RX5 yX5_at yX5_at, Cond.code yX5_at cX5_at 3 (some .long), Cond.methodLink RX9 283 yX4_survey, Cond.instanceMethod yX4_survey, Cond.selects RX4 yX4_survey yX4_survey, Cond.code yX4_survey cX4_survey 3 none, Cond.fieldLink RX4 57 "MoonPromises$Scales" "ways" "I", Cond.fieldLink RX4 60 "MoonPromises$Scales" "inAll" "I", Cond.fieldLink RX4 63 "MoonPromises$Scales" "inSome" "I", Cond.fieldLink RX4 66 "MoonPromises$Scales" "fewest" "I", Cond.methodLink RX4 79 Lib.Math.min.name, Cond.methodLink RX4 69 yX4_fits, Cond.instanceMethod yX4_fits, Cond.selects RX4 yX4_fits yX4_fits, Cond.code yX4_fits cX4_fits 4 (some .boolean), Cond.methodLink RX4 89 yX4_halvingsIn, Cond.static yX4_halvingsIn, Cond.code yX4_halvingsIn cX4_halvingsIn 3 (some .int), Cond.methodLink RX4 73 yJ6_bitCount_0f7a4, Cond.methodLink RX4 85 yX4_addToTally, Cond.instanceMethod yX4_addToTally, Cond.selects RX4 yX4_addToTally yX4_addToTally, Cond.code yX4_addToTally cX4_addToTally 4 none, Cond.methodLink RL 183 yX10_weighed]
def wsL_law_r55 : List Cond := [Cond.instanceMethod yX10_weighed, Cond.selects RX10 yX10_weighed yX10_weighed, Cond.code yX10_weighed cX10_weighed 4 (some .int), Cond.fieldLink RX10 417 "MoonPromisesModel" "wayMany" "I", Cond.methodLink RX10 432 yX10_whyNot, Cond.instanceMethod yX10_whyNot, Cond.selects RX10 yX10_whyNot yX10_whyNot, Cond.code yX10_whyNot cX10_whyNot 4 (some .int), Cond.constantLong RX10 412 (1000000), Cond.methodLink RX10 101 yX10_isSlot, Cond.static yX10_isSlot, Cond.code yX10_isSlot cX10_isSlot 1 (some .boolean), Cond.constantLong RX10 95 (3), Cond.methodLink RX10 435 yX10_laysWays, Cond.instanceMethod yX10_laysWays, Cond.selects RX10 yX10_laysWays yX10_laysWays, Cond.code yX10_laysWays cX10_laysWays 4 none, Cond.fieldLink RX10 420 "MoonPromisesModel" "wayAll" "I", Cond.fieldLink RX10 423 "MoonPromisesModel" "waySome" "I", Cond.fieldLink RX10 426 "MoonPromisesModel" "wayFewest" "I", Cond.methodLink RX10 429 yX10_isWay, Cond.instanceMethod yX10_isWay, Cond.selects RX10 yX10_isWay yX10_isWay, Cond.code yX10_isWay cX10_isWay 5 (some .boolean)]
def wsL_law_r56 : List Cond := [Cond.methodLink RX10 414 yX10_worthBy, Cond.instanceMethod yX10_worthBy, Cond.selects RX10 yX10_worthBy yX10_worthBy, Cond.code yX10_worthBy cX10_worthBy 5 (some .int), Cond.methodLink RL 184 yX9_must, Cond.instanceMethod yX9_must, Cond.selects RX9 yX9_must yX9_must, Cond.code yX9_must cX9_must 5 (some .int), Cond.fieldLink RX9 289 "MoonPromises$Scales" "inAll" "I", Cond.fieldLink RX9 292 "MoonPromises$Scales" "inSome" "I", Cond.methodLink RL 187 yX10_must, Cond.instanceMethod yX10_must, Cond.selects RX10 yX10_must yX10_must, Cond.code yX10_must cX10_must 5 (some .int), Cond.methodLink RL 188 yX9_times, Cond.instanceMethod yX9_times, Cond.selects RX9 yX9_times yX9_times, Cond.code yX9_times cX9_times 4 (some .int), Cond.fieldLink RX9 295 "MoonPromises$Scales" "fewest" "I", Cond.methodLink RL 191 yX10_times, Cond.instanceMethod yX10_times, Cond.selects RX10 yX10_times yX10_times, Cond.code yX10_times cX10_times 4 (some .int), Cond.methodLink RL 192 yX9_weigh]
def wsL_law_r57 : List Cond := [Cond.instanceMethod yX9_weigh, Cond.selects RX9 yX9_weigh yX9_weigh, Cond.code yX9_weigh cX9_weigh 4 (some .int), Cond.methodLink RX9 298 yX4_bestMoon, Cond.instanceMethod yX4_bestMoon, Cond.selects RX4 yX4_bestMoon yX4_bestMoon, Cond.code yX4_bestMoon cX4_bestMoon 5 (some .int), Cond.methodLink RX4 96 yX4_worstLeft, Cond.instanceMethod yX4_worstLeft, Cond.selects RX4 yX4_worstLeft yX4_worstLeft, Cond.code yX4_worstLeft cX4_worstLeft 5 (some .int), Cond.methodLink RX4 99 Lib.Math.max.name, Cond.static Lib.Math.max.name, Cond.code Lib.Math.max.name Lib.Math.max.code 2 (some .int), Cond.methodLink RL 195 yX10_weigh, Cond.instanceMethod yX10_weigh, Cond.selects RX10 yX10_weigh yX10_weigh, Cond.code yX10_weigh cX10_weigh 8 (some .int), Cond.methodLink RX10 438 yX10_worstOf, Cond.instanceMethod yX10_worstOf, Cond.selects RX10 yX10_worstOf yX10_worstOf, Cond.code yX10_worstOf cX10_worstOf 9 (some .int), Cond.methodLink RL 196 yX9_said, Cond.instanceMethod yX9_said]
def wsL_law_r58 : List Cond := [Cond.selects RX9 yX9_said yX9_said, Cond.code yX9_said cX9_said 4 (some .int), Cond.methodLink RX9 301 yX4_firstMoons, Cond.instanceMethod yX4_firstMoons, Cond.selects RX4 yX4_firstMoons yX4_firstMoons, Cond.code yX4_firstMoons cX4_firstMoons 3 (some .int), Cond.methodLink RX4 102 yX4_fitsFirst, Cond.instanceMethod yX4_fitsFirst, Cond.selects RX4 yX4_fitsFirst yX4_fitsFirst, Cond.code yX4_fitsFirst cX4_fitsFirst 4 (some .boolean), Cond.methodLink RL 199 yX10_said, Cond.instanceMethod yX10_said, Cond.selects RX10 yX10_said yX10_said, Cond.code yX10_said cX10_said 9 (some .int), Cond.methodLink RL 200 yX9_span, Cond.instanceMethod yX9_span, Cond.selects RX9 yX9_span yX9_span, Cond.code yX9_span cX9_span 5 (some .int), Cond.methodLink RX9 304 yX4_fullBound, Cond.instanceMethod yX4_fullBound, Cond.selects RX4 yX4_fullBound yX4_fullBound, Cond.code yX4_fullBound cX4_fullBound 9 (some .int), Cond.methodLink RX4 105 Lib.MathLoose.max_long.x, Cond.static Lib.MathLoose.max_long.x]
def wsL_law_r59 : List Cond := [Cond.code Lib.MathLoose.max_long.x Lib.MathLoose.max_long.code 4 (some .long), Cond.methodLink RX4 108 Lib.MathLoose.min_long.x, Cond.static Lib.MathLoose.min_long.x, Cond.code Lib.MathLoose.min_long.x Lib.MathLoose.min_long.code 4 (some .long), Cond.methodLink RL 203 yX10_span, Cond.instanceMethod yX10_span, Cond.selects RX10 yX10_span yX10_span, Cond.code yX10_span cX10_span 15 (some .int), Cond.methodLink RL 204 yX9_wins, Cond.instanceMethod yX9_wins, Cond.selects RX9 yX9_wins yX9_wins, Cond.code yX9_wins cX9_wins 3 (some .int), Cond.methodLink RX9 307 yX9_putInThreat, Cond.instanceMethod yX9_putInThreat, Cond.selects RX9 yX9_putInThreat yX9_putInThreat, Cond.code yX9_putInThreat cX9_putInThreat 2 (some .int), Cond.methodLink RX9 383 yX6_load, Cond.instanceMethod yX6_load, Cond.selects RX6 yX6_load yX6_load, Cond.code yX6_load cX6_load 6 (some .boolean), Cond.fieldLink RX6 18 "MoonPromises$Slots" "lengths" "[I", Cond.fieldLink RX6 23 "MoonPromises$Threat" "heaps" "I", Cond.constantLong RX6 31 (99), Cond.methodLink RX6 27 yX5_at]
def wsL_law_r60 : List Cond := [Cond.methodLink RX9 310 yX6_total, Cond.instanceMethod yX6_total, Cond.selects RX6 yX6_total yX6_total, Cond.code yX6_total cX6_total 3 (some .int), Cond.methodLink RL 207 yX10_wins, Cond.instanceMethod yX10_wins, Cond.selects RX10 yX10_wins yX10_wins, Cond.code yX10_wins cX10_wins 3 (some .int), Cond.methodLink RX10 444 yX10_whyNoThreat, Cond.instanceMethod yX10_whyNoThreat, Cond.selects RX10 yX10_whyNoThreat yX10_whyNoThreat, Cond.code yX10_whyNoThreat cX10_whyNoThreat 3 (some .int), Cond.methodLink RX10 447 yX10_xorOf, Cond.instanceMethod yX10_xorOf, Cond.selects RX10 yX10_xorOf yX10_xorOf, Cond.code yX10_xorOf cX10_xorOf 4 (some .int), Cond.methodLink RX10 441 yX10_laysNimbers, Cond.instanceMethod yX10_laysNimbers, Cond.selects RX10 yX10_laysNimbers yX10_laysNimbers, Cond.code yX10_laysNimbers cX10_laysNimbers 5 none, Cond.methodLink RL 208 yX9_turn, Cond.instanceMethod yX9_turn, Cond.selects RX9 yX9_turn yX9_turn, Cond.code yX9_turn cX9_turn 3 (some .int)]
def wsL_law_r61 : List Cond := [Cond.methodLink RX9 313 yX6_winningTurn, Cond.instanceMethod yX6_winningTurn, Cond.selects RX6 yX6_winningTurn yX6_winningTurn, Cond.code yX6_winningTurn cX6_winningTurn 4 (some .int), Cond.methodLink RX6 33 yX6_total, Cond.methodLink RL 211 yX10_turn, Cond.instanceMethod yX10_turn, Cond.selects RX10 yX10_turn yX10_turn, Cond.code yX10_turn cX10_turn 7 (some .int), Cond.methodLink RL 212 yX9_drawn, Cond.instanceMethod yX9_drawn, Cond.selects RX9 yX9_drawn yX9_drawn, Cond.code yX9_drawn cX9_drawn 4 (some .int), Cond.fieldLink RX9 322 "MoonPromises$Years" "worthAtLast" "I", Cond.methodLink RX9 316 yX9_canDraw, Cond.instanceMethod yX9_canDraw, Cond.selects RX9 yX9_canDraw yX9_canDraw, Cond.code yX9_canDraw cX9_canDraw 4 (some .boolean), Cond.constant RX9 378 (2000000000), Cond.methodLink RX9 319 yX8_pass, Cond.instanceMethod yX8_pass, Cond.selects RX8 yX8_pass yX8_pass, Cond.code yX8_pass cX8_pass 10 none, Cond.fieldLink RX8 15 "MoonPromises$Course" "told" "LMoonPromises$Told;"]
def wsL_law_r62 : List Cond := [Cond.fieldLink RX8 21 "MoonPromises$Course" "moon" "I", Cond.methodLink RX8 29 arraycopyName, Cond.fieldLink RX8 35 "MoonPromises$Years" "sayings" "I", Cond.fieldLink RX8 38 "MoonPromises$Told" "promises" "I", Cond.constantLong RX8 47 (1103515245), Cond.constantLong RX8 49 (12345), Cond.constantLong RX8 51 (2147483647), Cond.constantLong RX8 53 (100), Cond.fieldLink RX8 55 "MoonPromises$Told" "tending" "[I", Cond.fieldLink RX8 58 "MoonPromises$Told" "ower" "[I", Cond.fieldLink RX8 65 "MoonPromises$Years" "worthAtLast" "I", Cond.methodLink RX8 25 yX0_lastsAt, Cond.methodLink RX8 43 yX7_bothLive, Cond.methodLink RX8 61 yX7_worthBy, Cond.methodLink RL 215 yX10_drawn, Cond.instanceMethod yX10_drawn, Cond.selects RX10 yX10_drawn yX10_drawn, Cond.code yX10_drawn cX10_drawn 4 (some .int), Cond.methodLink RX10 467 yX10_isDraw, Cond.instanceMethod yX10_isDraw, Cond.selects RX10 yX10_isDraw yX10_isDraw, Cond.code yX10_isDraw cX10_isDraw 4 (some .boolean), Cond.constantLong RX10 463 (2000000000), Cond.constantLong RX10 465 (40)]
def wsL_law_r63 : List Cond := [Cond.methodLink RX10 470 yX10_draws, Cond.instanceMethod yX10_draws, Cond.selects RX10 yX10_draws yX10_draws, Cond.code yX10_draws cX10_draws 9 (some .int), Cond.fieldLink RX10 450 "MoonPromisesModel" "saidOften" "I", Cond.constantLong RX10 453 (1103515245), Cond.constantLong RX10 455 (12345), Cond.constantLong RX10 457 (2147483648), Cond.constantLong RX10 459 (65536), Cond.constantLong RX10 461 (100), Cond.methodLink RL 216 yX9_often, Cond.instanceMethod yX9_often, Cond.selects RX9 yX9_often yX9_often, Cond.code yX9_often cX9_often 4 (some .int), Cond.fieldLink RX9 325 "MoonPromises$Years" "sayings" "I", Cond.methodLink RL 219 yX10_often, Cond.instanceMethod yX10_often, Cond.selects RX10 yX10_often yX10_often, Cond.code yX10_often cX10_often 4 (some .int), Cond.methodLink RL 220 yX9_lucky, Cond.instanceMethod yX9_lucky, Cond.selects RX9 yX9_lucky yX9_lucky, Cond.code yX9_lucky cX9_lucky 7 (some .int), Cond.methodLink RL 223 yX10_lucky]
def wsL_law_r64 : List Cond := [Cond.instanceMethod yX10_lucky, Cond.selects RX10 yX10_lucky yX10_lucky, Cond.code yX10_lucky cX10_lucky 7 (some .int), Cond.methodLink RL 224 yX9_promises, Cond.instanceMethod yX9_promises, Cond.selects RX9 yX9_promises yX9_promises, Cond.code yX9_promises cX9_promises 5 (some .int), Cond.constant RX9 328 (1000000), Cond.methodLink RX9 329 yX7_addPromise, Cond.methodLink RL 227 yX10_promises, Cond.instanceMethod yX10_promises, Cond.selects RX10 yX10_promises yX10_promises, Cond.code yX10_promises cX10_promises 5 (some .int), Cond.methodLink RL 228 yX9_shuts, Cond.instanceMethod yX9_shuts, Cond.selects RX9 yX9_shuts yX9_shuts, Cond.code yX9_shuts cX9_shuts 6 (some .int), Cond.methodLink RX9 333 yX7_setShut, Cond.methodLink RL 231 yX10_shuts, Cond.instanceMethod yX10_shuts, Cond.selects RX10 yX10_shuts yX10_shuts, Cond.code yX10_shuts cX10_shuts 5 (some .int), Cond.methodLink RL 232 yX9_tends, Cond.instanceMethod yX9_tends]
def wsL_law_r65 : List Cond := [Cond.selects RX9 yX9_tends yX9_tends, Cond.code yX9_tends cX9_tends 4 (some .int), Cond.methodLink RL 235 yX10_tends, Cond.instanceMethod yX10_tends, Cond.selects RX10 yX10_tends yX10_tends, Cond.code yX10_tends cX10_tends 4 (some .int), Cond.methodLink RL 236 yX9_count, Cond.instanceMethod yX9_count, Cond.selects RX9 yX9_count yX9_count, Cond.code yX9_count cX9_count 3 (some .int), Cond.fieldLink RX9 337 "MoonPromises$Told" "people" "I", Cond.fieldLink RX9 346 "MoonPromises$Told" "moon" "I", Cond.methodLink RX9 340 yX7_countSeas, Cond.instanceMethod yX7_countSeas, Cond.selects RX7 yX7_countSeas yX7_countSeas, Cond.code yX7_countSeas cX7_countSeas 3 (some .int), Cond.methodLink RX9 343 yX7_countShut, Cond.instanceMethod yX7_countShut, Cond.selects RX7 yX7_countShut yX7_countShut, Cond.code yX7_countShut cX7_countShut 3 (some .int), Cond.methodLink RX7 85 yJ13_bitCount_95d88, Cond.static yJ13_bitCount_95d88, Cond.initialized RJ13, Cond.code yJ13_bitCount_95d88 cJ13_bitCount_95d88 2 (some .int)]
def wsL_law_r66 : List Cond := [Cond.constantLong RJ13 314 (6148914691236517205), Cond.constantLong RJ13 316 (3689348814741910323), Cond.constantLong RJ13 318 (1085102592571150095), Cond.methodLink RX9 347 yX5_countTaken, Cond.instanceMethod yX5_countTaken, Cond.selects RX5 yX5_countTaken yX5_countTaken, Cond.code yX5_countTaken cX5_countTaken 3 (some .int), Cond.methodLink RX5 22 yX5_isTaken, Cond.methodLink RL 239 yX10_count, Cond.instanceMethod yX10_count, Cond.selects RX10 yX10_count yX10_count, Cond.code yX10_count cX10_count 4 (some .int), Cond.methodLink RL 240 yX9_image, Cond.instanceMethod yX9_image, Cond.selects RX9 yX9_image yX9_image, Cond.code yX9_image cX9_image 2 (some .int), Cond.methodLink RL 243 yX10_image, Cond.instanceMethod yX10_image, Cond.selects RX10 yX10_image yX10_image, Cond.code yX10_image cX10_image 2 (some .int), Cond.methodLink RL 244 yX9_back, Cond.instanceMethod yX9_back, Cond.selects RX9 yX9_back yX9_back, Cond.code yX9_back cX9_back 2 (some .int)]
def wsL_law_r67 : List Cond := [Cond.methodLink RL 247 yX10_back, Cond.instanceMethod yX10_back, Cond.selects RX10 yX10_back yX10_back, Cond.code yX10_back cX10_back 2 (some .int), Cond.methodLink RL 248 yX9_row, Cond.instanceMethod yX9_row, Cond.selects RX9 yX9_row yX9_row, Cond.code yX9_row cX9_row 4 (some .int), Cond.methodLink RX9 354 yX5_lay, Cond.instanceMethod yX5_lay, Cond.selects RX5 yX5_lay yX5_lay, Cond.code yX5_lay cX5_lay 5 none, Cond.methodLink RL 251 yX10_row, Cond.instanceMethod yX10_row, Cond.selects RX10 yX10_row yX10_row, Cond.code yX10_row cX10_row 5 (some .int), Cond.methodLink RL 254 yX9_write, Cond.instanceMethod yX9_write, Cond.selects RX9 yX9_write yX9_write, Cond.code yX9_write cX9_write 5 (some .int), Cond.fieldLink RX9 361 "MoonPromises$Slots" "lengths" "[I", Cond.methodLink RX9 364 yX5_put, Cond.instanceMethod yX5_put, Cond.selects RX5 yX5_put yX5_put]
def wsL_law_r68 : List Cond := [Cond.code yX5_put cX5_put 5 none, Cond.methodLink RX5 26 yX5_cut, Cond.static yX5_cut, Cond.code yX5_cut cX5_cut 3 (some .long), Cond.methodLink RL 258 yX10_write, Cond.instanceMethod yX10_write, Cond.selects RX10 yX10_write yX10_write, Cond.code yX10_write cX10_write 5 (some .int), Cond.methodLink RX10 105 yX10_cut, Cond.static yX10_cut, Cond.code yX10_cut cX10_cut 3 (some .long), Cond.methodLink RL 259 yX9_paste, Cond.instanceMethod yX9_paste, Cond.selects RX9 yX9_paste yX9_paste, Cond.code yX9_paste cX9_paste 6 (some .int), Cond.fieldLink RX9 368 "MoonPromises$Slots" "widths" "[I", Cond.methodLink RX9 371 yX5_holds, Cond.instanceMethod yX5_holds, Cond.selects RX5 yX5_holds yX5_holds, Cond.code yX5_holds cX5_holds 4 (some .boolean), Cond.methodLink RX9 374 yX5_move, Cond.instanceMethod yX5_move, Cond.selects RX5 yX5_move yX5_move, Cond.code yX5_move cX5_move 6 none]
def wsL_law_r69 : List Cond := [Cond.methodLink RX5 30 arraycopyName, Cond.methodLink RL 262 yX10_paste, Cond.instanceMethod yX10_paste, Cond.selects RX10 yX10_paste yX10_paste, Cond.code yX10_paste cX10_paste 7 (some .int)]
def wsL_law : List Cond := (wsL_law_r1 ++ (wsL_law_r2 ++ (wsL_law_r3 ++ (wsL_law_r4 ++ (wsL_law_r5 ++ (wsL_law_r6 ++ (wsL_law_r7 ++ (wsL_law_r8 ++ (wsL_law_r9 ++ (wsL_law_r10 ++ (wsL_law_r11 ++ (wsL_law_r12 ++ (wsL_law_r13 ++ (wsL_law_r14 ++ (wsL_law_r15 ++ (wsL_law_r16 ++ (wsL_law_r17 ++ (wsL_law_r18 ++ (wsL_law_r19 ++ (wsL_law_r20 ++ (wsL_law_r21 ++ (wsL_law_r22 ++ (wsL_law_r23 ++ (wsL_law_r24 ++ (wsL_law_r25 ++ (wsL_law_r26 ++ (wsL_law_r27 ++ (wsL_law_r28 ++ (wsL_law_r29 ++ (wsL_law_r30 ++ (wsL_law_r31 ++ (wsL_law_r32 ++ (wsL_law_r33 ++ (wsL_law_r34 ++ (wsL_law_r35 ++ (wsL_law_r36 ++ (wsL_law_r37 ++ (wsL_law_r38 ++ (wsL_law_r39 ++ (wsL_law_r40 ++ (wsL_law_r41 ++ (wsL_law_r42 ++ (wsL_law_r43 ++ (wsL_law_r44 ++ (wsL_law_r45 ++ (wsL_law_r46 ++ (wsL_law_r47 ++ (wsL_law_r48 ++ (wsL_law_r49 ++ (wsL_law_r50 ++ (wsL_law_r51 ++ (wsL_law_r52 ++ (wsL_law_r53 ++ (wsL_law_r54 ++ (wsL_law_r55 ++ (wsL_law_r56 ++ (wsL_law_r57 ++ (wsL_law_r58 ++ (wsL_law_r59 ++ (wsL_law_r60 ++ (wsL_law_r61 ++ (wsL_law_r62 ++ (wsL_law_r63 ++ (wsL_law_r64 ++ (wsL_law_r65 ++ (wsL_law_r66 ++ (wsL_law_r67 ++ (wsL_law_r68 ++ wsL_law_r69)))))))))))))))))))))))))))))))))))))))))))))))))))))))))))))))))))) ++ wsX90 ++ wsX100 ++ wsX30 ++ wsX00 ++ wsX10 ++ wsX20 ++ wsX40 ++ wsX60 ++ wsX80 ++ wsX50 ++ wsX70 ++ ([] : List Cond)
set_option maxRecDepth 20000 in
theorem mp_utIn : GoodIn lw_tbl wsL_law := goodIn_p wsL_law [133, 136, 141, 147, 296, 341, 362, 404, 445, 461, 479, 1317, 526, 530, 1487, 1491, 534, 1495, 1472, 538, 542, 546, 549, 552, 556, 568, 560, 564, 572, 577, 581, 585, 591, 595, 598, 601, 606, 609, 612, 615, 619, 629, 633, 637, 642, 647, 652, 657, 662, 669, 677, 681, 686, 691, 696, 700, 707, 712, 716, 1503, 1507, 1511, 1515, 1519, 1528, 1533, 1537, 1541, 1545, 1549, 1554, 1558, 1564, 1568, 1573, 1579, 1583, 1589, 1596, 1602, 1606, 1610, 1613, 720, 1499, 724, 728, 1617, 1621, 732, 736, 1626, 1630, 1635, 740, 744, 1639, 1643, 749, 752, 756, 1647, 1650, 760, 764, 768, 773, 777, 1655, 1659, 1663, 1667, 781, 785, 789, 1671, 1675, 1678, 793, 1682, 797, 801, 805, 809, 816, 1686, 1690, 1694, 820, 825, 830, 1698, 1703, 834, 838, 842, 1707, 1711, 848, 1715, 853, 1719, 1723, 857, 1727, 1730, 861, 1734, 865, 1738, 869, 1742, 873, 877, 881, 886, 891, 1746, 1750, 1754, 1758, 1762, 1766, 895, 899, 903, 1770, 1774, 907, 1778, 911, 1782, 915, 1786, 919, 1790, 923, 1794, 927, 1798, 931, 935, 939, 943, 946, 951, 957, 963, 967, 971, 975, 1802, 1806, 1811, 1815, 1819, 1823, 1827, 1831, 1835, 979, 983, 1839, 1843, 987, 991, 994, 1001, 1005, 1847, 1851, 1854, 1010, 1858, 1014, 1019, 1862, 1023, 1027, 1031, 1036, 1040, 1867, 1871, 1875, 1879, 1044, 1883, 1048, 1052, 1056, 1887, 1891, 1895, 1062, 1901, 1066, 1070, 1074, 1905, 1909, 1913, 1079, 1917, 1083, 1921, 1088, 1092, 1096, 1100, 1104, 1109, 1114, 1118, 1121, 1128, 1925, 1929, 1468, 1934, 1938, 1942, 1132, 1946, 1136, 1950, 1140, 1144, 1148, 1151, 1954, 1958, 1155, 1159, 1163, 1962, 1167, 1171, 1174, 1177, 1966, 1181, 1185, 1189, 1195, 1970, 1974, 1978, 1982, 1199, 1203, 1986, 1208, 1212, 1217, 1990, 1994, 2000, 1229, 2009, 1233, 2013, 1237, 2017, 1243, 2021, 1248, 2025, 1252, 1256, 1260, 1263, 1270, 2029, 1275, 2033, 1280, 2037, 1284, 1288, 1465, 1292, 1296, 1299, 1476, 1479, 1303, 1307, 1311, 1483] (by decide +kernel) (by decide +kernel)
theorem wsL_law_in : ∀ w ∈ wsL_law, w ∈ lw_tbl := fun w h => (mp_utIn w h).1
theorem inlX0 : ∀ w ∈ wsX00, w ∈ wsL_law := fun _ h => List.mem_append_left _ (List.mem_append_left _ (List.mem_append_left _ (List.mem_append_left _ (List.mem_append_left _ (List.mem_append_left _ (List.mem_append_left _ (List.mem_append_left _ (List.mem_append_right _ h))))))))
theorem inlX1 : ∀ w ∈ wsX10, w ∈ wsL_law := fun _ h => List.mem_append_left _ (List.mem_append_left _ (List.mem_append_left _ (List.mem_append_left _ (List.mem_append_left _ (List.mem_append_left _ (List.mem_append_left _ (List.mem_append_right _ h)))))))
theorem inlX2 : ∀ w ∈ wsX20, w ∈ wsL_law := fun _ h => List.mem_append_left _ (List.mem_append_left _ (List.mem_append_left _ (List.mem_append_left _ (List.mem_append_left _ (List.mem_append_left _ (List.mem_append_right _ h))))))
theorem inlX3 : ∀ w ∈ wsX30, w ∈ wsL_law := fun _ h => List.mem_append_left _ (List.mem_append_left _ (List.mem_append_left _ (List.mem_append_left _ (List.mem_append_left _ (List.mem_append_left _ (List.mem_append_left _ (List.mem_append_left _ (List.mem_append_left _ (List.mem_append_right _ h)))))))))
theorem inlX4 : ∀ w ∈ wsX40, w ∈ wsL_law := fun _ h => List.mem_append_left _ (List.mem_append_left _ (List.mem_append_left _ (List.mem_append_left _ (List.mem_append_left _ (List.mem_append_right _ h)))))
theorem inlX5 : ∀ w ∈ wsX50, w ∈ wsL_law := fun _ h => List.mem_append_left _ (List.mem_append_left _ (List.mem_append_right _ h))
theorem inlX6 : ∀ w ∈ wsX60, w ∈ wsL_law := fun _ h => List.mem_append_left _ (List.mem_append_left _ (List.mem_append_left _ (List.mem_append_left _ (List.mem_append_right _ h))))
theorem inlX7 : ∀ w ∈ wsX70, w ∈ wsL_law := fun _ h => List.mem_append_left _ (List.mem_append_right _ h)
theorem inlX8 : ∀ w ∈ wsX80, w ∈ wsL_law := fun _ h => List.mem_append_left _ (List.mem_append_left _ (List.mem_append_left _ (List.mem_append_right _ h)))
theorem inlX9 : ∀ w ∈ wsX90, w ∈ wsL_law := fun _ h => List.mem_append_left _ (List.mem_append_left _ (List.mem_append_left _ (List.mem_append_left _ (List.mem_append_left _ (List.mem_append_left _ (List.mem_append_left _ (List.mem_append_left _ (List.mem_append_left _ (List.mem_append_left _ (List.mem_append_left _ (List.mem_append_right _ h)))))))))))
theorem inlX10 : ∀ w ∈ wsX100, w ∈ wsL_law := fun _ h => List.mem_append_left _ (List.mem_append_left _ (List.mem_append_left _ (List.mem_append_left _ (List.mem_append_left _ (List.mem_append_left _ (List.mem_append_left _ (List.mem_append_left _ (List.mem_append_left _ (List.mem_append_left _ (List.mem_append_right _ h))))))))))
abbrev vwCl : List vw_C := [(RX0, TX0, 8), (RX1, TX1, 4), (RX2, TX2, 11), (RX3, TX3, 10), (RX4, TX4, 10), (RX5, TX5, 3), (RX6, TX6, 3), (RX7, TX7, 18), (RX8, TX8, 3), (RX9, TX9, 9), (RX10, TX10, 47)]
theorem mp_utArr (t0 : Nat) (ty : FieldType) (h : ([.int, .byte, .long, .boolean] : List FieldType)[t0]? = some ty) : Jvm.Cond.arrayClass ty ∈ wsL_law := by
  match t0, h with
  | 0, h => cases h; exact List.mem_of_getElem? (i := 60) (by decide +kernel)
  | 1, h => cases h; exact List.mem_of_getElem? (i := 50) (by decide +kernel)
  | 2, h => cases h; exact List.mem_of_getElem? (i := 62) (by decide +kernel)
  | 3, h => cases h; exact List.mem_of_getElem? (i := 133) (by decide +kernel)
  | k + 4, h => simp at h
theorem mp_oi1 : Jvm.Cond.instanceMethod objectInit ∈ wsL_law := List.mem_of_getElem? (i := 11) (by decide +kernel)
theorem mp_oi2 : Jvm.Cond.code objectInit ⟨#[0xb1]⟩ 1 none ∈ wsL_law := List.mem_of_getElem? (i := 12) (by decide +kernel)
theorem mp_ac1 : Jvm.Cond.native arraycopyName ∈ wsL_law := List.mem_of_getElem? (i := 362) (by decide +kernel)
theorem mp_ac2 : Jvm.Cond.static arraycopyName ∈ wsL_law := List.mem_of_getElem? (i := 363) (by decide +kernel)
theorem mp_ac3 : Jvm.Cond.initialized "java/lang/System" ∈ wsL_law := List.mem_of_getElem? (i := 364) (by decide +kernel)
