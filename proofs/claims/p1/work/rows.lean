section
-- ===== PART A: goes FIRST, ahead of the names: the tables' words, and 'selects' of the private methods out of them =====
/-- a private method of a class that the tables say can be made, by its rows of tables_1 -/
def lw_okq (q : MethodName × Nat) : Prop := (q.1.cls ≠ "java/lang/invoke/MethodHandle" ∧ q.1.cls ≠ "java/lang/invoke/VarHandle") ∧ Cond.instantiable q.1.cls q.2 ∈ tables_1 ∧ Cond.privateMethod q.1 ∈ tables_1 ∧ Cond.instanceMethod q.1 ∈ tables_1
theorem lw_p0 : lw_okq (⟨"MoonPromises$Reader", "step", "()V"⟩, 10) := ⟨⟨by decide +kernel, by decide +kernel⟩, List.mem_of_getElem? (i := 30) (by decide +kernel), List.mem_of_getElem? (i := 446) (by decide +kernel), List.mem_of_getElem? (i := 447) (by decide +kernel)⟩
theorem lw_p1 : lw_okq (⟨"MoonPromises$Reader", "isLetter", "(I)Z"⟩, 10) := ⟨⟨by decide +kernel, by decide +kernel⟩, List.mem_of_getElem? (i := 30) (by decide +kernel), List.mem_of_getElem? (i := 450) (by decide +kernel), List.mem_of_getElem? (i := 451) (by decide +kernel)⟩
theorem lw_p2 : lw_okq (⟨"MoonPromises$Reader", "isDigit", "(I)Z"⟩, 10) := ⟨⟨by decide +kernel, by decide +kernel⟩, List.mem_of_getElem? (i := 30) (by decide +kernel), List.mem_of_getElem? (i := 454) (by decide +kernel), List.mem_of_getElem? (i := 455) (by decide +kernel)⟩
theorem lw_p3 : lw_okq (⟨"MoonPromises$Reader", "takeLine", "()Z"⟩, 10) := ⟨⟨by decide +kernel, by decide +kernel⟩, List.mem_of_getElem? (i := 30) (by decide +kernel), List.mem_of_getElem? (i := 462) (by decide +kernel), List.mem_of_getElem? (i := 463) (by decide +kernel)⟩
theorem lw_p4 : lw_okq (⟨"MoonPromises$Reader", "isWord", "(Ljava/lang/String;)Z"⟩, 10) := ⟨⟨by decide +kernel, by decide +kernel⟩, List.mem_of_getElem? (i := 30) (by decide +kernel), List.mem_of_getElem? (i := 467) (by decide +kernel), List.mem_of_getElem? (i := 468) (by decide +kernel)⟩
theorem lw_p5 : lw_okq (⟨"MoonPromises$Reader", "fail", "(I)Z"⟩, 10) := ⟨⟨by decide +kernel, by decide +kernel⟩, List.mem_of_getElem? (i := 30) (by decide +kernel), List.mem_of_getElem? (i := 519) (by decide +kernel), List.mem_of_getElem? (i := 520) (by decide +kernel)⟩
theorem lw_p6 : lw_okq (⟨"MoonPromises$Reader", "takeIsles", "()Z"⟩, 10) := ⟨⟨by decide +kernel, by decide +kernel⟩, List.mem_of_getElem? (i := 30) (by decide +kernel), List.mem_of_getElem? (i := 523) (by decide +kernel), List.mem_of_getElem? (i := 524) (by decide +kernel)⟩
theorem lw_p7 : lw_okq (⟨"MoonPromises$Reader", "takeNumber", "(III)Z"⟩, 10) := ⟨⟨by decide +kernel, by decide +kernel⟩, List.mem_of_getElem? (i := 30) (by decide +kernel), List.mem_of_getElem? (i := 527) (by decide +kernel), List.mem_of_getElem? (i := 528) (by decide +kernel)⟩
theorem lw_p8 : lw_okq (⟨"MoonPromises$Reader", "takeWord", "(Ljava/lang/String;)Z"⟩, 10) := ⟨⟨by decide +kernel, by decide +kernel⟩, List.mem_of_getElem? (i := 30) (by decide +kernel), List.mem_of_getElem? (i := 532) (by decide +kernel), List.mem_of_getElem? (i := 533) (by decide +kernel)⟩
theorem lw_p9 : lw_okq (⟨"MoonPromises$Reader", "takeSea", "()Z"⟩, 10) := ⟨⟨by decide +kernel, by decide +kernel⟩, List.mem_of_getElem? (i := 30) (by decide +kernel), List.mem_of_getElem? (i := 537) (by decide +kernel), List.mem_of_getElem? (i := 538) (by decide +kernel)⟩
theorem lw_p10 : lw_okq (⟨"MoonPromises$Reader", "takePerson", "()Z"⟩, 10) := ⟨⟨by decide +kernel, by decide +kernel⟩, List.mem_of_getElem? (i := 30) (by decide +kernel), List.mem_of_getElem? (i := 547) (by decide +kernel), List.mem_of_getElem? (i := 548) (by decide +kernel)⟩
theorem lw_p11 : lw_okq (⟨"MoonPromises$Reader", "takePromise", "()Z"⟩, 10) := ⟨⟨by decide +kernel, by decide +kernel⟩, List.mem_of_getElem? (i := 30) (by decide +kernel), List.mem_of_getElem? (i := 559) (by decide +kernel), List.mem_of_getElem? (i := 560) (by decide +kernel)⟩
theorem lw_p12 : lw_okq (⟨"MoonPromises$Reader", "takePromiseMarks", "(I)Z"⟩, 10) := ⟨⟨by decide +kernel, by decide +kernel⟩, List.mem_of_getElem? (i := 30) (by decide +kernel), List.mem_of_getElem? (i := 571) (by decide +kernel), List.mem_of_getElem? (i := 572) (by decide +kernel)⟩
theorem lw_p13 : lw_okq (⟨"MoonPromises$Reader", "takeShut", "()Z"⟩, 10) := ⟨⟨by decide +kernel, by decide +kernel⟩, List.mem_of_getElem? (i := 30) (by decide +kernel), List.mem_of_getElem? (i := 576) (by decide +kernel), List.mem_of_getElem? (i := 577) (by decide +kernel)⟩
theorem lw_p14 : lw_okq (⟨"MoonPromises$Reader", "takeSign", "()Z"⟩, 10) := ⟨⟨by decide +kernel, by decide +kernel⟩, List.mem_of_getElem? (i := 30) (by decide +kernel), List.mem_of_getElem? (i := 586) (by decide +kernel), List.mem_of_getElem? (i := 587) (by decide +kernel)⟩
theorem lw_p15 : lw_okq (⟨"MoonPromises$Course", "apply", "(I)V"⟩, 8) := ⟨⟨by decide +kernel, by decide +kernel⟩, List.mem_of_getElem? (i := 185) (by decide +kernel), List.mem_of_getElem? (i := 602) (by decide +kernel), List.mem_of_getElem? (i := 603) (by decide +kernel)⟩
def lw_privs_1 : List (MethodName × Nat) := [(⟨"MoonPromises$Reader", "step", "()V"⟩, 10), (⟨"MoonPromises$Reader", "isLetter", "(I)Z"⟩, 10), (⟨"MoonPromises$Reader", "isDigit", "(I)Z"⟩, 10), (⟨"MoonPromises$Reader", "takeLine", "()Z"⟩, 10), (⟨"MoonPromises$Reader", "isWord", "(Ljava/lang/String;)Z"⟩, 10), (⟨"MoonPromises$Reader", "fail", "(I)Z"⟩, 10), (⟨"MoonPromises$Reader", "takeIsles", "()Z"⟩, 10), (⟨"MoonPromises$Reader", "takeNumber", "(III)Z"⟩, 10), (⟨"MoonPromises$Reader", "takeWord", "(Ljava/lang/String;)Z"⟩, 10), (⟨"MoonPromises$Reader", "takeSea", "()Z"⟩, 10), (⟨"MoonPromises$Reader", "takePerson", "()Z"⟩, 10), (⟨"MoonPromises$Reader", "takePromise", "()Z"⟩, 10), (⟨"MoonPromises$Reader", "takePromiseMarks", "(I)Z"⟩, 10), (⟨"MoonPromises$Reader", "takeShut", "()Z"⟩, 10), (⟨"MoonPromises$Reader", "takeSign", "()Z"⟩, 10), (⟨"MoonPromises$Course", "apply", "(I)V"⟩, 8)]
theorem lw_r1 : ∀ q ∈ lw_privs_1, lw_okq q := List.forall_mem_cons.mpr ⟨lw_p0, List.forall_mem_cons.mpr ⟨lw_p1, List.forall_mem_cons.mpr ⟨lw_p2, List.forall_mem_cons.mpr ⟨lw_p3, List.forall_mem_cons.mpr ⟨lw_p4, List.forall_mem_cons.mpr ⟨lw_p5, List.forall_mem_cons.mpr ⟨lw_p6, List.forall_mem_cons.mpr ⟨lw_p7, List.forall_mem_cons.mpr ⟨lw_p8, List.forall_mem_cons.mpr ⟨lw_p9, List.forall_mem_cons.mpr ⟨lw_p10, List.forall_mem_cons.mpr ⟨lw_p11, List.forall_mem_cons.mpr ⟨lw_p12, List.forall_mem_cons.mpr ⟨lw_p13, List.forall_mem_cons.mpr ⟨lw_p14, List.forall_mem_cons.mpr ⟨lw_p15, fun _ h => absurd h List.not_mem_nil⟩⟩⟩⟩⟩⟩⟩⟩⟩⟩⟩⟩⟩⟩⟩⟩
theorem lw_p16 : lw_okq (⟨"MoonPromises$Course", "lastSaid", "(II)I"⟩, 8) := ⟨⟨by decide +kernel, by decide +kernel⟩, List.mem_of_getElem? (i := 185) (by decide +kernel), List.mem_of_getElem? (i := 658) (by decide +kernel), List.mem_of_getElem? (i := 659) (by decide +kernel)⟩
theorem lw_p17 : lw_okq (⟨"MoonPromises", "arePair", "(II)Z"⟩, 9) := ⟨⟨by decide +kernel, by decide +kernel⟩, List.mem_of_getElem? (i := 22) (by decide +kernel), List.mem_of_getElem? (i := 691) (by decide +kernel), List.mem_of_getElem? (i := 692) (by decide +kernel)⟩
theorem lw_p18 : lw_okq (⟨"MoonPromises", "isToldMoon", "(I)Z"⟩, 9) := ⟨⟨by decide +kernel, by decide +kernel⟩, List.mem_of_getElem? (i := 22) (by decide +kernel), List.mem_of_getElem? (i := 728) (by decide +kernel), List.mem_of_getElem? (i := 729) (by decide +kernel)⟩
theorem lw_p19 : lw_okq (⟨"MoonPromises", "canPlan", "(II)Z"⟩, 9) := ⟨⟨by decide +kernel, by decide +kernel⟩, List.mem_of_getElem? (i := 22) (by decide +kernel), List.mem_of_getElem? (i := 825) (by decide +kernel), List.mem_of_getElem? (i := 826) (by decide +kernel)⟩
theorem lw_p20 : lw_okq (⟨"MoonPromises$Planner", "layLegs", "(LMoonPromises$Course;II)V"⟩, 11) := ⟨⟨by decide +kernel, by decide +kernel⟩, List.mem_of_getElem? (i := 251) (by decide +kernel), List.mem_of_getElem? (i := 833) (by decide +kernel), List.mem_of_getElem? (i := 834) (by decide +kernel)⟩
theorem lw_p21 : lw_okq (⟨"MoonPromises$Planner", "laySpoken", "(LMoonPromises$Course;I)V"⟩, 11) := ⟨⟨by decide +kernel, by decide +kernel⟩, List.mem_of_getElem? (i := 251) (by decide +kernel), List.mem_of_getElem? (i := 841) (by decide +kernel), List.mem_of_getElem? (i := 842) (by decide +kernel)⟩
theorem lw_p22 : lw_okq (⟨"MoonPromises$Planner", "layMissed", "(LMoonPromises$Course;I)V"⟩, 11) := ⟨⟨by decide +kernel, by decide +kernel⟩, List.mem_of_getElem? (i := 251) (by decide +kernel), List.mem_of_getElem? (i := 847) (by decide +kernel), List.mem_of_getElem? (i := 848) (by decide +kernel)⟩
theorem lw_p23 : lw_okq (⟨"MoonPromises$Planner", "leastFrom", "(II)I"⟩, 11) := ⟨⟨by decide +kernel, by decide +kernel⟩, List.mem_of_getElem? (i := 251) (by decide +kernel), List.mem_of_getElem? (i := 857) (by decide +kernel), List.mem_of_getElem? (i := 858) (by decide +kernel)⟩
theorem lw_p24 : lw_okq (⟨"MoonPromises$Planner", "oarsBy", "(III)I"⟩, 11) := ⟨⟨by decide +kernel, by decide +kernel⟩, List.mem_of_getElem? (i := 251) (by decide +kernel), List.mem_of_getElem? (i := 861) (by decide +kernel), List.mem_of_getElem? (i := 862) (by decide +kernel)⟩
theorem lw_p25 : lw_okq (⟨"MoonPromises$Planner", "isKeeping", "(I)Z"⟩, 11) := ⟨⟨by decide +kernel, by decide +kernel⟩, List.mem_of_getElem? (i := 251) (by decide +kernel), List.mem_of_getElem? (i := 865) (by decide +kernel), List.mem_of_getElem? (i := 866) (by decide +kernel)⟩
theorem lw_p26 : lw_okq (⟨"MoonPromises$Planner", "canKeep", "(I)Z"⟩, 11) := ⟨⟨by decide +kernel, by decide +kernel⟩, List.mem_of_getElem? (i := 251) (by decide +kernel), List.mem_of_getElem? (i := 891) (by decide +kernel), List.mem_of_getElem? (i := 892) (by decide +kernel)⟩
theorem lw_p27 : lw_okq (⟨"MoonPromises$Planner", "reached", "(III)I"⟩, 11) := ⟨⟨by decide +kernel, by decide +kernel⟩, List.mem_of_getElem? (i := 251) (by decide +kernel), List.mem_of_getElem? (i := 895) (by decide +kernel), List.mem_of_getElem? (i := 896) (by decide +kernel)⟩
theorem lw_p28 : lw_okq (⟨"MoonPromises", "canLove", "(III)Z"⟩, 9) := ⟨⟨by decide +kernel, by decide +kernel⟩, List.mem_of_getElem? (i := 22) (by decide +kernel), List.mem_of_getElem? (i := 917) (by decide +kernel), List.mem_of_getElem? (i := 918) (by decide +kernel)⟩
theorem lw_p29 : lw_okq (⟨"MoonPromises$Planner", "layReach", "()V"⟩, 11) := ⟨⟨by decide +kernel, by decide +kernel⟩, List.mem_of_getElem? (i := 251) (by decide +kernel), List.mem_of_getElem? (i := 926) (by decide +kernel), List.mem_of_getElem? (i := 927) (by decide +kernel)⟩
theorem lw_p30 : lw_okq (⟨"MoonPromises$Planner", "leastTo", "(II)I"⟩, 11) := ⟨⟨by decide +kernel, by decide +kernel⟩, List.mem_of_getElem? (i := 251) (by decide +kernel), List.mem_of_getElem? (i := 930) (by decide +kernel), List.mem_of_getElem? (i := 931) (by decide +kernel)⟩
theorem lw_p31 : lw_okq (⟨"MoonPromises$Course", "standsAlone", "(I)Z"⟩, 8) := ⟨⟨by decide +kernel, by decide +kernel⟩, List.mem_of_getElem? (i := 185) (by decide +kernel), List.mem_of_getElem? (i := 946) (by decide +kernel), List.mem_of_getElem? (i := 947) (by decide +kernel)⟩
def lw_privs_2 : List (MethodName × Nat) := [(⟨"MoonPromises$Course", "lastSaid", "(II)I"⟩, 8), (⟨"MoonPromises", "arePair", "(II)Z"⟩, 9), (⟨"MoonPromises", "isToldMoon", "(I)Z"⟩, 9), (⟨"MoonPromises", "canPlan", "(II)Z"⟩, 9), (⟨"MoonPromises$Planner", "layLegs", "(LMoonPromises$Course;II)V"⟩, 11), (⟨"MoonPromises$Planner", "laySpoken", "(LMoonPromises$Course;I)V"⟩, 11), (⟨"MoonPromises$Planner", "layMissed", "(LMoonPromises$Course;I)V"⟩, 11), (⟨"MoonPromises$Planner", "leastFrom", "(II)I"⟩, 11), (⟨"MoonPromises$Planner", "oarsBy", "(III)I"⟩, 11), (⟨"MoonPromises$Planner", "isKeeping", "(I)Z"⟩, 11), (⟨"MoonPromises$Planner", "canKeep", "(I)Z"⟩, 11), (⟨"MoonPromises$Planner", "reached", "(III)I"⟩, 11), (⟨"MoonPromises", "canLove", "(III)Z"⟩, 9), (⟨"MoonPromises$Planner", "layReach", "()V"⟩, 11), (⟨"MoonPromises$Planner", "leastTo", "(II)I"⟩, 11), (⟨"MoonPromises$Course", "standsAlone", "(I)Z"⟩, 8)]
theorem lw_r2 : ∀ q ∈ lw_privs_2, lw_okq q := List.forall_mem_cons.mpr ⟨lw_p16, List.forall_mem_cons.mpr ⟨lw_p17, List.forall_mem_cons.mpr ⟨lw_p18, List.forall_mem_cons.mpr ⟨lw_p19, List.forall_mem_cons.mpr ⟨lw_p20, List.forall_mem_cons.mpr ⟨lw_p21, List.forall_mem_cons.mpr ⟨lw_p22, List.forall_mem_cons.mpr ⟨lw_p23, List.forall_mem_cons.mpr ⟨lw_p24, List.forall_mem_cons.mpr ⟨lw_p25, List.forall_mem_cons.mpr ⟨lw_p26, List.forall_mem_cons.mpr ⟨lw_p27, List.forall_mem_cons.mpr ⟨lw_p28, List.forall_mem_cons.mpr ⟨lw_p29, List.forall_mem_cons.mpr ⟨lw_p30, List.forall_mem_cons.mpr ⟨lw_p31, fun _ h => absurd h List.not_mem_nil⟩⟩⟩⟩⟩⟩⟩⟩⟩⟩⟩⟩⟩⟩⟩⟩
theorem lw_p32 : lw_okq (⟨"MoonPromises", "putOnScales", "(II)I"⟩, 9) := ⟨⟨by decide +kernel, by decide +kernel⟩, List.mem_of_getElem? (i := 22) (by decide +kernel), List.mem_of_getElem? (i := 982) (by decide +kernel), List.mem_of_getElem? (i := 983) (by decide +kernel)⟩
theorem lw_p33 : lw_okq (⟨"MoonPromises$Scales", "fits", "(I)Z"⟩, 10) := ⟨⟨by decide +kernel, by decide +kernel⟩, List.mem_of_getElem? (i := 293) (by decide +kernel), List.mem_of_getElem? (i := 1008) (by decide +kernel), List.mem_of_getElem? (i := 1009) (by decide +kernel)⟩
theorem lw_p34 : lw_okq (⟨"MoonPromises$Scales", "addToTally", "(I)V"⟩, 10) := ⟨⟨by decide +kernel, by decide +kernel⟩, List.mem_of_getElem? (i := 293) (by decide +kernel), List.mem_of_getElem? (i := 1018) (by decide +kernel), List.mem_of_getElem? (i := 1019) (by decide +kernel)⟩
theorem lw_p35 : lw_okq (⟨"MoonPromises$Scales", "worstLeft", "(I)I"⟩, 10) := ⟨⟨by decide +kernel, by decide +kernel⟩, List.mem_of_getElem? (i := 293) (by decide +kernel), List.mem_of_getElem? (i := 1038) (by decide +kernel), List.mem_of_getElem? (i := 1039) (by decide +kernel)⟩
theorem lw_p36 : lw_okq (⟨"MoonPromises$Scales", "fitsFirst", "(I)Z"⟩, 10) := ⟨⟨by decide +kernel, by decide +kernel⟩, List.mem_of_getElem? (i := 293) (by decide +kernel), List.mem_of_getElem? (i := 1053) (by decide +kernel), List.mem_of_getElem? (i := 1054) (by decide +kernel)⟩
theorem lw_p37 : lw_okq (⟨"MoonPromises", "putInThreat", "(I)I"⟩, 9) := ⟨⟨by decide +kernel, by decide +kernel⟩, List.mem_of_getElem? (i := 22) (by decide +kernel), List.mem_of_getElem? (i := 1075) (by decide +kernel), List.mem_of_getElem? (i := 1076) (by decide +kernel)⟩
theorem lw_p38 : lw_okq (⟨"MoonPromises", "canDraw", "(III)Z"⟩, 9) := ⟨⟨by decide +kernel, by decide +kernel⟩, List.mem_of_getElem? (i := 22) (by decide +kernel), List.mem_of_getElem? (i := 1102) (by decide +kernel), List.mem_of_getElem? (i := 1103) (by decide +kernel)⟩
theorem lw_p39 : lw_okq (⟨"MoonPromisesModel", "four", "(I)V"⟩, 47) := ⟨⟨by decide +kernel, by decide +kernel⟩, List.mem_of_getElem? (i := 1206) (by decide +kernel), List.mem_of_getElem? (i := 1381) (by decide +kernel), List.mem_of_getElem? (i := 1382) (by decide +kernel)⟩
theorem lw_p40 : lw_okq (⟨"MoonPromisesModel", "clears", "()V"⟩, 47) := ⟨⟨by decide +kernel, by decide +kernel⟩, List.mem_of_getElem? (i := 1206) (by decide +kernel), List.mem_of_getElem? (i := 1397) (by decide +kernel), List.mem_of_getElem? (i := 1398) (by decide +kernel)⟩
theorem lw_p41 : lw_okq (⟨"MoonPromisesModel", "begins", "()V"⟩, 47) := ⟨⟨by decide +kernel, by decide +kernel⟩, List.mem_of_getElem? (i := 1206) (by decide +kernel), List.mem_of_getElem? (i := 1401) (by decide +kernel), List.mem_of_getElem? (i := 1402) (by decide +kernel)⟩
theorem lw_p42 : lw_okq (⟨"MoonPromisesModel", "next", "()V"⟩, 47) := ⟨⟨by decide +kernel, by decide +kernel⟩, List.mem_of_getElem? (i := 1206) (by decide +kernel), List.mem_of_getElem? (i := 1405) (by decide +kernel), List.mem_of_getElem? (i := 1406) (by decide +kernel)⟩
theorem lw_p43 : lw_okq (⟨"MoonPromisesModel", "isByte", "(III)Z"⟩, 47) := ⟨⟨by decide +kernel, by decide +kernel⟩, List.mem_of_getElem? (i := 1206) (by decide +kernel), List.mem_of_getElem? (i := 1409) (by decide +kernel), List.mem_of_getElem? (i := 1410) (by decide +kernel)⟩
theorem lw_p44 : lw_okq (⟨"MoonPromisesModel", "isGood", "()Z"⟩, 47) := ⟨⟨by decide +kernel, by decide +kernel⟩, List.mem_of_getElem? (i := 1206) (by decide +kernel), List.mem_of_getElem? (i := 1418) (by decide +kernel), List.mem_of_getElem? (i := 1419) (by decide +kernel)⟩
theorem lw_p45 : lw_okq (⟨"MoonPromisesModel", "asks", "(J)V"⟩, 47) := ⟨⟨by decide +kernel, by decide +kernel⟩, List.mem_of_getElem? (i := 1206) (by decide +kernel), List.mem_of_getElem? (i := 1423) (by decide +kernel), List.mem_of_getElem? (i := 1424) (by decide +kernel)⟩
theorem lw_p46 : lw_okq (⟨"MoonPromisesModel", "takes", "(J)Z"⟩, 47) := ⟨⟨by decide +kernel, by decide +kernel⟩, List.mem_of_getElem? (i := 1206) (by decide +kernel), List.mem_of_getElem? (i := 1427) (by decide +kernel), List.mem_of_getElem? (i := 1428) (by decide +kernel)⟩
theorem lw_p47 : lw_okq (⟨"MoonPromisesModel", "is", "(J)Z"⟩, 47) := ⟨⟨by decide +kernel, by decide +kernel⟩, List.mem_of_getElem? (i := 1206) (by decide +kernel), List.mem_of_getElem? (i := 1431) (by decide +kernel), List.mem_of_getElem? (i := 1432) (by decide +kernel)⟩
def lw_privs_3 : List (MethodName × Nat) := [(⟨"MoonPromises", "putOnScales", "(II)I"⟩, 9), (⟨"MoonPromises$Scales", "fits", "(I)Z"⟩, 10), (⟨"MoonPromises$Scales", "addToTally", "(I)V"⟩, 10), (⟨"MoonPromises$Scales", "worstLeft", "(I)I"⟩, 10), (⟨"MoonPromises$Scales", "fitsFirst", "(I)Z"⟩, 10), (⟨"MoonPromises", "putInThreat", "(I)I"⟩, 9), (⟨"MoonPromises", "canDraw", "(III)Z"⟩, 9), (⟨"MoonPromisesModel", "four", "(I)V"⟩, 47), (⟨"MoonPromisesModel", "clears", "()V"⟩, 47), (⟨"MoonPromisesModel", "begins", "()V"⟩, 47), (⟨"MoonPromisesModel", "next", "()V"⟩, 47), (⟨"MoonPromisesModel", "isByte", "(III)Z"⟩, 47), (⟨"MoonPromisesModel", "isGood", "()Z"⟩, 47), (⟨"MoonPromisesModel", "asks", "(J)V"⟩, 47), (⟨"MoonPromisesModel", "takes", "(J)Z"⟩, 47), (⟨"MoonPromisesModel", "is", "(J)Z"⟩, 47)]
theorem lw_r3 : ∀ q ∈ lw_privs_3, lw_okq q := List.forall_mem_cons.mpr ⟨lw_p32, List.forall_mem_cons.mpr ⟨lw_p33, List.forall_mem_cons.mpr ⟨lw_p34, List.forall_mem_cons.mpr ⟨lw_p35, List.forall_mem_cons.mpr ⟨lw_p36, List.forall_mem_cons.mpr ⟨lw_p37, List.forall_mem_cons.mpr ⟨lw_p38, List.forall_mem_cons.mpr ⟨lw_p39, List.forall_mem_cons.mpr ⟨lw_p40, List.forall_mem_cons.mpr ⟨lw_p41, List.forall_mem_cons.mpr ⟨lw_p42, List.forall_mem_cons.mpr ⟨lw_p43, List.forall_mem_cons.mpr ⟨lw_p44, List.forall_mem_cons.mpr ⟨lw_p45, List.forall_mem_cons.mpr ⟨lw_p46, List.forall_mem_cons.mpr ⟨lw_p47, fun _ h => absurd h List.not_mem_nil⟩⟩⟩⟩⟩⟩⟩⟩⟩⟩⟩⟩⟩⟩⟩⟩
theorem lw_p48 : lw_okq (⟨"MoonPromisesModel", "fails", "(I)V"⟩, 47) := ⟨⟨by decide +kernel, by decide +kernel⟩, List.mem_of_getElem? (i := 1206) (by decide +kernel), List.mem_of_getElem? (i := 1435) (by decide +kernel), List.mem_of_getElem? (i := 1436) (by decide +kernel)⟩
theorem lw_p49 : lw_okq (⟨"MoonPromisesModel", "number", "(II)I"⟩, 47) := ⟨⟨by decide +kernel, by decide +kernel⟩, List.mem_of_getElem? (i := 1206) (by decide +kernel), List.mem_of_getElem? (i := 1439) (by decide +kernel), List.mem_of_getElem? (i := 1440) (by decide +kernel)⟩
theorem lw_p50 : lw_okq (⟨"MoonPromisesModel", "moonHere", "()I"⟩, 47) := ⟨⟨by decide +kernel, by decide +kernel⟩, List.mem_of_getElem? (i := 1206) (by decide +kernel), List.mem_of_getElem? (i := 1444) (by decide +kernel), List.mem_of_getElem? (i := 1445) (by decide +kernel)⟩
theorem lw_p51 : lw_okq (⟨"MoonPromisesModel", "line", "()V"⟩, 47) := ⟨⟨by decide +kernel, by decide +kernel⟩, List.mem_of_getElem? (i := 1206) (by decide +kernel), List.mem_of_getElem? (i := 1448) (by decide +kernel), List.mem_of_getElem? (i := 1449) (by decide +kernel)⟩
theorem lw_p52 : lw_okq (⟨"MoonPromisesModel", "hasRead", "(I)I"⟩, 47) := ⟨⟨by decide +kernel, by decide +kernel⟩, List.mem_of_getElem? (i := 1206) (by decide +kernel), List.mem_of_getElem? (i := 1454) (by decide +kernel), List.mem_of_getElem? (i := 1455) (by decide +kernel)⟩
theorem lw_p53 : lw_okq (⟨"MoonPromisesModel", "personLine", "()V"⟩, 47) := ⟨⟨by decide +kernel, by decide +kernel⟩, List.mem_of_getElem? (i := 1206) (by decide +kernel), List.mem_of_getElem? (i := 1458) (by decide +kernel), List.mem_of_getElem? (i := 1459) (by decide +kernel)⟩
theorem lw_p54 : lw_okq (⟨"MoonPromisesModel", "isleHere", "()I"⟩, 47) := ⟨⟨by decide +kernel, by decide +kernel⟩, List.mem_of_getElem? (i := 1206) (by decide +kernel), List.mem_of_getElem? (i := 1463) (by decide +kernel), List.mem_of_getElem? (i := 1464) (by decide +kernel)⟩
theorem lw_p55 : lw_okq (⟨"MoonPromisesModel", "promiseLine", "()V"⟩, 47) := ⟨⟨by decide +kernel, by decide +kernel⟩, List.mem_of_getElem? (i := 1206) (by decide +kernel), List.mem_of_getElem? (i := 1469) (by decide +kernel), List.mem_of_getElem? (i := 1470) (by decide +kernel)⟩
theorem lw_p56 : lw_okq (⟨"MoonPromisesModel", "personHere", "()I"⟩, 47) := ⟨⟨by decide +kernel, by decide +kernel⟩, List.mem_of_getElem? (i := 1206) (by decide +kernel), List.mem_of_getElem? (i := 1473) (by decide +kernel), List.mem_of_getElem? (i := 1474) (by decide +kernel)⟩
theorem lw_p57 : lw_okq (⟨"MoonPromisesModel", "number", "(JII)I"⟩, 47) := ⟨⟨by decide +kernel, by decide +kernel⟩, List.mem_of_getElem? (i := 1206) (by decide +kernel), List.mem_of_getElem? (i := 1479) (by decide +kernel), List.mem_of_getElem? (i := 1480) (by decide +kernel)⟩
theorem lw_p58 : lw_okq (⟨"MoonPromisesModel", "seaLine", "()V"⟩, 47) := ⟨⟨by decide +kernel, by decide +kernel⟩, List.mem_of_getElem? (i := 1206) (by decide +kernel), List.mem_of_getElem? (i := 1486) (by decide +kernel), List.mem_of_getElem? (i := 1487) (by decide +kernel)⟩
theorem lw_p59 : lw_okq (⟨"MoonPromisesModel", "ends", "()V"⟩, 47) := ⟨⟨by decide +kernel, by decide +kernel⟩, List.mem_of_getElem? (i := 1206) (by decide +kernel), List.mem_of_getElem? (i := 1492) (by decide +kernel), List.mem_of_getElem? (i := 1493) (by decide +kernel)⟩
theorem lw_p60 : lw_okq (⟨"MoonPromisesModel", "isOver", "()V"⟩, 47) := ⟨⟨by decide +kernel, by decide +kernel⟩, List.mem_of_getElem? (i := 1206) (by decide +kernel), List.mem_of_getElem? (i := 1496) (by decide +kernel), List.mem_of_getElem? (i := 1497) (by decide +kernel)⟩
theorem lw_p61 : lw_okq (⟨"MoonPromisesModel", "copyIsles", "(II)V"⟩, 47) := ⟨⟨by decide +kernel, by decide +kernel⟩, List.mem_of_getElem? (i := 1206) (by decide +kernel), List.mem_of_getElem? (i := 1500) (by decide +kernel), List.mem_of_getElem? (i := 1501) (by decide +kernel)⟩
theorem lw_p62 : lw_okq (⟨"MoonPromisesModel", "isPerson", "(I)Z"⟩, 47) := ⟨⟨by decide +kernel, by decide +kernel⟩, List.mem_of_getElem? (i := 1206) (by decide +kernel), List.mem_of_getElem? (i := 1511) (by decide +kernel), List.mem_of_getElem? (i := 1512) (by decide +kernel)⟩
theorem lw_p63 : lw_okq (⟨"MoonPromisesModel", "isPromise", "(I)Z"⟩, 47) := ⟨⟨by decide +kernel, by decide +kernel⟩, List.mem_of_getElem? (i := 1206) (by decide +kernel), List.mem_of_getElem? (i := 1520) (by decide +kernel), List.mem_of_getElem? (i := 1521) (by decide +kernel)⟩
def lw_privs_4 : List (MethodName × Nat) := [(⟨"MoonPromisesModel", "fails", "(I)V"⟩, 47), (⟨"MoonPromisesModel", "number", "(II)I"⟩, 47), (⟨"MoonPromisesModel", "moonHere", "()I"⟩, 47), (⟨"MoonPromisesModel", "line", "()V"⟩, 47), (⟨"MoonPromisesModel", "hasRead", "(I)I"⟩, 47), (⟨"MoonPromisesModel", "personLine", "()V"⟩, 47), (⟨"MoonPromisesModel", "isleHere", "()I"⟩, 47), (⟨"MoonPromisesModel", "promiseLine", "()V"⟩, 47), (⟨"MoonPromisesModel", "personHere", "()I"⟩, 47), (⟨"MoonPromisesModel", "number", "(JII)I"⟩, 47), (⟨"MoonPromisesModel", "seaLine", "()V"⟩, 47), (⟨"MoonPromisesModel", "ends", "()V"⟩, 47), (⟨"MoonPromisesModel", "isOver", "()V"⟩, 47), (⟨"MoonPromisesModel", "copyIsles", "(II)V"⟩, 47), (⟨"MoonPromisesModel", "isPerson", "(I)Z"⟩, 47), (⟨"MoonPromisesModel", "isPromise", "(I)Z"⟩, 47)]
theorem lw_r4 : ∀ q ∈ lw_privs_4, lw_okq q := List.forall_mem_cons.mpr ⟨lw_p48, List.forall_mem_cons.mpr ⟨lw_p49, List.forall_mem_cons.mpr ⟨lw_p50, List.forall_mem_cons.mpr ⟨lw_p51, List.forall_mem_cons.mpr ⟨lw_p52, List.forall_mem_cons.mpr ⟨lw_p53, List.forall_mem_cons.mpr ⟨lw_p54, List.forall_mem_cons.mpr ⟨lw_p55, List.forall_mem_cons.mpr ⟨lw_p56, List.forall_mem_cons.mpr ⟨lw_p57, List.forall_mem_cons.mpr ⟨lw_p58, List.forall_mem_cons.mpr ⟨lw_p59, List.forall_mem_cons.mpr ⟨lw_p60, List.forall_mem_cons.mpr ⟨lw_p61, List.forall_mem_cons.mpr ⟨lw_p62, List.forall_mem_cons.mpr ⟨lw_p63, fun _ h => absurd h List.not_mem_nil⟩⟩⟩⟩⟩⟩⟩⟩⟩⟩⟩⟩⟩⟩⟩⟩
theorem lw_p64 : lw_okq (⟨"MoonPromisesModel", "of", "(II)I"⟩, 47) := ⟨⟨by decide +kernel, by decide +kernel⟩, List.mem_of_getElem? (i := 1206) (by decide +kernel), List.mem_of_getElem? (i := 1525) (by decide +kernel), List.mem_of_getElem? (i := 1526) (by decide +kernel)⟩
theorem lw_p65 : lw_okq (⟨"MoonPromisesModel", "isIsle", "(I)Z"⟩, 47) := ⟨⟨by decide +kernel, by decide +kernel⟩, List.mem_of_getElem? (i := 1206) (by decide +kernel), List.mem_of_getElem? (i := 1533) (by decide +kernel), List.mem_of_getElem? (i := 1534) (by decide +kernel)⟩
theorem lw_p66 : lw_okq (⟨"MoonPromisesModel", "lays", "()V"⟩, 47) := ⟨⟨by decide +kernel, by decide +kernel⟩, List.mem_of_getElem? (i := 1206) (by decide +kernel), List.mem_of_getElem? (i := 1549) (by decide +kernel), List.mem_of_getElem? (i := 1550) (by decide +kernel)⟩
theorem lw_p67 : lw_okq (⟨"MoonPromisesModel", "halvedOf", "(II)I"⟩, 47) := ⟨⟨by decide +kernel, by decide +kernel⟩, List.mem_of_getElem? (i := 1206) (by decide +kernel), List.mem_of_getElem? (i := 1553) (by decide +kernel), List.mem_of_getElem? (i := 1554) (by decide +kernel)⟩
theorem lw_p68 : lw_okq (⟨"MoonPromisesModel", "ownOf", "(II)I"⟩, 47) := ⟨⟨by decide +kernel, by decide +kernel⟩, List.mem_of_getElem? (i := 1206) (by decide +kernel), List.mem_of_getElem? (i := 1557) (by decide +kernel), List.mem_of_getElem? (i := 1558) (by decide +kernel)⟩
theorem lw_p69 : lw_okq (⟨"MoonPromisesModel", "worthOf", "(II)I"⟩, 47) := ⟨⟨by decide +kernel, by decide +kernel⟩, List.mem_of_getElem? (i := 1206) (by decide +kernel), List.mem_of_getElem? (i := 1565) (by decide +kernel), List.mem_of_getElem? (i := 1566) (by decide +kernel)⟩
theorem lw_p70 : lw_okq (⟨"MoonPromisesModel", "areTwo", "(II)Z"⟩, 47) := ⟨⟨by decide +kernel, by decide +kernel⟩, List.mem_of_getElem? (i := 1206) (by decide +kernel), List.mem_of_getElem? (i := 1580) (by decide +kernel), List.mem_of_getElem? (i := 1581) (by decide +kernel)⟩
theorem lw_p71 : lw_okq (⟨"MoonPromisesModel", "owedOf", "(III)I"⟩, 47) := ⟨⟨by decide +kernel, by decide +kernel⟩, List.mem_of_getElem? (i := 1206) (by decide +kernel), List.mem_of_getElem? (i := 1584) (by decide +kernel), List.mem_of_getElem? (i := 1585) (by decide +kernel)⟩
theorem lw_p72 : lw_okq (⟨"MoonPromisesModel", "sumOf", "(III)I"⟩, 47) := ⟨⟨by decide +kernel, by decide +kernel⟩, List.mem_of_getElem? (i := 1206) (by decide +kernel), List.mem_of_getElem? (i := 1593) (by decide +kernel), List.mem_of_getElem? (i := 1594) (by decide +kernel)⟩
theorem lw_p73 : lw_okq (⟨"MoonPromisesModel", "areIsles", "()Z"⟩, 47) := ⟨⟨by decide +kernel, by decide +kernel⟩, List.mem_of_getElem? (i := 1206) (by decide +kernel), List.mem_of_getElem? (i := 1601) (by decide +kernel), List.mem_of_getElem? (i := 1602) (by decide +kernel)⟩
theorem lw_p74 : lw_okq (⟨"MoonPromisesModel", "rootOf", "(I)I"⟩, 47) := ⟨⟨by decide +kernel, by decide +kernel⟩, List.mem_of_getElem? (i := 1206) (by decide +kernel), List.mem_of_getElem? (i := 1613) (by decide +kernel), List.mem_of_getElem? (i := 1614) (by decide +kernel)⟩
theorem lw_p75 : lw_okq (⟨"MoonPromisesModel", "maySail", "(II)Z"⟩, 47) := ⟨⟨by decide +kernel, by decide +kernel⟩, List.mem_of_getElem? (i := 1206) (by decide +kernel), List.mem_of_getElem? (i := 1640) (by decide +kernel), List.mem_of_getElem? (i := 1641) (by decide +kernel)⟩
theorem lw_p76 : lw_okq (⟨"MoonPromisesModel", "isSea", "(IIII)Z"⟩, 47) := ⟨⟨by decide +kernel, by decide +kernel⟩, List.mem_of_getElem? (i := 1206) (by decide +kernel), List.mem_of_getElem? (i := 1644) (by decide +kernel), List.mem_of_getElem? (i := 1645) (by decide +kernel)⟩
theorem lw_p77 : lw_okq (⟨"MoonPromisesModel", "isDead", "(II)Z"⟩, 47) := ⟨⟨by decide +kernel, by decide +kernel⟩, List.mem_of_getElem? (i := 1206) (by decide +kernel), List.mem_of_getElem? (i := 1648) (by decide +kernel), List.mem_of_getElem? (i := 1649) (by decide +kernel)⟩
theorem lw_p78 : lw_okq (⟨"MoonPromisesModel", "isFull", "()Z"⟩, 47) := ⟨⟨by decide +kernel, by decide +kernel⟩, List.mem_of_getElem? (i := 1206) (by decide +kernel), List.mem_of_getElem? (i := 1652) (by decide +kernel), List.mem_of_getElem? (i := 1653) (by decide +kernel)⟩
theorem lw_p79 : lw_okq (⟨"MoonPromisesModel", "acts", "(I)V"⟩, 47) := ⟨⟨by decide +kernel, by decide +kernel⟩, List.mem_of_getElem? (i := 1206) (by decide +kernel), List.mem_of_getElem? (i := 1656) (by decide +kernel), List.mem_of_getElem? (i := 1657) (by decide +kernel)⟩
def lw_privs_5 : List (MethodName × Nat) := [(⟨"MoonPromisesModel", "of", "(II)I"⟩, 47), (⟨"MoonPromisesModel", "isIsle", "(I)Z"⟩, 47), (⟨"MoonPromisesModel", "lays", "()V"⟩, 47), (⟨"MoonPromisesModel", "halvedOf", "(II)I"⟩, 47), (⟨"MoonPromisesModel", "ownOf", "(II)I"⟩, 47), (⟨"MoonPromisesModel", "worthOf", "(II)I"⟩, 47), (⟨"MoonPromisesModel", "areTwo", "(II)Z"⟩, 47), (⟨"MoonPromisesModel", "owedOf", "(III)I"⟩, 47), (⟨"MoonPromisesModel", "sumOf", "(III)I"⟩, 47), (⟨"MoonPromisesModel", "areIsles", "()Z"⟩, 47), (⟨"MoonPromisesModel", "rootOf", "(I)I"⟩, 47), (⟨"MoonPromisesModel", "maySail", "(II)Z"⟩, 47), (⟨"MoonPromisesModel", "isSea", "(IIII)Z"⟩, 47), (⟨"MoonPromisesModel", "isDead", "(II)Z"⟩, 47), (⟨"MoonPromisesModel", "isFull", "()Z"⟩, 47), (⟨"MoonPromisesModel", "acts", "(I)V"⟩, 47)]
theorem lw_r5 : ∀ q ∈ lw_privs_5, lw_okq q := List.forall_mem_cons.mpr ⟨lw_p64, List.forall_mem_cons.mpr ⟨lw_p65, List.forall_mem_cons.mpr ⟨lw_p66, List.forall_mem_cons.mpr ⟨lw_p67, List.forall_mem_cons.mpr ⟨lw_p68, List.forall_mem_cons.mpr ⟨lw_p69, List.forall_mem_cons.mpr ⟨lw_p70, List.forall_mem_cons.mpr ⟨lw_p71, List.forall_mem_cons.mpr ⟨lw_p72, List.forall_mem_cons.mpr ⟨lw_p73, List.forall_mem_cons.mpr ⟨lw_p74, List.forall_mem_cons.mpr ⟨lw_p75, List.forall_mem_cons.mpr ⟨lw_p76, List.forall_mem_cons.mpr ⟨lw_p77, List.forall_mem_cons.mpr ⟨lw_p78, List.forall_mem_cons.mpr ⟨lw_p79, fun _ h => absurd h List.not_mem_nil⟩⟩⟩⟩⟩⟩⟩⟩⟩⟩⟩⟩⟩⟩⟩⟩
theorem lw_p80 : lw_okq (⟨"MoonPromisesModel", "maySay", "(I)Z"⟩, 47) := ⟨⟨by decide +kernel, by decide +kernel⟩, List.mem_of_getElem? (i := 1206) (by decide +kernel), List.mem_of_getElem? (i := 1664) (by decide +kernel), List.mem_of_getElem? (i := 1665) (by decide +kernel)⟩
theorem lw_p81 : lw_okq (⟨"MoonPromisesModel", "isPlan", "(II)Z"⟩, 47) := ⟨⟨by decide +kernel, by decide +kernel⟩, List.mem_of_getElem? (i := 1206) (by decide +kernel), List.mem_of_getElem? (i := 1696) (by decide +kernel), List.mem_of_getElem? (i := 1697) (by decide +kernel)⟩
theorem lw_p82 : lw_okq (⟨"MoonPromisesModel", "keptNow", "(I)I"⟩, 47) := ⟨⟨by decide +kernel, by decide +kernel⟩, List.mem_of_getElem? (i := 1206) (by decide +kernel), List.mem_of_getElem? (i := 1701) (by decide +kernel), List.mem_of_getElem? (i := 1702) (by decide +kernel)⟩
theorem lw_p83 : lw_okq (⟨"MoonPromisesModel", "plansFor", "(III)I"⟩, 47) := ⟨⟨by decide +kernel, by decide +kernel⟩, List.mem_of_getElem? (i := 1206) (by decide +kernel), List.mem_of_getElem? (i := 1705) (by decide +kernel), List.mem_of_getElem? (i := 1706) (by decide +kernel)⟩
theorem lw_p84 : lw_okq (⟨"MoonPromisesModel", "onceNow", "()I"⟩, 47) := ⟨⟨by decide +kernel, by decide +kernel⟩, List.mem_of_getElem? (i := 1206) (by decide +kernel), List.mem_of_getElem? (i := 1709) (by decide +kernel), List.mem_of_getElem? (i := 1710) (by decide +kernel)⟩
theorem lw_p85 : lw_okq (⟨"MoonPromisesModel", "goesOn", "(III)V"⟩, 47) := ⟨⟨by decide +kernel, by decide +kernel⟩, List.mem_of_getElem? (i := 1206) (by decide +kernel), List.mem_of_getElem? (i := 1713) (by decide +kernel), List.mem_of_getElem? (i := 1714) (by decide +kernel)⟩
theorem lw_p86 : lw_okq (⟨"MoonPromisesModel", "oarsBy", "(III)I"⟩, 47) := ⟨⟨by decide +kernel, by decide +kernel⟩, List.mem_of_getElem? (i := 1206) (by decide +kernel), List.mem_of_getElem? (i := 1717) (by decide +kernel), List.mem_of_getElem? (i := 1718) (by decide +kernel)⟩
theorem lw_p87 : lw_okq (⟨"MoonPromisesModel", "onceBehind", "(III)I"⟩, 47) := ⟨⟨by decide +kernel, by decide +kernel⟩, List.mem_of_getElem? (i := 1206) (by decide +kernel), List.mem_of_getElem? (i := 1721) (by decide +kernel), List.mem_of_getElem? (i := 1722) (by decide +kernel)⟩
theorem lw_p88 : lw_okq (⟨"MoonPromisesModel", "saidOn", "(II)I"⟩, 47) := ⟨⟨by decide +kernel, by decide +kernel⟩, List.mem_of_getElem? (i := 1206) (by decide +kernel), List.mem_of_getElem? (i := 1725) (by decide +kernel), List.mem_of_getElem? (i := 1726) (by decide +kernel)⟩
theorem lw_p89 : lw_okq (⟨"MoonPromisesModel", "isStep", "(IIII)Z"⟩, 47) := ⟨⟨by decide +kernel, by decide +kernel⟩, List.mem_of_getElem? (i := 1206) (by decide +kernel), List.mem_of_getElem? (i := 1733) (by decide +kernel), List.mem_of_getElem? (i := 1734) (by decide +kernel)⟩
theorem lw_p90 : lw_okq (⟨"MoonPromisesModel", "fallenOf", "(II)I"⟩, 47) := ⟨⟨by decide +kernel, by decide +kernel⟩, List.mem_of_getElem? (i := 1206) (by decide +kernel), List.mem_of_getElem? (i := 1741) (by decide +kernel), List.mem_of_getElem? (i := 1742) (by decide +kernel)⟩
theorem lw_p91 : lw_okq (⟨"MoonPromisesModel", "isLove", "(III)Z"⟩, 47) := ⟨⟨by decide +kernel, by decide +kernel⟩, List.mem_of_getElem? (i := 1206) (by decide +kernel), List.mem_of_getElem? (i := 1761) (by decide +kernel), List.mem_of_getElem? (i := 1762) (by decide +kernel)⟩
theorem lw_p92 : lw_okq (⟨"MoonPromisesModel", "loves", "(III)V"⟩, 47) := ⟨⟨by decide +kernel, by decide +kernel⟩, List.mem_of_getElem? (i := 1206) (by decide +kernel), List.mem_of_getElem? (i := 1765) (by decide +kernel), List.mem_of_getElem? (i := 1766) (by decide +kernel)⟩
theorem lw_p93 : lw_okq (⟨"MoonPromisesModel", "worthSaid", "(III)I"⟩, 47) := ⟨⟨by decide +kernel, by decide +kernel⟩, List.mem_of_getElem? (i := 1206) (by decide +kernel), List.mem_of_getElem? (i := 1769) (by decide +kernel), List.mem_of_getElem? (i := 1770) (by decide +kernel)⟩
theorem lw_p94 : lw_okq (⟨"MoonPromisesModel", "joinOf", "(II)I"⟩, 47) := ⟨⟨by decide +kernel, by decide +kernel⟩, List.mem_of_getElem? (i := 1206) (by decide +kernel), List.mem_of_getElem? (i := 1781) (by decide +kernel), List.mem_of_getElem? (i := 1782) (by decide +kernel)⟩
theorem lw_p95 : lw_okq (⟨"MoonPromisesModel", "isUnder", "(I)Z"⟩, 47) := ⟨⟨by decide +kernel, by decide +kernel⟩, List.mem_of_getElem? (i := 1206) (by decide +kernel), List.mem_of_getElem? (i := 1785) (by decide +kernel), List.mem_of_getElem? (i := 1786) (by decide +kernel)⟩
def lw_privs_6 : List (MethodName × Nat) := [(⟨"MoonPromisesModel", "maySay", "(I)Z"⟩, 47), (⟨"MoonPromisesModel", "isPlan", "(II)Z"⟩, 47), (⟨"MoonPromisesModel", "keptNow", "(I)I"⟩, 47), (⟨"MoonPromisesModel", "plansFor", "(III)I"⟩, 47), (⟨"MoonPromisesModel", "onceNow", "()I"⟩, 47), (⟨"MoonPromisesModel", "goesOn", "(III)V"⟩, 47), (⟨"MoonPromisesModel", "oarsBy", "(III)I"⟩, 47), (⟨"MoonPromisesModel", "onceBehind", "(III)I"⟩, 47), (⟨"MoonPromisesModel", "saidOn", "(II)I"⟩, 47), (⟨"MoonPromisesModel", "isStep", "(IIII)Z"⟩, 47), (⟨"MoonPromisesModel", "fallenOf", "(II)I"⟩, 47), (⟨"MoonPromisesModel", "isLove", "(III)Z"⟩, 47), (⟨"MoonPromisesModel", "loves", "(III)V"⟩, 47), (⟨"MoonPromisesModel", "worthSaid", "(III)I"⟩, 47), (⟨"MoonPromisesModel", "joinOf", "(II)I"⟩, 47), (⟨"MoonPromisesModel", "isUnder", "(I)Z"⟩, 47)]
theorem lw_r6 : ∀ q ∈ lw_privs_6, lw_okq q := List.forall_mem_cons.mpr ⟨lw_p80, List.forall_mem_cons.mpr ⟨lw_p81, List.forall_mem_cons.mpr ⟨lw_p82, List.forall_mem_cons.mpr ⟨lw_p83, List.forall_mem_cons.mpr ⟨lw_p84, List.forall_mem_cons.mpr ⟨lw_p85, List.forall_mem_cons.mpr ⟨lw_p86, List.forall_mem_cons.mpr ⟨lw_p87, List.forall_mem_cons.mpr ⟨lw_p88, List.forall_mem_cons.mpr ⟨lw_p89, List.forall_mem_cons.mpr ⟨lw_p90, List.forall_mem_cons.mpr ⟨lw_p91, List.forall_mem_cons.mpr ⟨lw_p92, List.forall_mem_cons.mpr ⟨lw_p93, List.forall_mem_cons.mpr ⟨lw_p94, List.forall_mem_cons.mpr ⟨lw_p95, fun _ h => absurd h List.not_mem_nil⟩⟩⟩⟩⟩⟩⟩⟩⟩⟩⟩⟩⟩⟩⟩⟩
theorem lw_p96 : lw_okq (⟨"MoonPromisesModel", "ringOf", "(I)I"⟩, 47) := ⟨⟨by decide +kernel, by decide +kernel⟩, List.mem_of_getElem? (i := 1206) (by decide +kernel), List.mem_of_getElem? (i := 1799) (by decide +kernel), List.mem_of_getElem? (i := 1800) (by decide +kernel)⟩
theorem lw_p97 : lw_okq (⟨"MoonPromisesModel", "struckOf", "(IIII)I"⟩, 47) := ⟨⟨by decide +kernel, by decide +kernel⟩, List.mem_of_getElem? (i := 1206) (by decide +kernel), List.mem_of_getElem? (i := 1803) (by decide +kernel), List.mem_of_getElem? (i := 1804) (by decide +kernel)⟩
theorem lw_p98 : lw_okq (⟨"MoonPromisesModel", "whyNot", "(II)I"⟩, 47) := ⟨⟨by decide +kernel, by decide +kernel⟩, List.mem_of_getElem? (i := 1206) (by decide +kernel), List.mem_of_getElem? (i := 1819) (by decide +kernel), List.mem_of_getElem? (i := 1820) (by decide +kernel)⟩
theorem lw_p99 : lw_okq (⟨"MoonPromisesModel", "laysWays", "(II)V"⟩, 47) := ⟨⟨by decide +kernel, by decide +kernel⟩, List.mem_of_getElem? (i := 1206) (by decide +kernel), List.mem_of_getElem? (i := 1824) (by decide +kernel), List.mem_of_getElem? (i := 1825) (by decide +kernel)⟩
theorem lw_p100 : lw_okq (⟨"MoonPromisesModel", "isWay", "(III)Z"⟩, 47) := ⟨⟨by decide +kernel, by decide +kernel⟩, List.mem_of_getElem? (i := 1206) (by decide +kernel), List.mem_of_getElem? (i := 1828) (by decide +kernel), List.mem_of_getElem? (i := 1829) (by decide +kernel)⟩
theorem lw_p101 : lw_okq (⟨"MoonPromisesModel", "worthBy", "(III)I"⟩, 47) := ⟨⟨by decide +kernel, by decide +kernel⟩, List.mem_of_getElem? (i := 1206) (by decide +kernel), List.mem_of_getElem? (i := 1832) (by decide +kernel), List.mem_of_getElem? (i := 1833) (by decide +kernel)⟩
theorem lw_p102 : lw_okq (⟨"MoonPromisesModel", "worstOf", "(III)I"⟩, 47) := ⟨⟨by decide +kernel, by decide +kernel⟩, List.mem_of_getElem? (i := 1206) (by decide +kernel), List.mem_of_getElem? (i := 1848) (by decide +kernel), List.mem_of_getElem? (i := 1849) (by decide +kernel)⟩
theorem lw_p103 : lw_okq (⟨"MoonPromisesModel", "whyNoThreat", "(I)I"⟩, 47) := ⟨⟨by decide +kernel, by decide +kernel⟩, List.mem_of_getElem? (i := 1206) (by decide +kernel), List.mem_of_getElem? (i := 1864) (by decide +kernel), List.mem_of_getElem? (i := 1865) (by decide +kernel)⟩
theorem lw_p104 : lw_okq (⟨"MoonPromisesModel", "xorOf", "(I)I"⟩, 47) := ⟨⟨by decide +kernel, by decide +kernel⟩, List.mem_of_getElem? (i := 1206) (by decide +kernel), List.mem_of_getElem? (i := 1868) (by decide +kernel), List.mem_of_getElem? (i := 1869) (by decide +kernel)⟩
theorem lw_p105 : lw_okq (⟨"MoonPromisesModel", "laysNimbers", "()V"⟩, 47) := ⟨⟨by decide +kernel, by decide +kernel⟩, List.mem_of_getElem? (i := 1206) (by decide +kernel), List.mem_of_getElem? (i := 1872) (by decide +kernel), List.mem_of_getElem? (i := 1873) (by decide +kernel)⟩
theorem lw_p106 : lw_okq (⟨"MoonPromisesModel", "isDraw", "(III)Z"⟩, 47) := ⟨⟨by decide +kernel, by decide +kernel⟩, List.mem_of_getElem? (i := 1206) (by decide +kernel), List.mem_of_getElem? (i := 1884) (by decide +kernel), List.mem_of_getElem? (i := 1885) (by decide +kernel)⟩
theorem lw_p107 : lw_okq (⟨"MoonPromisesModel", "draws", "(JII)I"⟩, 47) := ⟨⟨by decide +kernel, by decide +kernel⟩, List.mem_of_getElem? (i := 1206) (by decide +kernel), List.mem_of_getElem? (i := 1890) (by decide +kernel), List.mem_of_getElem? (i := 1891) (by decide +kernel)⟩
def lw_privs_7 : List (MethodName × Nat) := [(⟨"MoonPromisesModel", "ringOf", "(I)I"⟩, 47), (⟨"MoonPromisesModel", "struckOf", "(IIII)I"⟩, 47), (⟨"MoonPromisesModel", "whyNot", "(II)I"⟩, 47), (⟨"MoonPromisesModel", "laysWays", "(II)V"⟩, 47), (⟨"MoonPromisesModel", "isWay", "(III)Z"⟩, 47), (⟨"MoonPromisesModel", "worthBy", "(III)I"⟩, 47), (⟨"MoonPromisesModel", "worstOf", "(III)I"⟩, 47), (⟨"MoonPromisesModel", "whyNoThreat", "(I)I"⟩, 47), (⟨"MoonPromisesModel", "xorOf", "(I)I"⟩, 47), (⟨"MoonPromisesModel", "laysNimbers", "()V"⟩, 47), (⟨"MoonPromisesModel", "isDraw", "(III)Z"⟩, 47), (⟨"MoonPromisesModel", "draws", "(JII)I"⟩, 47)]
theorem lw_r7 : ∀ q ∈ lw_privs_7, lw_okq q := List.forall_mem_cons.mpr ⟨lw_p96, List.forall_mem_cons.mpr ⟨lw_p97, List.forall_mem_cons.mpr ⟨lw_p98, List.forall_mem_cons.mpr ⟨lw_p99, List.forall_mem_cons.mpr ⟨lw_p100, List.forall_mem_cons.mpr ⟨lw_p101, List.forall_mem_cons.mpr ⟨lw_p102, List.forall_mem_cons.mpr ⟨lw_p103, List.forall_mem_cons.mpr ⟨lw_p104, List.forall_mem_cons.mpr ⟨lw_p105, List.forall_mem_cons.mpr ⟨lw_p106, List.forall_mem_cons.mpr ⟨lw_p107, fun _ h => absurd h List.not_mem_nil⟩⟩⟩⟩⟩⟩⟩⟩⟩⟩⟩⟩
def lw_privs : List (MethodName × Nat) := lw_privs_1 ++ (lw_privs_2 ++ (lw_privs_3 ++ (lw_privs_4 ++ (lw_privs_5 ++ (lw_privs_6 ++ (lw_privs_7))))))
def lw_tbl : List Cond := k2_sels lw_privs ++ tables_1
theorem lw_privs_ok : ∀ q ∈ lw_privs, lw_okq q := by
  show ∀ q ∈ lw_privs_1 ++ (lw_privs_2 ++ (lw_privs_3 ++ (lw_privs_4 ++ (lw_privs_5 ++ (lw_privs_6 ++ (lw_privs_7)))))), lw_okq q
  exact List.forall_mem_append.mpr ⟨lw_r1, List.forall_mem_append.mpr ⟨lw_r2, List.forall_mem_append.mpr ⟨lw_r3, List.forall_mem_append.mpr ⟨lw_r4, List.forall_mem_append.mpr ⟨lw_r5, List.forall_mem_append.mpr ⟨lw_r6, lw_r7⟩⟩⟩⟩⟩⟩
-- ===== end of PART A; then your names; then what follows =====
def RX0 : String := "MoonPromises$Course"
def TX0 : u_T := fun k => match k with
  | 0 => ("MoonPromises$Course", "told", "LMoonPromises$Told;", true)
  | 1 => ("MoonPromises$Course", "moon", "I", false)
  | 2 => ("MoonPromises$Course", "place", "[I", true)
  | 3 => ("MoonPromises$Course", "oars", "[I", true)
  | 4 => ("MoonPromises$Course", "rowedIn", "[I", true)
  | 5 => ("MoonPromises$Course", "heard", "[J", true)
  | 6 => ("MoonPromises$Course", "lasts", "[I", true)
  | _ => ("MoonPromises$Course", "worths", "[I", true)
def tyX0 : Nat → FieldType := fun k => match k with
  | 0 => .object "MoonPromises$Told"
  | 1 => .int
  | 2 => .array .int
  | 3 => .array .int
  | 4 => .array .int
  | 5 => .array .long
  | 6 => .array .int
  | _ => .array .int
abbrev wsX00 : List Cond := u_ws RX0 TX0 8
theorem nmX0 : ∀ a, a < 8 → ∀ b, b < 8 → a ≠ b → (TX0 a).2.1 ≠ (TX0 b).2.1 := by decide +kernel
theorem tyX0_ok : ∀ k, k < 8 → parseFieldDescriptor (TX0 k).2.2.1 = some (tyX0 k) := by decide +kernel
abbrev cX0_init : ByteArray := prog_2_method_1_code
def yX0_init : MethodName := ⟨RX0, "<init>", "()V"⟩
abbrev cX0_replay : ByteArray := prog_2_method_2_code
def yX0_replay : MethodName := ⟨RX0, "replay", "()V"⟩
abbrev cX0_addAct : ByteArray := prog_2_method_3_code
def yX0_addAct : MethodName := ⟨RX0, "addAct", "(I)Z"⟩
abbrev cX0_apply : ByteArray := prog_2_method_4_code
def yX0_apply : MethodName := ⟨RX0, "apply", "(I)V"⟩
abbrev cX0_canRow : ByteArray := prog_2_method_5_code
def yX0_canRow : MethodName := ⟨RX0, "canRow", "(II)Z"⟩
abbrev cX0_canSay : ByteArray := prog_2_method_6_code
def yX0_canSay : MethodName := ⟨RX0, "canSay", "(I)Z"⟩
abbrev cX0_lastsAt : ByteArray := prog_2_method_7_code
def yX0_lastsAt : MethodName := ⟨RX0, "lastsAt", "(I)[I"⟩
abbrev cX0_lastSaid : ByteArray := prog_2_method_8_code
def yX0_lastSaid : MethodName := ⟨RX0, "lastSaid", "(II)I"⟩
abbrev cX0_worthsAt : ByteArray := prog_2_method_9_code
def yX0_worthsAt : MethodName := ⟨RX0, "worthsAt", "(I)[I"⟩
abbrev cX0_gainByJoin : ByteArray := prog_2_method_10_code
def yX0_gainByJoin : MethodName := ⟨RX0, "gainByJoin", "(II)I"⟩
abbrev cX0_standsAlone : ByteArray := prog_2_method_11_code
def yX0_standsAlone : MethodName := ⟨RX0, "standsAlone", "(I)Z"⟩
def RX1 : String := "MoonPromises$Ledger"
def TX1 : u_T := fun k => match k with
  | 0 => ("MoonPromises$Ledger", "debts", "[I", true)
  | 1 => ("MoonPromises$Ledger", "people", "I", false)
  | 2 => ("MoonPromises$Ledger", "ringWorth", "I", false)
  | _ => ("MoonPromises$Ledger", "ringPeople", "[I", true)
def tyX1 : Nat → FieldType := fun k => match k with
  | 0 => .array .int
  | 1 => .int
  | 2 => .int
  | _ => .array .int
abbrev wsX10 : List Cond := u_ws RX1 TX1 4
theorem nmX1 : ∀ a, a < 4 → ∀ b, b < 4 → a ≠ b → (TX1 a).2.1 ≠ (TX1 b).2.1 := by decide +kernel
theorem tyX1_ok : ∀ k, k < 4 → parseFieldDescriptor (TX1 k).2.2.1 = some (tyX1 k) := by decide +kernel
abbrev cX1_init : ByteArray := prog_3_method_1_code
def yX1_init : MethodName := ⟨RX1, "<init>", "()V"⟩
abbrev cX1_fill : ByteArray := prog_3_method_2_code
def yX1_fill : MethodName := ⟨RX1, "fill", "(LMoonPromises$Course;I)V"⟩
abbrev cX1_debt : ByteArray := prog_3_method_3_code
def yX1_debt : MethodName := ⟨RX1, "debt", "(II)I"⟩
abbrev cX1_owing : ByteArray := prog_3_method_4_code
def yX1_owing : MethodName := ⟨RX1, "owing", "(I)I"⟩
abbrev cX1_due : ByteArray := prog_3_method_5_code
def yX1_due : MethodName := ⟨RX1, "due", "(I)I"⟩
abbrev cX1_first : ByteArray := prog_3_method_6_code
def yX1_first : MethodName := ⟨RX1, "first", "()I"⟩
abbrev cX1_ringOf : ByteArray := prog_3_method_7_code
def yX1_ringOf : MethodName := ⟨RX1, "ringOf", "(III)I"⟩
abbrev cX1_seekRing : ByteArray := prog_3_method_8_code
def yX1_seekRing : MethodName := ⟨RX1, "seekRing", "()V"⟩
def RX2 : String := "MoonPromises$Planner"
def TX2 : u_T := fun k => match k with
  | 0 => ("MoonPromises$Planner", "isles", "I", false)
  | 1 => ("MoonPromises$Planner", "length", "I", false)
  | 2 => ("MoonPromises$Planner", "start", "I", false)
  | 3 => ("MoonPromises$Planner", "asked", "I", false)
  | 4 => ("MoonPromises$Planner", "legs", "[I", true)
  | 5 => ("MoonPromises$Planner", "missed", "[I", true)
  | 6 => ("MoonPromises$Planner", "spoken", "[I", true)
  | 7 => ("MoonPromises$Planner", "least", "[I", true)
  | 8 => ("MoonPromises$Planner", "ways", "[J", true)
  | 9 => ("MoonPromises$Planner", "loveOars", "I", false)
  | _ => ("MoonPromises$Planner", "loveMoon", "I", false)
def tyX2 : Nat → FieldType := fun k => match k with
  | 0 => .int
  | 1 => .int
  | 2 => .int
  | 3 => .int
  | 4 => .array .int
  | 5 => .array .int
  | 6 => .array .int
  | 7 => .array .int
  | 8 => .array .long
  | 9 => .int
  | _ => .int
abbrev wsX20 : List Cond := u_ws RX2 TX2 11
theorem nmX2 : ∀ a, a < 11 → ∀ b, b < 11 → a ≠ b → (TX2 a).2.1 ≠ (TX2 b).2.1 := by decide +kernel
theorem tyX2_ok : ∀ k, k < 11 → parseFieldDescriptor (TX2 k).2.2.1 = some (tyX2 k) := by decide +kernel
abbrev cX2_init : ByteArray := prog_4_method_1_code
def yX2_init : MethodName := ⟨RX2, "<init>", "()V"⟩
abbrev cX2_prepare : ByteArray := prog_4_method_2_code
def yX2_prepare : MethodName := ⟨RX2, "prepare", "(LMoonPromises$Course;II)V"⟩
abbrev cX2_layLegs : ByteArray := prog_4_method_3_code
def yX2_layLegs : MethodName := ⟨RX2, "layLegs", "(LMoonPromises$Course;II)V"⟩
abbrev cX2_laySpoken : ByteArray := prog_4_method_4_code
def yX2_laySpoken : MethodName := ⟨RX2, "laySpoken", "(LMoonPromises$Course;I)V"⟩
abbrev cX2_layMissed : ByteArray := prog_4_method_5_code
def yX2_layMissed : MethodName := ⟨RX2, "layMissed", "(LMoonPromises$Course;I)V"⟩
abbrev cX2_leg : ByteArray := prog_4_method_6_code
def yX2_leg : MethodName := ⟨RX2, "leg", "(III)I"⟩
abbrev cX2_isKeeping : ByteArray := prog_4_method_7_code
def yX2_isKeeping : MethodName := ⟨RX2, "isKeeping", "(I)Z"⟩
abbrev cX2_leastOars : ByteArray := prog_4_method_8_code
def yX2_leastOars : MethodName := ⟨RX2, "leastOars", "()I"⟩
abbrev cX2_leastFrom : ByteArray := prog_4_method_9_code
def yX2_leastFrom : MethodName := ⟨RX2, "leastFrom", "(II)I"⟩
abbrev cX2_oarsBy : ByteArray := prog_4_method_10_code
def yX2_oarsBy : MethodName := ⟨RX2, "oarsBy", "(III)I"⟩
abbrev cX2_isleOfFirst : ByteArray := prog_4_method_11_code
def yX2_isleOfFirst : MethodName := ⟨RX2, "isleOfFirst", "(I)I"⟩
abbrev cX2_countPlans : ByteArray := prog_4_method_12_code
def yX2_countPlans : MethodName := ⟨RX2, "countPlans", "()J"⟩
abbrev cX2_leastFallen : ByteArray := prog_4_method_13_code
def yX2_leastFallen : MethodName := ⟨RX2, "leastFallen", "()I"⟩
abbrev cX2_canKeep : ByteArray := prog_4_method_14_code
def yX2_canKeep : MethodName := ⟨RX2, "canKeep", "(I)Z"⟩
abbrev cX2_reached : ByteArray := prog_4_method_15_code
def yX2_reached : MethodName := ⟨RX2, "reached", "(III)I"⟩
abbrev cX2_seekLove : ByteArray := prog_4_method_16_code
def yX2_seekLove : MethodName := ⟨RX2, "seekLove", "(LMoonPromises$Course;III)V"⟩
abbrev cX2_layReach : ByteArray := prog_4_method_17_code
def yX2_layReach : MethodName := ⟨RX2, "layReach", "()V"⟩
abbrev cX2_leastTo : ByteArray := prog_4_method_18_code
def yX2_leastTo : MethodName := ⟨RX2, "leastTo", "(II)I"⟩
def RX3 : String := "MoonPromises$Reader"
def TX3 : u_T := fun k => match k with
  | 0 => ("MoonPromises$Reader", "tape", "[B", true)
  | 1 => ("MoonPromises$Reader", "length", "I", false)
  | 2 => ("MoonPromises$Reader", "draft", "LMoonPromises$Told;", true)
  | 3 => ("MoonPromises$Reader", "fault", "I", false)
  | 4 => ("MoonPromises$Reader", "faultPlace", "I", false)
  | 5 => ("MoonPromises$Reader", "kind", "I", false)
  | 6 => ("MoonPromises$Reader", "start", "I", false)
  | 7 => ("MoonPromises$Reader", "stop", "I", false)
  | 8 => ("MoonPromises$Reader", "value", "I", false)
  | _ => ("MoonPromises$Reader", "taken", "I", false)
def tyX3 : Nat → FieldType := fun k => match k with
  | 0 => .array .byte
  | 1 => .int
  | 2 => .object "MoonPromises$Told"
  | 3 => .int
  | 4 => .int
  | 5 => .int
  | 6 => .int
  | 7 => .int
  | 8 => .int
  | _ => .int
abbrev wsX30 : List Cond := u_ws RX3 TX3 10
theorem nmX3 : ∀ a, a < 10 → ∀ b, b < 10 → a ≠ b → (TX3 a).2.1 ≠ (TX3 b).2.1 := by decide +kernel
theorem tyX3_ok : ∀ k, k < 10 → parseFieldDescriptor (TX3 k).2.2.1 = some (tyX3 k) := by decide +kernel
abbrev cX3_init : ByteArray := prog_5_method_1_code
def yX3_init : MethodName := ⟨RX3, "<init>", "()V"⟩
abbrev cX3_addFour : ByteArray := prog_5_method_2_code
def yX3_addFour : MethodName := ⟨RX3, "addFour", "(I)V"⟩
abbrev cX3_readAll : ByteArray := prog_5_method_3_code
def yX3_readAll : MethodName := ⟨RX3, "readAll", "()Z"⟩
abbrev cX3_takeLine : ByteArray := prog_5_method_4_code
def yX3_takeLine : MethodName := ⟨RX3, "takeLine", "()Z"⟩
abbrev cX3_takeIsles : ByteArray := prog_5_method_5_code
def yX3_takeIsles : MethodName := ⟨RX3, "takeIsles", "()Z"⟩
abbrev cX3_takeSea : ByteArray := prog_5_method_6_code
def yX3_takeSea : MethodName := ⟨RX3, "takeSea", "()Z"⟩
abbrev cX3_takePerson : ByteArray := prog_5_method_7_code
def yX3_takePerson : MethodName := ⟨RX3, "takePerson", "()Z"⟩
abbrev cX3_takePromise : ByteArray := prog_5_method_8_code
def yX3_takePromise : MethodName := ⟨RX3, "takePromise", "()Z"⟩
abbrev cX3_takePromiseMarks : ByteArray := prog_5_method_9_code
def yX3_takePromiseMarks : MethodName := ⟨RX3, "takePromiseMarks", "(I)Z"⟩
abbrev cX3_takeShut : ByteArray := prog_5_method_10_code
def yX3_takeShut : MethodName := ⟨RX3, "takeShut", "()Z"⟩
abbrev cX3_takeWord : ByteArray := prog_5_method_11_code
def yX3_takeWord : MethodName := ⟨RX3, "takeWord", "(Ljava/lang/String;)Z"⟩
abbrev cX3_takeNumber : ByteArray := prog_5_method_12_code
def yX3_takeNumber : MethodName := ⟨RX3, "takeNumber", "(III)Z"⟩
abbrev cX3_takeSign : ByteArray := prog_5_method_13_code
def yX3_takeSign : MethodName := ⟨RX3, "takeSign", "()Z"⟩
abbrev cX3_fail : ByteArray := prog_5_method_14_code
def yX3_fail : MethodName := ⟨RX3, "fail", "(I)Z"⟩
abbrev cX3_isWord : ByteArray := prog_5_method_15_code
def yX3_isWord : MethodName := ⟨RX3, "isWord", "(Ljava/lang/String;)Z"⟩
abbrev cX3_step : ByteArray := prog_5_method_16_code
def yX3_step : MethodName := ⟨RX3, "step", "()V"⟩
abbrev cX3_isLetter : ByteArray := prog_5_method_17_code
def yX3_isLetter : MethodName := ⟨RX3, "isLetter", "(I)Z"⟩
abbrev cX3_isDigit : ByteArray := prog_5_method_18_code
def yX3_isDigit : MethodName := ⟨RX3, "isDigit", "(I)Z"⟩
def RX4 : String := "MoonPromises$Scales"
def TX4 : u_T := fun k => match k with
  | 0 => ("MoonPromises$Scales", "full", "I", false)
  | 1 => ("MoonPromises$Scales", "first", "I", false)
  | 2 => ("MoonPromises$Scales", "drunk", "I", false)
  | 3 => ("MoonPromises$Scales", "weights", "[I", true)
  | 4 => ("MoonPromises$Scales", "clashing", "Z", false)
  | 5 => ("MoonPromises$Scales", "ways", "I", false)
  | 6 => ("MoonPromises$Scales", "inAll", "I", false)
  | 7 => ("MoonPromises$Scales", "inSome", "I", false)
  | 8 => ("MoonPromises$Scales", "fewest", "I", false)
  | _ => ("MoonPromises$Scales", "tally", "[I", true)
def tyX4 : Nat → FieldType := fun k => match k with
  | 0 => .int
  | 1 => .int
  | 2 => .int
  | 3 => .array .int
  | 4 => .boolean
  | 5 => .int
  | 6 => .int
  | 7 => .int
  | 8 => .int
  | _ => .array .int
abbrev wsX40 : List Cond := u_ws RX4 TX4 10
theorem nmX4 : ∀ a, a < 10 → ∀ b, b < 10 → a ≠ b → (TX4 a).2.1 ≠ (TX4 b).2.1 := by decide +kernel
theorem tyX4_ok : ∀ k, k < 10 → parseFieldDescriptor (TX4 k).2.2.1 = some (tyX4 k) := by decide +kernel
abbrev cX4_init : ByteArray := prog_6_method_1_code
def yX4_init : MethodName := ⟨RX4, "<init>", "()V"⟩
abbrev cX4_load : ByteArray := prog_6_method_2_code
def yX4_load : MethodName := ⟨RX4, "load", "(LMoonPromises$Told;ILMoonPromises$Slots;I)Z"⟩
abbrev cX4_survey : ByteArray := prog_6_method_3_code
def yX4_survey : MethodName := ⟨RX4, "survey", "()V"⟩
abbrev cX4_fits : ByteArray := prog_6_method_4_code
def yX4_fits : MethodName := ⟨RX4, "fits", "(I)Z"⟩
abbrev cX4_halvingsIn : ByteArray := prog_6_method_5_code
def yX4_halvingsIn : MethodName := ⟨RX4, "halvingsIn", "(III)I"⟩
abbrev cX4_addToTally : ByteArray := prog_6_method_6_code
def yX4_addToTally : MethodName := ⟨RX4, "addToTally", "(I)V"⟩
abbrev cX4_bestMoon : ByteArray := prog_6_method_7_code
def yX4_bestMoon : MethodName := ⟨RX4, "bestMoon", "()I"⟩
abbrev cX4_worstLeft : ByteArray := prog_6_method_8_code
def yX4_worstLeft : MethodName := ⟨RX4, "worstLeft", "(I)I"⟩
abbrev cX4_firstMoons : ByteArray := prog_6_method_9_code
def yX4_firstMoons : MethodName := ⟨RX4, "firstMoons", "()I"⟩
abbrev cX4_fitsFirst : ByteArray := prog_6_method_10_code
def yX4_fitsFirst : MethodName := ⟨RX4, "fitsFirst", "(I)Z"⟩
abbrev cX4_fullBound : ByteArray := prog_6_method_11_code
def yX4_fullBound : MethodName := ⟨RX4, "fullBound", "(I)I"⟩
def RX5 : String := "MoonPromises$Slots"
def TX5 : u_T := fun k => match k with
  | 0 => ("MoonPromises$Slots", "numbers", "[J", true)
  | 1 => ("MoonPromises$Slots", "widths", "[I", true)
  | _ => ("MoonPromises$Slots", "lengths", "[I", true)
def tyX5 : Nat → FieldType := fun k => match k with
  | 0 => .array .long
  | 1 => .array .int
  | _ => .array .int
abbrev wsX50 : List Cond := u_ws RX5 TX5 3
theorem nmX5 : ∀ a, a < 3 → ∀ b, b < 3 → a ≠ b → (TX5 a).2.1 ≠ (TX5 b).2.1 := by decide +kernel
theorem tyX5_ok : ∀ k, k < 3 → parseFieldDescriptor (TX5 k).2.2.1 = some (tyX5 k) := by decide +kernel
abbrev cX5_init : ByteArray := prog_7_method_1_code
def yX5_init : MethodName := ⟨RX5, "<init>", "()V"⟩
abbrev cX5_isSlot : ByteArray := prog_7_method_2_code
def yX5_isSlot : MethodName := ⟨RX5, "isSlot", "(I)Z"⟩
abbrev cX5_isTaken : ByteArray := prog_7_method_3_code
def yX5_isTaken : MethodName := ⟨RX5, "isTaken", "(I)Z"⟩
abbrev cX5_countTaken : ByteArray := prog_7_method_4_code
def yX5_countTaken : MethodName := ⟨RX5, "countTaken", "()I"⟩
abbrev cX5_lay : ByteArray := prog_7_method_5_code
def yX5_lay : MethodName := ⟨RX5, "lay", "(III)V"⟩
abbrev cX5_at : ByteArray := prog_7_method_6_code
def yX5_at : MethodName := ⟨RX5, "at", "(II)J"⟩
abbrev cX5_put : ByteArray := prog_7_method_7_code
def yX5_put : MethodName := ⟨RX5, "put", "(IIJ)V"⟩
abbrev cX5_cut : ByteArray := prog_7_method_8_code
def yX5_cut : MethodName := ⟨RX5, "cut", "(JI)J"⟩
abbrev cX5_holds : ByteArray := prog_7_method_9_code
def yX5_holds : MethodName := ⟨RX5, "holds", "(III)Z"⟩
abbrev cX5_move : ByteArray := prog_7_method_10_code
def yX5_move : MethodName := ⟨RX5, "move", "(IIIII)V"⟩
def RX6 : String := "MoonPromises$Threat"
def TX6 : u_T := fun k => match k with
  | 0 => ("MoonPromises$Threat", "heaps", "I", false)
  | 1 => ("MoonPromises$Threat", "heap", "[I", true)
  | _ => ("MoonPromises$Threat", "values", "[I", true)
def tyX6 : Nat → FieldType := fun k => match k with
  | 0 => .int
  | 1 => .array .int
  | _ => .array .int
abbrev wsX60 : List Cond := u_ws RX6 TX6 3
theorem nmX6 : ∀ a, a < 3 → ∀ b, b < 3 → a ≠ b → (TX6 a).2.1 ≠ (TX6 b).2.1 := by decide +kernel
theorem tyX6_ok : ∀ k, k < 3 → parseFieldDescriptor (TX6 k).2.2.1 = some (tyX6 k) := by decide +kernel
abbrev cX6_init : ByteArray := prog_8_method_1_code
def yX6_init : MethodName := ⟨RX6, "<init>", "()V"⟩
abbrev cX6_load : ByteArray := prog_8_method_2_code
def yX6_load : MethodName := ⟨RX6, "load", "(LMoonPromises$Slots;I)Z"⟩
abbrev cX6_total : ByteArray := prog_8_method_3_code
def yX6_total : MethodName := ⟨RX6, "total", "()I"⟩
abbrev cX6_winningTurn : ByteArray := prog_8_method_4_code
def yX6_winningTurn : MethodName := ⟨RX6, "winningTurn", "()I"⟩
def RX7 : String := "MoonPromises$Told"
def TX7 : u_T := fun k => match k with
  | 0 => ("MoonPromises$Told", "lines", "I", false)
  | 1 => ("MoonPromises$Told", "isles", "I", false)
  | 2 => ("MoonPromises$Told", "moon", "I", false)
  | 3 => ("MoonPromises$Told", "people", "I", false)
  | 4 => ("MoonPromises$Told", "promises", "I", false)
  | 5 => ("MoonPromises$Told", "actCount", "I", false)
  | 6 => ("MoonPromises$Told", "seas", "[I", true)
  | 7 => ("MoonPromises$Told", "shut", "[J", true)
  | 8 => ("MoonPromises$Told", "home", "[I", true)
  | 9 => ("MoonPromises$Told", "death", "[I", true)
  | 10 => ("MoonPromises$Told", "tending", "[I", true)
  | 11 => ("MoonPromises$Told", "ower", "[I", true)
  | 12 => ("MoonPromises$Told", "owee", "[I", true)
  | 13 => ("MoonPromises$Told", "full", "[I", true)
  | 14 => ("MoonPromises$Told", "first", "[I", true)
  | 15 => ("MoonPromises$Told", "drunk", "[I", true)
  | 16 => ("MoonPromises$Told", "base", "[I", true)
  | _ => ("MoonPromises$Told", "acts", "[I", true)
def tyX7 : Nat → FieldType := fun k => match k with
  | 0 => .int
  | 1 => .int
  | 2 => .int
  | 3 => .int
  | 4 => .int
  | 5 => .int
  | 6 => .array .int
  | 7 => .array .long
  | 8 => .array .int
  | 9 => .array .int
  | 10 => .array .int
  | 11 => .array .int
  | 12 => .array .int
  | 13 => .array .int
  | 14 => .array .int
  | 15 => .array .int
  | 16 => .array .int
  | _ => .array .int
abbrev wsX70 : List Cond := u_ws RX7 TX7 18
theorem nmX7 : ∀ a, a < 18 → ∀ b, b < 18 → a ≠ b → (TX7 a).2.1 ≠ (TX7 b).2.1 := by decide +kernel
theorem tyX7_ok : ∀ k, k < 18 → parseFieldDescriptor (TX7 k).2.2.1 = some (tyX7 k) := by decide +kernel
abbrev cX7_init : ByteArray := prog_9_method_1_code
def yX7_init : MethodName := ⟨RX7, "<init>", "()V"⟩
abbrev cX7_clear : ByteArray := prog_9_method_2_code
def yX7_clear : MethodName := ⟨RX7, "clear", "()V"⟩
abbrev cX7_copyFrom : ByteArray := prog_9_method_3_code
def yX7_copyFrom : MethodName := ⟨RX7, "copyFrom", "(LMoonPromises$Told;)V"⟩
abbrev cX7_isIsle : ByteArray := prog_9_method_4_code
def yX7_isIsle : MethodName := ⟨RX7, "isIsle", "(I)Z"⟩
abbrev cX7_isPerson : ByteArray := prog_9_method_5_code
def yX7_isPerson : MethodName := ⟨RX7, "isPerson", "(I)Z"⟩
abbrev cX7_isPromise : ByteArray := prog_9_method_6_code
def yX7_isPromise : MethodName := ⟨RX7, "isPromise", "(I)Z"⟩
abbrev cX7_addPerson : ByteArray := prog_9_method_7_code
def yX7_addPerson : MethodName := ⟨RX7, "addPerson", "(I)V"⟩
abbrev cX7_addPromise : ByteArray := prog_9_method_8_code
def yX7_addPromise : MethodName := ⟨RX7, "addPromise", "(IIII)V"⟩
abbrev cX7_laySea : ByteArray := prog_9_method_9_code
def yX7_laySea : MethodName := ⟨RX7, "laySea", "(III)V"⟩
abbrev cX7_oarsBetween : ByteArray := prog_9_method_10_code
def yX7_oarsBetween : MethodName := ⟨RX7, "oarsBetween", "(II)I"⟩
abbrev cX7_countSeas : ByteArray := prog_9_method_11_code
def yX7_countSeas : MethodName := ⟨RX7, "countSeas", "()I"⟩
abbrev cX7_isShut : ByteArray := prog_9_method_12_code
def yX7_isShut : MethodName := ⟨RX7, "isShut", "(II)Z"⟩
abbrev cX7_setShut : ByteArray := prog_9_method_13_code
def yX7_setShut : MethodName := ⟨RX7, "setShut", "(IIZ)V"⟩
abbrev cX7_countShut : ByteArray := prog_9_method_14_code
def yX7_countShut : MethodName := ⟨RX7, "countShut", "()I"⟩
abbrev cX7_lives : ByteArray := prog_9_method_15_code
def yX7_lives : MethodName := ⟨RX7, "lives", "(II)Z"⟩
abbrev cX7_bothLive : ByteArray := prog_9_method_16_code
def yX7_bothLive : MethodName := ⟨RX7, "bothLive", "(II)Z"⟩
abbrev cX7_oarsOfLeg : ByteArray := prog_9_method_17_code
def yX7_oarsOfLeg : MethodName := ⟨RX7, "oarsOfLeg", "(IIII)I"⟩
abbrev cX7_ownHalvings : ByteArray := prog_9_method_18_code
def yX7_ownHalvings : MethodName := ⟨RX7, "ownHalvings", "(III)I"⟩
abbrev cX7_halvingsBy : ByteArray := prog_9_method_19_code
def yX7_halvingsBy : MethodName := ⟨RX7, "halvingsBy", "([III)I"⟩
abbrev cX7_worthBy : ByteArray := prog_9_method_20_code
def yX7_worthBy : MethodName := ⟨RX7, "worthBy", "([III)I"⟩
def RX8 : String := "MoonPromises$Years"
def TX8 : u_T := fun k => match k with
  | 0 => ("MoonPromises$Years", "lasts", "[I", true)
  | 1 => ("MoonPromises$Years", "worthAtLast", "I", false)
  | _ => ("MoonPromises$Years", "sayings", "I", false)
def tyX8 : Nat → FieldType := fun k => match k with
  | 0 => .array .int
  | 1 => .int
  | _ => .int
abbrev wsX80 : List Cond := u_ws RX8 TX8 3
theorem nmX8 : ∀ a, a < 3 → ∀ b, b < 3 → a ≠ b → (TX8 a).2.1 ≠ (TX8 b).2.1 := by decide +kernel
theorem tyX8_ok : ∀ k, k < 3 → parseFieldDescriptor (TX8 k).2.2.1 = some (tyX8 k) := by decide +kernel
abbrev cX8_init : ByteArray := prog_10_method_1_code
def yX8_init : MethodName := ⟨RX8, "<init>", "()V"⟩
abbrev cX8_pass : ByteArray := prog_10_method_2_code
def yX8_pass : MethodName := ⟨RX8, "pass", "(LMoonPromises$Course;III)V"⟩
def RX9 : String := "MoonPromises"
def TX9 : u_T := fun k => match k with
  | 0 => ("MoonPromises", "reader", "LMoonPromises$Reader;", true)
  | 1 => ("MoonPromises", "course", "LMoonPromises$Course;", true)
  | 2 => ("MoonPromises", "images", "[LMoonPromises$Told;", true)
  | 3 => ("MoonPromises", "ledger", "LMoonPromises$Ledger;", true)
  | 4 => ("MoonPromises", "planner", "LMoonPromises$Planner;", true)
  | 5 => ("MoonPromises", "scales", "LMoonPromises$Scales;", true)
  | 6 => ("MoonPromises", "threat", "LMoonPromises$Threat;", true)
  | 7 => ("MoonPromises", "years", "LMoonPromises$Years;", true)
  | _ => ("MoonPromises", "slots", "LMoonPromises$Slots;", true)
def tyX9 : Nat → FieldType := fun k => match k with
  | 0 => .object "MoonPromises$Reader"
  | 1 => .object "MoonPromises$Course"
  | 2 => .array (.object "MoonPromises$Told")
  | 3 => .object "MoonPromises$Ledger"
  | 4 => .object "MoonPromises$Planner"
  | 5 => .object "MoonPromises$Scales"
  | 6 => .object "MoonPromises$Threat"
  | 7 => .object "MoonPromises$Years"
  | _ => .object "MoonPromises$Slots"
abbrev wsX90 : List Cond := u_ws RX9 TX9 9
theorem nmX9 : ∀ a, a < 9 → ∀ b, b < 9 → a ≠ b → (TX9 a).2.1 ≠ (TX9 b).2.1 := by decide +kernel
theorem tyX9_ok : ∀ k, k < 9 → parseFieldDescriptor (TX9 k).2.2.1 = some (tyX9 k) := by decide +kernel
abbrev cX9_init : ByteArray := prog_1_method_1_code
def yX9_init : MethodName := ⟨RX9, "<init>", "()V"⟩
abbrev cX9_feed : ByteArray := prog_1_method_2_code
def yX9_feed : MethodName := ⟨RX9, "feed", "(IIIII)I"⟩
abbrev cX9_end : ByteArray := prog_1_method_3_code
def yX9_end : MethodName := ⟨RX9, "end", "(I)I"⟩
abbrev cX9_isles : ByteArray := prog_1_method_4_code
def yX9_isles : MethodName := ⟨RX9, "isles", "()I"⟩
abbrev cX9_fault : ByteArray := prog_1_method_5_code
def yX9_fault : MethodName := ⟨RX9, "fault", "(I)I"⟩
abbrev cX9_person : ByteArray := prog_1_method_6_code
def yX9_person : MethodName := ⟨RX9, "person", "(II)I"⟩
abbrev cX9_promise : ByteArray := prog_1_method_7_code
def yX9_promise : MethodName := ⟨RX9, "promise", "(II)I"⟩
abbrev cX9_sea : ByteArray := prog_1_method_8_code
def yX9_sea : MethodName := ⟨RX9, "sea", "(II)I"⟩
abbrev cX9_open : ByteArray := prog_1_method_9_code
def yX9_open : MethodName := ⟨RX9, "open", "(II)I"⟩
abbrev cX9_halvings : ByteArray := prog_1_method_10_code
def yX9_halvings : MethodName := ⟨RX9, "halvings", "(II)I"⟩
abbrev cX9_worth : ByteArray := prog_1_method_11_code
def yX9_worth : MethodName := ⟨RX9, "worth", "(II)I"⟩
abbrev cX9_falls : ByteArray := prog_1_method_12_code
def yX9_falls : MethodName := ⟨RX9, "falls", "(II)I"⟩
abbrev cX9_owed : ByteArray := prog_1_method_13_code
def yX9_owed : MethodName := ⟨RX9, "owed", "(III)I"⟩
abbrev cX9_sum : ByteArray := prog_1_method_14_code
def yX9_sum : MethodName := ⟨RX9, "sum", "(III)I"⟩
abbrev cX9_richest : ByteArray := prog_1_method_15_code
def yX9_richest : MethodName := ⟨RX9, "richest", "(I)I"⟩
abbrev cX9_greatest : ByteArray := prog_1_method_16_code
def yX9_greatest : MethodName := ⟨RX9, "greatest", "(I)I"⟩
abbrev cX9_root : ByteArray := prog_1_method_17_code
def yX9_root : MethodName := ⟨RX9, "root", "(I)I"⟩
abbrev cX9_upon : ByteArray := prog_1_method_18_code
def yX9_upon : MethodName := ⟨RX9, "upon", "(I)I"⟩
abbrev cX9_now : ByteArray := prog_1_method_19_code
def yX9_now : MethodName := ⟨RX9, "now", "()I"⟩
abbrev cX9_where : ByteArray := prog_1_method_20_code
def yX9_where : MethodName := ⟨RX9, "where", "(I)I"⟩
abbrev cX9_rowed : ByteArray := prog_1_method_21_code
def yX9_rowed : MethodName := ⟨RX9, "rowed", "(I)I"⟩
abbrev cX9_rows : ByteArray := prog_1_method_22_code
def yX9_rows : MethodName := ⟨RX9, "rows", "(II)I"⟩
abbrev cX9_says : ByteArray := prog_1_method_23_code
def yX9_says : MethodName := ⟨RX9, "says", "(I)I"⟩
abbrev cX9_passes : ByteArray := prog_1_method_24_code
def yX9_passes : MethodName := ⟨RX9, "passes", "()I"⟩
abbrev cX9_undo : ByteArray := prog_1_method_25_code
def yX9_undo : MethodName := ⟨RX9, "undo", "()I"⟩
abbrev cX9_anew : ByteArray := prog_1_method_26_code
def yX9_anew : MethodName := ⟨RX9, "anew", "()I"⟩
abbrev cX9_act : ByteArray := prog_1_method_27_code
def yX9_act : MethodName := ⟨RX9, "act", "(I)I"⟩
abbrev cX9_can : ByteArray := prog_1_method_28_code
def yX9_can : MethodName := ⟨RX9, "can", "()I"⟩
abbrev cX9_sails : ByteArray := prog_1_method_29_code
def yX9_sails : MethodName := ⟨RX9, "sails", "(I)I"⟩
abbrev cX9_keeps : ByteArray := prog_1_method_30_code
def yX9_keeps : MethodName := ⟨RX9, "keeps", "(II)I"⟩
abbrev cX9_plan : ByteArray := prog_1_method_31_code
def yX9_plan : MethodName := ⟨RX9, "plan", "(III)I"⟩
abbrev cX9_lets : ByteArray := prog_1_method_32_code
def yX9_lets : MethodName := ⟨RX9, "lets", "(II)I"⟩
abbrev cX9_fallen : ByteArray := prog_1_method_33_code
def yX9_fallen : MethodName := ⟨RX9, "fallen", "(II)I"⟩
abbrev cX9_plans : ByteArray := prog_1_method_34_code
def yX9_plans : MethodName := ⟨RX9, "plans", "(II)J"⟩
abbrev cX9_love : ByteArray := prog_1_method_35_code
def yX9_love : MethodName := ⟨RX9, "love", "(III)I"⟩
abbrev cX9_when : ByteArray := prog_1_method_36_code
def yX9_when : MethodName := ⟨RX9, "when", "(III)I"⟩
abbrev cX9_joins : ByteArray := prog_1_method_37_code
def yX9_joins : MethodName := ⟨RX9, "joins", "(II)I"⟩
abbrev cX9_joined : ByteArray := prog_1_method_38_code
def yX9_joined : MethodName := ⟨RX9, "joined", "()I"⟩
abbrev cX9_ring : ByteArray := prog_1_method_39_code
def yX9_ring : MethodName := ⟨RX9, "ring", "(I)I"⟩
abbrev cX9_ringed : ByteArray := prog_1_method_40_code
def yX9_ringed : MethodName := ⟨RX9, "ringed", "(II)I"⟩
abbrev cX9_strikes : ByteArray := prog_1_method_41_code
def yX9_strikes : MethodName := ⟨RX9, "strikes", "(IIII)I"⟩
abbrev cX9_weighed : ByteArray := prog_1_method_42_code
def yX9_weighed : MethodName := ⟨RX9, "weighed", "(II)I"⟩
abbrev cX9_must : ByteArray := prog_1_method_43_code
def yX9_must : MethodName := ⟨RX9, "must", "(III)I"⟩
abbrev cX9_times : ByteArray := prog_1_method_44_code
def yX9_times : MethodName := ⟨RX9, "times", "(II)I"⟩
abbrev cX9_weigh : ByteArray := prog_1_method_45_code
def yX9_weigh : MethodName := ⟨RX9, "weigh", "(II)I"⟩
abbrev cX9_said : ByteArray := prog_1_method_46_code
def yX9_said : MethodName := ⟨RX9, "said", "(II)I"⟩
abbrev cX9_span : ByteArray := prog_1_method_47_code
def yX9_span : MethodName := ⟨RX9, "span", "(III)I"⟩
abbrev cX9_wins : ByteArray := prog_1_method_48_code
def yX9_wins : MethodName := ⟨RX9, "wins", "(I)I"⟩
abbrev cX9_turn : ByteArray := prog_1_method_49_code
def yX9_turn : MethodName := ⟨RX9, "turn", "(I)I"⟩
abbrev cX9_drawn : ByteArray := prog_1_method_50_code
def yX9_drawn : MethodName := ⟨RX9, "drawn", "(III)I"⟩
abbrev cX9_often : ByteArray := prog_1_method_51_code
def yX9_often : MethodName := ⟨RX9, "often", "(III)I"⟩
abbrev cX9_lucky : ByteArray := prog_1_method_52_code
def yX9_lucky : MethodName := ⟨RX9, "lucky", "(IIII)I"⟩
abbrev cX9_promises : ByteArray := prog_1_method_53_code
def yX9_promises : MethodName := ⟨RX9, "promises", "(III)I"⟩
abbrev cX9_shuts : ByteArray := prog_1_method_54_code
def yX9_shuts : MethodName := ⟨RX9, "shuts", "(III)I"⟩
abbrev cX9_tends : ByteArray := prog_1_method_55_code
def yX9_tends : MethodName := ⟨RX9, "tends", "(II)I"⟩
abbrev cX9_count : ByteArray := prog_1_method_56_code
def yX9_count : MethodName := ⟨RX9, "count", "(I)I"⟩
abbrev cX9_image : ByteArray := prog_1_method_57_code
def yX9_image : MethodName := ⟨RX9, "image", "(I)I"⟩
abbrev cX9_back : ByteArray := prog_1_method_58_code
def yX9_back : MethodName := ⟨RX9, "back", "(I)I"⟩
abbrev cX9_row : ByteArray := prog_1_method_59_code
def yX9_row : MethodName := ⟨RX9, "row", "(III)I"⟩
abbrev cX9_write : ByteArray := prog_1_method_60_code
def yX9_write : MethodName := ⟨RX9, "write", "(IIJ)I"⟩
abbrev cX9_paste : ByteArray := prog_1_method_61_code
def yX9_paste : MethodName := ⟨RX9, "paste", "(IIIII)I"⟩
abbrev cX9_isMoon : ByteArray := prog_1_method_62_code
def yX9_isMoon : MethodName := ⟨RX9, "isMoon", "(I)Z"⟩
abbrev cX9_isToldMoon : ByteArray := prog_1_method_63_code
def yX9_isToldMoon : MethodName := ⟨RX9, "isToldMoon", "(I)Z"⟩
abbrev cX9_arePair : ByteArray := prog_1_method_64_code
def yX9_arePair : MethodName := ⟨RX9, "arePair", "(II)Z"⟩
abbrev cX9_canPlan : ByteArray := prog_1_method_65_code
def yX9_canPlan : MethodName := ⟨RX9, "canPlan", "(II)Z"⟩
abbrev cX9_canLove : ByteArray := prog_1_method_66_code
def yX9_canLove : MethodName := ⟨RX9, "canLove", "(III)Z"⟩
abbrev cX9_canDraw : ByteArray := prog_1_method_67_code
def yX9_canDraw : MethodName := ⟨RX9, "canDraw", "(III)Z"⟩
abbrev cX9_putOnScales : ByteArray := prog_1_method_68_code
def yX9_putOnScales : MethodName := ⟨RX9, "putOnScales", "(II)I"⟩
abbrev cX9_putInThreat : ByteArray := prog_1_method_69_code
def yX9_putInThreat : MethodName := ⟨RX9, "putInThreat", "(I)I"⟩
abbrev cX9_halved : ByteArray := prog_1_method_70_code
def yX9_halved : MethodName := ⟨RX9, "halved", "(II)I"⟩
def RX10 : String := "MoonPromisesModel"
def TX10 : u_T := fun k => match k with
  | 0 => ("MoonPromisesModel", "thrown", "I", false)
  | 1 => ("MoonPromisesModel", "width", "[I", true)
  | 2 => ("MoonPromisesModel", "many", "[I", true)
  | 3 => ("MoonPromisesModel", "cells", "[J", true)
  | 4 => ("MoonPromisesModel", "moved", "[J", true)
  | 5 => ("MoonPromisesModel", "tape", "[B", true)
  | 6 => ("MoonPromisesModel", "taped", "I", false)
  | 7 => ("MoonPromisesModel", "at", "I", false)
  | 8 => ("MoonPromisesModel", "token", "I", false)
  | 9 => ("MoonPromisesModel", "place", "I", false)
  | 10 => ("MoonPromisesModel", "value", "I", false)
  | 11 => ("MoonPromisesModel", "word", "J", false)
  | 12 => ("MoonPromisesModel", "bad", "I", false)
  | 13 => ("MoonPromisesModel", "badPlace", "I", false)
  | 14 => ("MoonPromisesModel", "fault", "I", false)
  | 15 => ("MoonPromisesModel", "faultPlace", "I", false)
  | 16 => ("MoonPromisesModel", "lines", "[I", true)
  | 17 => ("MoonPromisesModel", "has", "[I", true)
  | 18 => ("MoonPromisesModel", "sea", "[I", true)
  | 19 => ("MoonPromisesModel", "isShut", "[Z", true)
  | 20 => ("MoonPromisesModel", "person", "[I", true)
  | 21 => ("MoonPromisesModel", "promise", "[I", true)
  | 22 => ("MoonPromisesModel", "act", "[I", true)
  | 23 => ("MoonPromisesModel", "isKept", "[Z", true)
  | 24 => ("MoonPromisesModel", "moon", "I", false)
  | 25 => ("MoonPromisesModel", "where", "[I", true)
  | 26 => ("MoonPromisesModel", "rowed", "[I", true)
  | 27 => ("MoonPromisesModel", "lastRow", "[I", true)
  | 28 => ("MoonPromisesModel", "again", "[Z", true)
  | 29 => ("MoonPromisesModel", "planner", "I", false)
  | 30 => ("MoonPromisesModel", "planMoons", "I", false)
  | 31 => ("MoonPromisesModel", "tracked", "I", false)
  | 32 => ("MoonPromisesModel", "least", "[I", true)
  | 33 => ("MoonPromisesModel", "ways", "[J", true)
  | 34 => ("MoonPromisesModel", "loveOars", "I", false)
  | 35 => ("MoonPromisesModel", "loveMoon", "I", false)
  | 36 => ("MoonPromisesModel", "reach", "[I", true)
  | 37 => ("MoonPromisesModel", "reachThen", "[I", true)
  | 38 => ("MoonPromisesModel", "ring", "[I", true)
  | 39 => ("MoonPromisesModel", "wayMany", "I", false)
  | 40 => ("MoonPromisesModel", "wayAll", "I", false)
  | 41 => ("MoonPromisesModel", "waySome", "I", false)
  | 42 => ("MoonPromisesModel", "wayFewest", "I", false)
  | 43 => ("MoonPromisesModel", "byWorth", "[I", true)
  | 44 => ("MoonPromisesModel", "worthIs", "[I", true)
  | 45 => ("MoonPromisesModel", "nimber", "[I", true)
  | _ => ("MoonPromisesModel", "saidOften", "I", false)
def tyX10 : Nat → FieldType := fun k => match k with
  | 0 => .int
  | 1 => .array .int
  | 2 => .array .int
  | 3 => .array .long
  | 4 => .array .long
  | 5 => .array .byte
  | 6 => .int
  | 7 => .int
  | 8 => .int
  | 9 => .int
  | 10 => .int
  | 11 => .long
  | 12 => .int
  | 13 => .int
  | 14 => .int
  | 15 => .int
  | 16 => .array .int
  | 17 => .array .int
  | 18 => .array .int
  | 19 => .array .boolean
  | 20 => .array .int
  | 21 => .array .int
  | 22 => .array .int
  | 23 => .array .boolean
  | 24 => .int
  | 25 => .array .int
  | 26 => .array .int
  | 27 => .array .int
  | 28 => .array .boolean
  | 29 => .int
  | 30 => .int
  | 31 => .int
  | 32 => .array .int
  | 33 => .array .long
  | 34 => .int
  | 35 => .int
  | 36 => .array .int
  | 37 => .array .int
  | 38 => .array .int
  | 39 => .int
  | 40 => .int
  | 41 => .int
  | 42 => .int
  | 43 => .array .int
  | 44 => .array .int
  | 45 => .array .int
  | _ => .int
abbrev wsX100 : List Cond := u_ws RX10 TX10 47
theorem nmX10 : ∀ a, a < 47 → ∀ b, b < 47 → a ≠ b → (TX10 a).2.1 ≠ (TX10 b).2.1 := by decide +kernel
theorem tyX10_ok : ∀ k, k < 47 → parseFieldDescriptor (TX10 k).2.2.1 = some (tyX10 k) := by decide +kernel
abbrev cX10_init : ByteArray := prog_12_method_1_code
def yX10_init : MethodName := ⟨RX10, "<init>", "()V"⟩
abbrev cX10_in : ByteArray := prog_12_method_3_code
def yX10_in : MethodName := ⟨RX10, "in", "(JJJ)Z"⟩
abbrev cX10_isSlot : ByteArray := prog_12_method_4_code
def yX10_isSlot : MethodName := ⟨RX10, "isSlot", "(I)Z"⟩
abbrev cX10_row : ByteArray := prog_12_method_5_code
def yX10_row : MethodName := ⟨RX10, "row", "(III)I"⟩
abbrev cX10_cut : ByteArray := prog_12_method_6_code
def yX10_cut : MethodName := ⟨RX10, "cut", "(JI)J"⟩
abbrev cX10_write : ByteArray := prog_12_method_7_code
def yX10_write : MethodName := ⟨RX10, "write", "(IIJ)I"⟩
abbrev cX10_paste : ByteArray := prog_12_method_8_code
def yX10_paste : MethodName := ⟨RX10, "paste", "(IIIII)I"⟩
abbrev cX10_feed : ByteArray := prog_12_method_9_code
def yX10_feed : MethodName := ⟨RX10, "feed", "(IIIII)I"⟩
abbrev cX10_four : ByteArray := prog_12_method_10_code
def yX10_four : MethodName := ⟨RX10, "four", "(I)V"⟩
abbrev cX10_end : ByteArray := prog_12_method_11_code
def yX10_end : MethodName := ⟨RX10, "end", "(I)I"⟩
abbrev cX10_isByte : ByteArray := prog_12_method_12_code
def yX10_isByte : MethodName := ⟨RX10, "isByte", "(III)Z"⟩
abbrev cX10_next : ByteArray := prog_12_method_13_code
def yX10_next : MethodName := ⟨RX10, "next", "()V"⟩
abbrev cX10_isGood : ByteArray := prog_12_method_14_code
def yX10_isGood : MethodName := ⟨RX10, "isGood", "()Z"⟩
abbrev cX10_fails : ByteArray := prog_12_method_15_code
def yX10_fails : MethodName := ⟨RX10, "fails", "(I)V"⟩
abbrev cX10_is : ByteArray := prog_12_method_16_code
def yX10_is : MethodName := ⟨RX10, "is", "(J)Z"⟩
abbrev cX10_takes : ByteArray := prog_12_method_17_code
def yX10_takes : MethodName := ⟨RX10, "takes", "(J)Z"⟩
abbrev cX10_asks : ByteArray := prog_12_method_18_code
def yX10_asks : MethodName := ⟨RX10, "asks", "(J)V"⟩
abbrev cX10_number : ByteArray := prog_12_method_19_code
def yX10_number : MethodName := ⟨RX10, "number", "(II)I"⟩
abbrev cX10_number_ : ByteArray := prog_12_method_20_code
def yX10_number_ : MethodName := ⟨RX10, "number", "(JII)I"⟩
abbrev cX10_ends : ByteArray := prog_12_method_21_code
def yX10_ends : MethodName := ⟨RX10, "ends", "()V"⟩
abbrev cX10_begins : ByteArray := prog_12_method_22_code
def yX10_begins : MethodName := ⟨RX10, "begins", "()V"⟩
abbrev cX10_isOver : ByteArray := prog_12_method_23_code
def yX10_isOver : MethodName := ⟨RX10, "isOver", "()V"⟩
abbrev cX10_fault : ByteArray := prog_12_method_24_code
def yX10_fault : MethodName := ⟨RX10, "fault", "(I)I"⟩
abbrev cX10_hasRead : ByteArray := prog_12_method_25_code
def yX10_hasRead : MethodName := ⟨RX10, "hasRead", "(I)I"⟩
abbrev cX10_isleHere : ByteArray := prog_12_method_26_code
def yX10_isleHere : MethodName := ⟨RX10, "isleHere", "()I"⟩
abbrev cX10_personHere : ByteArray := prog_12_method_27_code
def yX10_personHere : MethodName := ⟨RX10, "personHere", "()I"⟩
abbrev cX10_moonHere : ByteArray := prog_12_method_28_code
def yX10_moonHere : MethodName := ⟨RX10, "moonHere", "()I"⟩
abbrev cX10_seaLine : ByteArray := prog_12_method_29_code
def yX10_seaLine : MethodName := ⟨RX10, "seaLine", "()V"⟩
abbrev cX10_personLine : ByteArray := prog_12_method_30_code
def yX10_personLine : MethodName := ⟨RX10, "personLine", "()V"⟩
abbrev cX10_promiseLine : ByteArray := prog_12_method_31_code
def yX10_promiseLine : MethodName := ⟨RX10, "promiseLine", "()V"⟩
abbrev cX10_line : ByteArray := prog_12_method_32_code
def yX10_line : MethodName := ⟨RX10, "line", "()V"⟩
abbrev cX10_clears : ByteArray := prog_12_method_33_code
def yX10_clears : MethodName := ⟨RX10, "clears", "()V"⟩
abbrev cX10_isles : ByteArray := prog_12_method_34_code
def yX10_isles : MethodName := ⟨RX10, "isles", "()I"⟩
abbrev cX10_copyRow : ByteArray := prog_12_method_35_code
def yX10_copyRow : MethodName := ⟨RX10, "copyRow", "([IIII)V"⟩
abbrev cX10_copyIsles : ByteArray := prog_12_method_36_code
def yX10_copyIsles : MethodName := ⟨RX10, "copyIsles", "(II)V"⟩
abbrev cX10_areIsles : ByteArray := prog_12_method_37_code
def yX10_areIsles : MethodName := ⟨RX10, "areIsles", "()Z"⟩
abbrev cX10_isIsle : ByteArray := prog_12_method_38_code
def yX10_isIsle : MethodName := ⟨RX10, "isIsle", "(I)Z"⟩
abbrev cX10_isPerson : ByteArray := prog_12_method_39_code
def yX10_isPerson : MethodName := ⟨RX10, "isPerson", "(I)Z"⟩
abbrev cX10_isPromise : ByteArray := prog_12_method_40_code
def yX10_isPromise : MethodName := ⟨RX10, "isPromise", "(I)Z"⟩
abbrev cX10_areTwo : ByteArray := prog_12_method_41_code
def yX10_areTwo : MethodName := ⟨RX10, "areTwo", "(II)Z"⟩
abbrev cX10_isMoon : ByteArray := prog_12_method_42_code
def yX10_isMoon : MethodName := ⟨RX10, "isMoon", "(I)Z"⟩
abbrev cX10_isBit : ByteArray := prog_12_method_43_code
def yX10_isBit : MethodName := ⟨RX10, "isBit", "(II)Z"⟩
abbrev cX10_sizeOf : ByteArray := prog_12_method_44_code
def yX10_sizeOf : MethodName := ⟨RX10, "sizeOf", "(I)I"⟩
abbrev cX10_of : ByteArray := prog_12_method_45_code
def yX10_of : MethodName := ⟨RX10, "of", "(II)I"⟩
abbrev cX10_person : ByteArray := prog_12_method_46_code
def yX10_person : MethodName := ⟨RX10, "person", "(II)I"⟩
abbrev cX10_promise : ByteArray := prog_12_method_47_code
def yX10_promise : MethodName := ⟨RX10, "promise", "(II)I"⟩
abbrev cX10_sea : ByteArray := prog_12_method_48_code
def yX10_sea : MethodName := ⟨RX10, "sea", "(II)I"⟩
abbrev cX10_open : ByteArray := prog_12_method_49_code
def yX10_open : MethodName := ⟨RX10, "open", "(II)I"⟩
abbrev cX10_isDead : ByteArray := prog_12_method_50_code
def yX10_isDead : MethodName := ⟨RX10, "isDead", "(II)Z"⟩
abbrev cX10_lays : ByteArray := prog_12_method_51_code
def yX10_lays : MethodName := ⟨RX10, "lays", "()V"⟩
abbrev cX10_ownOf : ByteArray := prog_12_method_52_code
def yX10_ownOf : MethodName := ⟨RX10, "ownOf", "(II)I"⟩
abbrev cX10_halvedOf : ByteArray := prog_12_method_53_code
def yX10_halvedOf : MethodName := ⟨RX10, "halvedOf", "(II)I"⟩
abbrev cX10_halved : ByteArray := prog_12_method_54_code
def yX10_halved : MethodName := ⟨RX10, "halved", "(II)I"⟩
abbrev cX10_worthOf : ByteArray := prog_12_method_55_code
def yX10_worthOf : MethodName := ⟨RX10, "worthOf", "(II)I"⟩
abbrev cX10_halvings : ByteArray := prog_12_method_56_code
def yX10_halvings : MethodName := ⟨RX10, "halvings", "(II)I"⟩
abbrev cX10_worth : ByteArray := prog_12_method_57_code
def yX10_worth : MethodName := ⟨RX10, "worth", "(II)I"⟩
abbrev cX10_falls : ByteArray := prog_12_method_58_code
def yX10_falls : MethodName := ⟨RX10, "falls", "(II)I"⟩
abbrev cX10_owedOf : ByteArray := prog_12_method_59_code
def yX10_owedOf : MethodName := ⟨RX10, "owedOf", "(III)I"⟩
abbrev cX10_owed : ByteArray := prog_12_method_60_code
def yX10_owed : MethodName := ⟨RX10, "owed", "(III)I"⟩
abbrev cX10_sumOf : ByteArray := prog_12_method_61_code
def yX10_sumOf : MethodName := ⟨RX10, "sumOf", "(III)I"⟩
abbrev cX10_sum : ByteArray := prog_12_method_62_code
def yX10_sum : MethodName := ⟨RX10, "sum", "(III)I"⟩
abbrev cX10_richest : ByteArray := prog_12_method_63_code
def yX10_richest : MethodName := ⟨RX10, "richest", "(I)I"⟩
abbrev cX10_greatest : ByteArray := prog_12_method_64_code
def yX10_greatest : MethodName := ⟨RX10, "greatest", "(I)I"⟩
abbrev cX10_rootOf : ByteArray := prog_12_method_65_code
def yX10_rootOf : MethodName := ⟨RX10, "rootOf", "(I)I"⟩
abbrev cX10_root : ByteArray := prog_12_method_66_code
def yX10_root : MethodName := ⟨RX10, "root", "(I)I"⟩
abbrev cX10_upon : ByteArray := prog_12_method_67_code
def yX10_upon : MethodName := ⟨RX10, "upon", "(I)I"⟩
abbrev cX10_now : ByteArray := prog_12_method_68_code
def yX10_now : MethodName := ⟨RX10, "now", "()I"⟩
abbrev cX10_where : ByteArray := prog_12_method_69_code
def yX10_where : MethodName := ⟨RX10, "where", "(I)I"⟩
abbrev cX10_rowed : ByteArray := prog_12_method_70_code
def yX10_rowed : MethodName := ⟨RX10, "rowed", "(I)I"⟩
abbrev cX10_isSea : ByteArray := prog_12_method_71_code
def yX10_isSea : MethodName := ⟨RX10, "isSea", "(IIII)Z"⟩
abbrev cX10_maySail : ByteArray := prog_12_method_72_code
def yX10_maySail : MethodName := ⟨RX10, "maySail", "(II)Z"⟩
abbrev cX10_maySay : ByteArray := prog_12_method_73_code
def yX10_maySay : MethodName := ⟨RX10, "maySay", "(I)Z"⟩
abbrev cX10_acts : ByteArray := prog_12_method_74_code
def yX10_acts : MethodName := ⟨RX10, "acts", "(I)V"⟩
abbrev cX10_isFull : ByteArray := prog_12_method_75_code
def yX10_isFull : MethodName := ⟨RX10, "isFull", "()Z"⟩
abbrev cX10_rows : ByteArray := prog_12_method_76_code
def yX10_rows : MethodName := ⟨RX10, "rows", "(II)I"⟩
abbrev cX10_says : ByteArray := prog_12_method_77_code
def yX10_says : MethodName := ⟨RX10, "says", "(I)I"⟩
abbrev cX10_passes : ByteArray := prog_12_method_78_code
def yX10_passes : MethodName := ⟨RX10, "passes", "()I"⟩
abbrev cX10_undo : ByteArray := prog_12_method_79_code
def yX10_undo : MethodName := ⟨RX10, "undo", "()I"⟩
abbrev cX10_anew : ByteArray := prog_12_method_80_code
def yX10_anew : MethodName := ⟨RX10, "anew", "()I"⟩
abbrev cX10_act : ByteArray := prog_12_method_81_code
def yX10_act : MethodName := ⟨RX10, "act", "(I)I"⟩
abbrev cX10_can : ByteArray := prog_12_method_82_code
def yX10_can : MethodName := ⟨RX10, "can", "()I"⟩
abbrev cX10_sails : ByteArray := prog_12_method_83_code
def yX10_sails : MethodName := ⟨RX10, "sails", "(I)I"⟩
abbrev cX10_saidOn : ByteArray := prog_12_method_84_code
def yX10_saidOn : MethodName := ⟨RX10, "saidOn", "(II)I"⟩
abbrev cX10_onceBehind : ByteArray := prog_12_method_85_code
def yX10_onceBehind : MethodName := ⟨RX10, "onceBehind", "(III)I"⟩
abbrev cX10_goesOn : ByteArray := prog_12_method_86_code
def yX10_goesOn : MethodName := ⟨RX10, "goesOn", "(III)V"⟩
abbrev cX10_oarsBy : ByteArray := prog_12_method_87_code
def yX10_oarsBy : MethodName := ⟨RX10, "oarsBy", "(III)I"⟩
abbrev cX10_onceNow : ByteArray := prog_12_method_88_code
def yX10_onceNow : MethodName := ⟨RX10, "onceNow", "()I"⟩
abbrev cX10_keptNow : ByteArray := prog_12_method_89_code
def yX10_keptNow : MethodName := ⟨RX10, "keptNow", "(I)I"⟩
abbrev cX10_plansFor : ByteArray := prog_12_method_90_code
def yX10_plansFor : MethodName := ⟨RX10, "plansFor", "(III)I"⟩
abbrev cX10_isPlan : ByteArray := prog_12_method_91_code
def yX10_isPlan : MethodName := ⟨RX10, "isPlan", "(II)Z"⟩
abbrev cX10_keeps : ByteArray := prog_12_method_92_code
def yX10_keeps : MethodName := ⟨RX10, "keeps", "(II)I"⟩
abbrev cX10_plan : ByteArray := prog_12_method_93_code
def yX10_plan : MethodName := ⟨RX10, "plan", "(III)I"⟩
abbrev cX10_isStep : ByteArray := prog_12_method_94_code
def yX10_isStep : MethodName := ⟨RX10, "isStep", "(IIII)Z"⟩
abbrev cX10_fallenOf : ByteArray := prog_12_method_95_code
def yX10_fallenOf : MethodName := ⟨RX10, "fallenOf", "(II)I"⟩
abbrev cX10_lets : ByteArray := prog_12_method_96_code
def yX10_lets : MethodName := ⟨RX10, "lets", "(II)I"⟩
abbrev cX10_fallen : ByteArray := prog_12_method_97_code
def yX10_fallen : MethodName := ⟨RX10, "fallen", "(II)I"⟩
abbrev cX10_plans : ByteArray := prog_12_method_98_code
def yX10_plans : MethodName := ⟨RX10, "plans", "(II)J"⟩
abbrev cX10_worthSaid : ByteArray := prog_12_method_99_code
def yX10_worthSaid : MethodName := ⟨RX10, "worthSaid", "(III)I"⟩
abbrev cX10_loves : ByteArray := prog_12_method_100_code
def yX10_loves : MethodName := ⟨RX10, "loves", "(III)V"⟩
abbrev cX10_isLove : ByteArray := prog_12_method_101_code
def yX10_isLove : MethodName := ⟨RX10, "isLove", "(III)Z"⟩
abbrev cX10_love : ByteArray := prog_12_method_102_code
def yX10_love : MethodName := ⟨RX10, "love", "(III)I"⟩
abbrev cX10_when : ByteArray := prog_12_method_103_code
def yX10_when : MethodName := ⟨RX10, "when", "(III)I"⟩
abbrev cX10_isUnder : ByteArray := prog_12_method_104_code
def yX10_isUnder : MethodName := ⟨RX10, "isUnder", "(I)Z"⟩
abbrev cX10_joinOf : ByteArray := prog_12_method_105_code
def yX10_joinOf : MethodName := ⟨RX10, "joinOf", "(II)I"⟩
abbrev cX10_joins : ByteArray := prog_12_method_106_code
def yX10_joins : MethodName := ⟨RX10, "joins", "(II)I"⟩
abbrev cX10_joined : ByteArray := prog_12_method_107_code
def yX10_joined : MethodName := ⟨RX10, "joined", "()I"⟩
abbrev cX10_struckOf : ByteArray := prog_12_method_108_code
def yX10_struckOf : MethodName := ⟨RX10, "struckOf", "(IIII)I"⟩
abbrev cX10_ringOf : ByteArray := prog_12_method_109_code
def yX10_ringOf : MethodName := ⟨RX10, "ringOf", "(I)I"⟩
abbrev cX10_ring : ByteArray := prog_12_method_110_code
def yX10_ring : MethodName := ⟨RX10, "ring", "(I)I"⟩
abbrev cX10_ringed : ByteArray := prog_12_method_111_code
def yX10_ringed : MethodName := ⟨RX10, "ringed", "(II)I"⟩
abbrev cX10_strikes : ByteArray := prog_12_method_112_code
def yX10_strikes : MethodName := ⟨RX10, "strikes", "(IIII)I"⟩
abbrev cX10_whyNot : ByteArray := prog_12_method_113_code
def yX10_whyNot : MethodName := ⟨RX10, "whyNot", "(II)I"⟩
abbrev cX10_worthBy : ByteArray := prog_12_method_114_code
def yX10_worthBy : MethodName := ⟨RX10, "worthBy", "(III)I"⟩
abbrev cX10_isWay : ByteArray := prog_12_method_115_code
def yX10_isWay : MethodName := ⟨RX10, "isWay", "(III)Z"⟩
abbrev cX10_laysWays : ByteArray := prog_12_method_116_code
def yX10_laysWays : MethodName := ⟨RX10, "laysWays", "(II)V"⟩
abbrev cX10_weighed : ByteArray := prog_12_method_117_code
def yX10_weighed : MethodName := ⟨RX10, "weighed", "(II)I"⟩
abbrev cX10_must : ByteArray := prog_12_method_118_code
def yX10_must : MethodName := ⟨RX10, "must", "(III)I"⟩
abbrev cX10_times : ByteArray := prog_12_method_119_code
def yX10_times : MethodName := ⟨RX10, "times", "(II)I"⟩
abbrev cX10_worstOf : ByteArray := prog_12_method_120_code
def yX10_worstOf : MethodName := ⟨RX10, "worstOf", "(III)I"⟩
abbrev cX10_weigh : ByteArray := prog_12_method_121_code
def yX10_weigh : MethodName := ⟨RX10, "weigh", "(II)I"⟩
abbrev cX10_said : ByteArray := prog_12_method_122_code
def yX10_said : MethodName := ⟨RX10, "said", "(II)I"⟩
abbrev cX10_span : ByteArray := prog_12_method_123_code
def yX10_span : MethodName := ⟨RX10, "span", "(III)I"⟩
abbrev cX10_laysNimbers : ByteArray := prog_12_method_124_code
def yX10_laysNimbers : MethodName := ⟨RX10, "laysNimbers", "()V"⟩
abbrev cX10_whyNoThreat : ByteArray := prog_12_method_125_code
def yX10_whyNoThreat : MethodName := ⟨RX10, "whyNoThreat", "(I)I"⟩
abbrev cX10_xorOf : ByteArray := prog_12_method_126_code
def yX10_xorOf : MethodName := ⟨RX10, "xorOf", "(I)I"⟩
abbrev cX10_wins : ByteArray := prog_12_method_127_code
def yX10_wins : MethodName := ⟨RX10, "wins", "(I)I"⟩
abbrev cX10_turn : ByteArray := prog_12_method_128_code
def yX10_turn : MethodName := ⟨RX10, "turn", "(I)I"⟩
abbrev cX10_draws : ByteArray := prog_12_method_129_code
def yX10_draws : MethodName := ⟨RX10, "draws", "(JII)I"⟩
abbrev cX10_isDraw : ByteArray := prog_12_method_130_code
def yX10_isDraw : MethodName := ⟨RX10, "isDraw", "(III)Z"⟩
abbrev cX10_drawn : ByteArray := prog_12_method_131_code
def yX10_drawn : MethodName := ⟨RX10, "drawn", "(III)I"⟩
abbrev cX10_often : ByteArray := prog_12_method_132_code
def yX10_often : MethodName := ⟨RX10, "often", "(III)I"⟩
abbrev cX10_lucky : ByteArray := prog_12_method_133_code
def yX10_lucky : MethodName := ⟨RX10, "lucky", "(IIII)I"⟩
abbrev cX10_promises : ByteArray := prog_12_method_134_code
def yX10_promises : MethodName := ⟨RX10, "promises", "(III)I"⟩
abbrev cX10_shuts : ByteArray := prog_12_method_135_code
def yX10_shuts : MethodName := ⟨RX10, "shuts", "(III)I"⟩
abbrev cX10_tends : ByteArray := prog_12_method_136_code
def yX10_tends : MethodName := ⟨RX10, "tends", "(II)I"⟩
abbrev cX10_count : ByteArray := prog_12_method_137_code
def yX10_count : MethodName := ⟨RX10, "count", "(I)I"⟩
abbrev cX10_image : ByteArray := prog_12_method_138_code
def yX10_image : MethodName := ⟨RX10, "image", "(I)I"⟩
abbrev cX10_back : ByteArray := prog_12_method_139_code
def yX10_back : MethodName := ⟨RX10, "back", "(I)I"⟩
def RJx145de : String := "java/io/Serializable"
def TJx145de : u_T := fun k => match k with
  | _ => ("", "", "", false)
def RJx9f9b0 : String := "java/lang/CharSequence"
def TJx9f9b0 : u_T := fun k => match k with
  | _ => ("", "", "", false)
def RJxb160c : String := "java/lang/Comparable"
def TJxb160c : u_T := fun k => match k with
  | _ => ("", "", "", false)
def RJ6 : String := "java/lang/Integer"
def TJ6 : u_T := fun k => match k with
  | _ => ("", "", "", false)
abbrev cJ6_bitCount_0f7a4 : ByteArray := prog_13_method_49_code
def yJ6_bitCount_0f7a4 : MethodName := ⟨RJ6, "bitCount", "(I)I"⟩
def RJ13 : String := "java/lang/Long"
def TJ13 : u_T := fun k => match k with
  | _ => ("", "", "", false)
abbrev cJ13_bitCount_95d88 : ByteArray := prog_14_method_50_code
def yJ13_bitCount_95d88 : MethodName := ⟨RJ13, "bitCount", "(J)I"⟩
def RJ9 : String := "java/lang/Math"
def TJ9 : u_T := fun k => match k with
  | _ => ("", "", "", false)
abbrev cJ9_max_7cf53 : ByteArray := prog_15_method_65_code
def yJ9_max_7cf53 : MethodName := ⟨RJ9, "max", "(II)I"⟩
abbrev cJ9_max_f86c9 : ByteArray := prog_15_method_66_code
def yJ9_max_f86c9 : MethodName := ⟨RJ9, "max", "(JJ)J"⟩
abbrev cJ9_min_7cf53 : ByteArray := prog_15_method_69_code
def yJ9_min_7cf53 : MethodName := ⟨RJ9, "min", "(II)I"⟩
abbrev cJ9_min_f86c9 : ByteArray := prog_15_method_70_code
def yJ9_min_f86c9 : MethodName := ⟨RJ9, "min", "(JJ)J"⟩
def RJ0 : String := "java/lang/String"
def TJ0 : u_T := fun k => match k with
  | _ => ("", "", "", false)
abbrev cJ0_length_8abf5 : ByteArray := prog_16_method_54_code
def yJ0_length_8abf5 : MethodName := ⟨RJ0, "length", "()I"⟩
abbrev cJ0_charAt_5068e : ByteArray := prog_16_method_56_code
def yJ0_charAt_5068e : MethodName := ⟨RJ0, "charAt", "(I)C"⟩
abbrev cJ0_coder_7d493 : ByteArray := prog_16_method_152_code
def yJ0_coder_7d493 : MethodName := ⟨RJ0, "coder", "()B"⟩
abbrev cJ0_isLatin1_aae02 : ByteArray := prog_16_method_154_code
def yJ0_isLatin1_aae02 : MethodName := ⟨RJ0, "isLatin1", "()Z"⟩
abbrev cJ0_checkIndex_df160 : ByteArray := prog_16_method_155_code
def yJ0_checkIndex_df160 : MethodName := ⟨RJ0, "checkIndex", "(II)V"⟩
def RJ1 : String := "java/lang/StringLatin1"
def TJ1 : u_T := fun k => match k with
  | _ => ("", "", "", false)
abbrev cJ1_charAt_3b067 : ByteArray := prog_17_method_2_code
def yJ1_charAt_3b067 : MethodName := ⟨RJ1, "charAt", "([BI)C"⟩
def RJ2 : String := "java/lang/StringUTF16"
def TJ2 : u_T := fun k => match k with
  | _ => ("", "", "", false)
abbrev cJ2_getChar_3b067 : ByteArray := prog_18_method_5_code
def yJ2_getChar_3b067 : MethodName := ⟨RJ2, "getChar", "([BI)C"⟩
abbrev cJ2_length_9d52b : ByteArray := prog_18_method_6_code
def yJ2_length_9d52b : MethodName := ⟨RJ2, "length", "([B)I"⟩
abbrev cJ2_charAt_3b067 : ByteArray := prog_18_method_83_code
def yJ2_charAt_3b067 : MethodName := ⟨RJ2, "charAt", "([BI)C"⟩
abbrev cJ2_checkIndex_2214a : ByteArray := prog_18_method_91_code
def yJ2_checkIndex_2214a : MethodName := ⟨RJ2, "checkIndex", "(I[B)V"⟩
def RJ10 : String := "java/lang/System"
def TJ10 : u_T := fun k => match k with
  | _ => ("", "", "", false)
def RJxfd54e : String := "java/lang/constant/Constable"
def TJxfd54e : u_T := fun k => match k with
  | _ => ("", "", "", false)
def RJx3cf43 : String := "java/lang/constant/ConstantDesc"
def TJx3cf43 : u_T := fun k => match k with
  | _ => ("", "", "", false)
def RJ7 : String := "java/util/Arrays"
def TJ7 : u_T := fun k => match k with
  | _ => ("", "", "", false)
abbrev cJ7_fill_d0a16 : ByteArray := prog_20_method_101_code
def yJ7_fill_d0a16 : MethodName := ⟨RJ7, "fill", "([JJ)V"⟩
abbrev cJ7_fill_53178 : ByteArray := prog_20_method_103_code
def yJ7_fill_53178 : MethodName := ⟨RJ7, "fill", "([II)V"⟩
def RJ3 : String := "jdk/internal/util/Preconditions"
def TJ3 : u_T := fun k => match k with
  | _ => ("", "", "", false)
abbrev cJ3_checkIndex_8e157 : ByteArray := prog_21_method_11_code
def yJ3_checkIndex_8e157 : MethodName := ⟨RJ3, "checkIndex", "(IILjava/util/function/BiFunction;)I"⟩
def RL : String := "MoonPromisesLaw"
def yL_law : MethodName := ⟨RL, "law", "([I)Z"⟩
abbrev vwCl : List vw_C := [(RX0, TX0, 8), (RX1, TX1, 4), (RX2, TX2, 11), (RX3, TX3, 10), (RX4, TX4, 10), (RX5, TX5, 3), (RX6, TX6, 3), (RX7, TX7, 18), (RX8, TX8, 3), (RX9, TX9, 9), (RX10, TX10, 47)]
def mp_kind : Jvm.Cond → Bool
  | .methodLink _ _ _ => true
  | .code _ _ _ _ => true
  | .instanceMethod _ => true
  | .selects _ _ _ => true
  | .fieldLink _ _ _ _ _ => true
  | .laysFinal _ _ _ _ => true
  | .lays _ _ _ _ => true
  | .constantLong _ _ _ => true
  | .constant _ _ _ => true
  | .static _ => true
  | .initialized _ => true
  | .classLink _ _ _ => true
  | .instantiable _ _ => true
  | .arrayClass _ => true
  | .native _ => true
  | _ => false
def mp_UT : List Jvm.Cond := lw_tbl.filter mp_kind
set_option maxRecDepth 100000 in
theorem mp_utAll : mp_UT.all goodWord = true := by decide +kernel
theorem mp_utGood : ∀ w ∈ mp_UT, (w.onTables && w.keeps) = true ∨ ∃ ty, w = .arrayClass ty := fun w h => good_of_word (List.all_eq_true.mp mp_utAll w h)
theorem mp_utIn : ∀ w ∈ mp_UT, w ∈ lw_tbl := fun _ h => (List.mem_filter.mp h).1
def mp_g (j : Nat) : Option Jvm.Cond := (match j / 1000 with
  | 0 => k2_sels lw_privs
  | 1 => tables_1_1
  | 2 => tables_1_2
  | 3 => tables_1_3
  | 4 => tables_1_4
  | 5 => tables_1_5
  | 6 => tables_1_6
  | 7 => tables_1_7
  | 8 => tables_1_8
  | 9 => tables_1_9
  | _ => [])[j % 1000]?
def mp_gB (j : Nat) (w : Jvm.Cond) : Bool := decide (mp_g j = some w)
theorem mp_gl {j : Nat} {w : Jvm.Cond} (h : mp_gB j w = true) : w ∈ lw_tbl := by
  have h : mp_g j = some w := of_decide_eq_true h
  unfold mp_g at h
  have h := List.mem_of_getElem? h
  show w ∈ k2_sels lw_privs ++ tables_1
  unfold tables_1
  split at h
  · exact List.mem_append.mpr (Or.inl h)
  · exact List.mem_append.mpr (Or.inr (List.mem_append.mpr (Or.inl h)))
  · exact List.mem_append.mpr (Or.inr (List.mem_append.mpr (Or.inr (List.mem_append.mpr (Or.inl h)))))
  · exact List.mem_append.mpr (Or.inr (List.mem_append.mpr (Or.inr (List.mem_append.mpr (Or.inr (List.mem_append.mpr (Or.inl h)))))))
  · exact List.mem_append.mpr (Or.inr (List.mem_append.mpr (Or.inr (List.mem_append.mpr (Or.inr (List.mem_append.mpr (Or.inr (List.mem_append.mpr (Or.inl h)))))))))
  · exact List.mem_append.mpr (Or.inr (List.mem_append.mpr (Or.inr (List.mem_append.mpr (Or.inr (List.mem_append.mpr (Or.inr (List.mem_append.mpr (Or.inr (List.mem_append.mpr (Or.inl h)))))))))))
  · exact List.mem_append.mpr (Or.inr (List.mem_append.mpr (Or.inr (List.mem_append.mpr (Or.inr (List.mem_append.mpr (Or.inr (List.mem_append.mpr (Or.inr (List.mem_append.mpr (Or.inr (List.mem_append.mpr (Or.inl h)))))))))))))
  · exact List.mem_append.mpr (Or.inr (List.mem_append.mpr (Or.inr (List.mem_append.mpr (Or.inr (List.mem_append.mpr (Or.inr (List.mem_append.mpr (Or.inr (List.mem_append.mpr (Or.inr (List.mem_append.mpr (Or.inr (List.mem_append.mpr (Or.inl h)))))))))))))))
  · exact List.mem_append.mpr (Or.inr (List.mem_append.mpr (Or.inr (List.mem_append.mpr (Or.inr (List.mem_append.mpr (Or.inr (List.mem_append.mpr (Or.inr (List.mem_append.mpr (Or.inr (List.mem_append.mpr (Or.inr (List.mem_append.mpr (Or.inr (List.mem_append.mpr (Or.inl h)))))))))))))))))
  · exact List.mem_append.mpr (Or.inr (List.mem_append.mpr (Or.inr (List.mem_append.mpr (Or.inr (List.mem_append.mpr (Or.inr (List.mem_append.mpr (Or.inr (List.mem_append.mpr (Or.inr (List.mem_append.mpr (Or.inr (List.mem_append.mpr (Or.inr (List.mem_append.mpr (Or.inr h)))))))))))))))))
  · exact absurd h List.not_mem_nil
def mp_gK (j : Nat) (w : Jvm.Cond) : Bool := mp_gB j w && mp_kind w
theorem mp_gm {j : Nat} {w : Jvm.Cond} (h : mp_gK j w = true) : w ∈ mp_UT := by
  have h := Bool.and_eq_true_iff.mp h
  exact List.mem_filter.mpr ⟨mp_gl h.1, h.2⟩
def mp_memB : List Jvm.Cond → List Nat → Bool
  | [], _ => true
  | w :: ws, p :: ps => mp_gK p w && mp_memB ws ps
  | _ :: _, [] => false
theorem mp_mems : ∀ {ws : List Jvm.Cond} {ps : List Nat}, mp_memB ws ps = true → ∀ w ∈ ws, w ∈ mp_UT
  | [], _, _, w, hw => absurd hw List.not_mem_nil
  | x :: ws, [], h, _, _ => absurd h (by simp [mp_memB])
  | x :: ws, p :: ps, h, w, hw => by
    simp only [mp_memB] at h
    have h := Bool.and_eq_true_iff.mp h
    rcases List.mem_cons.mp hw with rfl | hw
    · exact mp_gm h.1
    · exact mp_mems h.2 w hw
set_option maxRecDepth 100000 in
theorem inlX0 : ∀ w ∈ wsX00, w ∈ mp_UT := mp_mems (ps := [1210, 1212, 1214, 1216, 1218, 1220, 1222, 1224]) (by decide +kernel)
set_option maxRecDepth 100000 in
theorem inlX1 : ∀ w ∈ wsX10, w ∈ mp_UT := mp_mems (ps := [2001, 2003, 2005, 2007]) (by decide +kernel)
set_option maxRecDepth 100000 in
theorem inlX2 : ∀ w ∈ wsX20, w ∈ mp_UT := mp_mems (ps := [2029, 2031, 2033, 2035, 2037, 2039, 2041, 2043, 2045, 2047, 2049]) (by decide +kernel)
set_option maxRecDepth 100000 in
theorem inlX3 : ∀ w ∈ wsX30, w ∈ mp_UT := mp_mems (ps := [1163, 1165, 1167, 1169, 1171, 1173, 1175, 1177, 1179, 1181]) (by decide +kernel)
set_option maxRecDepth 100000 in
theorem inlX4 : ∀ w ∈ wsX40, w ∈ mp_UT := mp_mems (ps := [2072, 2074, 2076, 2078, 2080, 2082, 2084, 2086, 2088, 2090]) (by decide +kernel)
set_option maxRecDepth 100000 in
theorem inlX5 : ∀ w ∈ wsX50, w ∈ mp_UT := mp_mems (ps := [2140, 2142, 2144]) (by decide +kernel)
set_option maxRecDepth 100000 in
theorem inlX6 : ∀ w ∈ wsX60, w ∈ mp_UT := mp_mems (ps := [2102, 2104, 2106]) (by decide +kernel)
set_option maxRecDepth 100000 in
theorem inlX7 : ∀ w ∈ wsX70, w ∈ mp_UT := mp_mems (ps := [1109, 1111, 1113, 1115, 1117, 1119, 1121, 1123, 1125, 1127, 1129, 1131, 1133, 1135, 1137, 1139, 1141, 1143]) (by decide +kernel)
set_option maxRecDepth 100000 in
theorem inlX8 : ∀ w ∈ wsX80, w ∈ mp_UT := mp_mems (ps := [2120, 2122, 2124]) (by decide +kernel)
set_option maxRecDepth 100000 in
theorem inlX9 : ∀ w ∈ wsX90, w ∈ mp_UT := mp_mems (ps := [2156, 2158, 2160, 2162, 2164, 2166, 2168, 2170, 2172]) (by decide +kernel)
set_option maxRecDepth 100000 in
theorem inlX10 : ∀ w ∈ wsX100, w ∈ mp_UT := mp_mems (ps := [6058, 6060, 6062, 6064, 6066, 6068, 6070, 6072, 6074, 6076, 6078, 6080, 6082, 6084, 6086, 6088, 6090, 6092, 6094, 6096, 6098, 6100, 6102, 6104, 6106, 6108, 6110, 6112, 6114, 6116, 6118, 6120, 6122, 6124, 6126, 6128, 6130, 6132, 6134, 6136, 6138, 6140, 6142, 6144, 6146, 6148, 6150]) (by decide +kernel)
theorem mp_utArr (t0 : Nat) (ty : FieldType) (h : ([.int, .byte, .long, .boolean] : List FieldType)[t0]? = some ty) : Jvm.Cond.arrayClass ty ∈ mp_UT := by
  match t0, h with
  | 0, h => cases h; exact mp_gm (j := 1147) (by decide +kernel)
  | 1, h => cases h; exact mp_gm (j := 1146) (by decide +kernel)
  | 2, h => cases h; exact mp_gm (j := 1148) (by decide +kernel)
  | 3, h => cases h; exact mp_gm (j := 6153) (by decide +kernel)
  | k + 4, h => simp at h
theorem mp_oi1 : Jvm.Cond.instanceMethod objectInit ∈ mp_UT := mp_gm (j := 1027) (by decide +kernel)
theorem mp_oi2 : Jvm.Cond.code objectInit ⟨#[0xb1]⟩ 1 none ∈ mp_UT := mp_gm (j := 1028) (by decide +kernel)
theorem mp_ac1 : Jvm.Cond.native arraycopyName ∈ mp_UT := mp_gm (j := 3115) (by decide +kernel)
theorem mp_ac2 : Jvm.Cond.static arraycopyName ∈ mp_UT := mp_gm (j := 3114) (by decide +kernel)
theorem mp_ac3 : Jvm.Cond.initialized "java/lang/System" ∈ mp_UT := mp_gm (j := 1018) (by decide +kernel)
def mp_nst : List (String × Nat × MethodName × String) := [(RX9, 9, yX3_init, RX9), (RX3, 17, yX7_init, RX9), (RX9, 18, yX0_init, RX9), (RX0, 11, yX7_init, RX9), (RX9, 31, yX1_init, RX9), (RX9, 38, yX2_init, RX9), (RX9, 45, yX4_init, RX9), (RX9, 59, yX8_init, RX9), (RX7, 110, yX9_halved, RX9), (RX0, 115, yX9_halved, RX9), (RX4, 93, yX9_halved, RX9), (RX9, 350, yX7_init, RX9)]
def mp_N (U : State) : Prop := (∀ q ∈ mp_nst, va_Nw (.methodLinkNest q.1 q.2.1 q.2.2.1 q.2.2.2) U) ∧ va_AO RX7 U
theorem mp_N_same {u U : State} (h : u.vm = U.vm) (hN : mp_N u) : mp_N U := ⟨fun q hq => va_Nw.same rfl h (hN.1 q hq), va_AO.moved (by rw [h]; exact Vm.Alike.refl _) hN.2⟩
theorem mp_N_warm {s U : State} (hW : s.WarmedH U.vm) (hN : mp_N s) : mp_N U := ⟨fun q hq => va_Nw.warmM hW (hN.1 q hq), va_AO.moved hW.alike hN.2⟩
def mp_lB : List Jvm.Cond → List Nat → Bool
  | [], _ => true
  | w :: ws, p :: ps => mp_gB p w && mp_lB ws ps
  | _ :: _, [] => false
theorem mp_ll : ∀ {ws : List Jvm.Cond} {ps : List Nat}, mp_lB ws ps = true → ∀ w ∈ ws, w ∈ lw_tbl
  | [], _, _, w, hw => absurd hw List.not_mem_nil
  | x :: ws, [], h, _, _ => absurd h (by simp [mp_lB])
  | x :: ws, p :: ps, h, w, hw => by
    simp only [mp_lB] at h
    have h := Bool.and_eq_true_iff.mp h
    rcases List.mem_cons.mp hw with rfl | hw
    · exact mp_gl h.1
    · exact mp_ll h.2 w hw
def mp_nstW : List Jvm.Cond := mp_nst.map fun q => .methodLinkNest q.1 q.2.1 q.2.2.1 q.2.2.2
set_option maxRecDepth 100000 in
theorem mp_nstIn : ∀ w ∈ mp_nstW, w ∈ lw_tbl := mp_ll (ps := [1031, 1037, 1186, 1191, 1231, 2012, 2054, 2111, 3199, 4230, 5054, 5208]) (by decide +kernel)
theorem mp_N_start {args : Array Value} {s : State} (hts : ∀ w ∈ lw_tbl, w.before args s = true) : mp_N s := ⟨fun q hq => va_Nw.of rfl (hts _ (mp_nstIn _ (List.mem_map.mpr ⟨q, hq, rfl⟩))), va_AO.of (A := args) (hts _ (mp_gl (j := 1228) (by decide +kernel)))⟩
end
section
/-! THE BLOCK RUNNER: W with its locals, stack and world said in one place (mp_W); a block of decoded instructions with hints (mp_wp), run at once (mp_run); calls, ends, contracts (mp_Ct) -/
abbrev mp_E : Type := Launch × va_G × (Nat → ClassId)
abbrev mp_ty (cA : Nat → ClassId) : List (ClassId × FieldType) := [(cA 0, .int), (cA 1, .byte), (cA 2, .long), (cA 3, .boolean), (cA 4, .object RX7)]
abbrev mp_X : Type := (Program × Env × Room) × (State × MethodId × Array Value × List Frame) × (Method × Code) × ((Nat → Prop) × (State → Prop))
/-- own class, code, locals, (frames, cells, slots, words of locals), what it returns, whether it is a constructor -/
abbrev mp_M : Type := String × ByteArray × Nat × (Nat × Nat × Nat × Nat) × Option FieldType × Bool
def mp_W (E : mp_E) (X : mp_X) (nL pc : Nat) (lv : List (Nat × Value)) (st : List Value) (ws : va_W) (k n : Nat) : Prop :=
  ∀ (H : Heap) (locs : List Loc) (ls : Array Slot), va_P E.2.1 vwCl ws H → va_D X.2.2.2.1 ws → va_S X.2.2.2.1 X.2.1.1.heap H locs → lv_has ls nL lv →
    W X.1.1 E.1 X.1.2.1 X.1.2.2 X.2.1.1 X.2.1.2.1 X.2.1.2.2.1 X.2.1.2.2.2 X.2.2.1.1 X.2.2.1.2 H locs k n X.2.2.2.2 (F0 X.2.1.2.1 pc ls st)
def mp_F (E : mp_E) (X : mp_X) (M : mp_M) : Prop :=
  X.1.1.tables.exec = Jvm.exec ∧ X.2.2.1.2.code = M.2.1 ∧ X.2.2.1.2.maxLocals = M.2.2.1 ∧ X.2.1.1.vm.findClass M.1 = some X.2.1.2.1.cls ∧ (∀ w ∈ mp_UT, w.before X.2.1.2.2.1 X.2.1.1 = true) ∧
  va_K E.2.1 vwCl (mp_ty E.2.2) X.2.1.1 ∧ (∀ q : Nat, X.2.1.1.heap.size ≤ q → X.2.2.2.1 q) ∧ X.2.2.1.1.locks = false ∧
  X.1.2.2 = ({ frames := M.2.2.2.1.1, cells := M.2.2.2.1.2.1, slots := M.2.2.2.1.2.2.1, locals := M.2.2.2.1.2.2.2 } : Room) ∧ X.2.2.1.1.sig.returnType = M.2.2.2.2.1 ∧ (M.2.2.2.2.2 = true → X.2.2.1.1.name = "<init>") ∧ mp_N X.2.1.1
/-- an instruction, hints (places), a number -/
abbrev mp_I : Type := Instr × List Nat × Int32 × Int64
abbrev mp_i (o : Instr) : mp_I := (o, [], 0, 0)
abbrev mp_h (o : Instr) (h : List Nat) : mp_I := (o, h, 0, 0)
abbrev mp_c (o : Instr) (v : Int32) : mp_I := (o, [], v, 0)
abbrev mp_cl (o : Instr) (v : Int64) : mp_I := (o, [], 0, v)
/-- fields that a class links: pool number, class, slot, whether final, whether of the class itself, type -/
abbrev mp_L : Type := Nat × Nat × Nat × Bool × Bool × FieldType
abbrev mp_T : Type := List mp_L × List (Nat × Int32) × List (Nat × Int64)
def mp_lk1 (own : String) (x : mp_L) (j : Nat) : Bool := match vwCl[x.2.1]? with
  | none => false
  | some q => decide (x.2.2.1 < q.2.2) && mp_gK j (.fieldLink own x.1 (q.2.1 x.2.2.1).1 (q.2.1 x.2.2.1).2.1 (q.2.1 x.2.2.1).2.2.1) && decide ((q.2.1 x.2.2.1).2.2.2 = x.2.2.2.1) && decide (parseFieldDescriptor (q.2.1 x.2.2.1).2.2.1 = some x.2.2.2.2.2) && decide (x.2.2.2.2.1 = true → (q.2.1 x.2.2.1).1 = own)
def mp_lks (own : String) : List mp_L → List Nat → Bool
  | [], _ => true
  | x :: r, j :: js => mp_lk1 own x j && mp_lks own r js
  | _ :: _, [] => false
def mp_cks (own : String) : List (Nat × Int32) → List Nat → Bool
  | [], _ => true
  | x :: r, j :: js => mp_gK j (.constant own x.1 x.2) && mp_cks own r js
  | _ :: _, [] => false
def mp_cls (own : String) : List (Nat × Int64) → List Nat → Bool
  | [], _ => true
  | x :: r, j :: js => mp_gK j (.constantLong own x.1 x.2) && mp_cls own r js
  | _ :: _, [] => false
def mp_lkP (own : String) (x : mp_L) : Prop := ∃ q : vw_C, vwCl[x.2.1]? = some q ∧ x.2.2.1 < q.2.2 ∧ (Jvm.Cond.fieldLink own x.1 (q.2.1 x.2.2.1).1 (q.2.1 x.2.2.1).2.1 (q.2.1 x.2.2.1).2.2.1) ∈ mp_UT ∧ (q.2.1 x.2.2.1).2.2.2 = x.2.2.2.1 ∧ parseFieldDescriptor (q.2.1 x.2.2.1).2.2.1 = some x.2.2.2.2.2 ∧ (x.2.2.2.2.1 = true → (q.2.1 x.2.2.1).1 = own)
theorem mp_lk1_ok {own : String} {x : mp_L} {j : Nat} (h : mp_lk1 own x j = true) : mp_lkP own x := by
  unfold mp_lk1 at h
  split at h
  · exact absurd h (by decide)
  · rename_i q hq
    simp only [Bool.and_eq_true, decide_eq_true_eq] at h
    obtain ⟨⟨⟨⟨h1, h2⟩, h3⟩, h4⟩, h5⟩ := h
    exact ⟨q, hq, h1, mp_gm h2, h3, h4, h5⟩
theorem mp_lks_ok {own : String} : ∀ {l : List mp_L} {js : List Nat}, mp_lks own l js = true → ∀ x ∈ l, mp_lkP own x
  | [], _, _, x, hx => absurd hx List.not_mem_nil
  | y :: r, [], h, _, _ => absurd h (by simp [mp_lks])
  | y :: r, j :: js, h, x, hx => by
    simp only [mp_lks, Bool.and_eq_true] at h
    rcases List.mem_cons.mp hx with rfl | hx
    · exact mp_lk1_ok h.1
    · exact mp_lks_ok h.2 x hx
theorem mp_cks_ok {own : String} : ∀ {l : List (Nat × Int32)} {js : List Nat}, mp_cks own l js = true → ∀ x ∈ l, (Jvm.Cond.constant own x.1 x.2) ∈ mp_UT
  | [], _, _, x, hx => absurd hx List.not_mem_nil
  | y :: r, [], h, _, _ => absurd h (by simp [mp_cks])
  | y :: r, j :: js, h, x, hx => by
    simp only [mp_cks, Bool.and_eq_true, decide_eq_true_eq] at h
    rcases List.mem_cons.mp hx with rfl | hx
    · exact mp_gm h.1
    · exact mp_cks_ok h.2 x hx
theorem mp_cls_ok {own : String} : ∀ {l : List (Nat × Int64)} {js : List Nat}, mp_cls own l js = true → ∀ x ∈ l, (Jvm.Cond.constantLong own x.1 x.2) ∈ mp_UT
  | [], _, _, x, hx => absurd hx List.not_mem_nil
  | y :: r, [], h, _, _ => absurd h (by simp [mp_cls])
  | y :: r, j :: js, h, x, hx => by
    simp only [mp_cls, Bool.and_eq_true, decide_eq_true_eq] at h
    rcases List.mem_cons.mp hx with rfl | hx
    · exact mp_gm h.1
    · exact mp_cls_ok h.2 x hx
def mp_Tok (own : String) (t : mp_T) : Prop := (∀ x ∈ t.1, mp_lkP own x) ∧ (∀ x ∈ t.2.1, (Jvm.Cond.constant own x.1 x.2) ∈ mp_UT) ∧ (∀ x ∈ t.2.2, (Jvm.Cond.constantLong own x.1 x.2) ∈ mp_UT)
-- locals
def mp_find : List (Nat × Value) → Nat → Option Value
  | [], _ => none
  | q :: r, i => bif Nat.beq q.1 i then some q.2 else mp_find r i
theorem mp_find_mem : ∀ {l : List (Nat × Value)} {i : Nat} {v : Value}, mp_find l i = some v → (i, v) ∈ l
  | [], _, _, h => by cases h
  | q :: r, i, v, h => by
    unfold mp_find at h
    cases hb : Nat.beq q.1 i with
    | true =>
      rw [hb] at h
      have e : q.1 = i := Nat.eq_of_beq_eq_true hb
      have h : some q.2 = some v := h
      cases h
      subst e
      exact List.mem_cons_self
    | false =>
      rw [hb] at h
      exact List.mem_cons_of_mem _ (mp_find_mem h)
def mp_st1 (lv : List (Nat × Value)) (i : Nat) (v : Value) : List (Nat × Value) := (i, v) :: lv.filter (fun q => !(q.1 == i) && !(q.1 + 1 == i && q.2.category == 2))
def mp_st2 (lv : List (Nat × Value)) (i : Nat) (v : Value) : List (Nat × Value) := (i, v) :: lv.filter (fun q => !(q.1 == i) && (!(q.1 == i + 1) && !(q.1 + 1 == i && q.2.category == 2)))
def mp_vi (lv : List (Nat × Value)) (i : Nat) (K : Int32 → Prop) : Prop := match mp_find lv i with | some (.int x) => K x | _ => False
def mp_vl (lv : List (Nat × Value)) (i : Nat) (K : Int64 → Prop) : Prop := match mp_find lv i with | some (.long x) => K x | _ => False
def mp_vr (lv : List (Nat × Value)) (i : Nat) (K : Nat → Prop) : Prop := match mp_find lv i with | some (.ref x) => K x | _ => False
theorem mp_vi_of {lv : List (Nat × Value)} {i : Nat} {K : Int32 → Prop} (h : mp_vi lv i K) : ∃ x, mp_find lv i = some (.int x) ∧ K x := by
  unfold mp_vi at h
  split at h
  · rename_i x hx; exact ⟨x, hx, h⟩
  · exact h.elim
theorem mp_vl_of {lv : List (Nat × Value)} {i : Nat} {K : Int64 → Prop} (h : mp_vl lv i K) : ∃ x, mp_find lv i = some (.long x) ∧ K x := by
  unfold mp_vl at h
  split at h
  · rename_i x hx; exact ⟨x, hx, h⟩
  · exact h.elim
theorem mp_vr_of {lv : List (Nat × Value)} {i : Nat} {K : Nat → Prop} (h : mp_vr lv i K) : ∃ x, mp_find lv i = some (.ref x) ∧ K x := by
  unfold mp_vr at h
  split at h
  · rename_i x hx; exact ⟨x, hx, h⟩
  · exact h.elim
-- the stack
def mp_s1 (st : List Value) (K : Int32 → List Value → Prop) : Prop := match st with | .int x :: r => K x r | _ => False
def mp_s2 (st : List Value) (K : Int32 → Int32 → List Value → Prop) : Prop := match st with | .int y :: .int x :: r => K x y r | _ => False
def mp_sl1 (st : List Value) (K : Int64 → List Value → Prop) : Prop := match st with | .long x :: r => K x r | _ => False
def mp_sl2 (st : List Value) (K : Int64 → Int64 → List Value → Prop) : Prop := match st with | .long y :: .long x :: r => K x y r | _ => False
def mp_sli (st : List Value) (K : Int64 → Int32 → List Value → Prop) : Prop := match st with | .int y :: .long x :: r => K x y r | _ => False
def mp_sr (st : List Value) (K : Nat → List Value → Prop) : Prop := match st with | .ref x :: r => K x r | _ => False
def mp_sir (st : List Value) (K : Int32 → Nat → List Value → Prop) : Prop := match st with | .int i :: .ref a :: r => K i a r | _ => False
def mp_siir (st : List Value) (K : Int32 → Int32 → Nat → List Value → Prop) : Prop := match st with | .int x :: .int i :: .ref a :: r => K x i a r | _ => False
def mp_slir (st : List Value) (K : Int64 → Int32 → Nat → List Value → Prop) : Prop := match st with | .long x :: .int i :: .ref a :: r => K x i a r | _ => False
def mp_svr (st : List Value) (K : Value → Nat → List Value → Prop) : Prop := match st with | v :: .ref a :: r => K v a r | _ => False
theorem mp_s1_of {st : List Value} {K : Int32 → List Value → Prop} (h : mp_s1 st K) : ∃ x r, st = .int x :: r ∧ K x r := by
  unfold mp_s1 at h; split at h
  · exact ⟨_, _, rfl, h⟩
  · exact h.elim
theorem mp_s2_of {st : List Value} {K : Int32 → Int32 → List Value → Prop} (h : mp_s2 st K) : ∃ x y r, st = .int y :: .int x :: r ∧ K x y r := by
  unfold mp_s2 at h; split at h
  · exact ⟨_, _, _, rfl, h⟩
  · exact h.elim
theorem mp_sl1_of {st : List Value} {K : Int64 → List Value → Prop} (h : mp_sl1 st K) : ∃ x r, st = .long x :: r ∧ K x r := by
  unfold mp_sl1 at h; split at h
  · exact ⟨_, _, rfl, h⟩
  · exact h.elim
theorem mp_sl2_of {st : List Value} {K : Int64 → Int64 → List Value → Prop} (h : mp_sl2 st K) : ∃ x y r, st = .long y :: .long x :: r ∧ K x y r := by
  unfold mp_sl2 at h; split at h
  · exact ⟨_, _, _, rfl, h⟩
  · exact h.elim
theorem mp_sli_of {st : List Value} {K : Int64 → Int32 → List Value → Prop} (h : mp_sli st K) : ∃ x y r, st = .int y :: .long x :: r ∧ K x y r := by
  unfold mp_sli at h; split at h
  · exact ⟨_, _, _, rfl, h⟩
  · exact h.elim
theorem mp_sr_of {st : List Value} {K : Nat → List Value → Prop} (h : mp_sr st K) : ∃ x r, st = .ref x :: r ∧ K x r := by
  unfold mp_sr at h; split at h
  · exact ⟨_, _, rfl, h⟩
  · exact h.elim
theorem mp_sir_of {st : List Value} {K : Int32 → Nat → List Value → Prop} (h : mp_sir st K) : ∃ i a r, st = .int i :: .ref a :: r ∧ K i a r := by
  unfold mp_sir at h; split at h
  · exact ⟨_, _, _, rfl, h⟩
  · exact h.elim
theorem mp_siir_of {st : List Value} {K : Int32 → Int32 → Nat → List Value → Prop} (h : mp_siir st K) : ∃ x i a r, st = .int x :: .int i :: .ref a :: r ∧ K x i a r := by
  unfold mp_siir at h; split at h
  · exact ⟨_, _, _, _, rfl, h⟩
  · exact h.elim
theorem mp_slir_of {st : List Value} {K : Int64 → Int32 → Nat → List Value → Prop} (h : mp_slir st K) : ∃ x i a r, st = .long x :: .int i :: .ref a :: r ∧ K x i a r := by
  unfold mp_slir at h; split at h
  · exact ⟨_, _, _, _, rfl, h⟩
  · exact h.elim
theorem mp_svr_of {st : List Value} {K : Value → Nat → List Value → Prop} (h : mp_svr st K) : ∃ v a r, st = v :: .ref a :: r ∧ K v a r := by
  unfold mp_svr at h; split at h
  · exact ⟨_, _, _, rfl, h⟩
  · exact h.elim
-- the world
def mp_wo (ws : va_W) (q : Nat) (K : Nat → Nat → List Value → Prop) : Prop := match ws[q]? with | some (a, .inr (ci, fs)) => K a ci fs | _ => False
def mp_wi (ws : va_W) (q : Nat) (K : Nat → ClassId → Nat → (Nat → Int32) → Prop) : Prop := match ws[q]? with | some (a, .inl (cA, n, .inl f)) => K a cA n f | _ => False
def mp_wl (ws : va_W) (q : Nat) (K : Nat → ClassId → Nat → (Nat → Int64) → Prop) : Prop := match ws[q]? with | some (a, .inl (cA, n, .inr (.inl f))) => K a cA n f | _ => False
def mp_wq (ws : va_W) (q : Nat) (K : Nat → ClassId → Nat → (Nat → Option Nat) → Prop) : Prop := match ws[q]? with | some (a, .inl (cA, n, .inr (.inr (.inr (.inr f))))) => K a cA n f | _ => False
def mp_wa (ws : va_W) (q : Nat) (K : Nat → ClassId → vp_A → Prop) : Prop := match ws[q]? with | some (a, .inl (cA, x)) => K a cA x | _ => False
theorem mp_wo_of {ws : va_W} {q : Nat} {K : Nat → Nat → List Value → Prop} (h : mp_wo ws q K) : ∃ a ci fs, ws[q]? = some (a, .inr (ci, fs)) ∧ K a ci fs := by
  unfold mp_wo at h; split at h
  · rename_i e; exact ⟨_, _, _, e, h⟩
  · exact h.elim
theorem mp_wi_of {ws : va_W} {q : Nat} {K : Nat → ClassId → Nat → (Nat → Int32) → Prop} (h : mp_wi ws q K) : ∃ a cA n f, ws[q]? = some (a, .inl (cA, n, .inl f)) ∧ K a cA n f := by
  unfold mp_wi at h; split at h
  · rename_i e; exact ⟨_, _, _, _, e, h⟩
  · exact h.elim
theorem mp_wl_of {ws : va_W} {q : Nat} {K : Nat → ClassId → Nat → (Nat → Int64) → Prop} (h : mp_wl ws q K) : ∃ a cA n f, ws[q]? = some (a, .inl (cA, n, .inr (.inl f))) ∧ K a cA n f := by
  unfold mp_wl at h; split at h
  · rename_i e; exact ⟨_, _, _, _, e, h⟩
  · exact h.elim
theorem mp_wq_of {ws : va_W} {q : Nat} {K : Nat → ClassId → Nat → (Nat → Option Nat) → Prop} (h : mp_wq ws q K) : ∃ a cA n f, ws[q]? = some (a, .inl (cA, n, .inr (.inr (.inr (.inr f))))) ∧ K a cA n f := by
  unfold mp_wq at h; split at h
  · rename_i e; exact ⟨_, _, _, _, e, h⟩
  · exact h.elim
theorem mp_wa_of {ws : va_W} {q : Nat} {K : Nat → ClassId → vp_A → Prop} (h : mp_wa ws q K) : ∃ a cA x, ws[q]? = some (a, .inl (cA, x)) ∧ K a cA x := by
  unfold mp_wa at h; split at h
  · rename_i e; exact ⟨_, _, _, e, h⟩
  · exact h.elim
def mp_len : Instr → Nat
  | .bipush _ | .iload _ | .lload _ | .aload _ | .istore _ | .lstore _ | .astore _ | .ldc _ | .newarray _ => 2
  | .sipush _ | .ldc_w _ | .ldc2_w _ | .getfield _ | .putfield _ | .goto _ | .ifCond _ _ | .if_icmp _ _ | .iinc _ _ | .ifnull _ | .ifnonnull _ => 3
  | _ => 1
/-- what of an instruction a program can check -/
def mp_ck (nL : Nat) (ini : Bool) (t : mp_T) (i : mp_I) (pc : Nat) : Bool := match i.1 with
  | .iconst z => decide (Int32.ofInt z = i.2.2.1)
  | .bipush z => decide ((Int8.ofInt z).toInt32 = i.2.2.1)
  | .sipush z => decide ((Int16.ofInt z).toInt32 = i.2.2.1)
  | .lconst z => decide (Int64.ofNat z.val = i.2.2.2)
  | .ldc j => decide ((j, i.2.2.1) ∈ t.2.1)
  | .ldc_w j => decide ((j, i.2.2.1) ∈ t.2.1)
  | .ldc2_w j => decide ((j, i.2.2.2) ∈ t.2.2)
  | .iinc j z => decide (Int32.ofInt z = i.2.2.1) && decide (j < nL)
  | .istore_n j => decide (j.val < nL)
  | .istore j => decide (j < nL)
  | .astore_n j => decide (j.val < nL)
  | .astore j => decide (j < nL)
  | .lstore_n j => decide (j.val + 1 < nL)
  | .lstore j => decide (j + 1 < nL)
  | .getfield j => match i.2.1 with | a :: _ => (match t.1[a]? with | some x => decide (x.1 = j) | none => false) | [] => false
  | .putfield j => match i.2.1 with | a :: _ => (match t.1[a]? with | some x => decide (x.1 = j) && decide (x.2.2.2.1 = true → x.2.2.2.2.1 = true ∧ ini = true) | none => false) | [] => false
  | .goto off => match i.2.1 with | a :: _ => decide ((pc : Int) + off = (a : Int)) | [] => false
  | .ifCond _ off => match i.2.1 with | a :: _ => decide ((pc : Int) + off = (a : Int)) | [] => false
  | .if_icmp _ off => match i.2.1 with | a :: _ => decide ((pc : Int) + off = (a : Int)) | [] => false
  | _ => true
def mp_nx (i : mp_I) (pc : Nat) : Nat := match i.1 with
  | .goto _ => i.2.1.headD 0
  | o => pc + mp_len o
def mp_dec (cc : ByteArray) (nL : Nat) (ini : Bool) (t : mp_T) : List mp_I → Nat → Bool
  | [], _ => true
  | i :: r, pc => decide (decode cc pc = .ok (i.1, mp_len i.1)) && mp_ck nL ini t i pc && mp_dec cc nL ini t r (mp_nx i pc)
abbrev mp_K : Type := Nat → List (Nat × Value) → List Value → va_W → Nat → Nat → Prop
def mp_cz (c : Jvm.ClassFile.Cond) (x y : Int32) (K1 K2 : Prop) : Prop := match c with
  | .eq => (x = y → K1) ∧ (x.toInt ≠ y.toInt → K2)
  | .ne => (x.toInt ≠ y.toInt → K1) ∧ (x = y → K2)
  | .lt => (x.toInt < y.toInt → K1) ∧ (y.toInt ≤ x.toInt → K2)
  | .ge => (y.toInt ≤ x.toInt → K1) ∧ (x.toInt < y.toInt → K2)
  | .gt => (y.toInt < x.toInt → K1) ∧ (x.toInt ≤ y.toInt → K2)
  | .le => (x.toInt ≤ y.toInt → K1) ∧ (y.toInt < x.toInt → K2)
def mp_c0 (c : Jvm.ClassFile.Cond) (x : Int32) (K1 K2 : Prop) : Prop := match c with
  | .eq => (x = 0 → K1) ∧ (x.toInt ≠ 0 → K2)
  | .ne => (x.toInt ≠ 0 → K1) ∧ (x = 0 → K2)
  | .lt => (x.toInt < 0 → K1) ∧ (0 ≤ x.toInt → K2)
  | .ge => (0 ≤ x.toInt → K1) ∧ (x.toInt < 0 → K2)
  | .gt => (0 < x.toInt → K1) ∧ (x.toInt ≤ 0 → K2)
  | .le => (x.toInt ≤ 0 → K1) ∧ (0 < x.toInt → K2)
def mp_op (E : mp_E) (X : mp_X) (nL : Nat) (t : mp_T) (rc rs : Nat) (i : mp_I) (pc : Nat) (lv : List (Nat × Value)) (st : List Value) (ws : va_W) (k n : Nat) (K : mp_K) : Prop := match i.1 with
  | .iconst _ => K (pc + 1) lv (.int i.2.2.1 :: st) ws k n
  | .bipush _ => K (pc + 2) lv (.int i.2.2.1 :: st) ws k n
  | .sipush _ => K (pc + 3) lv (.int i.2.2.1 :: st) ws k n
  | .ldc _ => K (pc + 2) lv (.int i.2.2.1 :: st) ws k n
  | .ldc_w _ => K (pc + 3) lv (.int i.2.2.1 :: st) ws k n
  | .ldc2_w _ => K (pc + 3) lv (.long i.2.2.2 :: st) ws k n
  | .lconst _ => K (pc + 1) lv (.long i.2.2.2 :: st) ws k n
  | .iload_n j => mp_vi lv j.val fun x => K (pc + 1) lv (.int x :: st) ws k n
  | .iload j => mp_vi lv j fun x => K (pc + 2) lv (.int x :: st) ws k n
  | .lload_n j => mp_vl lv j.val fun x => K (pc + 1) lv (.long x :: st) ws k n
  | .lload j => mp_vl lv j fun x => K (pc + 2) lv (.long x :: st) ws k n
  | .aload_n j => mp_vr lv j.val fun x => K (pc + 1) lv (.ref x :: st) ws k n
  | .aload j => mp_vr lv j fun x => K (pc + 2) lv (.ref x :: st) ws k n
  | .istore_n j => mp_s1 st fun x st => K (pc + 1) (mp_st1 lv j.val (.int x)) st ws k n
  | .istore j => mp_s1 st fun x st => K (pc + 2) (mp_st1 lv j (.int x)) st ws k n
  | .astore_n j => mp_sr st fun x st => K (pc + 1) (mp_st1 lv j.val (.ref x)) st ws k n
  | .astore j => mp_sr st fun x st => K (pc + 2) (mp_st1 lv j (.ref x)) st ws k n
  | .lstore_n j => mp_sl1 st fun x st => K (pc + 1) (mp_st2 lv j.val (.long x)) st ws k n
  | .lstore j => mp_sl1 st fun x st => K (pc + 2) (mp_st2 lv j (.long x)) st ws k n
  | .iinc j _ => mp_vi lv j fun x => ∀ z, z = x + i.2.2.1 → K (pc + 3) (mp_st1 lv j (.int z)) st ws k n
  | .iadd => mp_s2 st fun x y st => ∀ z, z = x + y → K (pc + 1) lv (.int z :: st) ws k n
  | .isub => mp_s2 st fun x y st => ∀ z, z = x - y → K (pc + 1) lv (.int z :: st) ws k n
  | .imul => mp_s2 st fun x y st => ∀ z, z = x * y → K (pc + 1) lv (.int z :: st) ws k n
  | .idiv => mp_s2 st fun x y st => ¬ y = 0 ∧ ∀ z, z = x / y → K (pc + 1) lv (.int z :: st) ws k n
  | .irem => mp_s2 st fun x y st => ¬ y = 0 ∧ ∀ z, z = x - x / y * y → K (pc + 1) lv (.int z :: st) ws k n
  | .iand => mp_s2 st fun x y st => ∀ z, z = x &&& y → K (pc + 1) lv (.int z :: st) ws k n
  | .ior => mp_s2 st fun x y st => ∀ z, z = x ||| y → K (pc + 1) lv (.int z :: st) ws k n
  | .ixor => mp_s2 st fun x y st => ∀ z, z = x ^^^ y → K (pc + 1) lv (.int z :: st) ws k n
  | .ishl => mp_s2 st fun x y st => ∀ z, z = x <<< (y &&& 31) → K (pc + 1) lv (.int z :: st) ws k n
  | .ishr => mp_s2 st fun x y st => ∀ z, z = x >>> (y &&& 31) → K (pc + 1) lv (.int z :: st) ws k n
  | .ladd => mp_sl2 st fun x y st => ∀ z, z = x + y → K (pc + 1) lv (.long z :: st) ws k n
  | .lsub => mp_sl2 st fun x y st => ∀ z, z = x - y → K (pc + 1) lv (.long z :: st) ws k n
  | .lmul => mp_sl2 st fun x y st => ∀ z, z = x * y → K (pc + 1) lv (.long z :: st) ws k n
  | .ldiv => mp_sl2 st fun x y st => ¬ y = 0 ∧ ∀ z, z = x / y → K (pc + 1) lv (.long z :: st) ws k n
  | .lrem => mp_sl2 st fun x y st => ¬ y = 0 ∧ ∀ z, z = x - x / y * y → K (pc + 1) lv (.long z :: st) ws k n
  | .land => mp_sl2 st fun x y st => ∀ z, z = x &&& y → K (pc + 1) lv (.long z :: st) ws k n
  | .lor => mp_sl2 st fun x y st => ∀ z, z = x ||| y → K (pc + 1) lv (.long z :: st) ws k n
  | .lxor => mp_sl2 st fun x y st => ∀ z, z = x ^^^ y → K (pc + 1) lv (.long z :: st) ws k n
  | .lshl => mp_sli st fun x y st => ∀ z, z = x <<< (y.toInt64 &&& 63) → K (pc + 1) lv (.long z :: st) ws k n
  | .lshr => mp_sli st fun x y st => ∀ z, z = x >>> (y.toInt64 &&& 63) → K (pc + 1) lv (.long z :: st) ws k n
  | .i2l => mp_s1 st fun x st => ∀ z, z = x.toInt64 → K (pc + 1) lv (.long z :: st) ws k n
  | .l2i => mp_sl1 st fun x st => ∀ z, z = x.toInt32 → K (pc + 1) lv (.int z :: st) ws k n
  | .i2b => mp_s1 st fun x st => ∀ z, z = x.toInt8.toInt32 → K (pc + 1) lv (.int z :: st) ws k n
  | .i2s => mp_s1 st fun x st => ∀ z, z = x.toInt16.toInt32 → K (pc + 1) lv (.int z :: st) ws k n
  | .lcmp => mp_sl2 st fun x y st => ∀ z, z = lg_cmp x y → K (pc + 1) lv (.int z :: st) ws k n
  | .dup => match st with | v :: r => v.category = 1 ∧ K (pc + 1) lv (v :: v :: r) ws k n | _ => False
  | .pop => match st with | v :: r => v.category = 1 ∧ K (pc + 1) lv r ws k n | _ => False
  | .dup2 => mp_sir st fun y a r => K (pc + 1) lv (.int y :: .ref a :: .int y :: .ref a :: r) ws k n
  | .getfield _ => match i.2.1 with
    | j :: q0 :: _ => (match t.1[j]? with
      | some x => mp_sr st fun a st => mp_wo ws q0 fun b ci fs => a = b ∧ ci = x.2.1 ∧ (match fs[x.2.2.1]? with | some v => K (pc + 3) lv (v :: st) ws k n | none => False)
      | none => False)
    | _ => False
  | .putfield _ => match i.2.1 with
    | j :: q0 :: _ => (match t.1[j]? with
      | some x => mp_svr st fun v a st => mp_wo ws q0 fun b ci fs => a = b ∧ ci = x.2.1 ∧ narrow x.2.2.2.2.2 v = v ∧ fits x.2.2.2.2.2 v = true ∧ x.2.2.1 < fs.length ∧ K (pc + 3) lv st (ws.set q0 (b, .inr (ci, fs.set x.2.2.1 v))) k n
      | none => False)
    | _ => False
  | .iaload => match i.2.1 with
    | q0 :: _ => mp_sir st fun j a st => mp_wi ws q0 fun b cA N f => a = b ∧ cA = E.2.2 0 ∧ vp_in j N ∧ ∀ z, z = f j.toNatClampNeg → K (pc + 1) lv (.int z :: st) ws k n
    | _ => False
  | .baload => match i.2.1 with
    | [q0] => mp_sir st fun j a st => mp_wi ws q0 fun b cA N f => a = b ∧ cA = E.2.2 1 ∧ vp_in j N ∧ ∀ z, z = f j.toNatClampNeg → K (pc + 1) lv (.int z :: st) ws k n
    | [q0, _] => mp_sir st fun j a st => mp_wi ws q0 fun b cA N f => a = b ∧ cA = E.2.2 3 ∧ vp_in j N ∧ ∀ z, z = f j.toNatClampNeg → K (pc + 1) lv (.int z :: st) ws k n
    | _ => False
  | .laload => match i.2.1 with
    | q0 :: _ => mp_sir st fun j a st => mp_wl ws q0 fun b cA N f => a = b ∧ cA = E.2.2 2 ∧ vp_in j N ∧ ∀ z, z = f j.toNatClampNeg → K (pc + 1) lv (.long z :: st) ws k n
    | _ => False
  | .aaload => match i.2.1 with
    | q0 :: _ => mp_sir st fun j a st => mp_wq ws q0 fun b cA N f => a = b ∧ cA = E.2.2 4 ∧ vp_in j N ∧ ∀ z, z = f j.toNatClampNeg → K (pc + 1) lv (va_rf z :: st) ws k n
    | _ => False
  | .iastore => match i.2.1 with
    | q0 :: _ => mp_siir st fun x j a st => mp_wi ws q0 fun b cA N f => a = b ∧ cA = E.2.2 0 ∧ vp_in j N ∧ ∀ g, g = upd f j.toNatClampNeg x → K (pc + 1) lv st (ws.set q0 (b, .inl (cA, N, .inl g))) k n
    | _ => False
  | .bastore => match i.2.1 with
    | [q0] => mp_siir st fun x j a st => mp_wi ws q0 fun b cA N f => a = b ∧ cA = E.2.2 1 ∧ vp_in j N ∧ ∀ g, g = upd f j.toNatClampNeg (vp_nar .byte x) → K (pc + 1) lv st (ws.set q0 (b, .inl (cA, N, .inl g))) k n
    | [q0, _] => mp_siir st fun x j a st => mp_wi ws q0 fun b cA N f => a = b ∧ cA = E.2.2 3 ∧ vp_in j N ∧ ∀ g, g = upd f j.toNatClampNeg (vp_nar .boolean x) → K (pc + 1) lv st (ws.set q0 (b, .inl (cA, N, .inl g))) k n
    | _ => False
  | .lastore => match i.2.1 with
    | q0 :: _ => mp_slir st fun x j a st => mp_wl ws q0 fun b cA N f => a = b ∧ cA = E.2.2 2 ∧ vp_in j N ∧ ∀ g, g = vp_updL f j.toNatClampNeg x → K (pc + 1) lv st (ws.set q0 (b, .inl (cA, N, .inr (.inl g)))) k n
    | _ => False
  | .arraylength => match i.2.1 with
    | [q0, t0] => mp_sr st fun a st => mp_wa ws q0 fun b cA x => a = b ∧ cA = E.2.2 t0 ∧ t0 < 5 ∧ ∀ z, z = Int32.ofNat x.1 → K (pc + 1) lv (.int z :: st) ws k n
    | _ => False
  | .newarray .int => match i.2.1 with
    | N :: _ => mp_s1 st fun x st => (0 ≤ x.toInt ∧ x.toInt = N) ∧ k + 1 ≤ rc ∧ n + N ≤ rs ∧ N ≤ 100000 ∧ ∀ q, K (pc + 2) lv (.ref q :: st) (ws ++ [(q, .inl (E.2.2 0, N, .inl (fun _ => 0)))]) (k + 1) (n + N)
    | _ => False
  | .newarray .byte => match i.2.1 with
    | N :: _ => mp_s1 st fun x st => (0 ≤ x.toInt ∧ x.toInt = N) ∧ k + 1 ≤ rc ∧ n + N ≤ rs ∧ N ≤ 100000 ∧ ∀ q, K (pc + 2) lv (.ref q :: st) (ws ++ [(q, .inl (E.2.2 1, N, .inl (fun _ => 0)))]) (k + 1) (n + N)
    | _ => False
  | .newarray .long => match i.2.1 with
    | N :: _ => mp_s1 st fun x st => (0 ≤ x.toInt ∧ x.toInt = N) ∧ k + 1 ≤ rc ∧ n + N ≤ rs ∧ N ≤ 100000 ∧ ∀ q, K (pc + 2) lv (.ref q :: st) (ws ++ [(q, .inl (E.2.2 2, N, .inr (.inl (fun _ => 0))))]) (k + 1) (n + N)
    | _ => False
  | .newarray .boolean => match i.2.1 with
    | N :: _ => mp_s1 st fun x st => (0 ≤ x.toInt ∧ x.toInt = N) ∧ k + 1 ≤ rc ∧ n + N ≤ rs ∧ N ≤ 100000 ∧ ∀ q, K (pc + 2) lv (.ref q :: st) (ws ++ [(q, .inl (E.2.2 3, N, .inl (fun _ => 0)))]) (k + 1) (n + N)
    | _ => False
  | .goto _ => K (i.2.1.headD 0) lv st ws k n
  | .ifCond c _ => mp_s1 st fun x st => mp_c0 c x (mp_W E X nL (i.2.1.headD 0) lv st ws k n) (mp_W E X nL (pc + 3) lv st ws k n)
  | .if_icmp c _ => mp_s2 st fun x y st => mp_cz c x y (mp_W E X nL (i.2.1.headD 0) lv st ws k n) (mp_W E X nL (pc + 3) lv st ws k n)
  | _ => False
def mp_wp (E : mp_E) (X : mp_X) (nL : Nat) (t : mp_T) (rc rs : Nat) : List mp_I → mp_K
  | [] => fun pc lv st ws k n => mp_W E X nL pc lv st ws k n
  | i :: r => fun pc lv st ws k n => mp_op E X nL t rc rs i pc lv st ws k n (mp_wp E X nL t rc rs r)
end
section
theorem mp_i32_lt {x y : Int32} : x < y ↔ x.toInt < y.toInt := Int32.lt_iff_toInt_lt
theorem mp_i32_le {x y : Int32} : x ≤ y ↔ x.toInt ≤ y.toInt := Int32.le_iff_toInt_le
theorem mp_i32_ne {x y : Int32} : ¬ x = y → x.toInt ≠ y.toInt := fun h e => h (Int32.toInt_inj.mp e)
theorem mp_t0 : (0 : Int32).toInt = 0 := by decide
theorem mp_cell0 (ci : Nat) (q : vw_C) (h : vwCl[ci]? = some q) : ∃ ty : Nat → FieldType, (∀ k, k < q.2.2 → parseFieldDescriptor (q.2.1 k).2.2.1 = some (ty k)) ∧ (∀ a, a < q.2.2 → ∀ b, b < q.2.2 → a ≠ b → (q.2.1 a).2.1 ≠ (q.2.1 b).2.1) ∧ (∀ w ∈ u_ws q.1 q.2.1 q.2.2, w ∈ mp_UT) := by
  match ci, h with
  | 0, h => cases h; exact ⟨tyX0, tyX0_ok, nmX0, inlX0⟩
  | 1, h => cases h; exact ⟨tyX1, tyX1_ok, nmX1, inlX1⟩
  | 2, h => cases h; exact ⟨tyX2, tyX2_ok, nmX2, inlX2⟩
  | 3, h => cases h; exact ⟨tyX3, tyX3_ok, nmX3, inlX3⟩
  | 4, h => cases h; exact ⟨tyX4, tyX4_ok, nmX4, inlX4⟩
  | 5, h => cases h; exact ⟨tyX5, tyX5_ok, nmX5, inlX5⟩
  | 6, h => cases h; exact ⟨tyX6, tyX6_ok, nmX6, inlX6⟩
  | 7, h => cases h; exact ⟨tyX7, tyX7_ok, nmX7, inlX7⟩
  | 8, h => cases h; exact ⟨tyX8, tyX8_ok, nmX8, inlX8⟩
  | 9, h => cases h; exact ⟨tyX9, tyX9_ok, nmX9, inlX9⟩
  | 10, h => cases h; exact ⟨tyX10, tyX10_ok, nmX10, inlX10⟩
  | k + 11, h => simp at h
set_option maxHeartbeats 4000000 in
theorem mp_run {E : mp_E} {X : mp_X} {M : mp_M} (hF : mp_F E X M) {t : mp_T} (ht : mp_Tok M.1 t) :
    ∀ (b : List mp_I) {pc : Nat} {lv : List (Nat × Value)} {st : List Value} {ws : va_W} {k n : Nat}, mp_dec M.2.1 M.2.2.1 M.2.2.2.2.2 t b pc = true → mp_wp E X M.2.2.1 t M.2.2.2.1.2.1 M.2.2.2.1.2.2.1 b pc lv st ws k n → mp_W E X M.2.2.1 pc lv st ws k n := by
  obtain ⟨hx, hb, hml, hown, hts, hK, hA, hlk, hR, hrt, hin, hN⟩ := hF
  intro b
  induction b with
  | nil => intro pc lv st ws k n _ h; exact h
  | cons i r ih =>
    intro pc lv st ws k n hd h
    simp only [mp_dec, Bool.and_eq_true, decide_eq_true_eq] at hd
    obtain ⟨⟨hg, hc⟩, hd⟩ := hd
    obtain ⟨op, hs, v32, v64⟩ := i
    replace h : mp_op E X M.2.2.1 t M.2.2.2.1.2.1 M.2.2.2.1.2.2.1 (op, hs, v32, v64) pc lv st ws k n (mp_wp E X M.2.2.1 t M.2.2.2.1.2.1 M.2.2.2.1.2.2.1 r) := h
    intro H locs ls hP hD hS hl
    cases op with
    | iconst z =>
      have hc := of_decide_eq_true hc
      exact lv_iconst hx hb hg hc (ih hd h H locs ls hP hD hS hl)
    | bipush z =>
      have hc := of_decide_eq_true hc
      exact lv_bipush hx hb hg hc (ih hd h H locs ls hP hD hS hl)
    | sipush z =>
      have hc := of_decide_eq_true hc
      exact lv_sipush hx hb hg hc (ih hd h H locs ls hP hD hS hl)
    | lconst z =>
      have hc := of_decide_eq_true hc
      exact lv_lconst hx hb hg hc (ih hd h H locs ls hP hD hS hl)
    | ldc z =>
      have hc := of_decide_eq_true hc
      exact lv_ldc hx hb hown (hts _ (ht.2.1 _ hc)) hg (ih hd h H locs ls hP hD hS hl)
    | ldc_w z =>
      have hc := of_decide_eq_true hc
      exact lv_ldcw hx hb hown (hts _ (ht.2.1 _ hc)) hg (ih hd h H locs ls hP hD hS hl)
    | ldc2_w z =>
      have hc := of_decide_eq_true hc
      exact lv_ldc2 hx hb hown (hts _ (ht.2.2 _ hc)) hg (ih hd h H locs ls hP hD hS hl)
    | iload_n z =>
      obtain ⟨x, hf, h⟩ := mp_vi_of h
      exact lv_iload_n hx hb hg rfl (hl.2.2 _ (mp_find_mem hf)) (ih hd h H locs ls hP hD hS hl)
    | iload z =>
      obtain ⟨x, hf, h⟩ := mp_vi_of h
      exact lv_iload hx hb hg (hl.2.2 _ (mp_find_mem hf)) (ih hd h H locs ls hP hD hS hl)
    | lload_n z =>
      obtain ⟨x, hf, h⟩ := mp_vl_of h
      exact lv_lload_n hx hb hg rfl (hl.2.2 _ (mp_find_mem hf)) (ih hd h H locs ls hP hD hS hl)
    | lload z =>
      obtain ⟨x, hf, h⟩ := mp_vl_of h
      exact lv_lload hx hb hg (hl.2.2 _ (mp_find_mem hf)) (ih hd h H locs ls hP hD hS hl)
    | aload_n z =>
      obtain ⟨x, hf, h⟩ := mp_vr_of h
      exact lv_aload_n hx hb hg rfl (hl.2.2 _ (mp_find_mem hf)) (ih hd h H locs ls hP hD hS hl)
    | aload z =>
      obtain ⟨x, hf, h⟩ := mp_vr_of h
      exact lv_aload hx hb hg (hl.2.2 _ (mp_find_mem hf)) (ih hd h H locs ls hP hD hS hl)
    | istore_n z =>
      have hc := of_decide_eq_true hc
      obtain ⟨x, st, rfl, h⟩ := mp_s1_of h
      exact lv_istore_n hx hb hg rfl hl hc rfl (fun ls hl => ih hd h H locs ls hP hD hS hl)
    | istore z =>
      have hc := of_decide_eq_true hc
      obtain ⟨x, st, rfl, h⟩ := mp_s1_of h
      exact lv_istore hx hb hg hl hc rfl (fun ls hl => ih hd h H locs ls hP hD hS hl)
    | lstore_n z =>
      have hc := of_decide_eq_true hc
      obtain ⟨x, st, rfl, h⟩ := mp_sl1_of h
      exact lv_lstore_n hx hb hg rfl hl hc rfl (fun ls hl => ih hd h H locs ls hP hD hS hl)
    | lstore z =>
      have hc := of_decide_eq_true hc
      obtain ⟨x, st, rfl, h⟩ := mp_sl1_of h
      exact lv_lstore hx hb hg hl hc rfl (fun ls hl => ih hd h H locs ls hP hD hS hl)
    | astore_n z =>
      have hc := of_decide_eq_true hc
      obtain ⟨x, st, rfl, h⟩ := mp_sr_of h
      exact lv_astore_n hx hb hg rfl hl hc rfl (fun ls hl => ih hd h H locs ls hP hD hS hl)
    | astore z =>
      have hc := of_decide_eq_true hc
      obtain ⟨x, st, rfl, h⟩ := mp_sr_of h
      exact lv_astore hx hb hg hl hc rfl (fun ls hl => ih hd h H locs ls hP hD hS hl)
    | iinc j z =>
      have hc := Bool.and_eq_true_iff.mp hc
      have hc1 := of_decide_eq_true hc.1
      have hc2 := of_decide_eq_true hc.2
      obtain ⟨x, hf, h⟩ := mp_vi_of h
      obtain ⟨q, hq⟩ := List.mem_iff_getElem?.mp (mp_find_mem hf)
      exact lv_iinc hx hb hg hl hq (by rw [hc1]) hc2 rfl (fun ls hl => ih hd (h _ rfl) H locs ls hP hD hS hl)
    | iadd =>
      obtain ⟨x, y, st, rfl, h⟩ := mp_s2_of h
      exact lv_iadd hx hb hg (ih hd (h _ rfl) H locs ls hP hD hS hl)
    | isub =>
      obtain ⟨x, y, st, rfl, h⟩ := mp_s2_of h
      exact lv_isub hx hb hg (ih hd (h _ rfl) H locs ls hP hD hS hl)
    | imul =>
      obtain ⟨x, y, st, rfl, h⟩ := mp_s2_of h
      exact lv_imul hx hb hg (ih hd (h _ rfl) H locs ls hP hD hS hl)
    | iand =>
      obtain ⟨x, y, st, rfl, h⟩ := mp_s2_of h
      exact lv_iand hx hb hg (ih hd (h _ rfl) H locs ls hP hD hS hl)
    | ior =>
      obtain ⟨x, y, st, rfl, h⟩ := mp_s2_of h
      exact lv_ior hx hb hg (ih hd (h _ rfl) H locs ls hP hD hS hl)
    | ixor =>
      obtain ⟨x, y, st, rfl, h⟩ := mp_s2_of h
      exact lv_ixor hx hb hg (ih hd (h _ rfl) H locs ls hP hD hS hl)
    | ishl =>
      obtain ⟨x, y, st, rfl, h⟩ := mp_s2_of h
      exact lv_ishl hx hb hg (ih hd (h _ rfl) H locs ls hP hD hS hl)
    | ishr =>
      obtain ⟨x, y, st, rfl, h⟩ := mp_s2_of h
      exact lv_ishr hx hb hg (ih hd (h _ rfl) H locs ls hP hD hS hl)
    | idiv =>
      obtain ⟨x, y, st, rfl, h0, h⟩ := mp_s2_of h
      exact lv_idiv hx hb hg h0 (ih hd (h _ rfl) H locs ls hP hD hS hl)
    | irem =>
      obtain ⟨x, y, st, rfl, h0, h⟩ := mp_s2_of h
      exact lv_irem hx hb hg h0 (ih hd (h _ rfl) H locs ls hP hD hS hl)
    | ladd =>
      obtain ⟨x, y, st, rfl, h⟩ := mp_sl2_of h
      exact lv_ladd hx hb hg (ih hd (h _ rfl) H locs ls hP hD hS hl)
    | lsub =>
      obtain ⟨x, y, st, rfl, h⟩ := mp_sl2_of h
      exact lv_lsub hx hb hg (ih hd (h _ rfl) H locs ls hP hD hS hl)
    | lmul =>
      obtain ⟨x, y, st, rfl, h⟩ := mp_sl2_of h
      exact lv_lmul hx hb hg (ih hd (h _ rfl) H locs ls hP hD hS hl)
    | land =>
      obtain ⟨x, y, st, rfl, h⟩ := mp_sl2_of h
      exact lv_land hx hb hg (ih hd (h _ rfl) H locs ls hP hD hS hl)
    | lor =>
      obtain ⟨x, y, st, rfl, h⟩ := mp_sl2_of h
      exact lv_lor hx hb hg (ih hd (h _ rfl) H locs ls hP hD hS hl)
    | lxor =>
      obtain ⟨x, y, st, rfl, h⟩ := mp_sl2_of h
      exact lv_lxor hx hb hg (ih hd (h _ rfl) H locs ls hP hD hS hl)
    | ldiv =>
      obtain ⟨x, y, st, rfl, h0, h⟩ := mp_sl2_of h
      exact lv_ldiv hx hb hg h0 (ih hd (h _ rfl) H locs ls hP hD hS hl)
    | lrem =>
      obtain ⟨x, y, st, rfl, h0, h⟩ := mp_sl2_of h
      exact lv_lrem hx hb hg h0 (ih hd (h _ rfl) H locs ls hP hD hS hl)
    | lshl =>
      obtain ⟨x, y, st, rfl, h⟩ := mp_sli_of h
      exact lv_lshl hx hb hg rfl (ih hd (h _ rfl) H locs ls hP hD hS hl)
    | lshr =>
      obtain ⟨x, y, st, rfl, h⟩ := mp_sli_of h
      exact lv_lshr hx hb hg rfl (ih hd (h _ rfl) H locs ls hP hD hS hl)
    | i2l =>
      obtain ⟨x, st, rfl, h⟩ := mp_s1_of h
      exact lv_i2l hx hb hg rfl (ih hd (h _ rfl) H locs ls hP hD hS hl)
    | l2i =>
      obtain ⟨x, st, rfl, h⟩ := mp_sl1_of h
      exact lv_l2i hx hb hg rfl (ih hd (h _ rfl) H locs ls hP hD hS hl)
    | i2b =>
      obtain ⟨x, st, rfl, h⟩ := mp_s1_of h
      exact lv_i2b hx hb hg rfl (ih hd (h _ rfl) H locs ls hP hD hS hl)
    | i2s =>
      obtain ⟨x, st, rfl, h⟩ := mp_s1_of h
      exact lv_i2s hx hb hg rfl (ih hd (h _ rfl) H locs ls hP hD hS hl)
    | lcmp =>
      obtain ⟨x, y, st, rfl, h⟩ := mp_sl2_of h
      exact W.lcmp hx hb hg (ih hd (h _ rfl) H locs ls hP hD hS hl)
    | dup =>
      cases st with
      | nil => exact h.elim
      | cons v st => exact lv_dup hx hb hg h.1 (ih hd h.2 H locs ls hP hD hS hl)
    | pop =>
      cases st with
      | nil => exact h.elim
      | cons v st => exact lv_pop hx hb hg h.1 (ih hd h.2 H locs ls hP hD hS hl)
    | dup2 =>
      obtain ⟨y, a, st, rfl, h⟩ := mp_sir_of h
      exact lv_dup2_11 hx hb hg rfl rfl (ih hd h H locs ls hP hD hS hl)
    | getfield z =>
      rcases hs with _ | ⟨j, _ | ⟨q0, hs⟩⟩
      · exact h.elim
      · exact h.elim
      ·
        replace h : (match t.1[j]? with
          | some x => mp_sr st fun a st => mp_wo ws q0 fun b ci fs => a = b ∧ ci = x.2.1 ∧ (match fs[x.2.2.1]? with | some v => mp_wp E X M.2.2.1 t M.2.2.2.1.2.1 M.2.2.2.1.2.2.1 r (pc + 3) lv (v :: st) ws k n | none => False)
          | none => False) := h
        replace hc : (match t.1[j]? with | some x => decide (x.1 = z) | none => false) = true := hc
        cases hx0 : t.1[j]? with
        | none => rw [hx0] at h; exact h.elim
        | some x =>
          rw [hx0] at h hc
          replace hc : x.1 = z := of_decide_eq_true hc
          obtain ⟨a, st, rfl, h⟩ := mp_sr_of h
          obtain ⟨b, ci, fs, hw, rfl, rfl, h⟩ := mp_wo_of h
          cases hv : fs[x.2.2.1]? with
          | none => rw [hv] at h; exact h.elim
          | some v =>
            rw [hv] at h
            obtain ⟨q, hq, hk, hlink, -, -, -⟩ := ht.1 x (List.mem_of_getElem? hx0)
            obtain ⟨ty, hty, hnm, hwin⟩ := mp_cell0 _ q hq
            subst hc
            exact va_get hx hb hts hwin hown hK hP q0 hw hq x.2.2.1 hk (hts _ hlink) (fun _ h9 => h9) hv hg (ih hd h H locs ls hP hD hS hl)
    | putfield z =>
      rcases hs with _ | ⟨j, _ | ⟨q0, hs⟩⟩
      · exact h.elim
      · exact h.elim
      ·
        replace h : (match t.1[j]? with
          | some x => mp_svr st fun v a st => mp_wo ws q0 fun b ci fs => a = b ∧ ci = x.2.1 ∧ narrow x.2.2.2.2.2 v = v ∧ fits x.2.2.2.2.2 v = true ∧ x.2.2.1 < fs.length ∧ mp_wp E X M.2.2.1 t M.2.2.2.1.2.1 M.2.2.2.1.2.2.1 r (pc + 3) lv st (ws.set q0 (b, .inr (ci, fs.set x.2.2.1 v))) k n
          | none => False) := h
        replace hc : (match t.1[j]? with | some x => decide (x.1 = z) && decide (x.2.2.2.1 = true → x.2.2.2.2.1 = true ∧ M.2.2.2.2.2 = true) | none => false) = true := hc
        cases hx0 : t.1[j]? with
        | none => rw [hx0] at h; exact h.elim
        | some x =>
          rw [hx0] at h hc
          replace hc := Bool.and_eq_true_iff.mp hc
          have hc1 : x.1 = z := of_decide_eq_true hc.1
          have hc2 := of_decide_eq_true hc.2
          obtain ⟨v, a, st, rfl, h⟩ := mp_svr_of h
          obtain ⟨b, ci, fs, hw, rfl, rfl, hn, hfit, hlen, h⟩ := mp_wo_of h
          obtain ⟨q, hq, hk, hlink, hfin, hpd, hdecl⟩ := ht.1 x (List.mem_of_getElem? hx0)
          obtain ⟨ty, hty, hnm, hwin⟩ := mp_cell0 _ q hq
          subst hc1
          cases hfb : x.2.2.2.1 with
          | false => exact va_put hx hb hts hwin ty hty hnm hown hK hP hD hS q0 hw hq x.2.2.1 hk (hts _ hlink) (fun _ h9 => h9) (hfin.trans hfb) hpd hn hfit hlen hg (fun H1 locs1 hP hD hS => ih hd h H1 locs1 ls hP hD hS hl)
          | true => exact va_putF hx hb hts hwin ty hty hnm hown hK hP hD hS q0 hw hq x.2.2.1 hk (hts _ hlink) (fun _ h9 => h9) (hfin.trans hfb) (hin (hc2 hfb).2) (hdecl (hc2 hfb).1) hpd hn hfit hlen hg (fun H1 locs1 hP hD hS => ih hd h H1 locs1 ls hP hD hS hl)
    | iaload =>
      match hs, h, hd with
      | [], h, hd => exact h.elim
      | q0 :: _, h, hd =>
        obtain ⟨j, a, st, rfl, h⟩ := mp_sir_of h
        obtain ⟨b, cA, N, f, hw, rfl, rfl, hv, h⟩ := mp_wi_of h
        exact va_iald hx hb hK hP q0 0 hw rfl hv hg (ih hd (h _ rfl) H locs ls hP hD hS hl)
    | laload =>
      match hs, h, hd with
      | [], h, hd => exact h.elim
      | q0 :: _, h, hd =>
        obtain ⟨j, a, st, rfl, h⟩ := mp_sir_of h
        obtain ⟨b, cA, N, f, hw, rfl, rfl, hv, h⟩ := mp_wl_of h
        exact va_lald hx hb hK hP q0 2 hw rfl hv hg (ih hd (h _ rfl) H locs ls hP hD hS hl)
    | aaload =>
      match hs, h, hd with
      | [], h, hd => exact h.elim
      | q0 :: _, h, hd =>
        obtain ⟨j, a, st, rfl, h⟩ := mp_sir_of h
        obtain ⟨b, cA, N, f, hw, rfl, rfl, hv, h⟩ := mp_wq_of h
        exact va_aldq hx hb hK hP q0 4 hw rfl hv hg (ih hd (h _ rfl) H locs ls hP hD hS hl)
    | baload =>
      match hs, h, hd with
      | [], h, hd => exact h.elim
      | [q0], h, hd =>
        obtain ⟨j, a, st, rfl, h⟩ := mp_sir_of h
        obtain ⟨b, cA, N, f, hw, rfl, rfl, hv, h⟩ := mp_wi_of h
        exact va_bald hx hb hK hP q0 1 hw rfl hv hg (ih hd (h _ rfl) H locs ls hP hD hS hl)
      | [q0, _], h, hd =>
        obtain ⟨j, a, st, rfl, h⟩ := mp_sir_of h
        obtain ⟨b, cA, N, f, hw, rfl, rfl, hv, h⟩ := mp_wi_of h
        exact va_zald hx hb hK hP q0 3 hw rfl hv hg (ih hd (h _ rfl) H locs ls hP hD hS hl)
      | _ :: _ :: _ :: _, h, hd => exact h.elim
    | iastore =>
      match hs, h, hd with
      | [], h, hd => exact h.elim
      | q0 :: _, h, hd =>
        obtain ⟨x, j, a, st, rfl, h⟩ := mp_siir_of h
        obtain ⟨b, cA, N, f, hw, rfl, rfl, hv, h⟩ := mp_wi_of h
        exact va_iast hx hb hK hP hD hS q0 0 hw rfl hv hg (fun H1 locs1 hP hD hS => ih hd (h _ rfl) H1 locs1 ls hP hD hS hl)
    | lastore =>
      match hs, h, hd with
      | [], h, hd => exact h.elim
      | q0 :: _, h, hd =>
        obtain ⟨x, j, a, st, rfl, h⟩ := mp_slir_of h
        obtain ⟨b, cA, N, f, hw, rfl, rfl, hv, h⟩ := mp_wl_of h
        exact va_last hx hb hK hP hD hS q0 2 hw rfl hv hg (fun H1 locs1 hP hD hS => ih hd (h _ rfl) H1 locs1 ls hP hD hS hl)
    | bastore =>
      match hs, h, hd with
      | [], h, hd => exact h.elim
      | [q0], h, hd =>
        obtain ⟨x, j, a, st, rfl, h⟩ := mp_siir_of h
        obtain ⟨b, cA, N, f, hw, rfl, rfl, hv, h⟩ := mp_wi_of h
        exact va_bast hx hb hK hP hD hS q0 1 hw rfl hv hg (fun H1 locs1 hP hD hS => ih hd (h _ rfl) H1 locs1 ls hP hD hS hl)
      | [q0, _], h, hd =>
        obtain ⟨x, j, a, st, rfl, h⟩ := mp_siir_of h
        obtain ⟨b, cA, N, f, hw, rfl, rfl, hv, h⟩ := mp_wi_of h
        exact va_zast hx hb hK hP hD hS q0 3 hw rfl hv hg (fun H1 locs1 hP hD hS => ih hd (h _ rfl) H1 locs1 ls hP hD hS hl)
      | _ :: _ :: _ :: _, h, hd => exact h.elim
    | arraylength =>
      match hs, h, hd with
      | [], h, hd => exact h.elim
      | [_], h, hd => exact h.elim
      | _ :: _ :: _ :: _, h, hd => exact h.elim
      | [q0, t0], h, hd =>
        obtain ⟨a, st, rfl, h⟩ := mp_sr_of h
        obtain ⟨b, cA, x, hw, rfl, rfl, h5, h⟩ := mp_wa_of h
        have hty : ∃ ty, (mp_ty E.2.2)[t0]? = some (E.2.2 t0, ty) := by
          match t0, h5 with
          | 0, _ => exact ⟨_, rfl⟩
          | 1, _ => exact ⟨_, rfl⟩
          | 2, _ => exact ⟨_, rfl⟩
          | 3, _ => exact ⟨_, rfl⟩
          | 4, _ => exact ⟨_, rfl⟩
        obtain ⟨ty, hty⟩ := hty
        exact va_alen hx hb hK hP q0 t0 hw hty rfl hg (ih hd (h _ rfl) H locs ls hP hD hS hl)
    | newarray ty =>
      cases ty with
      | int =>
        match hs, h, hd with
        | [], h, hd => exact h.elim
        | N :: _, h, hd =>
          obtain ⟨x, st, rfl, ⟨h0, h1⟩, hk, hn, hN, h⟩ := mp_s1_of h
          refine va_newa (ty := .int) (N' := N) (a0 := (N, .inl (fun _ => 0))) hx hb (hts _ (mp_utArr 0 _ rfl)) rfl hK hP hD hS hA (fun _ => rfl) (fun q => by rw [mp_i32_lt, mp_t0] at q; omega) (by rw [Int32.toNatClampNeg, h1]; rfl) ?_ (by rw [hR]; exact hk) (by rw [hR]; exact hn) hg (fun q cA H1 hK1 hP hD hS => ?_)
          · show N * _ ≤ _
            exact Nat.le_trans (Nat.mul_le_mul hN (show componentBytes .int ≤ 8 by decide)) (by decide)
          · have e : cA = E.2.2 0 := by
              have a1 := (hK1.2 5 _ rfl).2
              have a2 := (hK.2 0 _ rfl).2
              have a1 : X.2.1.1.vm.findClass ("[" ++ FieldType.toString .int) = some cA := a1
              have a2 : X.2.1.1.vm.findClass ("[" ++ FieldType.toString .int) = some (E.2.2 0) := a2
              rw [a1] at a2
              exact Option.some.inj a2
            subst e
            exact ih hd (h q) H1 locs ls hP hD hS hl
      | byte =>
        match hs, h, hd with
        | [], h, hd => exact h.elim
        | N :: _, h, hd =>
          obtain ⟨x, st, rfl, ⟨h0, h1⟩, hk, hn, hN, h⟩ := mp_s1_of h
          refine va_newa (ty := .byte) (N' := N) (a0 := (N, .inl (fun _ => 0))) hx hb (hts _ (mp_utArr 1 _ rfl)) rfl hK hP hD hS hA (fun _ => rfl) (fun q => by rw [mp_i32_lt, mp_t0] at q; omega) (by rw [Int32.toNatClampNeg, h1]; rfl) ?_ (by rw [hR]; exact hk) (by rw [hR]; exact hn) hg (fun q cA H1 hK1 hP hD hS => ?_)
          · show N * _ ≤ _
            exact Nat.le_trans (Nat.mul_le_mul hN (show componentBytes .byte ≤ 8 by decide)) (by decide)
          · have e : cA = E.2.2 1 := by
              have a1 := (hK1.2 5 _ rfl).2
              have a2 := (hK.2 1 _ rfl).2
              have a1 : X.2.1.1.vm.findClass ("[" ++ FieldType.toString .byte) = some cA := a1
              have a2 : X.2.1.1.vm.findClass ("[" ++ FieldType.toString .byte) = some (E.2.2 1) := a2
              rw [a1] at a2
              exact Option.some.inj a2
            subst e
            exact ih hd (h q) H1 locs ls hP hD hS hl
      | long =>
        match hs, h, hd with
        | [], h, hd => exact h.elim
        | N :: _, h, hd =>
          obtain ⟨x, st, rfl, ⟨h0, h1⟩, hk, hn, hN, h⟩ := mp_s1_of h
          refine va_newa (ty := .long) (N' := N) (a0 := (N, .inr (.inl (fun _ => 0)))) hx hb (hts _ (mp_utArr 2 _ rfl)) rfl hK hP hD hS hA (fun _ => rfl) (fun q => by rw [mp_i32_lt, mp_t0] at q; omega) (by rw [Int32.toNatClampNeg, h1]; rfl) ?_ (by rw [hR]; exact hk) (by rw [hR]; exact hn) hg (fun q cA H1 hK1 hP hD hS => ?_)
          · show N * _ ≤ _
            exact Nat.le_trans (Nat.mul_le_mul hN (show componentBytes .long ≤ 8 by decide)) (by decide)
          · have e : cA = E.2.2 2 := by
              have a1 := (hK1.2 5 _ rfl).2
              have a2 := (hK.2 2 _ rfl).2
              have a1 : X.2.1.1.vm.findClass ("[" ++ FieldType.toString .long) = some cA := a1
              have a2 : X.2.1.1.vm.findClass ("[" ++ FieldType.toString .long) = some (E.2.2 2) := a2
              rw [a1] at a2
              exact Option.some.inj a2
            subst e
            exact ih hd (h q) H1 locs ls hP hD hS hl
      | boolean =>
        match hs, h, hd with
        | [], h, hd => exact h.elim
        | N :: _, h, hd =>
          obtain ⟨x, st, rfl, ⟨h0, h1⟩, hk, hn, hN, h⟩ := mp_s1_of h
          refine va_newa (ty := .boolean) (N' := N) (a0 := (N, .inl (fun _ => 0))) hx hb (hts _ (mp_utArr 3 _ rfl)) rfl hK hP hD hS hA (fun _ => rfl) (fun q => by rw [mp_i32_lt, mp_t0] at q; omega) (by rw [Int32.toNatClampNeg, h1]; rfl) ?_ (by rw [hR]; exact hk) (by rw [hR]; exact hn) hg (fun q cA H1 hK1 hP hD hS => ?_)
          · show N * _ ≤ _
            exact Nat.le_trans (Nat.mul_le_mul hN (show componentBytes .boolean ≤ 8 by decide)) (by decide)
          · have e : cA = E.2.2 3 := by
              have a1 := (hK1.2 5 _ rfl).2
              have a2 := (hK.2 3 _ rfl).2
              have a1 : X.2.1.1.vm.findClass ("[" ++ FieldType.toString .boolean) = some cA := a1
              have a2 : X.2.1.1.vm.findClass ("[" ++ FieldType.toString .boolean) = some (E.2.2 3) := a2
              rw [a1] at a2
              exact Option.some.inj a2
            subst e
            exact ih hd (h q) H1 locs ls hP hD hS hl
      | _ => exact h.elim
    | goto off =>
      match hs, hc, h, hd with
      | [], hc, h, hd => exact absurd (show false = true from hc) (by decide)
      | a :: hs, hc, h, hd =>
        replace hc : (pc : Int) + off = (a : Int) := of_decide_eq_true hc
        exact lv_goto hx hb hg hc (ih hd h H locs ls hP hD hS hl)
    | ifCond cd off =>
      rcases hs with _ | ⟨a, hs⟩
      · exact absurd (show false = true from hc) (by decide)
      ·
        replace hc : (pc : Int) + off = (a : Int) := of_decide_eq_true hc
        obtain ⟨x, st, rfl, h⟩ := mp_s1_of h
        cases cd with
        | eq => exact lv_if_eq hx hb hg hc (fun q => h.1 q H locs ls hP hD hS hl) (fun q => h.2 (fun e => q (Int32.toInt_inj.mp (e.trans mp_t0.symm))) H locs ls hP hD hS hl)
        | ne => exact lv_if_ne hx hb hg hc (fun q => h.1 (fun e => q (Int32.toInt_inj.mp (e.trans mp_t0.symm))) H locs ls hP hD hS hl) (fun q => h.2 q H locs ls hP hD hS hl)
        | lt => exact lv_if_lt hx hb hg hc (fun q => h.1 (by rw [mp_i32_lt, mp_t0] at q; exact q) H locs ls hP hD hS hl) (fun q => h.2 (by rw [mp_i32_lt, mp_t0] at q; omega) H locs ls hP hD hS hl)
        | ge => exact lv_if_ge hx hb hg hc (fun q => h.1 (by rw [mp_i32_le, mp_t0] at q; exact q) H locs ls hP hD hS hl) (fun q => h.2 (by rw [mp_i32_le, mp_t0] at q; omega) H locs ls hP hD hS hl)
        | gt => exact lv_if_gt hx hb hg hc (fun q => h.1 (by rw [mp_i32_lt, mp_t0] at q; exact q) H locs ls hP hD hS hl) (fun q => h.2 (by rw [mp_i32_lt, mp_t0] at q; omega) H locs ls hP hD hS hl)
        | le => exact lv_if_le hx hb hg hc (fun q => h.1 (by rw [mp_i32_le, mp_t0] at q; exact q) H locs ls hP hD hS hl) (fun q => h.2 (by rw [mp_i32_le, mp_t0] at q; omega) H locs ls hP hD hS hl)
    | if_icmp cd off =>
      rcases hs with _ | ⟨a, hs⟩
      · exact absurd (show false = true from hc) (by decide)
      ·
        replace hc : (pc : Int) + off = (a : Int) := of_decide_eq_true hc
        obtain ⟨x, y, st, rfl, h⟩ := mp_s2_of h
        cases cd with
        | eq => exact lv_icmp_eq hx hb hg hc (fun q => h.1 q H locs ls hP hD hS hl) (fun q => h.2 (mp_i32_ne q) H locs ls hP hD hS hl)
        | ne => exact lv_icmp_ne hx hb hg hc (fun q => h.1 (mp_i32_ne q) H locs ls hP hD hS hl) (fun q => h.2 q H locs ls hP hD hS hl)
        | lt => exact lv_icmp_lt hx hb hg hc (fun q => h.1 (mp_i32_lt.mp q) H locs ls hP hD hS hl) (fun q => h.2 (by rw [mp_i32_lt] at q; omega) H locs ls hP hD hS hl)
        | ge => exact lv_icmp_ge hx hb hg hc (fun q => h.1 (mp_i32_le.mp q) H locs ls hP hD hS hl) (fun q => h.2 (by rw [mp_i32_le] at q; omega) H locs ls hP hD hS hl)
        | gt => exact lv_icmp_gt hx hb hg hc (fun q => h.1 (mp_i32_lt.mp q) H locs ls hP hD hS hl) (fun q => h.2 (by rw [mp_i32_lt] at q; omega) H locs ls hP hD hS hl)
        | le => exact lv_icmp_le hx hb hg hc (fun q => h.1 (mp_i32_le.mp q) H locs ls hP hD hS hl) (fun q => h.2 (by rw [mp_i32_le] at q; omega) H locs ls hP hD hS hl)
    | _ => exact h.elim
end
section
-- contracts, calls, ends
def mp_Q (E : mp_E) (post : Option Value → va_W → Prop) (A : Nat → Prop) : Array Value → State → Outcome → State → Prop := fun _ st oc t => (∃ (v : Option Value) (w' : va_W), oc = .returned v ∧ post v w' ∧ va_P E.2.1 vwCl w' t.heap ∧ va_D A w') ∧ va_F A st t
def mp_R (E : mp_E) (X : mp_X) (post : Option Value → va_W → Prop) (mc ms : Nat) : Prop := X.2.2.2.2 = MQ X.2.1.2.2.2 (mp_Q E post X.2.2.2.1) X.2.1.2.2.1 X.2.1.1 mc ms X.2.2.2.1
def mp_Ct (E : mp_E) (y : MethodName) (b : ByteArray) (mL : Nat) (r : Option FieldType) (nf mc ms nl : Nat) (av : List Value) (w : va_W) (post : Option Value → va_W → Prop) : Prop :=
  ∀ sz : Nat, Met E.1 y (Jvm.Cond.code y b mL r :: mp_UT) ({ frames := nf, cells := mc, slots := ms, locals := nl } : Room) (va_Pc av (fun U => U.heap.size = sz ∧ va_P E.2.1 vwCl w U.heap ∧ va_K E.2.1 vwCl (mp_ty E.2.2) U ∧ mp_N U ∧ va_D (fun _ => True) w)) (mp_Q E post (va_A w sz)) mc ms (va_A w sz)
theorem mp_met {E : mp_E} {y : MethodName} {b : ByteArray} {mL : Nat} {r : Option FieldType} {nf mc ms nl : Nat} {av : List Value} {w : va_W} {post : Option Value → va_W → Prop} (ini : Bool) (hini : ini = true → y.name = "<init>") (hy : plainName y.cls = true) (hlen : (lg_sl av).length ≤ mL)
    (body : ∀ X : mp_X, mp_F E X (y.cls, b, mL, (nf, mc, ms, nl), r, ini) → mp_R E X post mc ms → mp_W E X mL 0 (lv_args 0 av) [] w 0 0) : mp_Ct E y b mL r nf mc ms nl av w post := by
  intro sz
  refine Met.ofW (cc := b) (maxL := mL) (ret := r) hy rfl ?_
  intro p e s m args below meth c s₁ B hml hv
  obtain ⟨rfl, hsz, hP, hK, hN, hD0⟩ := hv
  have hts := atoms_spec (ws := Jvm.Cond.code y b mL r :: mp_UT) B.pre
  have hown : s.vm.findClass y.cls = some m.cls := findClass_of_methodNamed B.named
  have hnm : meth.name = y.name := (name_of_methodNamed B.named B.method).1
  subst hsz
  have hD := hD0.self (sz := s.heap.size)
  have hl := lv_entry av (n := mL) hlen
  rw [lg_entry_eq]
  exact body ((p, e, ({ frames := nf, cells := mc, slots := ms, locals := nl } : Room)), (s, m, av.toArray, below), (meth, c), (va_A w s.heap.size, MQ below (mp_Q E post (va_A w s.heap.size)) av.toArray s mc ms (va_A w s.heap.size)))
    ⟨B.exec, B.bytes, hml, hown, fun w h => hts w (List.mem_cons_of_mem _ h), hK, fun q h => Or.inr h, B.notSynchronized, rfl, B.returns, fun h => hnm.trans (hini h), hN⟩ rfl s.heap [] _ hP hD va_S.rf hl
theorem mp_fm {α β : Type} {f : α → Option β} : ∀ {is : List α} {w : List β}, is.map f = w.map some → is.filterMap f = w
  | [], [], _ => rfl
  | [], _ :: _, h => by simp at h
  | _ :: _, [], h => by simp at h
  | i :: is, x :: w, h => by
    simp only [List.map_cons, List.cons.injEq] at h
    rw [List.filterMap_cons, h.1, mp_fm h.2]
theorem mp_iret {E : mp_E} {X : mp_X} {M : mp_M} {post : Option Value → va_W → Prop} {mc ms : Nat} (hF : mp_F E X M) (hQ : mp_R E X post mc ms) {ty : FieldType} (hr : M.2.2.2.2.1 = some ty) {pc : Nat} {lv : List (Nat × Value)} {v : Int32} {ws : va_W} {k n : Nat} (hn : narrow ty (.int v) = .int v) (hk : k ≤ mc) (hn2 : n ≤ ms) (is : List Nat) {w' : va_W} (hs : is.map (fun i => ws[i]?) = w'.map some) (hnd : va_nd is = true) (hp : post (some (.int v)) w') (hdg : decode M.2.1 pc = .ok (.ireturn, 1)) : mp_W E X M.2.2.1 pc lv [.int v] ws k n := by
  intro H locs ls hP hD hS hl
  have hQ : X.2.2.2.2 = _ := hQ
  rw [hQ]
  obtain ⟨hx, hb, hml, hown, hts, hK, hA, hlk, hR, hrt, hin, hN⟩ := hF
  refine W.widen hk hn2 ?_
  exact W.zret hx hb (hrt.trans hr) hn (fun t ht hW => ⟨⟨_, w', rfl, hp, by rw [ht]; exact hP.sub is (mp_fm hs), hD.sub is hnd hs⟩, hS.F ht⟩) hS.2.2 hdg hlk
theorem mp_lret {E : mp_E} {X : mp_X} {M : mp_M} {post : Option Value → va_W → Prop} {mc ms : Nat} (hF : mp_F E X M) (hQ : mp_R E X post mc ms) (hr : M.2.2.2.2.1 = some .long) {pc : Nat} {lv : List (Nat × Value)} {v : Int64} {ws : va_W} {k n : Nat} (hk : k ≤ mc) (hn2 : n ≤ ms) (is : List Nat) {w' : va_W} (hs : is.map (fun i => ws[i]?) = w'.map some) (hnd : va_nd is = true) (hp : post (some (.long v)) w') (hdg : decode M.2.1 pc = .ok (.lreturn, 1)) : mp_W E X M.2.2.1 pc lv [.long v] ws k n := by
  intro H locs ls hP hD hS hl
  have hQ : X.2.2.2.2 = _ := hQ
  rw [hQ]
  obtain ⟨hx, hb, hml, hown, hts, hK, hA, hlk, hR, hrt, hin, hN⟩ := hF
  refine W.widen hk hn2 ?_
  exact W.lret hx hb (hrt.trans hr) (fun t ht hW => ⟨⟨_, w', rfl, hp, by rw [ht]; exact hP.sub is (mp_fm hs), hD.sub is hnd hs⟩, hS.F ht⟩) hS.2.2 hdg hlk
theorem mp_vret {E : mp_E} {X : mp_X} {M : mp_M} {post : Option Value → va_W → Prop} {mc ms : Nat} (hF : mp_F E X M) (hQ : mp_R E X post mc ms) (hr : M.2.2.2.2.1 = none) {pc : Nat} {lv : List (Nat × Value)} {ws : va_W} {k n : Nat} (hk : k ≤ mc) (hn2 : n ≤ ms) (is : List Nat) {w' : va_W} (hs : is.map (fun i => ws[i]?) = w'.map some) (hnd : va_nd is = true) (hp : post none w') (hdg : decode M.2.1 pc = .ok (.return_, 1)) : mp_W E X M.2.2.1 pc lv [] ws k n := by
  intro H locs ls hP hD hS hl
  have hQ : X.2.2.2.2 = _ := hQ
  rw [hQ]
  obtain ⟨hx, hb, hml, hown, hts, hK, hA, hlk, hR, hrt, hin, hN⟩ := hF
  refine W.widen hk hn2 ?_
  exact W.vret hx hb (hrt.trans hr) (fun t ht hW => ⟨⟨_, w', rfl, hp, by rw [ht]; exact hP.sub is (mp_fm hs), hD.sub is hnd hs⟩, hS.F ht⟩) hS.2.2 hdg hlk
theorem mp_aret {E : mp_E} {X : mp_X} {M : mp_M} {post : Option Value → va_W → Prop} {mc ms : Nat} (hF : mp_F E X M) (hQ : mp_R E X post mc ms) {rt : FieldType} (hr : M.2.2.2.2.1 = some rt) (hrt2 : (∃ n, rt = .object n) ∨ ∃ t, rt = .array t) {pc : Nat} {lv : List (Nat × Value)} {a : Nat} {ws : va_W} {k n : Nat} (hk : k ≤ mc) (hn2 : n ≤ ms) (is : List Nat) {w' : va_W} (hs : is.map (fun i => ws[i]?) = w'.map some) (hnd : va_nd is = true) (hp : post (some (.ref a)) w') (hdg : decode M.2.1 pc = .ok (.areturn, 1)) : mp_W E X M.2.2.1 pc lv [.ref a] ws k n := by
  intro H locs ls hP hD hS hl
  have hQ : X.2.2.2.2 = _ := hQ
  rw [hQ]
  obtain ⟨hx, hb, hml, hown, hts, hK, hA, hlk, hR, hrt, hin, hN⟩ := hF
  refine W.widen hk hn2 ?_
  exact W.aret hx hb (hrt.trans hr) hrt2 (Or.inr ⟨_, rfl⟩) (fun t ht hW => ⟨⟨_, w', rfl, hp, by rw [ht]; exact hP.sub is (mp_fm hs), hD.sub is hnd hs⟩, hS.F ht⟩) hS.2.2 hdg hlk
-- what a call links, checked by a program: places of the words in the law's list
def mp_hd (y : MethodName) (argc : Nat) : Bool := decide (y.cls ≠ "java/lang/invoke/MethodHandle") && decide (y.cls ≠ "java/lang/invoke/VarHandle") && decide ((parseMethodDescriptor y.desc).map (fun d => d.parameters.length) = some argc)
def mp_lvB (own : String) (idx : Nat) (y : MethodName) (b : ByteArray) (mL : Nat) (r : Option FieldType) (argc ci j1 j2 j3 j4 j5 : Nat) : Bool := match vwCl[ci]? with
  | none => false
  | some q => decide (y.cls = q.1) && mp_gK j1 (.methodLink own idx y) && mp_gK j2 (.instanceMethod y) && mp_gK j3 (.selects q.1 y y) && mp_gK j4 (.initialized q.1) && mp_gK j5 (.code y b mL r) && mp_hd y argc
def mp_lsB (own : String) (idx : Nat) (y : MethodName) (b : ByteArray) (mL : Nat) (r : Option FieldType) (argc j1 j2 j4 j5 : Nat) : Bool :=
  mp_gK j1 (.methodLink own idx y) && mp_gK j2 (.static y) && mp_gK j4 (.initialized y.cls) && mp_gK j5 (.code y b mL r) && mp_hd y argc
def mp_liB (own : String) (idx : Nat) (y : MethodName) (b : ByteArray) (mL : Nat) (argc j1 j2 j4 j5 : Nat) : Bool :=
  decide (y.name = "<init>") && mp_gK j1 (.methodLink own idx y) && mp_gK j2 (.instanceMethod y) && mp_gK j4 (.initialized y.cls) && mp_gK j5 (.code y b mL none) && mp_hd y argc
def mp_LV (own : String) (idx : Nat) (y : MethodName) (b : ByteArray) (mL : Nat) (r : Option FieldType) (argc ci : Nat) : Prop := ∃ q : vw_C, vwCl[ci]? = some q ∧ GoodIn mp_UT (wsV own idx q.1 y (Jvm.Cond.code y b mL r :: mp_UT)) ∧ (y.cls = q.1 ∧ y.cls ≠ "java/lang/invoke/MethodHandle" ∧ y.cls ≠ "java/lang/invoke/VarHandle" ∧ (parseMethodDescriptor y.desc).map (fun d => d.parameters.length) = some argc)
def mp_LS (own : String) (idx : Nat) (y : MethodName) (b : ByteArray) (mL : Nat) (r : Option FieldType) (argc : Nat) : Prop := GoodIn mp_UT (va_wsS own idx y (Jvm.Cond.code y b mL r :: mp_UT)) ∧ (y.cls ≠ "java/lang/invoke/MethodHandle" ∧ y.cls ≠ "java/lang/invoke/VarHandle" ∧ (parseMethodDescriptor y.desc).map (fun d => d.parameters.length) = some argc)
def mp_LI (own : String) (idx : Nat) (y : MethodName) (b : ByteArray) (mL : Nat) (argc : Nat) : Prop := y.name = "<init>" ∧ GoodIn mp_UT (Jvm.Cond.code y b mL none :: mp_UT) ∧ Jvm.Cond.methodLink own idx y ∈ mp_UT ∧ Jvm.Cond.instanceMethod y ∈ mp_UT ∧ Jvm.Cond.initialized y.cls ∈ mp_UT ∧ (y.cls ≠ "java/lang/invoke/MethodHandle" ∧ y.cls ≠ "java/lang/invoke/VarHandle" ∧ (parseMethodDescriptor y.desc).map (fun d => d.parameters.length) = some argc)
theorem mp_hd_ok {y : MethodName} {argc : Nat} (h : mp_hd y argc = true) : y.cls ≠ "java/lang/invoke/MethodHandle" ∧ y.cls ≠ "java/lang/invoke/VarHandle" ∧ (parseMethodDescriptor y.desc).map (fun d => d.parameters.length) = some argc := by
  simp only [mp_hd, Bool.and_eq_true, decide_eq_true_eq] at h
  exact ⟨h.1.1, h.1.2, h.2⟩
theorem mp_gc {ws : List Jvm.Cond} (h : ∀ w ∈ ws, w ∈ mp_UT) : GoodIn mp_UT ws := fun w hw => ⟨h w hw, mp_utGood w (h w hw)⟩
theorem mp_lv_ok {own : String} {idx : Nat} {y : MethodName} {b : ByteArray} {mL : Nat} {r : Option FieldType} {argc ci j1 j2 j3 j4 j5 : Nat} (h : mp_lvB own idx y b mL r argc ci j1 j2 j3 j4 j5 = true) : mp_LV own idx y b mL r argc ci := by
  unfold mp_lvB at h
  split at h
  · exact absurd h (by decide)
  · rename_i q hq
    simp only [Bool.and_eq_true, decide_eq_true_eq] at h
    obtain ⟨⟨⟨⟨⟨⟨h0, h1⟩, h2⟩, h3⟩, h4⟩, h5⟩, h6⟩ := h
    refine ⟨q, hq, mp_gc ?_, h0, mp_hd_ok h6⟩
    intro w hw
    rcases List.mem_append.mp hw with hw | hw
    · simp only [List.mem_cons, List.not_mem_nil, or_false] at hw
      rcases hw with rfl | rfl | rfl | rfl
      · exact mp_gm h1
      · exact mp_gm h2
      · exact mp_gm h3
      · exact mp_gm h4
    · rcases List.mem_cons.mp hw with rfl | hw
      · exact mp_gm h5
      · exact hw
theorem mp_ls_ok {own : String} {idx : Nat} {y : MethodName} {b : ByteArray} {mL : Nat} {r : Option FieldType} {argc j1 j2 j4 j5 : Nat} (h : mp_lsB own idx y b mL r argc j1 j2 j4 j5 = true) : mp_LS own idx y b mL r argc := by
  simp only [mp_lsB, Bool.and_eq_true, decide_eq_true_eq] at h
  obtain ⟨⟨⟨⟨h1, h2⟩, h4⟩, h5⟩, h6⟩ := h
  refine ⟨mp_gc ?_, mp_hd_ok h6⟩
  intro w hw
  rcases List.mem_append.mp hw with hw | hw
  · simp only [List.mem_cons, List.not_mem_nil, or_false] at hw
    rcases hw with rfl | rfl | rfl
    · exact mp_gm h1
    · exact mp_gm h2
    · exact mp_gm h4
  · rcases List.mem_cons.mp hw with rfl | hw
    · exact mp_gm h5
    · exact hw
theorem mp_li_ok {own : String} {idx : Nat} {y : MethodName} {b : ByteArray} {mL : Nat} {argc j1 j2 j4 j5 : Nat} (h : mp_liB own idx y b mL argc j1 j2 j4 j5 = true) : mp_LI own idx y b mL argc := by
  simp only [mp_liB, Bool.and_eq_true, decide_eq_true_eq] at h
  obtain ⟨⟨⟨⟨⟨h0, h1⟩, h2⟩, h4⟩, h5⟩, h6⟩ := h
  refine ⟨h0, mp_gc ?_, mp_gm h1, mp_gm h2, mp_gm h4, mp_hd_ok h6⟩
  intro w hw
  rcases List.mem_cons.mp hw with rfl | hw
  · exact mp_gm h5
  · exact hw
/-- calls of nest mates' private methods -/
def mp_lnB (own : String) (idx : Nat) (y : MethodName) (host : String) (b : ByteArray) (mL : Nat) (r : Option FieldType) (argc j1 j4 j5 : Nat) : Bool :=
  decide (mp_nst[j1]? = some (own, idx, y, host)) && mp_gK j4 (.initialized y.cls) && mp_gK j5 (.code y b mL r) && mp_hd y argc
def mp_LNs (own : String) (idx : Nat) (y : MethodName) (b : ByteArray) (mL : Nat) (r : Option FieldType) (argc : Nat) : Prop := ∃ host, (own, idx, y, host) ∈ mp_nst ∧ GoodIn mp_UT (Jvm.Cond.code y b mL r :: mp_UT) ∧ Jvm.Cond.initialized y.cls ∈ mp_UT ∧ (y.cls ≠ "java/lang/invoke/MethodHandle" ∧ y.cls ≠ "java/lang/invoke/VarHandle" ∧ (parseMethodDescriptor y.desc).map (fun d => d.parameters.length) = some argc)
theorem mp_ln_ok {own : String} {idx : Nat} {y : MethodName} {host : String} {b : ByteArray} {mL : Nat} {r : Option FieldType} {argc j1 j4 j5 : Nat} (h : mp_lnB own idx y host b mL r argc j1 j4 j5 = true) : mp_LNs own idx y b mL r argc := by
  simp only [mp_lnB, Bool.and_eq_true, decide_eq_true_eq] at h
  obtain ⟨⟨⟨h1, h4⟩, h5⟩, h6⟩ := h
  refine ⟨host, List.mem_of_getElem? h1, mp_gc ?_, mp_gm h4, mp_hd_ok h6⟩
  intro w hw
  rcases List.mem_cons.mp hw with rfl | hw
  · exact mp_gm h5
  · exact hw
theorem mp_blind (E : mp_E) (av : List Value) (sz : Nat) (w : va_W) : FrameBlind (va_Pc av (fun U => U.heap.size = sz ∧ va_P E.2.1 vwCl w U.heap ∧ va_K E.2.1 vwCl (mp_ty E.2.2) U ∧ mp_N U ∧ va_D (fun _ => True) w)) := by
  intro a U g mk q
  obtain ⟨q0, q1, qP, qK, qN, qD⟩ := q
  exact ⟨q0, q1, qP, va_K.moved (u := U) (U := U.calling g mk a) (Vm.Alike.refl U.vm) qK, mp_N_same (u := U) (U := U.calling g mk a) rfl qN, qD⟩
section MPC
variable {E : mp_E} {X : mp_X} {M : mp_M} {y : MethodName} {b : ByteArray} {mL : Nat} {r : Option FieldType} {nf mc ms nl : Nat} {As : List Value} {a : Nat} {wc : va_W} {post : Option Value → va_W → Prop} {idx ci : Nat}
variable {pc : Nat} {lv : List (Nat × Value)} {rest : List Value} {ws : va_W} {k n : Nat}
theorem mp_back (hF : mp_F E X M) {fr : List Value} {st0 : List Value} {sz : Nat} (isC isR : List Nat) {wr : va_W} (hC1 : isC.map (fun i => ws[i]?) = wc.map some) (hR1 : isR.map (fun i => ws[i]?) = wr.map some) (hnd : va_nd isR = true) (hdis : isR.all (fun i => !isC.contains i) = true)
    (hrun : ∀ (H : Heap) (locs : List Loc) (ls : Array Slot), va_P E.2.1 vwCl ws H → va_D X.2.2.2.1 ws → va_S X.2.2.2.1 X.2.1.1.heap H locs → lv_has ls M.2.2.1 lv → ∃ a9 : Array Value, va_Run X.1.1 E.1 X.1.2.1 X.1.2.2 X.2.1.1 X.2.1.2.1 X.2.1.2.2.1 X.2.1.2.2.2 X.2.2.1.1 X.2.2.1.2 H locs k n mc ms (F0 X.2.1.2.1 pc ls st0) rest (mp_Q E post (va_A wc H.size) a9) (va_A wc H.size))
    (kk : ∀ (v : Option Value) (w' : va_W), post v w' → mp_W E X M.2.2.1 (pc + 3) lv (v.toList ++ rest) (wr ++ w') (k + mc) (n + ms)) : mp_W E X M.2.2.1 pc lv st0 ws k n := by
  intro H locs ls hP hD hS hl
  obtain ⟨hx, hb, hml, hown, hts, hK, hA, hlk, hR, hrt, hin, hN⟩ := hF
  have hFc := va_free (wc := wc) hD hS hA isC hC1
  have hdis : ∀ i ∈ isR, i ∉ isC := by
    intro i hi hc
    have h1 := List.all_eq_true.mp hdis i hi
    rw [List.contains_iff_mem.mpr hc] at h1
    exact absurd h1 (by decide)
  intro T hT X0
  obtain ⟨a9, hrun⟩ := hrun H locs ls hP hD hS hl
  obtain ⟨v, st₀, t, T', L, h0, X', hL, e1, e2, ⟨⟨v', w', hv, hp, hP1, hD1⟩, hz, hkk⟩, st⟩ := hrun T hT X0
  cases hv
  rw [h0] at hz hkk
  have hS' : va_S X.2.2.2.1 X.2.1.1.heap T'.heap (locs ++ L) := ⟨Nat.le_trans hS.1 (by rw [e1]; exact hz), fun q h1 h2 => by rw [e1, hkk q (Nat.lt_of_lt_of_le h1 hS.1) (fun z => h2 (hFc q z))]; exact hS.2.1 q h1 h2, fun q hq => by
      rcases List.mem_append.mp hq with h | h
      · exact hS.2.2 q h
      · exact hFc _ (hL q h)⟩
  obtain ⟨hP2, hD2⟩ := va_join (H1 := T'.heap) hP hD isC isR hC1 hR1 hnd hdis (fun q h1 h2 => by rw [e1]; exact hkk q h1 h2) hFc (by rw [e1]; exact hP1) hD1
  obtain ⟨t2, a1, b1⟩ := kk v w' hp T'.heap (locs ++ L) ls hP2 hD2 hS' hl T' rfl X'
  exact ⟨t2, st t2 a1, b1⟩
theorem mp_callV (hF : mp_F E X M) (hC : mp_Ct E y b mL r nf mc ms nl (.ref a :: As) wc post) (hL : mp_LV M.1 idx y b mL r As.length ci) (q0 : Nat) {fs : List Value} (hrecv : ws[q0]? = some (a, .inr (ci, fs)))
    (isC isR : List Nat) {wr : va_W} (hC1 : isC.map (fun i => ws[i]?) = wc.map some) (hnC : va_nd isC = true) (hR1 : isR.map (fun i => ws[i]?) = wr.map some) (hnd : va_nd isR = true) (hdis : isR.all (fun i => !isC.contains i) = true)
    (hroom : nf + 1 ≤ M.2.2.2.1.1 ∧ 8 + (mL + 11) + nl ≤ M.2.2.2.1.2.2.2 ∧ k + mc ≤ M.2.2.2.1.2.1 ∧ n + ms ≤ M.2.2.2.1.2.2.1) (hcat : (rest.map (fun v => v.category)).sum ≤ 8) (hdg : decode M.2.1 pc = .ok (.invokevirtual idx, 3))
    (kk : ∀ (v : Option Value) (w' : va_W), post v w' → mp_W E X M.2.2.1 (pc + 3) lv (v.toList ++ rest) (wr ++ w') (k + mc) (n + ms)) : mp_W E X M.2.2.1 pc lv (As.reverse ++ .ref a :: rest) ws k n := by
  refine mp_back (fr := []) (sz := 0) hF isC isR hC1 hR1 hnd hdis (fun H locs ls hP hD hS hl => ⟨(.ref a :: As).toArray, ?_⟩) kk
  obtain ⟨hx, hb, hml, hown, hts, hK, hA, hlk, hR, hrt, hin, hN⟩ := hF
  obtain ⟨q, hq, hg, hd⟩ := hL
  have hPc := hP.sub (ws' := wc) isC (mp_fm hC1)
  have hDc := hD.sub isC hnC hC1
  exact va_runV (rest := rest) ⟨hx, hb, hml, hown, hts⟩ (hC H.size) (cwV As.length hts hg rfl rfl rfl hd ⟨by rw [hR]; exact hroom.1, by rw [hR]; exact hroom.2.1⟩) ⟨mp_blind E _ _ _, va_recv hK hP hq hrecv, fun U hU hW => ⟨rfl, by rw [hU], by rw [hU]; exact hPc, va_K.moved hW.alike hK, mp_N_warm hW hN, hDc.weaken (fun _ _ _ _ => trivial)⟩⟩ rfl rfl hl.1 rfl (lv_room hcat) hdg ⟨by rw [hR]; exact hroom.2.2.1, by rw [hR]; exact hroom.2.2.2⟩
theorem mp_callI (hF : mp_F E X M) (hC : mp_Ct E y b mL none nf mc ms nl (.ref a :: As) wc post) (hL : mp_LI M.1 idx y b mL As.length)
    (isC isR : List Nat) {wr : va_W} (hC1 : isC.map (fun i => ws[i]?) = wc.map some) (hnC : va_nd isC = true) (hR1 : isR.map (fun i => ws[i]?) = wr.map some) (hnd : va_nd isR = true) (hdis : isR.all (fun i => !isC.contains i) = true)
    (hroom : nf + 1 ≤ M.2.2.2.1.1 ∧ 8 + (mL + 11) + nl ≤ M.2.2.2.1.2.2.2 ∧ k + mc ≤ M.2.2.2.1.2.1 ∧ n + ms ≤ M.2.2.2.1.2.2.1) (hcat : (rest.map (fun v => v.category)).sum ≤ 8) (hdg : decode M.2.1 pc = .ok (.invokespecial idx, 3))
    (kk : ∀ (v : Option Value) (w' : va_W), post v w' → mp_W E X M.2.2.1 (pc + 3) lv (v.toList ++ rest) (wr ++ w') (k + mc) (n + ms)) : mp_W E X M.2.2.1 pc lv (As.reverse ++ .ref a :: rest) ws k n := by
  refine mp_back (fr := []) (sz := 0) hF isC isR hC1 hR1 hnd hdis (fun H locs ls hP hD hS hl => ⟨(.ref a :: As).toArray, ?_⟩) kk
  obtain ⟨hx, hb, hml, hown, hts, hK, hA, hlk, hR, hrt, hin, hN⟩ := hF
  obtain ⟨h1, hg, hl1, hl2, hl3, hd⟩ := hL
  have hPc := hP.sub (ws' := wc) isC (mp_fm hC1)
  have hDc := hD.sub isC hnC hC1
  exact va_runI (rest := rest) ⟨hx, hb, hml, hown, hts⟩ (hC H.size) (cwI As.length hts hg rfl rfl rfl (hts _ hl3) (hts _ hl1) (hts _ hl2) h1 hd ⟨by rw [hR]; exact hroom.1, by rw [hR]; exact hroom.2.1⟩) ⟨mp_blind E _ _ _, fun U hU hW => ⟨rfl, by rw [hU], by rw [hU]; exact hPc, va_K.moved hW.alike hK, mp_N_warm hW hN, hDc.weaken (fun _ _ _ _ => trivial)⟩⟩ rfl rfl hl.1 rfl (lv_room hcat) hdg ⟨by rw [hR]; exact hroom.2.2.1, by rw [hR]; exact hroom.2.2.2⟩
theorem mp_callS (hF : mp_F E X M) (hC : mp_Ct E y b mL r nf mc ms nl As wc post) (hL : mp_LS M.1 idx y b mL r As.length)
    (isC isR : List Nat) {wr : va_W} (hC1 : isC.map (fun i => ws[i]?) = wc.map some) (hnC : va_nd isC = true) (hR1 : isR.map (fun i => ws[i]?) = wr.map some) (hnd : va_nd isR = true) (hdis : isR.all (fun i => !isC.contains i) = true)
    (hroom : nf + 1 ≤ M.2.2.2.1.1 ∧ 8 + (mL + 11) + nl ≤ M.2.2.2.1.2.2.2 ∧ k + mc ≤ M.2.2.2.1.2.1 ∧ n + ms ≤ M.2.2.2.1.2.2.1) (hcat : (rest.map (fun v => v.category)).sum ≤ 8) (hdg : decode M.2.1 pc = .ok (.invokestatic idx, 3))
    (kk : ∀ (v : Option Value) (w' : va_W), post v w' → mp_W E X M.2.2.1 (pc + 3) lv (v.toList ++ rest) (wr ++ w') (k + mc) (n + ms)) : mp_W E X M.2.2.1 pc lv (As.reverse ++ rest) ws k n := by
  refine mp_back (fr := []) (sz := 0) hF isC isR hC1 hR1 hnd hdis (fun H locs ls hP hD hS hl => ⟨As.toArray, ?_⟩) kk
  obtain ⟨hx, hb, hml, hown, hts, hK, hA, hlk, hR, hrt, hin, hN⟩ := hF
  obtain ⟨hg, hd⟩ := hL
  have hPc := hP.sub (ws' := wc) isC (mp_fm hC1)
  have hDc := hD.sub isC hnC hC1
  exact va_runS (rest := rest) ⟨hx, hb, hml, hown, hts⟩ (hC H.size) (va_cwS As.length hts hg rfl rfl rfl hd ⟨by rw [hR]; exact hroom.1, by rw [hR]; exact hroom.2.1⟩) ⟨mp_blind E _ _ _, fun U hU hW => ⟨rfl, by rw [hU], by rw [hU]; exact hPc, va_K.moved hW.alike hK, mp_N_warm hW hN, hDc.weaken (fun _ _ _ _ => trivial)⟩⟩ rfl rfl hl.1 rfl (lv_room hcat) hdg ⟨by rw [hR]; exact hroom.2.2.1, by rw [hR]; exact hroom.2.2.2⟩
theorem mp_callIN (hF : mp_F E X M) (hC : mp_Ct E y b mL none nf mc ms nl (.ref a :: As) wc post) (hi1 : y.name = "<init>") (hi2 : Jvm.Cond.instanceMethod y ∈ mp_UT) (hL : mp_LNs M.1 idx y b mL none As.length)
    (isC isR : List Nat) {wr : va_W} (hC1 : isC.map (fun i => ws[i]?) = wc.map some) (hnC : va_nd isC = true) (hR1 : isR.map (fun i => ws[i]?) = wr.map some) (hnd : va_nd isR = true) (hdis : isR.all (fun i => !isC.contains i) = true)
    (hroom : nf + 1 ≤ M.2.2.2.1.1 ∧ 8 + (mL + 11) + nl ≤ M.2.2.2.1.2.2.2 ∧ k + mc ≤ M.2.2.2.1.2.1 ∧ n + ms ≤ M.2.2.2.1.2.2.1) (hcat : (rest.map (fun v => v.category)).sum ≤ 8) (hdg : decode M.2.1 pc = .ok (.invokespecial idx, 3))
    (kk : ∀ (v : Option Value) (w' : va_W), post v w' → mp_W E X M.2.2.1 (pc + 3) lv (v.toList ++ rest) (wr ++ w') (k + mc) (n + ms)) : mp_W E X M.2.2.1 pc lv (As.reverse ++ .ref a :: rest) ws k n := by
  refine mp_back (fr := []) (sz := 0) hF isC isR hC1 hR1 hnd hdis (fun H locs ls hP hD hS hl => ⟨(.ref a :: As).toArray, ?_⟩) kk
  obtain ⟨hx, hb, hml, hown, hts, hK, hA, hlk, hR, hrt, hin, hN⟩ := hF
  obtain ⟨host, hn1, hg, hl3, hd⟩ := hL
  have hPc := hP.sub (ws' := wc) isC (mp_fm hC1)
  have hDc := hD.sub isC hnC hC1
  exact va_runIN (rest := rest) ⟨hx, hb, hml, hown, hts⟩ (hC H.size) ⟨va_cnB As.length hts hg rfl rfl rfl (hN.1 _ hn1) (hts _ hl3) hd ⟨by rw [hR]; exact hroom.1, by rw [hR]; exact hroom.2.1⟩, hi1, hts _ hi2⟩ ⟨mp_blind E _ _ _, fun U hU hW => ⟨rfl, by rw [hU], by rw [hU]; exact hPc, va_K.moved hW.alike hK, mp_N_warm hW hN, hDc.weaken (fun _ _ _ _ => trivial)⟩⟩ rfl rfl hl.1 rfl (lv_room hcat) hdg ⟨by rw [hR]; exact hroom.2.2.1, by rw [hR]; exact hroom.2.2.2⟩
theorem mp_callSN (hF : mp_F E X M) (hC : mp_Ct E y b mL r nf mc ms nl As wc post) (hi2 : Jvm.Cond.static y ∈ mp_UT) (hL : mp_LNs M.1 idx y b mL r As.length)
    (isC isR : List Nat) {wr : va_W} (hC1 : isC.map (fun i => ws[i]?) = wc.map some) (hnC : va_nd isC = true) (hR1 : isR.map (fun i => ws[i]?) = wr.map some) (hnd : va_nd isR = true) (hdis : isR.all (fun i => !isC.contains i) = true)
    (hroom : nf + 1 ≤ M.2.2.2.1.1 ∧ 8 + (mL + 11) + nl ≤ M.2.2.2.1.2.2.2 ∧ k + mc ≤ M.2.2.2.1.2.1 ∧ n + ms ≤ M.2.2.2.1.2.2.1) (hcat : (rest.map (fun v => v.category)).sum ≤ 8) (hdg : decode M.2.1 pc = .ok (.invokestatic idx, 3))
    (kk : ∀ (v : Option Value) (w' : va_W), post v w' → mp_W E X M.2.2.1 (pc + 3) lv (v.toList ++ rest) (wr ++ w') (k + mc) (n + ms)) : mp_W E X M.2.2.1 pc lv (As.reverse ++ rest) ws k n := by
  refine mp_back (fr := []) (sz := 0) hF isC isR hC1 hR1 hnd hdis (fun H locs ls hP hD hS hl => ⟨As.toArray, ?_⟩) kk
  obtain ⟨hx, hb, hml, hown, hts, hK, hA, hlk, hR, hrt, hin, hN⟩ := hF
  obtain ⟨host, hn1, hg, hl3, hd⟩ := hL
  have hPc := hP.sub (ws' := wc) isC (mp_fm hC1)
  have hDc := hD.sub isC hnC hC1
  exact va_runSN (rest := rest) ⟨hx, hb, hml, hown, hts⟩ (hC H.size) ⟨va_cnB As.length hts hg rfl rfl rfl (hN.1 _ hn1) (hts _ hl3) hd ⟨by rw [hR]; exact hroom.1, by rw [hR]; exact hroom.2.1⟩, hts _ hi2, trivial⟩ ⟨mp_blind E _ _ _, fun U hU hW => ⟨rfl, by rw [hU], by rw [hU]; exact hPc, va_K.moved hW.alike hK, mp_N_warm hW hN, hDc.weaken (fun _ _ _ _ => trivial)⟩⟩ rfl rfl hl.1 rfl (lv_room hcat) hdg ⟨by rw [hR]; exact hroom.2.2.1, by rw [hR]; exact hroom.2.2.2⟩
theorem mp_objInit (hF : mp_F E X M) (hl1 : Jvm.Cond.methodLink M.1 idx objectInit ∈ mp_UT) (hroom : 1 ≤ M.2.2.2.1.1 ∧ (rest.map (fun v => v.category)).sum + 12 ≤ M.2.2.2.1.2.2.2) (hdg : decode M.2.1 pc = .ok (.invokespecial idx, 3)) (kk : mp_W E X M.2.2.1 (pc + 3) lv rest ws k n) : mp_W E X M.2.2.1 pc lv (.ref a :: rest) ws k n := by
  intro H locs ls hP hD hS hl
  obtain ⟨hx, hb, hml, hown, hts, hK, hA, hlk, hR, hrt, hin, hN⟩ := hF
  exact W.objInit hx hb hown (hts _ hl1) (hts _ mp_oi1) (hts _ mp_oi2) rfl (hl.1.trans hml.symm) rfl hdg (by rw [hR]; exact hroom.1) (by rw [hR]; show 2 * 0 + _ + 12 ≤ _; have := hroom.2; simp only [Nat.mul_zero, Nat.zero_add]; exact this) (kk H locs ls hP hD hS hl)
/-- a new object: its class's place, its fields at first -/
def mp_LN (own : String) (idx ci : Nat) (N : Nat) (fs : List Value) : Prop := ∃ (q : vw_C) (ty : Nat → FieldType), vwCl[ci]? = some q ∧ q.2.2 = N ∧ Jvm.Cond.classLink own idx q.1 ∈ mp_UT ∧ Jvm.Cond.instantiable q.1 q.2.2 ∈ mp_UT ∧ Jvm.Cond.initialized q.1 ∈ mp_UT ∧ (∀ k, k < q.2.2 → parseFieldDescriptor (q.2.1 k).2.2.1 = some (ty k)) ∧ ∀ j, j < q.2.2 → defaultValue (ty j) = vp_V fs j
theorem mp_new (hF : mp_F E X M) {N : Nat} {fs : List Value} (hL : mp_LN M.1 idx ci N fs) (hroom : k + 1 ≤ M.2.2.2.1.2.1 ∧ n + N ≤ M.2.2.2.1.2.2.1) (hdg : decode M.2.1 pc = .ok (.new idx, 3)) (kk : ∀ q : Nat, mp_W E X M.2.2.1 (pc + 3) lv (.ref q :: rest) (ws ++ [(q, .inr (ci, fs))]) (k + 1) (n + N)) : mp_W E X M.2.2.1 pc lv rest ws k n := by
  intro H locs ls hP hD hS hl
  obtain ⟨hx, hb, hml, hown, hts, hK, hA, hlk, hR, hrt, hin, hN⟩ := hF
  obtain ⟨q, ty, hq, hN, h1, h2, h3, h4, h5⟩ := hL
  obtain ⟨-, -, -, hwin⟩ := mp_cell0 _ q hq
  subst hN
  exact va_new hx hb hts hwin ty h4 hown (hts _ h1) (hts _ h2) (hts _ h3) hK hP hD hS hA hq h5 (by rw [hR]; exact hroom.1) (by rw [hR]; exact hroom.2) hdg (fun a H1 hP hD hS => kk a H1 locs ls hP hD hS hl)
theorem mp_newq (hF : mp_F E X M) (hl1 : Jvm.Cond.classLink M.1 idx RX7 ∈ mp_UT) {x : Int32} {N : Nat} (h0 : 0 ≤ x.toInt) (h1 : x.toInt = N) (hN1 : N ≤ 100000) (hroom : k + 1 ≤ M.2.2.2.1.2.1 ∧ n + N ≤ M.2.2.2.1.2.2.1) (hdg : decode M.2.1 pc = .ok (.anewarray idx, 3)) (kk : ∀ q : Nat, mp_W E X M.2.2.1 (pc + 3) lv (.ref q :: rest) (ws ++ [(q, .inl (E.2.2 4, N, .inr (.inr (.inr (.inr (fun _ => none))))))]) (k + 1) (n + N)) : mp_W E X M.2.2.1 pc lv (.int x :: rest) ws k n := by
  intro H locs ls hP hD hS hl
  obtain ⟨hx, hb, hml, hown, hts, hK, hA, hlk, hR, hrt, hin, hN⟩ := hF
  refine va_newq hx hb hown (hts _ hl1) hN.2 hK hP hD hS hA (N' := N) (fun q => by rw [mp_i32_lt, mp_t0] at q; omega) (by rw [Int32.toNatClampNeg, h1]; rfl) (by omega) (by rw [hR]; exact hroom.1) (by rw [hR]; exact hroom.2) hdg (fun q cA H1 hK1 hP hD hS => ?_)
  have e : cA = E.2.2 4 := by
    obtain ⟨-, -, -, -, -, a1⟩ := (hK1.2 5 _ rfl).2
    obtain ⟨-, -, -, -, -, a2⟩ := (hK.2 4 _ rfl).2
    rw [a1] at a2
    exact Option.some.inj a2
  subst e
  exact kk q H1 locs ls hP hD hS hl
theorem mp_tabOut (hF : mp_F E X M) {dflt lo hi : Int} {offs : Array Int} {len : Nat} {x : Int32} {tgt : Nat} (hdg : decode M.2.1 pc = .ok (.tableswitch dflt lo hi offs, len)) (h : x.toInt < lo ∨ hi < x.toInt) (ht : (pc : Int) + dflt = (tgt : Int)) (kk : mp_W E X M.2.2.1 tgt lv rest ws k n) : mp_W E X M.2.2.1 pc lv (.int x :: rest) ws k n := by
  intro H locs ls hP hD hS hl
  exact lv_tableOut hF.1 hF.2.1 hdg h ht (kk H locs ls hP hD hS hl)
theorem mp_tabIn (hF : mp_F E X M) {dflt lo hi : Int} {offs : Array Int} {len : Nat} {x : Int32} {off : Int} {tgt : Nat} (hdg : decode M.2.1 pc = .ok (.tableswitch dflt lo hi offs, len)) (h1 : ¬ x.toInt < lo) (h2 : ¬ hi < x.toInt) (ho : offs[(x.toInt - lo).toNat]? = some off) (ht : (pc : Int) + off = (tgt : Int)) (kk : mp_W E X M.2.2.1 tgt lv rest ws k n) : mp_W E X M.2.2.1 pc lv (.int x :: rest) ws k n := by
  intro H locs ls hP hD hS hl
  exact lv_tableIn hF.1 hF.2.1 hdg h1 h2 ho ht (kk H locs ls hP hD hS hl)
theorem mp_nonneg {z : Int32} (h : 0 ≤ z.toInt) : ¬ z < 0 := by
  intro q
  rw [mp_i32_lt, mp_t0] at q
  omega
theorem mp_copyi (hF : mp_F E X M) (hl1 : Jvm.Cond.methodLink M.1 idx arraycopyName ∈ mp_UT) (q0 q1 : Nat) {a0 a1 n0 n1 : Nat} {f g : Nat → Int32} (ha0 : ws[q0]? = some (a0, .inl (E.2.2 0, n0, .inl f))) (ha1 : ws[q1]? = some (a1, .inl (E.2.2 0, n1, .inl g))) {sp dp m : Int32} (h1 : 0 ≤ sp.toInt) (h2 : 0 ≤ dp.toInt) (h3 : 0 ≤ m.toInt) (h4 : sp.toInt + m.toInt ≤ n0) (h5 : dp.toInt + m.toInt ≤ n1)
    (hroom : 1 ≤ M.2.2.2.1.1 ∧ (rest.map (fun v => v.category)).sum + 18 ≤ M.2.2.2.1.2.2.2) (hdg : decode M.2.1 pc = .ok (.invokestatic idx, 3))
    (kk : ∀ g' : Nat → Int32, g' = va_cpy f g sp.toNatClampNeg dp.toNatClampNeg m.toNatClampNeg → mp_W E X M.2.2.1 (pc + 3) lv rest (ws.set q1 (a1, .inl (E.2.2 0, n1, .inl g'))) k n) : mp_W E X M.2.2.1 pc lv (.int m :: .int dp :: .ref a1 :: .int sp :: .ref a0 :: rest) ws k n := by
  intro H locs ls hP hD hS hl
  obtain ⟨hx, hb, hml, hown, hts, hK, hA, hlk, hR, hrt, hin, hN⟩ := hF
  exact va_copyi hx hb (hml.trans hl.1.symm) hown (hts _ hl1) (hts _ mp_ac1) (hts _ mp_ac2) (hts _ mp_ac3) hK hP hD hS q0 q1 0 0 ha0 ha1 rfl rfl rfl (mp_nonneg h1) (mp_nonneg h2) (mp_nonneg h3) (by simp only [Int32.toNatClampNeg]; omega) (by simp only [Int32.toNatClampNeg]; omega) (fun _ _ => rfl) (by rw [hR]; exact hroom.1) (by rw [hR]; exact hroom.2) hdg (fun H1 locs1 hP hD hS => kk _ rfl H1 locs1 ls hP hD hS hl)
theorem mp_copyl (hF : mp_F E X M) (hl1 : Jvm.Cond.methodLink M.1 idx arraycopyName ∈ mp_UT) (q0 q1 : Nat) {a0 a1 n0 n1 : Nat} {f g : Nat → Int64} (ha0 : ws[q0]? = some (a0, .inl (E.2.2 2, n0, .inr (.inl f)))) (ha1 : ws[q1]? = some (a1, .inl (E.2.2 2, n1, .inr (.inl g)))) {sp dp m : Int32} (h1 : 0 ≤ sp.toInt) (h2 : 0 ≤ dp.toInt) (h3 : 0 ≤ m.toInt) (h4 : sp.toInt + m.toInt ≤ n0) (h5 : dp.toInt + m.toInt ≤ n1)
    (hroom : 1 ≤ M.2.2.2.1.1 ∧ (rest.map (fun v => v.category)).sum + 18 ≤ M.2.2.2.1.2.2.2) (hdg : decode M.2.1 pc = .ok (.invokestatic idx, 3))
    (kk : ∀ g' : Nat → Int64, g' = va_cpy f g sp.toNatClampNeg dp.toNatClampNeg m.toNatClampNeg → mp_W E X M.2.2.1 (pc + 3) lv rest (ws.set q1 (a1, .inl (E.2.2 2, n1, .inr (.inl g')))) k n) : mp_W E X M.2.2.1 pc lv (.int m :: .int dp :: .ref a1 :: .int sp :: .ref a0 :: rest) ws k n := by
  intro H locs ls hP hD hS hl
  obtain ⟨hx, hb, hml, hown, hts, hK, hA, hlk, hR, hrt, hin, hN⟩ := hF
  exact va_copyl hx hb (hml.trans hl.1.symm) hown (hts _ hl1) (hts _ mp_ac1) (hts _ mp_ac2) (hts _ mp_ac3) hK hP hD hS q0 q1 2 2 ha0 ha1 rfl rfl rfl (mp_nonneg h1) (mp_nonneg h2) (mp_nonneg h3) (by simp only [Int32.toNatClampNeg]; omega) (by simp only [Int32.toNatClampNeg]; omega) (fun _ _ => rfl) (by rw [hR]; exact hroom.1) (by rw [hR]; exact hroom.2) hdg (fun H1 locs1 hP hD hS => kk _ rfl H1 locs1 ls hP hD hS hl)
end MPC
/-- fewer locals, the world in another order or less of it -/
theorem mp_sub {E : mp_E} {X : mp_X} {nL pc : Nat} {lv lv' : List (Nat × Value)} {st : List Value} {ws ws' : va_W} {k n : Nat} (ks : List Nat) (hk : lv_pick lv ks = lv') (is : List Nat) (hs : is.map (fun i => ws[i]?) = ws'.map some) (hnd : va_nd is = true) (h : mp_W E X nL pc lv' st ws' k n) : mp_W E X nL pc lv st ws k n := by
  intro H locs ls hP hD hS hl
  exact h H locs ls (hP.sub is (mp_fm hs)) (hD.sub is hnd hs) hS (lv_sub hl ks hk)
end
section
def mp_tab0 : mp_T := ([], [], [])
theorem mp_tab0_ok {own : String} : mp_Tok own mp_tab0 := ⟨fun _ h => absurd h List.not_mem_nil, fun _ h => absurd h List.not_mem_nil, fun _ h => absurd h List.not_mem_nil⟩
def mp_tabX0 : mp_T := ([(38, 7, 2, false, false, .int), (43, 7, 3, false, false, .int), (83, 7, 4, false, false, .int), (55, 7, 5, false, false, .int), (46, 7, 8, true, false, (.array .int)), (73, 7, 11, true, false, (.array .int)), (76, 7, 12, true, false, (.array .int)), (112, 7, 13, true, false, (.array .int)), (89, 7, 14, true, false, (.array .int)), (118, 7, 16, true, false, (.array .int)), (58, 7, 17, true, false, (.array .int)), (12, 0, 0, true, true, (.object "MoonPromises$Told")), (42, 0, 1, false, true, .int), (18, 0, 2, true, true, (.array .int)), (22, 0, 3, true, true, (.array .int)), (25, 0, 4, true, true, (.array .int)), (28, 0, 5, true, true, (.array .long)), (32, 0, 6, true, true, (.array .int)), (35, 0, 7, true, true, (.array .int))], [], [])
set_option maxRecDepth 100000 in
theorem mp_tabX0_ok : mp_Tok RX0 mp_tabX0 := ⟨mp_lks_ok (js := [1048, 1054, 1062, 1065, 1070, 1083, 1088, 1093, 1097, 1105, 1107, 1192, 1197, 1201, 1204, 1206, 1207, 1208, 1209]) (by decide +kernel), mp_cks_ok (js := []) (by decide +kernel), mp_cls_ok (js := []) (by decide +kernel)⟩
def mp_tabX1 : mp_T := ([(28, 7, 3, false, false, .int), (41, 7, 4, false, false, .int), (44, 7, 11, true, false, (.array .int)), (47, 7, 12, true, false, (.array .int)), (18, 0, 0, true, false, (.object "MoonPromises$Told")), (9, 1, 0, true, true, (.array .int)), (34, 1, 1, false, true, .int), (66, 1, 2, false, true, .int), (15, 1, 3, true, true, (.array .int))], [], [])
set_option maxRecDepth 100000 in
theorem mp_tabX1_ok : mp_Tok RX1 mp_tabX1 := ⟨mp_lks_ok (js := [1052, 1058, 1080, 1086, 1193, 1235, 1236, 1237, 1239]) (by decide +kernel), mp_cks_ok (js := []) (by decide +kernel), mp_cls_ok (js := []) (by decide +kernel)⟩
def mp_tabX2 : mp_T := ([(45, 7, 1, false, false, .int), (78, 7, 4, false, false, .int), (81, 7, 11, true, false, (.array .int)), (88, 7, 12, true, false, (.array .int)), (39, 0, 0, true, false, (.object "MoonPromises$Told")), (65, 0, 1, false, false, .int), (55, 0, 2, true, false, (.array .int)), (51, 2, 0, false, true, .int), (52, 2, 1, false, true, .int), (58, 2, 2, false, true, .int), (95, 2, 3, false, true, .int), (11, 2, 4, true, true, (.array .int)), (15, 2, 5, true, true, (.array .int)), (18, 2, 6, true, true, (.array .int)), (21, 2, 7, true, true, (.array .int)), (24, 2, 8, true, true, (.array .long)), (124, 2, 9, false, true, .int), (127, 2, 10, false, true, .int)], [], [])
set_option maxRecDepth 100000 in
theorem mp_tabX2_ok : mp_Tok RX2 mp_tabX2 := ⟨mp_lks_ok (js := [1045, 1060, 1082, 1087, 1195, 1199, 1202, 2016, 2017, 2018, 2019, 2020, 2021, 2022, 2023, 2024, 2025, 2027]) (by decide +kernel), mp_cks_ok (js := []) (by decide +kernel), mp_cls_ok (js := []) (by decide +kernel)⟩
def mp_tabX3 : mp_T := ([(51, 7, 0, false, false, .int), (98, 7, 1, false, false, .int), (105, 7, 2, false, false, .int), (114, 7, 3, false, false, .int), (82, 7, 4, false, false, .int), (125, 7, 9, true, false, (.array .int)), (131, 7, 10, true, false, (.array .int)), (145, 7, 15, true, false, (.array .int)), (149, 7, 16, true, false, (.array .int)), (9, 3, 0, true, true, (.array .byte)), (26, 3, 1, false, true, .int), (18, 3, 2, true, true, (.object "MoonPromises$Told")), (32, 3, 3, false, true, .int), (22, 3, 4, false, true, .int), (41, 3, 5, false, true, .int), (161, 3, 6, false, true, .int), (35, 3, 7, false, true, .int), (158, 3, 8, false, true, .int), (95, 3, 9, false, true, .int)], [(179, 100000000), (138, 1000000)], [])
set_option maxRecDepth 100000 in
theorem mp_tabX3_ok : mp_Tok RX3 mp_tabX3 := ⟨mp_lks_ok (js := [1042, 1046, 1050, 1055, 1061, 1074, 1078, 1101, 1104, 1149, 1151, 1152, 1154, 1156, 1158, 1159, 1160, 1161, 1162]) (by decide +kernel), mp_cks_ok (js := [2217, 3084]) (by decide +kernel), mp_cls_ok (js := []) (by decide +kernel)⟩
def mp_tabX4 : mp_T := ([(18, 7, 13, true, false, (.array .int)), (26, 7, 14, true, false, (.array .int)), (31, 7, 15, true, false, (.array .int)), (23, 4, 0, false, true, .int), (29, 4, 1, false, true, .int), (34, 4, 2, false, true, .int), (11, 4, 3, true, true, (.array .int)), (36, 4, 4, false, true, .boolean), (57, 4, 5, false, true, .int), (60, 4, 6, false, true, .int), (63, 4, 7, false, true, .int), (66, 4, 8, false, true, .int), (15, 4, 9, true, true, (.array .int)), (46, 5, 2, true, false, (.array .int))], [], [(55, 1000000)])
set_option maxRecDepth 100000 in
theorem mp_tabX4_ok : mp_Tok RX4 mp_tabX4 := ⟨mp_lks_ok (js := [1091, 1095, 1099, 2058, 2059, 2060, 2061, 2062, 2063, 2065, 2067, 2069, 2071, 2138]) (by decide +kernel), mp_cks_ok (js := []) (by decide +kernel), mp_cls_ok (js := [5042]) (by decide +kernel)⟩
def mp_tabX5 : mp_T := ([(9, 5, 0, true, true, (.array .long)), (15, 5, 1, true, true, (.array .int)), (19, 5, 2, true, true, (.array .int))], [], [])
set_option maxRecDepth 100000 in
theorem mp_tabX5_ok : mp_Tok RX5 mp_tabX5 := ⟨mp_lks_ok (js := [2133, 2134, 2136]) (by decide +kernel), mp_cks_ok (js := []) (by decide +kernel), mp_cls_ok (js := []) (by decide +kernel)⟩
def mp_tabX6 : mp_T := ([(23, 6, 0, false, true, .int), (11, 6, 1, true, true, (.array .int)), (15, 6, 2, true, true, (.array .int)), (18, 5, 2, true, false, (.array .int))], [], [(31, 99)])
set_option maxRecDepth 100000 in
theorem mp_tabX6_ok : mp_Tok RX6 mp_tabX6 := ⟨mp_lks_ok (js := [2099, 2100, 2101, 2137]) (by decide +kernel), mp_cks_ok (js := []) (by decide +kernel), mp_cls_ok (js := [5123]) (by decide +kernel)⟩
def mp_tabX7 : mp_T := ([(49, 7, 0, false, true, .int), (53, 7, 1, false, true, .int), (56, 7, 2, false, true, .int), (59, 7, 3, false, true, .int), (62, 7, 4, false, true, .int), (65, 7, 5, false, true, .int), (9, 7, 6, true, true, (.array .int)), (15, 7, 7, true, true, (.array .long)), (19, 7, 8, true, true, (.array .int)), (22, 7, 9, true, true, (.array .int)), (25, 7, 10, true, true, (.array .int)), (28, 7, 11, true, true, (.array .int)), (31, 7, 12, true, true, (.array .int)), (34, 7, 13, true, true, (.array .int)), (37, 7, 14, true, true, (.array .int)), (40, 7, 15, true, true, (.array .int)), (43, 7, 16, true, true, (.array .int)), (46, 7, 17, true, true, (.array .int))], [], [(83, (-1))])
set_option maxRecDepth 100000 in
theorem mp_tabX7_ok : mp_Tok RX7 mp_tabX7 := ⟨mp_lks_ok (js := [1041, 1044, 1049, 1053, 1057, 1064, 1067, 1068, 1069, 1072, 1075, 1079, 1085, 1090, 1094, 1098, 1102, 1106]) (by decide +kernel), mp_cks_ok (js := []) (by decide +kernel), mp_cls_ok (js := [3104]) (by decide +kernel)⟩
def mp_tabX8 : mp_T := ([(38, 7, 4, false, false, .int), (55, 7, 10, true, false, (.array .int)), (58, 7, 11, true, false, (.array .int)), (15, 0, 0, true, false, (.object "MoonPromises$Told")), (21, 0, 1, false, false, .int), (9, 8, 0, true, true, (.array .int)), (65, 8, 1, false, true, .int), (35, 8, 2, false, true, .int)], [], [(47, 1103515245), (49, 12345), (51, 2147483647), (53, 100)])
set_option maxRecDepth 100000 in
theorem mp_tabX8_ok : mp_Tok RX8 mp_tabX8 := ⟨mp_lks_ok (js := [1059, 1076, 1081, 1194, 1198, 2115, 2116, 2118]) (by decide +kernel), mp_cks_ok (js := []) (by decide +kernel), mp_cls_ok (js := [5153, 5154, 5155, 5156]) (by decide +kernel)⟩
def mp_tabX9 : mp_T := ([(97, 7, 0, false, false, .int), (220, 7, 1, false, false, .int), (346, 7, 2, false, false, .int), (337, 7, 3, false, false, .int), (196, 7, 4, false, false, .int), (214, 7, 5, false, false, .int), (110, 7, 8, true, false, (.array .int)), (114, 7, 9, true, false, (.array .int)), (117, 7, 10, true, false, (.array .int)), (123, 7, 11, true, false, (.array .int)), (126, 7, 12, true, false, (.array .int)), (129, 7, 13, true, false, (.array .int)), (132, 7, 14, true, false, (.array .int)), (135, 7, 15, true, false, (.array .int)), (138, 7, 16, true, false, (.array .int)), (217, 7, 17, true, false, (.array .int)), (71, 3, 1, false, false, .int), (87, 3, 2, true, false, (.object "MoonPromises$Told")), (100, 3, 3, false, false, .int), (103, 3, 4, false, false, .int), (83, 0, 0, true, false, (.object "MoonPromises$Told")), (166, 0, 1, false, false, .int), (199, 0, 2, true, false, (.array .int)), (202, 0, 3, true, false, (.array .int)), (270, 1, 2, false, false, .int), (273, 1, 3, true, false, (.array .int)), (258, 2, 9, false, false, .int), (261, 2, 10, false, false, .int), (286, 4, 5, false, false, .int), (289, 4, 6, false, false, .int), (292, 4, 7, false, false, .int), (295, 4, 8, false, false, .int), (322, 8, 1, false, false, .int), (325, 8, 2, false, false, .int), (368, 5, 1, true, false, (.array .int)), (361, 5, 2, true, false, (.array .int)), (10, 9, 0, true, true, (.object "MoonPromises$Reader")), (19, 9, 1, true, true, (.object "MoonPromises$Course")), (25, 9, 2, true, true, (.array (.object "MoonPromises$Told"))), (32, 9, 3, true, true, (.object "MoonPromises$Ledger")), (39, 9, 4, true, true, (.object "MoonPromises$Planner")), (46, 9, 5, true, true, (.object "MoonPromises$Scales")), (53, 9, 6, true, true, (.object "MoonPromises$Threat")), (60, 9, 7, true, true, (.object "MoonPromises$Years")), (67, 9, 8, true, true, (.object "MoonPromises$Slots"))], [(179, (-2000000000)), (378, 2000000000), (328, 1000000)], [(244, (-2))])
set_option maxRecDepth 100000 in
theorem mp_tabX9_ok : mp_Tok RX9 mp_tabX9 := ⟨mp_lks_ok (js := [1043, 1047, 1051, 1056, 1063, 1066, 1071, 1073, 1077, 1084, 1089, 1092, 1096, 1100, 1103, 1108, 1150, 1153, 1155, 1157, 1196, 1200, 1203, 1205, 1238, 2000, 2026, 2028, 2064, 2066, 2068, 2070, 2117, 2119, 2135, 2139, 2147, 2148, 2149, 2150, 2151, 2152, 2153, 2154, 2155]) (by decide +kernel), mp_cks_ok (js := [3233, 5145, 5170]) (by decide +kernel), mp_cls_ok (js := [4187]) (by decide +kernel)⟩
def mp_tabX10 : mp_T := ([(92, 10, 0, false, true, .int), (7, 10, 1, true, true, (.array .int)), (13, 10, 2, true, true, (.array .int)), (16, 10, 3, true, true, (.array .long)), (20, 10, 4, true, true, (.array .long)), (23, 10, 5, true, true, (.array .byte)), (109, 10, 6, false, true, .int), (116, 10, 7, false, true, .int), (133, 10, 8, false, true, .int), (123, 10, 9, false, true, .int), (126, 10, 10, false, true, .int), (129, 10, 11, false, true, .long), (144, 10, 12, false, true, .int), (147, 10, 13, false, true, .int), (171, 10, 14, false, true, .int), (27, 10, 15, false, true, .int), (31, 10, 16, true, true, (.array .int)), (34, 10, 17, true, true, (.array .int)), (37, 10, 18, true, true, (.array .int)), (40, 10, 19, true, true, (.array .boolean)), (44, 10, 20, true, true, (.array .int)), (47, 10, 21, true, true, (.array .int)), (50, 10, 22, true, true, (.array .int)), (53, 10, 23, true, true, (.array .boolean)), (276, 10, 24, false, true, .int), (56, 10, 25, true, true, (.array .int)), (59, 10, 26, true, true, (.array .int)), (62, 10, 27, true, true, (.array .int)), (65, 10, 28, true, true, (.array .boolean)), (337, 10, 29, false, true, .int), (343, 10, 30, false, true, .int), (334, 10, 31, false, true, .int), (68, 10, 32, true, true, (.array .int)), (71, 10, 33, true, true, (.array .long)), (381, 10, 34, false, true, .int), (384, 10, 35, false, true, .int), (74, 10, 36, true, true, (.array .int)), (77, 10, 37, true, true, (.array .int)), (80, 10, 38, true, true, (.array .int)), (417, 10, 39, false, true, .int), (420, 10, 40, false, true, .int), (423, 10, 41, false, true, .int), (426, 10, 42, false, true, .int), (83, 10, 43, true, true, (.array .int)), (86, 10, 44, true, true, (.array .int)), (89, 10, 45, true, true, (.array .int)), (450, 10, 46, false, true, .int)], [(142, 1000000), (143, 10000000), (302, (-2000000000)), (399, (-1000000))], [(95, 3), (136, (-1)), (138, 27), (140, 96), (234, 5165848), (236, 47), (211, 232608281), (213, 6465242723), (187, 419), (193, 85447), (195, 10737568), (203, 555), (205, 12532058), (207, 374953), (209, 2495756), (221, 13987), (182, 296479), (226, 380396), (260, 2), (265, 5), (258, 99), (359, 12), (379, (-2)), (400, 20), (412, 1000000), (463, 2000000000), (465, 40), (453, 1103515245), (455, 12345), (457, 2147483648), (459, 65536), (461, 100)])
set_option maxRecDepth 100000 in
theorem mp_tabX10_ok : mp_Tok RX10 mp_tabX10 := ⟨mp_lks_ok (js := [6011, 6012, 6013, 6014, 6015, 6016, 6017, 6018, 6019, 6020, 6021, 6022, 6023, 6024, 6025, 6026, 6027, 6028, 6029, 6030, 6031, 6032, 6033, 6034, 6035, 6036, 6037, 6038, 6039, 6040, 6041, 6042, 6043, 6044, 6045, 6046, 6047, 6048, 6049, 6050, 6051, 6052, 6053, 6054, 6055, 6056, 6057]) (by decide +kernel), mp_cks_ok (js := [6215, 6216, 7151, 8108]) (by decide +kernel), mp_cls_ok (js := [6161, 6212, 6213, 6214, 6221, 7002, 7011, 7012, 7021, 7026, 7027, 7036, 7037, 7042, 7043, 7044, 7049, 7050, 7074, 7083, 7103, 8019, 8075, 8109, 8142, 8207, 8208, 8213, 8214, 8215, 8216, 8217]) (by decide +kernel)⟩
def mp_tabL : mp_T := ([], [], [(252, 4294967295)])
set_option maxRecDepth 100000 in
theorem mp_tabL_ok : mp_Tok RL mp_tabL := ⟨mp_lks_ok (js := []) (by decide +kernel), mp_cks_ok (js := []) (by decide +kernel), mp_cls_ok (js := [9010]) (by decide +kernel)⟩
set_option maxRecDepth 100000 in
theorem mp_lkL_9 : mp_LI RL 9 yX9_init cX9_init 1 0 := mp_li_ok (j1 := 1023) (j2 := 1024) (j4 := 1001) (j5 := 1025) (by decide +kernel)
set_option maxRecDepth 100000 in
theorem mp_lkX9_9 : mp_LNs RX9 9 yX3_init cX3_init 1 none 0 := mp_ln_ok (host := RX9) (j1 := 0) (j4 := 1002) (j5 := 1033) (by decide +kernel)
set_option maxRecDepth 100000 in
theorem mp_lkX3_17 : mp_LNs RX3 17 yX7_init cX7_init 1 none 0 := mp_ln_ok (host := RX9) (j1 := 1) (j4 := 1003) (j5 := 1039) (by decide +kernel)
set_option maxRecDepth 100000 in
theorem mp_lkX9_18 : mp_LNs RX9 18 yX0_init cX0_init 1 none 0 := mp_ln_ok (host := RX9) (j1 := 2) (j4 := 1004) (j5 := 1188) (by decide +kernel)
set_option maxRecDepth 100000 in
theorem mp_lkX0_11 : mp_LNs RX0 11 yX7_init cX7_init 1 none 0 := mp_ln_ok (host := RX9) (j1 := 3) (j4 := 1003) (j5 := 1039) (by decide +kernel)
set_option maxRecDepth 100000 in
theorem mp_lkX9_31 : mp_LNs RX9 31 yX1_init cX1_init 1 none 0 := mp_ln_ok (host := RX9) (j1 := 4) (j4 := 1005) (j5 := 1233) (by decide +kernel)
set_option maxRecDepth 100000 in
theorem mp_lkX9_38 : mp_LNs RX9 38 yX2_init cX2_init 1 none 0 := mp_ln_ok (host := RX9) (j1 := 5) (j4 := 1006) (j5 := 2014) (by decide +kernel)
set_option maxRecDepth 100000 in
theorem mp_lkX9_45 : mp_LNs RX9 45 yX4_init cX4_init 1 none 0 := mp_ln_ok (host := RX9) (j1 := 6) (j4 := 1007) (j5 := 2056) (by decide +kernel)
set_option maxRecDepth 100000 in
theorem mp_lkX9_52 : mp_LI RX9 52 yX6_init cX6_init 4 0 := mp_li_ok (j1 := 2095) (j2 := 2096) (j4 := 1008) (j5 := 2097) (by decide +kernel)
set_option maxRecDepth 100000 in
theorem mp_lkX9_59 : mp_LNs RX9 59 yX8_init cX8_init 1 none 0 := mp_ln_ok (host := RX9) (j1 := 7) (j4 := 1009) (j5 := 2113) (by decide +kernel)
set_option maxRecDepth 100000 in
theorem mp_lkX9_66 : mp_LI RX9 66 yX5_init cX5_init 2 0 := mp_li_ok (j1 := 2129) (j2 := 2130) (j4 := 1010) (j5 := 2131) (by decide +kernel)
set_option maxRecDepth 100000 in
theorem mp_lkL_13 : mp_LV RL 13 yX9_feed cX9_feed 6 (some FieldType.int) 5 9 := mp_lv_ok (j1 := 2175) (j2 := 2176) (j3 := 2177) (j4 := 1001) (j5 := 2178) (by decide +kernel)
set_option maxRecDepth 100000 in
theorem mp_lkX9_75 : mp_LV RX9 75 yX3_addFour cX3_addFour 3 none 1 3 := mp_lv_ok (j1 := 2179) (j2 := 2180) (j3 := 2181) (j4 := 1002) (j5 := 2182) (by decide +kernel)
set_option maxRecDepth 100000 in
theorem mp_lkL_18 : mp_LV RL 18 yX9_end cX9_end 2 (some FieldType.int) 1 9 := mp_lv_ok (j1 := 2183) (j2 := 2184) (j3 := 2185) (j4 := 1001) (j5 := 2186) (by decide +kernel)
set_option maxRecDepth 100000 in
theorem mp_lkL_23 : mp_LV RL 23 yX9_isles cX9_isles 2 (some FieldType.int) 0 9 := mp_lv_ok (j1 := 2187) (j2 := 2188) (j3 := 2189) (j4 := 1001) (j5 := 2190) (by decide +kernel)
set_option maxRecDepth 100000 in
theorem mp_lkX9_79 : mp_LV RX9 79 yX3_readAll cX3_readAll 2 (some FieldType.boolean) 0 3 := mp_lv_ok (j1 := 2191) (j2 := 2192) (j3 := 2193) (j4 := 1002) (j5 := 2194) (by decide +kernel)
set_option maxRecDepth 100000 in
theorem mp_lkX3_29 : mp_LV RX3 29 yX7_clear cX7_clear 1 none 0 7 := mp_lv_ok (j1 := 2195) (j2 := 2196) (j3 := 2197) (j4 := 1003) (j5 := 2198) (by decide +kernel)
set_option maxRecDepth 100000 in
theorem mp_lkX7_68 : mp_LS RX7 68 yJ7_fill_53178 cJ7_fill_53178 4 none 2 := mp_ls_ok (j1 := 2199) (j2 := 2200) (j4 := 1012) (j5 := 2201) (by decide +kernel)
set_option maxRecDepth 100000 in
theorem mp_lkX7_74 : mp_LS RX7 74 yJ7_fill_d0a16 cJ7_fill_d0a16 5 none 2 := mp_ls_ok (j1 := 2202) (j2 := 2203) (j4 := 1012) (j5 := 2204) (by decide +kernel)
set_option maxRecDepth 100000 in
theorem mp_lkX3_38 : mp_LV RX3 38 yX3_step cX3_step 1 none 0 3 := mp_lv_ok (j1 := 2205) (j2 := 2207) (j3 := 0) (j4 := 1002) (j5 := 2208) (by decide +kernel)
set_option maxRecDepth 100000 in
theorem mp_lkX3_173 : mp_LV RX3 173 yX3_isLetter cX3_isLetter 2 (some FieldType.boolean) 1 3 := mp_lv_ok (j1 := 2209) (j2 := 2211) (j3 := 1) (j4 := 1002) (j5 := 2212) (by decide +kernel)
set_option maxRecDepth 100000 in
theorem mp_lkX3_176 : mp_LV RX3 176 yX3_isDigit cX3_isDigit 2 (some FieldType.boolean) 1 3 := mp_lv_ok (j1 := 2213) (j2 := 2215) (j3 := 2) (j4 := 1002) (j5 := 2216) (by decide +kernel)
set_option maxRecDepth 100000 in
theorem mp_lkX3_180 : mp_LS RX3 180 yJ9_min_7cf53 cJ9_min_7cf53 2 (some FieldType.int) 2 := mp_ls_ok (j1 := 2218) (j2 := 2219) (j4 := 1013) (j5 := 2220) (by decide +kernel)
set_option maxRecDepth 100000 in
theorem mp_lkX3_44 : mp_LV RX3 44 yX3_takeLine cX3_takeLine 2 (some FieldType.boolean) 0 3 := mp_lv_ok (j1 := 2221) (j2 := 2223) (j3 := 3) (j4 := 1002) (j5 := 2224) (by decide +kernel)
set_option maxRecDepth 100000 in
theorem mp_lkX3_56 : mp_LV RX3 56 yX3_isWord cX3_isWord 3 (some FieldType.boolean) 1 3 := mp_lv_ok (j1 := 2226) (j2 := 2228) (j3 := 4) (j4 := 1002) (j5 := 2229) (by decide +kernel)
set_option maxRecDepth 100000 in
theorem mp_lkX3_60 : mp_LV RX3 60 yX3_fail cX3_fail 2 (some FieldType.boolean) 1 3 := mp_lv_ok (j1 := 3038) (j2 := 3040) (j3 := 5) (j4 := 1002) (j5 := 3041) (by decide +kernel)
set_option maxRecDepth 100000 in
theorem mp_lkX3_64 : mp_LV RX3 64 yX3_takeIsles cX3_takeIsles 1 (some FieldType.boolean) 0 3 := mp_lv_ok (j1 := 3042) (j2 := 3044) (j3 := 6) (j4 := 1002) (j5 := 3045) (by decide +kernel)
set_option maxRecDepth 100000 in
theorem mp_lkX3_91 : mp_LV RX3 91 yX3_takeNumber cX3_takeNumber 4 (some FieldType.boolean) 3 3 := mp_lv_ok (j1 := 3046) (j2 := 3048) (j3 := 7) (j4 := 1002) (j5 := 3049) (by decide +kernel)
set_option maxRecDepth 100000 in
theorem mp_lkX3_102 : mp_LV RX3 102 yX3_takeWord cX3_takeWord 2 (some FieldType.boolean) 1 3 := mp_lv_ok (j1 := 3051) (j2 := 3053) (j3 := 8) (j4 := 1002) (j5 := 3054) (by decide +kernel)
set_option maxRecDepth 100000 in
theorem mp_lkX3_69 : mp_LV RX3 69 yX3_takeSea cX3_takeSea 3 (some FieldType.boolean) 0 3 := mp_lv_ok (j1 := 3056) (j2 := 3058) (j3 := 9) (j4 := 1002) (j5 := 3059) (by decide +kernel)
set_option maxRecDepth 100000 in
theorem mp_lkX3_110 : mp_LV RX3 110 yX7_laySea cX7_laySea 4 none 3 7 := mp_lv_ok (j1 := 3061) (j2 := 3062) (j3 := 3063) (j4 := 1003) (j5 := 3064) (by decide +kernel)
set_option maxRecDepth 100000 in
theorem mp_lkX3_74 : mp_LV RX3 74 yX3_takePerson cX3_takePerson 5 (some FieldType.boolean) 0 3 := mp_lv_ok (j1 := 3066) (j2 := 3068) (j3 := 10) (j4 := 1002) (j5 := 3069) (by decide +kernel)
set_option maxRecDepth 100000 in
theorem mp_lkX3_119 : mp_LV RX3 119 yX7_addPerson cX7_addPerson 2 none 1 7 := mp_lv_ok (j1 := 3071) (j2 := 3072) (j3 := 3073) (j4 := 1003) (j5 := 3074) (by decide +kernel)
set_option maxRecDepth 100000 in
theorem mp_lkX3_79 : mp_LV RX3 79 yX3_takePromise cX3_takePromise 4 (some FieldType.boolean) 0 3 := mp_lv_ok (j1 := 3078) (j2 := 3080) (j3 := 11) (j4 := 1002) (j5 := 3081) (by decide +kernel)
set_option maxRecDepth 100000 in
theorem mp_lkX3_141 : mp_LV RX3 141 yX7_addPromise cX7_addPromise 5 none 4 7 := mp_lv_ok (j1 := 3086) (j2 := 3087) (j3 := 3088) (j4 := 1003) (j5 := 3089) (by decide +kernel)
set_option maxRecDepth 100000 in
theorem mp_lkX3_85 : mp_LV RX3 85 yX3_takePromiseMarks cX3_takePromiseMarks 3 (some FieldType.boolean) 1 3 := mp_lv_ok (j1 := 3090) (j2 := 3092) (j3 := 12) (j4 := 1002) (j5 := 3093) (by decide +kernel)
set_option maxRecDepth 100000 in
theorem mp_lkX3_88 : mp_LV RX3 88 yX3_takeShut cX3_takeShut 2 (some FieldType.boolean) 0 3 := mp_lv_ok (j1 := 3095) (j2 := 3097) (j3 := 13) (j4 := 1002) (j5 := 3098) (by decide +kernel)
set_option maxRecDepth 100000 in
theorem mp_lkX3_154 : mp_LV RX3 154 yX7_setShut cX7_setShut 7 none 3 7 := mp_lv_ok (j1 := 3100) (j2 := 3101) (j3 := 3102) (j4 := 1003) (j5 := 3103) (by decide +kernel)
set_option maxRecDepth 100000 in
theorem mp_lkX3_48 : mp_LV RX3 48 yX3_takeSign cX3_takeSign 1 (some FieldType.boolean) 0 3 := mp_lv_ok (j1 := 3105) (j2 := 3107) (j3 := 14) (j4 := 1002) (j5 := 3108) (by decide +kernel)
set_option maxRecDepth 100000 in
theorem mp_lkX9_90 : mp_LV RX9 90 yX7_copyFrom cX7_copyFrom 2 none 1 7 := mp_lv_ok (j1 := 3109) (j2 := 3110) (j3 := 3111) (j4 := 1003) (j5 := 3112) (by decide +kernel)
set_option maxRecDepth 100000 in
theorem mp_lkX9_94 : mp_LV RX9 94 yX0_replay cX0_replay 2 none 0 0 := mp_lv_ok (j1 := 3116) (j2 := 3117) (j3 := 3118) (j4 := 1004) (j5 := 3119) (by decide +kernel)
set_option maxRecDepth 100000 in
theorem mp_lkX0_49 : mp_LS RX0 49 yJ7_fill_d0a16 cJ7_fill_d0a16 5 none 2 := mp_ls_ok (j1 := 3120) (j2 := 2203) (j4 := 1012) (j5 := 2204) (by decide +kernel)
set_option maxRecDepth 100000 in
theorem mp_lkX0_61 : mp_LV RX0 61 yX0_apply cX0_apply 4 none 1 0 := mp_lv_ok (j1 := 3121) (j2 := 3123) (j3 := 15) (j4 := 1004) (j5 := 3124) (by decide +kernel)
set_option maxRecDepth 100000 in
theorem mp_lkX0_65 : mp_LV RX0 65 yX7_oarsBetween cX7_oarsBetween 3 (some FieldType.int) 2 7 := mp_lv_ok (j1 := 3125) (j2 := 3126) (j3 := 3127) (j4 := 1003) (j5 := 3128) (by decide +kernel)
set_option maxRecDepth 100000 in
theorem mp_lkL_28 : mp_LV RL 28 yX9_fault cX9_fault 2 (some FieldType.int) 1 9 := mp_lv_ok (j1 := 3129) (j2 := 3130) (j3 := 3131) (j4 := 1001) (j5 := 3132) (by decide +kernel)
set_option maxRecDepth 100000 in
theorem mp_lkL_32 : mp_LV RL 32 yX9_person cX9_person 4 (some FieldType.int) 2 9 := mp_lv_ok (j1 := 3133) (j2 := 3134) (j3 := 3135) (j4 := 1001) (j5 := 3136) (by decide +kernel)
set_option maxRecDepth 100000 in
theorem mp_lkX9_106 : mp_LV RX9 106 yX7_isPerson cX7_isPerson 2 (some FieldType.boolean) 1 7 := mp_lv_ok (j1 := 3137) (j2 := 3138) (j3 := 3139) (j4 := 1003) (j5 := 3140) (by decide +kernel)
set_option maxRecDepth 100000 in
theorem mp_lkL_37 : mp_LV RL 37 yX9_promise cX9_promise 4 (some FieldType.int) 2 9 := mp_lv_ok (j1 := 3141) (j2 := 3142) (j3 := 3143) (j4 := 1001) (j5 := 3144) (by decide +kernel)
set_option maxRecDepth 100000 in
theorem mp_lkX9_120 : mp_LV RX9 120 yX7_isPromise cX7_isPromise 2 (some FieldType.boolean) 1 7 := mp_lv_ok (j1 := 3145) (j2 := 3146) (j3 := 3147) (j4 := 1003) (j5 := 3148) (by decide +kernel)
set_option maxRecDepth 100000 in
theorem mp_lkL_41 : mp_LV RL 41 yX9_sea cX9_sea 4 (some FieldType.int) 2 9 := mp_lv_ok (j1 := 3149) (j2 := 3150) (j3 := 3151) (j4 := 1001) (j5 := 3152) (by decide +kernel)
set_option maxRecDepth 100000 in
theorem mp_lkX9_141 : mp_LV RX9 141 yX7_isIsle cX7_isIsle 2 (some FieldType.boolean) 1 7 := mp_lv_ok (j1 := 3153) (j2 := 3154) (j3 := 3155) (j4 := 1003) (j5 := 3156) (by decide +kernel)
set_option maxRecDepth 100000 in
theorem mp_lkX9_144 : mp_LV RX9 144 yX7_oarsBetween cX7_oarsBetween 3 (some FieldType.int) 2 7 := mp_lv_ok (j1 := 3157) (j2 := 3126) (j3 := 3127) (j4 := 1003) (j5 := 3128) (by decide +kernel)
set_option maxRecDepth 100000 in
theorem mp_lkL_45 : mp_LV RL 45 yX9_open cX9_open 3 (some FieldType.int) 2 9 := mp_lv_ok (j1 := 3158) (j2 := 3159) (j3 := 3160) (j4 := 1001) (j5 := 3161) (by decide +kernel)
set_option maxRecDepth 100000 in
theorem mp_lkX9_148 : mp_LS RX9 148 yX9_isMoon cX9_isMoon 1 (some FieldType.boolean) 1 := mp_ls_ok (j1 := 3162) (j2 := 3163) (j4 := 1001) (j5 := 3164) (by decide +kernel)
set_option maxRecDepth 100000 in
theorem mp_lkX9_151 : mp_LV RX9 151 yX7_isShut cX7_isShut 3 (some FieldType.boolean) 2 7 := mp_lv_ok (j1 := 3165) (j2 := 3166) (j3 := 3167) (j4 := 1003) (j5 := 3168) (by decide +kernel)
set_option maxRecDepth 100000 in
theorem mp_lkL_49 : mp_LV RL 49 yX9_halvings cX9_halvings 3 (some FieldType.int) 2 9 := mp_lv_ok (j1 := 3169) (j2 := 3170) (j3 := 3171) (j4 := 1001) (j5 := 3172) (by decide +kernel)
set_option maxRecDepth 100000 in
theorem mp_lkX9_155 : mp_LV RX9 155 yX0_lastsAt cX0_lastsAt 3 (some (FieldType.array FieldType.int)) 1 0 := mp_lv_ok (j1 := 3173) (j2 := 3174) (j3 := 3175) (j4 := 1004) (j5 := 3176) (by decide +kernel)
set_option maxRecDepth 100000 in
theorem mp_lkX0_86 : mp_LV RX0 86 yX0_lastSaid cX0_lastSaid 5 (some FieldType.int) 2 0 := mp_lv_ok (j1 := 3177) (j2 := 3179) (j3 := 16) (j4 := 1004) (j5 := 3180) (by decide +kernel)
set_option maxRecDepth 100000 in
theorem mp_lkX0_92 : mp_LS RX0 92 yJ9_min_7cf53 cJ9_min_7cf53 2 (some FieldType.int) 2 := mp_ls_ok (j1 := 3181) (j2 := 2219) (j4 := 1013) (j5 := 2220) (by decide +kernel)
set_option maxRecDepth 100000 in
theorem mp_lkX9_159 : mp_LV RX9 159 yX7_halvingsBy cX7_halvingsBy 7 (some FieldType.int) 3 7 := mp_lv_ok (j1 := 3182) (j2 := 3183) (j3 := 3184) (j4 := 1003) (j5 := 3185) (by decide +kernel)
set_option maxRecDepth 100000 in
theorem mp_lkX7_102 : mp_LV RX7 102 yX7_ownHalvings cX7_ownHalvings 6 (some FieldType.int) 3 7 := mp_lv_ok (j1 := 3186) (j2 := 3187) (j3 := 3188) (j4 := 1003) (j5 := 3189) (by decide +kernel)
set_option maxRecDepth 100000 in
theorem mp_lkL_53 : mp_LV RL 53 yX9_worth cX9_worth 3 (some FieldType.int) 2 9 := mp_lv_ok (j1 := 3190) (j2 := 3191) (j3 := 3192) (j4 := 1001) (j5 := 3193) (by decide +kernel)
set_option maxRecDepth 100000 in
theorem mp_lkX9_163 : mp_LV RX9 163 yX7_worthBy cX7_worthBy 5 (some FieldType.int) 3 7 := mp_lv_ok (j1 := 3194) (j2 := 3195) (j3 := 3196) (j4 := 1003) (j5 := 3197) (by decide +kernel)
set_option maxRecDepth 100000 in
theorem mp_lkX7_106 : mp_LV RX7 106 yX7_halvingsBy cX7_halvingsBy 7 (some FieldType.int) 3 7 := mp_lv_ok (j1 := 3198) (j2 := 3183) (j3 := 3184) (j4 := 1003) (j5 := 3185) (by decide +kernel)
set_option maxRecDepth 100000 in
theorem mp_lkX7_110 : mp_LNs RX7 110 yX9_halved cX9_halved 2 (some FieldType.int) 2 := mp_ln_ok (host := RX9) (j1 := 8) (j4 := 1001) (j5 := 3201) (by decide +kernel)
set_option maxRecDepth 100000 in
theorem mp_lkL_57 : mp_LV RL 57 yX9_falls cX9_falls 5 (some FieldType.int) 2 9 := mp_lv_ok (j1 := 3202) (j2 := 3203) (j3 := 3204) (j4 := 1001) (j5 := 3205) (by decide +kernel)
set_option maxRecDepth 100000 in
theorem mp_lkL_61 : mp_LV RL 61 yX9_owed cX9_owed 4 (some FieldType.int) 3 9 := mp_lv_ok (j1 := 3206) (j2 := 3207) (j3 := 3208) (j4 := 1001) (j5 := 3209) (by decide +kernel)
set_option maxRecDepth 100000 in
theorem mp_lkX9_169 : mp_LV RX9 169 yX9_arePair cX9_arePair 3 (some FieldType.boolean) 2 9 := mp_lv_ok (j1 := 3210) (j2 := 3212) (j3 := 17) (j4 := 1001) (j5 := 3213) (by decide +kernel)
set_option maxRecDepth 100000 in
theorem mp_lkX9_172 : mp_LV RX9 172 yX1_fill cX1_fill 6 none 2 1 := mp_lv_ok (j1 := 3214) (j2 := 3215) (j3 := 3216) (j4 := 1005) (j5 := 3217) (by decide +kernel)
set_option maxRecDepth 100000 in
theorem mp_lkX1_24 : mp_LV RX1 24 yX0_worthsAt cX0_worthsAt 3 (some (FieldType.array FieldType.int)) 1 0 := mp_lv_ok (j1 := 3218) (j2 := 3219) (j3 := 3220) (j4 := 1004) (j5 := 3221) (by decide +kernel)
set_option maxRecDepth 100000 in
theorem mp_lkX0_97 : mp_LV RX0 97 yX0_lastsAt cX0_lastsAt 3 (some (FieldType.array FieldType.int)) 1 0 := mp_lv_ok (j1 := 3222) (j2 := 3174) (j3 := 3175) (j4 := 1004) (j5 := 3176) (by decide +kernel)
set_option maxRecDepth 100000 in
theorem mp_lkX0_101 : mp_LV RX0 101 yX7_worthBy cX7_worthBy 5 (some FieldType.int) 3 7 := mp_lv_ok (j1 := 3223) (j2 := 3195) (j3 := 3196) (j4 := 1003) (j5 := 3197) (by decide +kernel)
set_option maxRecDepth 100000 in
theorem mp_lkX1_35 : mp_LS RX1 35 yJ7_fill_53178 cJ7_fill_53178 4 none 2 := mp_ls_ok (j1 := 3224) (j2 := 2200) (j4 := 1012) (j5 := 2201) (by decide +kernel)
set_option maxRecDepth 100000 in
theorem mp_lkX9_176 : mp_LV RX9 176 yX1_debt cX1_debt 3 (some FieldType.int) 2 1 := mp_lv_ok (j1 := 3225) (j2 := 3226) (j3 := 3227) (j4 := 1005) (j5 := 3228) (by decide +kernel)
set_option maxRecDepth 100000 in
theorem mp_lkL_66 : mp_LV RL 66 yX9_sum cX9_sum 4 (some FieldType.int) 3 9 := mp_lv_ok (j1 := 3229) (j2 := 3230) (j3 := 3231) (j4 := 1001) (j5 := 3232) (by decide +kernel)
set_option maxRecDepth 100000 in
theorem mp_lkX9_180 : mp_LV RX9 180 yX1_owing cX1_owing 4 (some FieldType.int) 1 1 := mp_lv_ok (j1 := 3234) (j2 := 3235) (j3 := 3236) (j4 := 1005) (j5 := 3237) (by decide +kernel)
set_option maxRecDepth 100000 in
theorem mp_lkX1_50 : mp_LV RX1 50 yX1_debt cX1_debt 3 (some FieldType.int) 2 1 := mp_lv_ok (j1 := 3238) (j2 := 3226) (j3 := 3227) (j4 := 1005) (j5 := 3228) (by decide +kernel)
set_option maxRecDepth 100000 in
theorem mp_lkX9_184 : mp_LV RX9 184 yX1_due cX1_due 4 (some FieldType.int) 1 1 := mp_lv_ok (j1 := 3239) (j2 := 4000) (j3 := 4001) (j4 := 1005) (j5 := 4002) (by decide +kernel)
set_option maxRecDepth 100000 in
theorem mp_lkL_70 : mp_LV RL 70 yX9_richest cX9_richest 2 (some FieldType.int) 1 9 := mp_lv_ok (j1 := 4003) (j2 := 4004) (j3 := 4005) (j4 := 1001) (j5 := 4006) (by decide +kernel)
set_option maxRecDepth 100000 in
theorem mp_lkX9_187 : mp_LV RX9 187 yX9_isToldMoon cX9_isToldMoon 2 (some FieldType.boolean) 1 9 := mp_lv_ok (j1 := 4007) (j2 := 4009) (j3 := 18) (j4 := 1001) (j5 := 4010) (by decide +kernel)
set_option maxRecDepth 100000 in
theorem mp_lkX9_190 : mp_LV RX9 190 yX1_first cX1_first 5 (some FieldType.int) 0 1 := mp_lv_ok (j1 := 4011) (j2 := 4012) (j3 := 4013) (j4 := 1005) (j5 := 4014) (by decide +kernel)
set_option maxRecDepth 100000 in
theorem mp_lkX1_54 : mp_LV RX1 54 yX1_due cX1_due 4 (some FieldType.int) 1 1 := mp_lv_ok (j1 := 4015) (j2 := 4000) (j3 := 4001) (j4 := 1005) (j5 := 4002) (by decide +kernel)
set_option maxRecDepth 100000 in
theorem mp_lkX1_58 : mp_LV RX1 58 yX1_owing cX1_owing 4 (some FieldType.int) 1 1 := mp_lv_ok (j1 := 4016) (j2 := 3235) (j3 := 3236) (j4 := 1005) (j5 := 3237) (by decide +kernel)
set_option maxRecDepth 100000 in
theorem mp_lkL_74 : mp_LV RL 74 yX9_greatest cX9_greatest 6 (some FieldType.int) 1 9 := mp_lv_ok (j1 := 4017) (j2 := 4018) (j3 := 4019) (j4 := 1001) (j5 := 4020) (by decide +kernel)
set_option maxRecDepth 100000 in
theorem mp_lkX9_193 : mp_LV RX9 193 yX0_worthsAt cX0_worthsAt 3 (some (FieldType.array FieldType.int)) 1 0 := mp_lv_ok (j1 := 4021) (j2 := 3219) (j3 := 3220) (j4 := 1004) (j5 := 3221) (by decide +kernel)
set_option maxRecDepth 100000 in
theorem mp_lkL_78 : mp_LV RL 78 yX9_root cX9_root 4 (some FieldType.int) 1 9 := mp_lv_ok (j1 := 4022) (j2 := 4023) (j3 := 4024) (j4 := 1001) (j5 := 4025) (by decide +kernel)
set_option maxRecDepth 100000 in
theorem mp_lkL_82 : mp_LV RL 82 yX9_upon cX9_upon 5 (some FieldType.int) 1 9 := mp_lv_ok (j1 := 4026) (j2 := 4027) (j3 := 4028) (j4 := 1001) (j5 := 4029) (by decide +kernel)
set_option maxRecDepth 100000 in
theorem mp_lkL_86 : mp_LV RL 86 yX9_now cX9_now 1 (some FieldType.int) 0 9 := mp_lv_ok (j1 := 4030) (j2 := 4031) (j3 := 4032) (j4 := 1001) (j5 := 4033) (by decide +kernel)
set_option maxRecDepth 100000 in
theorem mp_lkL_90 : mp_LV RL 90 yX9_where cX9_where 2 (some FieldType.int) 1 9 := mp_lv_ok (j1 := 4034) (j2 := 4035) (j3 := 4036) (j4 := 1001) (j5 := 4037) (by decide +kernel)
set_option maxRecDepth 100000 in
theorem mp_lkL_94 : mp_LV RL 94 yX9_rowed cX9_rowed 2 (some FieldType.int) 1 9 := mp_lv_ok (j1 := 4038) (j2 := 4039) (j3 := 4040) (j4 := 1001) (j5 := 4041) (by decide +kernel)
set_option maxRecDepth 100000 in
theorem mp_lkL_98 : mp_LV RL 98 yX9_rows cX9_rows 4 (some FieldType.int) 2 9 := mp_lv_ok (j1 := 4042) (j2 := 4043) (j3 := 4044) (j4 := 1001) (j5 := 4045) (by decide +kernel)
set_option maxRecDepth 100000 in
theorem mp_lkX9_205 : mp_LV RX9 205 yX0_canRow cX0_canRow 3 (some FieldType.boolean) 2 0 := mp_lv_ok (j1 := 4046) (j2 := 4047) (j3 := 4048) (j4 := 1004) (j5 := 4049) (by decide +kernel)
set_option maxRecDepth 100000 in
theorem mp_lkX0_69 : mp_LV RX0 69 yX7_oarsOfLeg cX7_oarsOfLeg 6 (some FieldType.int) 4 7 := mp_lv_ok (j1 := 4050) (j2 := 4051) (j3 := 4052) (j4 := 1003) (j5 := 4053) (by decide +kernel)
set_option maxRecDepth 100000 in
theorem mp_lkX7_95 : mp_LV RX7 95 yX7_oarsBetween cX7_oarsBetween 3 (some FieldType.int) 2 7 := mp_lv_ok (j1 := 4054) (j2 := 3126) (j3 := 3127) (j4 := 1003) (j5 := 3128) (by decide +kernel)
set_option maxRecDepth 100000 in
theorem mp_lkX7_91 : mp_LV RX7 91 yX7_lives cX7_lives 3 (some FieldType.boolean) 2 7 := mp_lv_ok (j1 := 4055) (j2 := 4056) (j3 := 4057) (j4 := 1003) (j5 := 4058) (by decide +kernel)
set_option maxRecDepth 100000 in
theorem mp_lkX7_99 : mp_LV RX7 99 yX7_isShut cX7_isShut 3 (some FieldType.boolean) 2 7 := mp_lv_ok (j1 := 4059) (j2 := 3166) (j3 := 3167) (j4 := 1003) (j5 := 3168) (by decide +kernel)
set_option maxRecDepth 100000 in
theorem mp_lkX9_208 : mp_LV RX9 208 yX0_addAct cX0_addAct 2 (some FieldType.boolean) 1 0 := mp_lv_ok (j1 := 4060) (j2 := 4061) (j3 := 4062) (j4 := 1004) (j5 := 4063) (by decide +kernel)
set_option maxRecDepth 100000 in
theorem mp_lkL_102 : mp_LV RL 102 yX9_says cX9_says 2 (some FieldType.int) 1 9 := mp_lv_ok (j1 := 4064) (j2 := 4065) (j3 := 4066) (j4 := 1001) (j5 := 4067) (by decide +kernel)
set_option maxRecDepth 100000 in
theorem mp_lkX9_211 : mp_LV RX9 211 yX0_canSay cX0_canSay 2 (some FieldType.boolean) 1 0 := mp_lv_ok (j1 := 4068) (j2 := 4069) (j3 := 4070) (j4 := 1004) (j5 := 4071) (by decide +kernel)
set_option maxRecDepth 100000 in
theorem mp_lkX0_79 : mp_LV RX0 79 yX7_bothLive cX7_bothLive 3 (some FieldType.boolean) 2 7 := mp_lv_ok (j1 := 4072) (j2 := 4073) (j3 := 4074) (j4 := 1003) (j5 := 4075) (by decide +kernel)
set_option maxRecDepth 100000 in
theorem mp_lkL_106 : mp_LV RL 106 yX9_passes cX9_passes 1 (some FieldType.int) 0 9 := mp_lv_ok (j1 := 4076) (j2 := 4077) (j3 := 4078) (j4 := 1001) (j5 := 4079) (by decide +kernel)
set_option maxRecDepth 100000 in
theorem mp_lkL_110 : mp_LV RL 110 yX9_undo cX9_undo 2 (some FieldType.int) 0 9 := mp_lv_ok (j1 := 4080) (j2 := 4081) (j3 := 4082) (j4 := 1001) (j5 := 4083) (by decide +kernel)
set_option maxRecDepth 100000 in
theorem mp_lkL_114 : mp_LV RL 114 yX9_anew cX9_anew 3 (some FieldType.int) 0 9 := mp_lv_ok (j1 := 4084) (j2 := 4085) (j3 := 4086) (j4 := 1001) (j5 := 4087) (by decide +kernel)
set_option maxRecDepth 100000 in
theorem mp_lkL_118 : mp_LV RL 118 yX9_act cX9_act 3 (some FieldType.int) 1 9 := mp_lv_ok (j1 := 4088) (j2 := 4089) (j3 := 4090) (j4 := 1001) (j5 := 4091) (by decide +kernel)
set_option maxRecDepth 100000 in
theorem mp_lkL_122 : mp_LV RL 122 yX9_can cX9_can 3 (some FieldType.int) 0 9 := mp_lv_ok (j1 := 4092) (j2 := 4093) (j3 := 4094) (j4 := 1001) (j5 := 4095) (by decide +kernel)
set_option maxRecDepth 100000 in
theorem mp_lkL_126 : mp_LV RL 126 yX9_sails cX9_sails 4 (some FieldType.int) 1 9 := mp_lv_ok (j1 := 4096) (j2 := 4097) (j3 := 4098) (j4 := 1001) (j5 := 4099) (by decide +kernel)
set_option maxRecDepth 100000 in
theorem mp_lkL_130 : mp_LV RL 130 yX9_keeps cX9_keeps 3 (some FieldType.int) 2 9 := mp_lv_ok (j1 := 4100) (j2 := 4101) (j3 := 4102) (j4 := 1001) (j5 := 4103) (by decide +kernel)
set_option maxRecDepth 100000 in
theorem mp_lkX9_223 : mp_LV RX9 223 yX9_canPlan cX9_canPlan 3 (some FieldType.boolean) 2 9 := mp_lv_ok (j1 := 4104) (j2 := 4106) (j3 := 19) (j4 := 1001) (j5 := 4107) (by decide +kernel)
set_option maxRecDepth 100000 in
theorem mp_lkX9_226 : mp_LV RX9 226 yX2_prepare cX2_prepare 4 none 3 2 := mp_lv_ok (j1 := 4108) (j2 := 4109) (j3 := 4110) (j4 := 1006) (j5 := 4111) (by decide +kernel)
set_option maxRecDepth 100000 in
theorem mp_lkX2_28 : mp_LV RX2 28 yX2_layLegs cX2_layLegs 7 none 3 2 := mp_lv_ok (j1 := 4112) (j2 := 4114) (j3 := 20) (j4 := 1006) (j5 := 4115) (by decide +kernel)
set_option maxRecDepth 100000 in
theorem mp_lkX2_61 : mp_LS RX2 61 yX2_leg cX2_leg 3 (some FieldType.int) 3 := mp_ls_ok (j1 := 4116) (j2 := 4117) (j4 := 1006) (j5 := 4118) (by decide +kernel)
set_option maxRecDepth 100000 in
theorem mp_lkX2_68 : mp_LV RX2 68 yX7_oarsOfLeg cX7_oarsOfLeg 6 (some FieldType.int) 4 7 := mp_lv_ok (j1 := 4119) (j2 := 4051) (j3 := 4052) (j4 := 1003) (j5 := 4053) (by decide +kernel)
set_option maxRecDepth 100000 in
theorem mp_lkX2_32 : mp_LV RX2 32 yX2_laySpoken cX2_laySpoken 6 none 2 2 := mp_lv_ok (j1 := 4120) (j2 := 4122) (j3 := 21) (j4 := 1006) (j5 := 4123) (by decide +kernel)
set_option maxRecDepth 100000 in
theorem mp_lkX2_72 : mp_LS RX2 72 yJ7_fill_53178 cJ7_fill_53178 4 none 2 := mp_ls_ok (j1 := 4124) (j2 := 2200) (j4 := 1012) (j5 := 2201) (by decide +kernel)
set_option maxRecDepth 100000 in
theorem mp_lkX2_84 : mp_LV RX2 84 yX7_bothLive cX7_bothLive 3 (some FieldType.boolean) 2 7 := mp_lv_ok (j1 := 4125) (j2 := 4073) (j3 := 4074) (j4 := 1003) (j5 := 4075) (by decide +kernel)
set_option maxRecDepth 100000 in
theorem mp_lkX2_36 : mp_LV RX2 36 yX2_layMissed cX2_layMissed 10 none 2 2 := mp_lv_ok (j1 := 4126) (j2 := 4128) (j3 := 22) (j4 := 1006) (j5 := 4129) (by decide +kernel)
set_option maxRecDepth 100000 in
theorem mp_lkX2_91 : mp_LV RX2 91 yX0_lastsAt cX0_lastsAt 3 (some (FieldType.array FieldType.int)) 1 0 := mp_lv_ok (j1 := 4130) (j2 := 3174) (j3 := 3175) (j4 := 1004) (j5 := 3176) (by decide +kernel)
set_option maxRecDepth 100000 in
theorem mp_lkX2_98 : mp_LV RX2 98 yX7_ownHalvings cX7_ownHalvings 6 (some FieldType.int) 3 7 := mp_lv_ok (j1 := 4131) (j2 := 3187) (j3 := 3188) (j4 := 1003) (j5 := 3189) (by decide +kernel)
set_option maxRecDepth 100000 in
theorem mp_lkX9_230 : mp_LV RX9 230 yX2_leastOars cX2_leastOars 3 (some FieldType.int) 0 2 := mp_lv_ok (j1 := 4132) (j2 := 4133) (j3 := 4134) (j4 := 1006) (j5 := 4135) (by decide +kernel)
set_option maxRecDepth 100000 in
theorem mp_lkX2_101 : mp_LV RX2 101 yX2_leastFrom cX2_leastFrom 6 (some FieldType.int) 2 2 := mp_lv_ok (j1 := 4136) (j2 := 4138) (j3 := 23) (j4 := 1006) (j5 := 4139) (by decide +kernel)
set_option maxRecDepth 100000 in
theorem mp_lkX2_105 : mp_LV RX2 105 yX2_oarsBy cX2_oarsBy 6 (some FieldType.int) 3 2 := mp_lv_ok (j1 := 4140) (j2 := 4142) (j3 := 24) (j4 := 1006) (j5 := 4143) (by decide +kernel)
set_option maxRecDepth 100000 in
theorem mp_lkX2_108 : mp_LV RX2 108 yX2_isKeeping cX2_isKeeping 2 (some FieldType.boolean) 1 2 := mp_lv_ok (j1 := 4144) (j2 := 4146) (j3 := 25) (j4 := 1006) (j5 := 4147) (by decide +kernel)
set_option maxRecDepth 100000 in
theorem mp_lkL_134 : mp_LV RL 134 yX9_plan cX9_plan 4 (some FieldType.int) 3 9 := mp_lv_ok (j1 := 4148) (j2 := 4149) (j3 := 4150) (j4 := 1001) (j5 := 4151) (by decide +kernel)
set_option maxRecDepth 100000 in
theorem mp_lkX9_233 : mp_LV RX9 233 yX2_isleOfFirst cX2_isleOfFirst 6 (some FieldType.int) 1 2 := mp_lv_ok (j1 := 4152) (j2 := 4153) (j3 := 4154) (j4 := 1006) (j5 := 4155) (by decide +kernel)
set_option maxRecDepth 100000 in
theorem mp_lkL_138 : mp_LV RL 138 yX9_lets cX9_lets 3 (some FieldType.int) 2 9 := mp_lv_ok (j1 := 4156) (j2 := 4157) (j3 := 4158) (j4 := 1001) (j5 := 4159) (by decide +kernel)
set_option maxRecDepth 100000 in
theorem mp_lkX9_236 : mp_LV RX9 236 yX2_leastFallen cX2_leastFallen 5 (some FieldType.int) 0 2 := mp_lv_ok (j1 := 4160) (j2 := 4161) (j3 := 4162) (j4 := 1006) (j5 := 4163) (by decide +kernel)
set_option maxRecDepth 100000 in
theorem mp_lkX2_112 : mp_LS RX2 112 yJ6_bitCount_0f7a4 cJ6_bitCount_0f7a4 1 (some FieldType.int) 1 := mp_ls_ok (j1 := 4164) (j2 := 4165) (j4 := 1019) (j5 := 4166) (by decide +kernel)
set_option maxRecDepth 100000 in
theorem mp_lkX2_118 : mp_LV RX2 118 yX2_canKeep cX2_canKeep 6 (some FieldType.boolean) 1 2 := mp_lv_ok (j1 := 4170) (j2 := 4172) (j3 := 26) (j4 := 1006) (j5 := 4173) (by decide +kernel)
set_option maxRecDepth 100000 in
theorem mp_lkX2_121 : mp_LV RX2 121 yX2_reached cX2_reached 7 (some FieldType.int) 3 2 := mp_lv_ok (j1 := 4174) (j2 := 4176) (j3 := 27) (j4 := 1006) (j5 := 4177) (by decide +kernel)
set_option maxRecDepth 100000 in
theorem mp_lkX9_239 : mp_LS RX9 239 yJ6_bitCount_0f7a4 cJ6_bitCount_0f7a4 1 (some FieldType.int) 1 := mp_ls_ok (j1 := 4178) (j2 := 4165) (j4 := 1019) (j5 := 4166) (by decide +kernel)
set_option maxRecDepth 100000 in
theorem mp_lkL_142 : mp_LV RL 142 yX9_fallen cX9_fallen 3 (some FieldType.int) 2 9 := mp_lv_ok (j1 := 4179) (j2 := 4180) (j3 := 4181) (j4 := 1001) (j5 := 4182) (by decide +kernel)
set_option maxRecDepth 100000 in
theorem mp_lkL_146 : mp_LV RL 146 yX9_plans cX9_plans 3 (some FieldType.long) 2 9 := mp_lv_ok (j1 := 4183) (j2 := 4184) (j3 := 4185) (j4 := 1001) (j5 := 4186) (by decide +kernel)
set_option maxRecDepth 100000 in
theorem mp_lkX9_246 : mp_LV RX9 246 yX2_countPlans cX2_countPlans 6 (some FieldType.long) 0 2 := mp_lv_ok (j1 := 4188) (j2 := 4189) (j3 := 4190) (j4 := 1006) (j5 := 4191) (by decide +kernel)
set_option maxRecDepth 100000 in
theorem mp_lkL_151 : mp_LV RL 151 yX9_love cX9_love 4 (some FieldType.int) 3 9 := mp_lv_ok (j1 := 4192) (j2 := 4193) (j3 := 4194) (j4 := 1001) (j5 := 4195) (by decide +kernel)
set_option maxRecDepth 100000 in
theorem mp_lkX9_250 : mp_LV RX9 250 yX9_canLove cX9_canLove 4 (some FieldType.boolean) 3 9 := mp_lv_ok (j1 := 4196) (j2 := 4198) (j3 := 28) (j4 := 1001) (j5 := 4199) (by decide +kernel)
set_option maxRecDepth 100000 in
theorem mp_lkX9_254 : mp_LV RX9 254 yX2_seekLove cX2_seekLove 11 none 4 2 := mp_lv_ok (j1 := 4200) (j2 := 4201) (j3 := 4202) (j4 := 1006) (j5 := 4203) (by decide +kernel)
set_option maxRecDepth 100000 in
theorem mp_lkX2_130 : mp_LV RX2 130 yX7_worthBy cX7_worthBy 5 (some FieldType.int) 3 7 := mp_lv_ok (j1 := 4204) (j2 := 3195) (j3 := 3196) (j4 := 1003) (j5 := 3197) (by decide +kernel)
set_option maxRecDepth 100000 in
theorem mp_lkX2_134 : mp_LV RX2 134 yX2_layReach cX2_layReach 3 none 0 2 := mp_lv_ok (j1 := 4205) (j2 := 4207) (j3 := 29) (j4 := 1006) (j5 := 4208) (by decide +kernel)
set_option maxRecDepth 100000 in
theorem mp_lkX2_137 : mp_LV RX2 137 yX2_leastTo cX2_leastTo 7 (some FieldType.int) 2 2 := mp_lv_ok (j1 := 4209) (j2 := 4211) (j3 := 30) (j4 := 1006) (j5 := 4212) (by decide +kernel)
set_option maxRecDepth 100000 in
theorem mp_lkL_155 : mp_LV RL 155 yX9_when cX9_when 4 (some FieldType.int) 3 9 := mp_lv_ok (j1 := 4213) (j2 := 4214) (j3 := 4215) (j4 := 1001) (j5 := 4216) (by decide +kernel)
set_option maxRecDepth 100000 in
theorem mp_lkL_159 : mp_LV RL 159 yX9_joins cX9_joins 4 (some FieldType.int) 2 9 := mp_lv_ok (j1 := 4217) (j2 := 4218) (j3 := 4219) (j4 := 1001) (j5 := 4220) (by decide +kernel)
set_option maxRecDepth 100000 in
theorem mp_lkX9_264 : mp_LV RX9 264 yX0_gainByJoin cX0_gainByJoin 6 (some FieldType.int) 2 0 := mp_lv_ok (j1 := 4221) (j2 := 4222) (j3 := 4223) (j4 := 1004) (j5 := 4224) (by decide +kernel)
set_option maxRecDepth 100000 in
theorem mp_lkX0_105 : mp_LV RX0 105 yX0_standsAlone cX0_standsAlone 3 (some FieldType.boolean) 1 0 := mp_lv_ok (j1 := 4225) (j2 := 4227) (j3 := 31) (j4 := 1004) (j5 := 4228) (by decide +kernel)
set_option maxRecDepth 100000 in
theorem mp_lkX0_109 : mp_LV RX0 109 yX7_halvingsBy cX7_halvingsBy 7 (some FieldType.int) 3 7 := mp_lv_ok (j1 := 4229) (j2 := 3183) (j3 := 3184) (j4 := 1003) (j5 := 3185) (by decide +kernel)
set_option maxRecDepth 100000 in
theorem mp_lkX0_115 : mp_LNs RX0 115 yX9_halved cX9_halved 2 (some FieldType.int) 2 := mp_ln_ok (host := RX9) (j1 := 9) (j4 := 1001) (j5 := 3201) (by decide +kernel)
set_option maxRecDepth 100000 in
theorem mp_lkL_163 : mp_LV RL 163 yX9_joined cX9_joined 6 (some FieldType.int) 0 9 := mp_lv_ok (j1 := 4231) (j2 := 4232) (j3 := 4233) (j4 := 1001) (j5 := 4234) (by decide +kernel)
set_option maxRecDepth 100000 in
theorem mp_lkL_167 : mp_LV RL 167 yX9_ring cX9_ring 2 (some FieldType.int) 1 9 := mp_lv_ok (j1 := 4235) (j2 := 4236) (j3 := 4237) (j4 := 1001) (j5 := 4238) (by decide +kernel)
set_option maxRecDepth 100000 in
theorem mp_lkX9_267 : mp_LV RX9 267 yX1_seekRing cX1_seekRing 4 none 0 1 := mp_lv_ok (j1 := 4239) (j2 := 5000) (j3 := 5001) (j4 := 1005) (j5 := 5002) (by decide +kernel)
set_option maxRecDepth 100000 in
theorem mp_lkX1_69 : mp_LV RX1 69 yX1_ringOf cX1_ringOf 4 (some FieldType.int) 3 1 := mp_lv_ok (j1 := 5003) (j2 := 5004) (j3 := 5005) (j4 := 1005) (j5 := 5006) (by decide +kernel)
set_option maxRecDepth 100000 in
theorem mp_lkX1_61 : mp_LS RX1 61 yJ9_min_7cf53 cJ9_min_7cf53 2 (some FieldType.int) 2 := mp_ls_ok (j1 := 5007) (j2 := 2219) (j4 := 1013) (j5 := 2220) (by decide +kernel)
set_option maxRecDepth 100000 in
theorem mp_lkL_171 : mp_LV RL 171 yX9_ringed cX9_ringed 3 (some FieldType.int) 2 9 := mp_lv_ok (j1 := 5008) (j2 := 5009) (j3 := 5010) (j4 := 1001) (j5 := 5011) (by decide +kernel)
set_option maxRecDepth 100000 in
theorem mp_lkL_175 : mp_LV RL 175 yX9_strikes cX9_strikes 5 (some FieldType.int) 4 9 := mp_lv_ok (j1 := 5012) (j2 := 5013) (j3 := 5014) (j4 := 1001) (j5 := 5015) (by decide +kernel)
set_option maxRecDepth 100000 in
theorem mp_lkX9_276 : mp_LV RX9 276 yX1_ringOf cX1_ringOf 4 (some FieldType.int) 3 1 := mp_lv_ok (j1 := 5016) (j2 := 5004) (j3 := 5005) (j4 := 1005) (j5 := 5006) (by decide +kernel)
set_option maxRecDepth 100000 in
theorem mp_lkL_180 : mp_LV RL 180 yX9_weighed cX9_weighed 4 (some FieldType.int) 2 9 := mp_lv_ok (j1 := 5017) (j2 := 5018) (j3 := 5019) (j4 := 1001) (j5 := 5020) (by decide +kernel)
set_option maxRecDepth 100000 in
theorem mp_lkX9_280 : mp_LV RX9 280 yX9_putOnScales cX9_putOnScales 4 (some FieldType.int) 2 9 := mp_lv_ok (j1 := 5021) (j2 := 5023) (j3 := 32) (j4 := 1001) (j5 := 5024) (by decide +kernel)
set_option maxRecDepth 100000 in
theorem mp_lkX9_351 : mp_LV RX9 351 yX5_isSlot cX5_isSlot 2 (some FieldType.boolean) 1 5 := mp_lv_ok (j1 := 5025) (j2 := 5026) (j3 := 5027) (j4 := 1010) (j5 := 5028) (by decide +kernel)
set_option maxRecDepth 100000 in
theorem mp_lkX9_358 : mp_LV RX9 358 yX5_isTaken cX5_isTaken 2 (some FieldType.boolean) 1 5 := mp_lv_ok (j1 := 5029) (j2 := 5030) (j3 := 5031) (j4 := 1010) (j5 := 5032) (by decide +kernel)
set_option maxRecDepth 100000 in
theorem mp_lkX9_379 : mp_LV RX9 379 yX4_load cX4_load 12 (some FieldType.boolean) 4 4 := mp_lv_ok (j1 := 5033) (j2 := 5034) (j3 := 5035) (j4 := 1007) (j5 := 5036) (by decide +kernel)
set_option maxRecDepth 100000 in
theorem mp_lkX4_40 : mp_LS RX4 40 yJ7_fill_53178 cJ7_fill_53178 4 none 2 := mp_ls_ok (j1 := 5037) (j2 := 2200) (j4 := 1012) (j5 := 2201) (by decide +kernel)
set_option maxRecDepth 100000 in
theorem mp_lkX4_51 : mp_LV RX4 51 yX5_at cX5_at 3 (some FieldType.long) 2 5 := mp_lv_ok (j1 := 5038) (j2 := 5039) (j3 := 5040) (j4 := 1010) (j5 := 5041) (by decide +kernel)
set_option maxRecDepth 100000 in
theorem mp_lkX9_283 : mp_LV RX9 283 yX4_survey cX4_survey 3 none 0 4 := mp_lv_ok (j1 := 5043) (j2 := 5044) (j3 := 5045) (j4 := 1007) (j5 := 5046) (by decide +kernel)
set_option maxRecDepth 100000 in
theorem mp_lkX4_69 : mp_LV RX4 69 yX4_fits cX4_fits 4 (some FieldType.boolean) 1 4 := mp_lv_ok (j1 := 5047) (j2 := 5049) (j3 := 33) (j4 := 1007) (j5 := 5050) (by decide +kernel)
set_option maxRecDepth 100000 in
theorem mp_lkX4_89 : mp_LS RX4 89 yX4_halvingsIn cX4_halvingsIn 3 (some FieldType.int) 3 := mp_ls_ok (j1 := 5051) (j2 := 5052) (j4 := 1007) (j5 := 5053) (by decide +kernel)
set_option maxRecDepth 100000 in
theorem mp_lkX4_93 : mp_LNs RX4 93 yX9_halved cX9_halved 2 (some FieldType.int) 2 := mp_ln_ok (host := RX9) (j1 := 10) (j4 := 1001) (j5 := 3201) (by decide +kernel)
set_option maxRecDepth 100000 in
theorem mp_lkX4_73 : mp_LS RX4 73 yJ6_bitCount_0f7a4 cJ6_bitCount_0f7a4 1 (some FieldType.int) 1 := mp_ls_ok (j1 := 5055) (j2 := 4165) (j4 := 1019) (j5 := 4166) (by decide +kernel)
set_option maxRecDepth 100000 in
theorem mp_lkX4_79 : mp_LS RX4 79 yJ9_min_7cf53 cJ9_min_7cf53 2 (some FieldType.int) 2 := mp_ls_ok (j1 := 5056) (j2 := 2219) (j4 := 1013) (j5 := 2220) (by decide +kernel)
set_option maxRecDepth 100000 in
theorem mp_lkX4_85 : mp_LV RX4 85 yX4_addToTally cX4_addToTally 4 none 1 4 := mp_lv_ok (j1 := 5057) (j2 := 5059) (j3 := 34) (j4 := 1007) (j5 := 5060) (by decide +kernel)
set_option maxRecDepth 100000 in
theorem mp_lkL_184 : mp_LV RL 184 yX9_must cX9_must 5 (some FieldType.int) 3 9 := mp_lv_ok (j1 := 5061) (j2 := 5062) (j3 := 5063) (j4 := 1001) (j5 := 5064) (by decide +kernel)
set_option maxRecDepth 100000 in
theorem mp_lkL_188 : mp_LV RL 188 yX9_times cX9_times 4 (some FieldType.int) 2 9 := mp_lv_ok (j1 := 5065) (j2 := 5066) (j3 := 5067) (j4 := 1001) (j5 := 5068) (by decide +kernel)
set_option maxRecDepth 100000 in
theorem mp_lkL_192 : mp_LV RL 192 yX9_weigh cX9_weigh 4 (some FieldType.int) 2 9 := mp_lv_ok (j1 := 5069) (j2 := 5070) (j3 := 5071) (j4 := 1001) (j5 := 5072) (by decide +kernel)
set_option maxRecDepth 100000 in
theorem mp_lkX9_298 : mp_LV RX9 298 yX4_bestMoon cX4_bestMoon 5 (some FieldType.int) 0 4 := mp_lv_ok (j1 := 5073) (j2 := 5074) (j3 := 5075) (j4 := 1007) (j5 := 5076) (by decide +kernel)
set_option maxRecDepth 100000 in
theorem mp_lkX4_96 : mp_LV RX4 96 yX4_worstLeft cX4_worstLeft 5 (some FieldType.int) 1 4 := mp_lv_ok (j1 := 5077) (j2 := 5079) (j3 := 35) (j4 := 1007) (j5 := 5080) (by decide +kernel)
set_option maxRecDepth 100000 in
theorem mp_lkX4_99 : mp_LS RX4 99 yJ9_max_7cf53 cJ9_max_7cf53 2 (some FieldType.int) 2 := mp_ls_ok (j1 := 5081) (j2 := 5082) (j4 := 1013) (j5 := 5083) (by decide +kernel)
set_option maxRecDepth 100000 in
theorem mp_lkL_196 : mp_LV RL 196 yX9_said cX9_said 4 (some FieldType.int) 2 9 := mp_lv_ok (j1 := 5084) (j2 := 5085) (j3 := 5086) (j4 := 1001) (j5 := 5087) (by decide +kernel)
set_option maxRecDepth 100000 in
theorem mp_lkX9_301 : mp_LV RX9 301 yX4_firstMoons cX4_firstMoons 3 (some FieldType.int) 0 4 := mp_lv_ok (j1 := 5088) (j2 := 5089) (j3 := 5090) (j4 := 1007) (j5 := 5091) (by decide +kernel)
set_option maxRecDepth 100000 in
theorem mp_lkX4_102 : mp_LV RX4 102 yX4_fitsFirst cX4_fitsFirst 4 (some FieldType.boolean) 1 4 := mp_lv_ok (j1 := 5092) (j2 := 5094) (j3 := 36) (j4 := 1007) (j5 := 5095) (by decide +kernel)
set_option maxRecDepth 100000 in
theorem mp_lkL_200 : mp_LV RL 200 yX9_span cX9_span 5 (some FieldType.int) 3 9 := mp_lv_ok (j1 := 5096) (j2 := 5097) (j3 := 5098) (j4 := 1001) (j5 := 5099) (by decide +kernel)
set_option maxRecDepth 100000 in
theorem mp_lkX9_304 : mp_LV RX9 304 yX4_fullBound cX4_fullBound 9 (some FieldType.int) 1 4 := mp_lv_ok (j1 := 5100) (j2 := 5101) (j3 := 5102) (j4 := 1007) (j5 := 5103) (by decide +kernel)
set_option maxRecDepth 100000 in
theorem mp_lkX4_105 : mp_LS RX4 105 yJ9_max_f86c9 cJ9_max_f86c9 4 (some FieldType.long) 2 := mp_ls_ok (j1 := 5104) (j2 := 5105) (j4 := 1013) (j5 := 5106) (by decide +kernel)
set_option maxRecDepth 100000 in
theorem mp_lkX4_108 : mp_LS RX4 108 yJ9_min_f86c9 cJ9_min_f86c9 4 (some FieldType.long) 2 := mp_ls_ok (j1 := 5107) (j2 := 5108) (j4 := 1013) (j5 := 5109) (by decide +kernel)
set_option maxRecDepth 100000 in
theorem mp_lkL_204 : mp_LV RL 204 yX9_wins cX9_wins 3 (some FieldType.int) 1 9 := mp_lv_ok (j1 := 5110) (j2 := 5111) (j3 := 5112) (j4 := 1001) (j5 := 5113) (by decide +kernel)
set_option maxRecDepth 100000 in
theorem mp_lkX9_307 : mp_LV RX9 307 yX9_putInThreat cX9_putInThreat 2 (some FieldType.int) 1 9 := mp_lv_ok (j1 := 5114) (j2 := 5116) (j3 := 37) (j4 := 1001) (j5 := 5117) (by decide +kernel)
set_option maxRecDepth 100000 in
theorem mp_lkX9_383 : mp_LV RX9 383 yX6_load cX6_load 6 (some FieldType.boolean) 2 6 := mp_lv_ok (j1 := 5118) (j2 := 5119) (j3 := 5120) (j4 := 1008) (j5 := 5121) (by decide +kernel)
set_option maxRecDepth 100000 in
theorem mp_lkX6_27 : mp_LV RX6 27 yX5_at cX5_at 3 (some FieldType.long) 2 5 := mp_lv_ok (j1 := 5122) (j2 := 5039) (j3 := 5040) (j4 := 1010) (j5 := 5041) (by decide +kernel)
set_option maxRecDepth 100000 in
theorem mp_lkX9_310 : mp_LV RX9 310 yX6_total cX6_total 3 (some FieldType.int) 0 6 := mp_lv_ok (j1 := 5124) (j2 := 5125) (j3 := 5126) (j4 := 1008) (j5 := 5127) (by decide +kernel)
set_option maxRecDepth 100000 in
theorem mp_lkL_208 : mp_LV RL 208 yX9_turn cX9_turn 3 (some FieldType.int) 1 9 := mp_lv_ok (j1 := 5128) (j2 := 5129) (j3 := 5130) (j4 := 1001) (j5 := 5131) (by decide +kernel)
set_option maxRecDepth 100000 in
theorem mp_lkX9_313 : mp_LV RX9 313 yX6_winningTurn cX6_winningTurn 4 (some FieldType.int) 0 6 := mp_lv_ok (j1 := 5132) (j2 := 5133) (j3 := 5134) (j4 := 1008) (j5 := 5135) (by decide +kernel)
set_option maxRecDepth 100000 in
theorem mp_lkX6_33 : mp_LV RX6 33 yX6_total cX6_total 3 (some FieldType.int) 0 6 := mp_lv_ok (j1 := 5136) (j2 := 5125) (j3 := 5126) (j4 := 1008) (j5 := 5127) (by decide +kernel)
set_option maxRecDepth 100000 in
theorem mp_lkL_212 : mp_LV RL 212 yX9_drawn cX9_drawn 4 (some FieldType.int) 3 9 := mp_lv_ok (j1 := 5137) (j2 := 5138) (j3 := 5139) (j4 := 1001) (j5 := 5140) (by decide +kernel)
set_option maxRecDepth 100000 in
theorem mp_lkX9_316 : mp_LV RX9 316 yX9_canDraw cX9_canDraw 4 (some FieldType.boolean) 3 9 := mp_lv_ok (j1 := 5141) (j2 := 5143) (j3 := 38) (j4 := 1001) (j5 := 5144) (by decide +kernel)
set_option maxRecDepth 100000 in
theorem mp_lkX9_319 : mp_LV RX9 319 yX8_pass cX8_pass 10 none 4 8 := mp_lv_ok (j1 := 5146) (j2 := 5147) (j3 := 5148) (j4 := 1009) (j5 := 5149) (by decide +kernel)
set_option maxRecDepth 100000 in
theorem mp_lkX8_25 : mp_LV RX8 25 yX0_lastsAt cX0_lastsAt 3 (some (FieldType.array FieldType.int)) 1 0 := mp_lv_ok (j1 := 5150) (j2 := 3174) (j3 := 3175) (j4 := 1004) (j5 := 3176) (by decide +kernel)
set_option maxRecDepth 100000 in
theorem mp_lkX8_43 : mp_LV RX8 43 yX7_bothLive cX7_bothLive 3 (some FieldType.boolean) 2 7 := mp_lv_ok (j1 := 5152) (j2 := 4073) (j3 := 4074) (j4 := 1003) (j5 := 4075) (by decide +kernel)
set_option maxRecDepth 100000 in
theorem mp_lkX8_61 : mp_LV RX8 61 yX7_worthBy cX7_worthBy 5 (some FieldType.int) 3 7 := mp_lv_ok (j1 := 5157) (j2 := 3195) (j3 := 3196) (j4 := 1003) (j5 := 3197) (by decide +kernel)
set_option maxRecDepth 100000 in
theorem mp_lkL_216 : mp_LV RL 216 yX9_often cX9_often 4 (some FieldType.int) 3 9 := mp_lv_ok (j1 := 5158) (j2 := 5159) (j3 := 5160) (j4 := 1001) (j5 := 5161) (by decide +kernel)
set_option maxRecDepth 100000 in
theorem mp_lkL_220 : mp_LV RL 220 yX9_lucky cX9_lucky 7 (some FieldType.int) 4 9 := mp_lv_ok (j1 := 5162) (j2 := 5163) (j3 := 5164) (j4 := 1001) (j5 := 5165) (by decide +kernel)
set_option maxRecDepth 100000 in
theorem mp_lkL_224 : mp_LV RL 224 yX9_promises cX9_promises 5 (some FieldType.int) 3 9 := mp_lv_ok (j1 := 5166) (j2 := 5167) (j3 := 5168) (j4 := 1001) (j5 := 5169) (by decide +kernel)
set_option maxRecDepth 100000 in
theorem mp_lkX9_329 : mp_LV RX9 329 yX7_addPromise cX7_addPromise 5 none 4 7 := mp_lv_ok (j1 := 5171) (j2 := 3087) (j3 := 3088) (j4 := 1003) (j5 := 3089) (by decide +kernel)
set_option maxRecDepth 100000 in
theorem mp_lkL_228 : mp_LV RL 228 yX9_shuts cX9_shuts 6 (some FieldType.int) 3 9 := mp_lv_ok (j1 := 5172) (j2 := 5173) (j3 := 5174) (j4 := 1001) (j5 := 5175) (by decide +kernel)
set_option maxRecDepth 100000 in
theorem mp_lkX9_333 : mp_LV RX9 333 yX7_setShut cX7_setShut 7 none 3 7 := mp_lv_ok (j1 := 5176) (j2 := 3101) (j3 := 3102) (j4 := 1003) (j5 := 3103) (by decide +kernel)
set_option maxRecDepth 100000 in
theorem mp_lkL_232 : mp_LV RL 232 yX9_tends cX9_tends 4 (some FieldType.int) 2 9 := mp_lv_ok (j1 := 5177) (j2 := 5178) (j3 := 5179) (j4 := 1001) (j5 := 5180) (by decide +kernel)
set_option maxRecDepth 100000 in
theorem mp_lkL_236 : mp_LV RL 236 yX9_count cX9_count 3 (some FieldType.int) 1 9 := mp_lv_ok (j1 := 5181) (j2 := 5182) (j3 := 5183) (j4 := 1001) (j5 := 5184) (by decide +kernel)
set_option maxRecDepth 100000 in
theorem mp_lkX9_340 : mp_LV RX9 340 yX7_countSeas cX7_countSeas 3 (some FieldType.int) 0 7 := mp_lv_ok (j1 := 5185) (j2 := 5186) (j3 := 5187) (j4 := 1003) (j5 := 5188) (by decide +kernel)
set_option maxRecDepth 100000 in
theorem mp_lkX9_343 : mp_LV RX9 343 yX7_countShut cX7_countShut 3 (some FieldType.int) 0 7 := mp_lv_ok (j1 := 5189) (j2 := 5190) (j3 := 5191) (j4 := 1003) (j5 := 5192) (by decide +kernel)
set_option maxRecDepth 100000 in
theorem mp_lkX7_85 : mp_LS RX7 85 yJ13_bitCount_95d88 cJ13_bitCount_95d88 2 (some FieldType.int) 1 := mp_ls_ok (j1 := 5193) (j2 := 5194) (j4 := 1020) (j5 := 5195) (by decide +kernel)
set_option maxRecDepth 100000 in
theorem mp_lkX9_347 : mp_LV RX9 347 yX5_countTaken cX5_countTaken 3 (some FieldType.int) 0 5 := mp_lv_ok (j1 := 5199) (j2 := 5200) (j3 := 5201) (j4 := 1010) (j5 := 5202) (by decide +kernel)
set_option maxRecDepth 100000 in
theorem mp_lkX5_22 : mp_LV RX5 22 yX5_isTaken cX5_isTaken 2 (some FieldType.boolean) 1 5 := mp_lv_ok (j1 := 5203) (j2 := 5030) (j3 := 5031) (j4 := 1010) (j5 := 5032) (by decide +kernel)
set_option maxRecDepth 100000 in
theorem mp_lkL_240 : mp_LV RL 240 yX9_image cX9_image 2 (some FieldType.int) 1 9 := mp_lv_ok (j1 := 5204) (j2 := 5205) (j3 := 5206) (j4 := 1001) (j5 := 5207) (by decide +kernel)
set_option maxRecDepth 100000 in
theorem mp_lkX9_350 : mp_LNs RX9 350 yX7_init cX7_init 1 none 0 := mp_ln_ok (host := RX9) (j1 := 11) (j4 := 1003) (j5 := 1039) (by decide +kernel)
set_option maxRecDepth 100000 in
theorem mp_lkL_244 : mp_LV RL 244 yX9_back cX9_back 2 (some FieldType.int) 1 9 := mp_lv_ok (j1 := 5209) (j2 := 5210) (j3 := 5211) (j4 := 1001) (j5 := 5212) (by decide +kernel)
set_option maxRecDepth 100000 in
theorem mp_lkL_248 : mp_LV RL 248 yX9_row cX9_row 4 (some FieldType.int) 3 9 := mp_lv_ok (j1 := 5213) (j2 := 5214) (j3 := 5215) (j4 := 1001) (j5 := 5216) (by decide +kernel)
set_option maxRecDepth 100000 in
theorem mp_lkX9_354 : mp_LV RX9 354 yX5_lay cX5_lay 5 none 3 5 := mp_lv_ok (j1 := 5217) (j2 := 5218) (j3 := 5219) (j4 := 1010) (j5 := 5220) (by decide +kernel)
set_option maxRecDepth 100000 in
theorem mp_lkL_254 : mp_LV RL 254 yX9_write cX9_write 5 (some FieldType.int) 3 9 := mp_lv_ok (j1 := 5221) (j2 := 5222) (j3 := 5223) (j4 := 1001) (j5 := 5224) (by decide +kernel)
set_option maxRecDepth 100000 in
theorem mp_lkX9_364 : mp_LV RX9 364 yX5_put cX5_put 5 none 3 5 := mp_lv_ok (j1 := 5225) (j2 := 5226) (j3 := 5227) (j4 := 1010) (j5 := 5228) (by decide +kernel)
set_option maxRecDepth 100000 in
theorem mp_lkX5_26 : mp_LS RX5 26 yX5_cut cX5_cut 3 (some FieldType.long) 2 := mp_ls_ok (j1 := 5229) (j2 := 5230) (j4 := 1010) (j5 := 5231) (by decide +kernel)
set_option maxRecDepth 100000 in
theorem mp_lkL_259 : mp_LV RL 259 yX9_paste cX9_paste 6 (some FieldType.int) 5 9 := mp_lv_ok (j1 := 5232) (j2 := 5233) (j3 := 5234) (j4 := 1001) (j5 := 5235) (by decide +kernel)
set_option maxRecDepth 100000 in
theorem mp_lkX9_371 : mp_LV RX9 371 yX5_holds cX5_holds 4 (some FieldType.boolean) 3 5 := mp_lv_ok (j1 := 5236) (j2 := 5237) (j3 := 5238) (j4 := 1010) (j5 := 5239) (by decide +kernel)
set_option maxRecDepth 100000 in
theorem mp_lkX9_374 : mp_LV RX9 374 yX5_move cX5_move 6 none 5 5 := mp_lv_ok (j1 := 6000) (j2 := 6001) (j3 := 6002) (j4 := 1010) (j5 := 6003) (by decide +kernel)
set_option maxRecDepth 100000 in
theorem mp_lkL_12 : mp_LI RL 12 yX10_init cX10_init 2 0 := mp_li_ok (j1 := 6007) (j2 := 6008) (j4 := 1011) (j5 := 6009) (by decide +kernel)
set_option maxRecDepth 100000 in
theorem mp_lkL_251 : mp_LV RL 251 yX10_row cX10_row 5 (some FieldType.int) 3 10 := mp_lv_ok (j1 := 6154) (j2 := 6155) (j3 := 6156) (j4 := 1011) (j5 := 6157) (by decide +kernel)
set_option maxRecDepth 100000 in
theorem mp_lkX10_101 : mp_LS RX10 101 yX10_isSlot cX10_isSlot 1 (some FieldType.boolean) 1 := mp_ls_ok (j1 := 6158) (j2 := 6159) (j4 := 1011) (j5 := 6160) (by decide +kernel)
set_option maxRecDepth 100000 in
theorem mp_lkX10_97 : mp_LS RX10 97 yX10_in cX10_in 6 (some FieldType.boolean) 3 := mp_ls_ok (j1 := 6162) (j2 := 6163) (j4 := 1011) (j5 := 6164) (by decide +kernel)
set_option maxRecDepth 100000 in
theorem mp_lkL_258 : mp_LV RL 258 yX10_write cX10_write 5 (some FieldType.int) 3 10 := mp_lv_ok (j1 := 6165) (j2 := 6166) (j3 := 6167) (j4 := 1011) (j5 := 6168) (by decide +kernel)
set_option maxRecDepth 100000 in
theorem mp_lkX10_105 : mp_LS RX10 105 yX10_cut cX10_cut 3 (some FieldType.long) 2 := mp_ls_ok (j1 := 6169) (j2 := 6170) (j4 := 1011) (j5 := 6171) (by decide +kernel)
set_option maxRecDepth 100000 in
theorem mp_lkL_262 : mp_LV RL 262 yX10_paste cX10_paste 7 (some FieldType.int) 5 10 := mp_lv_ok (j1 := 6172) (j2 := 6173) (j3 := 6174) (j4 := 1011) (j5 := 6175) (by decide +kernel)
set_option maxRecDepth 100000 in
theorem mp_lkL_17 : mp_LV RL 17 yX10_feed cX10_feed 6 (some FieldType.int) 5 10 := mp_lv_ok (j1 := 6176) (j2 := 6177) (j3 := 6178) (j4 := 1011) (j5 := 6179) (by decide +kernel)
set_option maxRecDepth 100000 in
theorem mp_lkX10_112 : mp_LV RX10 112 yX10_four cX10_four 3 none 1 10 := mp_lv_ok (j1 := 6180) (j2 := 6182) (j3 := 39) (j4 := 1011) (j5 := 6183) (by decide +kernel)
set_option maxRecDepth 100000 in
theorem mp_lkL_22 : mp_LV RL 22 yX10_end cX10_end 2 (some FieldType.int) 1 10 := mp_lv_ok (j1 := 6184) (j2 := 6185) (j3 := 6186) (j4 := 1011) (j5 := 6187) (by decide +kernel)
set_option maxRecDepth 100000 in
theorem mp_lkL_31 : mp_LV RL 31 yX10_fault cX10_fault 2 (some FieldType.int) 1 10 := mp_lv_ok (j1 := 6188) (j2 := 6189) (j3 := 6190) (j4 := 1011) (j5 := 6191) (by decide +kernel)
set_option maxRecDepth 100000 in
theorem mp_lkL_27 : mp_LV RL 27 yX10_isles cX10_isles 1 (some FieldType.int) 0 10 := mp_lv_ok (j1 := 6192) (j2 := 6193) (j3 := 6194) (j4 := 1011) (j5 := 6195) (by decide +kernel)
set_option maxRecDepth 100000 in
theorem mp_lkX10_228 : mp_LV RX10 228 yX10_clears cX10_clears 2 none 0 10 := mp_lv_ok (j1 := 6196) (j2 := 6198) (j3 := 40) (j4 := 1011) (j5 := 6199) (by decide +kernel)
set_option maxRecDepth 100000 in
theorem mp_lkX10_231 : mp_LV RX10 231 yX10_begins cX10_begins 1 none 0 10 := mp_lv_ok (j1 := 6200) (j2 := 6202) (j3 := 41) (j4 := 1011) (j5 := 6203) (by decide +kernel)
set_option maxRecDepth 100000 in
theorem mp_lkX10_154 : mp_LV RX10 154 yX10_next cX10_next 2 none 0 10 := mp_lv_ok (j1 := 6204) (j2 := 6206) (j3 := 42) (j4 := 1011) (j5 := 6207) (by decide +kernel)
set_option maxRecDepth 100000 in
theorem mp_lkX10_119 : mp_LV RX10 119 yX10_isByte cX10_isByte 4 (some FieldType.boolean) 3 10 := mp_lv_ok (j1 := 6208) (j2 := 6210) (j3 := 43) (j4 := 1011) (j5 := 6211) (by decide +kernel)
set_option maxRecDepth 100000 in
theorem mp_lkX10_189 : mp_LV RX10 189 yX10_isGood cX10_isGood 1 (some FieldType.boolean) 0 10 := mp_lv_ok (j1 := 6217) (j2 := 6219) (j3 := 44) (j4 := 1011) (j5 := 6220) (by decide +kernel)
set_option maxRecDepth 100000 in
theorem mp_lkX10_163 : mp_LV RX10 163 yX10_asks cX10_asks 3 none 1 10 := mp_lv_ok (j1 := 6222) (j2 := 6224) (j3 := 45) (j4 := 1011) (j5 := 6225) (by decide +kernel)
set_option maxRecDepth 100000 in
theorem mp_lkX10_157 : mp_LV RX10 157 yX10_takes cX10_takes 3 (some FieldType.boolean) 1 10 := mp_lv_ok (j1 := 6226) (j2 := 6228) (j3 := 46) (j4 := 1011) (j5 := 6229) (by decide +kernel)
set_option maxRecDepth 100000 in
theorem mp_lkX10_150 : mp_LV RX10 150 yX10_is cX10_is 3 (some FieldType.boolean) 1 10 := mp_lv_ok (j1 := 6230) (j2 := 6232) (j3 := 47) (j4 := 1011) (j5 := 6233) (by decide +kernel)
set_option maxRecDepth 100000 in
theorem mp_lkX10_160 : mp_LV RX10 160 yX10_fails cX10_fails 2 none 1 10 := mp_lv_ok (j1 := 6234) (j2 := 6236) (j3 := 48) (j4 := 1011) (j5 := 6237) (by decide +kernel)
set_option maxRecDepth 100000 in
theorem mp_lkX10_167 : mp_LV RX10 167 yX10_number cX10_number 4 (some FieldType.int) 2 10 := mp_lv_ok (j1 := 6238) (j2 := 7000) (j3 := 49) (j4 := 1011) (j5 := 7001) (by decide +kernel)
set_option maxRecDepth 100000 in
theorem mp_lkX10_197 : mp_LV RX10 197 yX10_moonHere cX10_moonHere 1 (some FieldType.int) 0 10 := mp_lv_ok (j1 := 7003) (j2 := 7005) (j3 := 50) (j4 := 1011) (j5 := 7006) (by decide +kernel)
set_option maxRecDepth 100000 in
theorem mp_lkX10_238 : mp_LV RX10 238 yX10_line cX10_line 5 none 0 10 := mp_lv_ok (j1 := 7007) (j2 := 7009) (j3 := 51) (j4 := 1011) (j5 := 7010) (by decide +kernel)
set_option maxRecDepth 100000 in
theorem mp_lkX10_174 : mp_LV RX10 174 yX10_hasRead cX10_hasRead 2 (some FieldType.int) 1 10 := mp_lv_ok (j1 := 7013) (j2 := 7015) (j3 := 52) (j4 := 1011) (j5 := 7016) (by decide +kernel)
set_option maxRecDepth 100000 in
theorem mp_lkX10_215 : mp_LV RX10 215 yX10_personLine cX10_personLine 4 none 0 10 := mp_lv_ok (j1 := 7017) (j2 := 7019) (j3 := 53) (j4 := 1011) (j5 := 7020) (by decide +kernel)
set_option maxRecDepth 100000 in
theorem mp_lkX10_178 : mp_LV RX10 178 yX10_isleHere cX10_isleHere 1 (some FieldType.int) 0 10 := mp_lv_ok (j1 := 7022) (j2 := 7024) (j3 := 54) (j4 := 1011) (j5 := 7025) (by decide +kernel)
set_option maxRecDepth 100000 in
theorem mp_lkX10_218 : mp_LV RX10 218 yX10_promiseLine cX10_promiseLine 3 none 0 10 := mp_lv_ok (j1 := 7028) (j2 := 7030) (j3 := 55) (j4 := 1011) (j5 := 7031) (by decide +kernel)
set_option maxRecDepth 100000 in
theorem mp_lkX10_200 : mp_LV RX10 200 yX10_personHere cX10_personHere 1 (some FieldType.int) 0 10 := mp_lv_ok (j1 := 7032) (j2 := 7034) (j3 := 56) (j4 := 1011) (j5 := 7035) (by decide +kernel)
set_option maxRecDepth 100000 in
theorem mp_lkX10_184 : mp_LV RX10 184 yX10_number_ cX10_number_ 5 (some FieldType.int) 3 10 := mp_lv_ok (j1 := 7038) (j2 := 7040) (j3 := 57) (j4 := 1011) (j5 := 7041) (by decide +kernel)
set_option maxRecDepth 100000 in
theorem mp_lkX10_223 : mp_LV RX10 223 yX10_seaLine cX10_seaLine 4 none 0 10 := mp_lv_ok (j1 := 7045) (j2 := 7047) (j3 := 58) (j4 := 1011) (j5 := 7048) (by decide +kernel)
set_option maxRecDepth 100000 in
theorem mp_lkX10_241 : mp_LV RX10 241 yX10_ends cX10_ends 1 none 0 10 := mp_lv_ok (j1 := 7051) (j2 := 7053) (j3 := 59) (j4 := 1011) (j5 := 7054) (by decide +kernel)
set_option maxRecDepth 100000 in
theorem mp_lkX10_244 : mp_LV RX10 244 yX10_isOver cX10_isOver 1 none 0 10 := mp_lv_ok (j1 := 7055) (j2 := 7057) (j3 := 60) (j4 := 1011) (j5 := 7058) (by decide +kernel)
set_option maxRecDepth 100000 in
theorem mp_lkX10_247 : mp_LV RX10 247 yX10_copyIsles cX10_copyIsles 4 none 2 10 := mp_lv_ok (j1 := 7059) (j2 := 7061) (j3 := 61) (j4 := 1011) (j5 := 7062) (by decide +kernel)
set_option maxRecDepth 100000 in
theorem mp_lkX10_251 : mp_LS RX10 251 yX10_copyRow cX10_copyRow 5 none 4 := mp_ls_ok (j1 := 7063) (j2 := 7064) (j4 := 1011) (j5 := 7065) (by decide +kernel)
set_option maxRecDepth 100000 in
theorem mp_lkL_36 : mp_LV RL 36 yX10_person cX10_person 3 (some FieldType.int) 2 10 := mp_lv_ok (j1 := 7066) (j2 := 7067) (j3 := 7068) (j4 := 1011) (j5 := 7069) (by decide +kernel)
set_option maxRecDepth 100000 in
theorem mp_lkX10_255 : mp_LV RX10 255 yX10_isPerson cX10_isPerson 2 (some FieldType.boolean) 1 10 := mp_lv_ok (j1 := 7070) (j2 := 7072) (j3 := 62) (j4 := 1011) (j5 := 7073) (by decide +kernel)
set_option maxRecDepth 100000 in
theorem mp_lkL_40 : mp_LV RL 40 yX10_promise cX10_promise 3 (some FieldType.int) 2 10 := mp_lv_ok (j1 := 7075) (j2 := 7076) (j3 := 7077) (j4 := 1011) (j5 := 7078) (by decide +kernel)
set_option maxRecDepth 100000 in
theorem mp_lkX10_262 : mp_LV RX10 262 yX10_isPromise cX10_isPromise 2 (some FieldType.boolean) 1 10 := mp_lv_ok (j1 := 7079) (j2 := 7081) (j3 := 63) (j4 := 1011) (j5 := 7082) (by decide +kernel)
set_option maxRecDepth 100000 in
theorem mp_lkX10_267 : mp_LV RX10 267 yX10_of cX10_of 3 (some FieldType.int) 2 10 := mp_lv_ok (j1 := 7084) (j2 := 7086) (j3 := 64) (j4 := 1011) (j5 := 7087) (by decide +kernel)
set_option maxRecDepth 100000 in
theorem mp_lkL_44 : mp_LV RL 44 yX10_sea cX10_sea 3 (some FieldType.int) 2 10 := mp_lv_ok (j1 := 7088) (j2 := 7089) (j3 := 7090) (j4 := 1011) (j5 := 7091) (by decide +kernel)
set_option maxRecDepth 100000 in
theorem mp_lkX10_270 : mp_LV RX10 270 yX10_isIsle cX10_isIsle 2 (some FieldType.boolean) 1 10 := mp_lv_ok (j1 := 7092) (j2 := 7094) (j3 := 65) (j4 := 1011) (j5 := 7095) (by decide +kernel)
set_option maxRecDepth 100000 in
theorem mp_lkL_48 : mp_LV RL 48 yX10_open cX10_open 3 (some FieldType.int) 2 10 := mp_lv_ok (j1 := 7096) (j2 := 7097) (j3 := 7098) (j4 := 1011) (j5 := 7099) (by decide +kernel)
set_option maxRecDepth 100000 in
theorem mp_lkX10_273 : mp_LS RX10 273 yX10_isMoon cX10_isMoon 1 (some FieldType.boolean) 1 := mp_ls_ok (j1 := 7100) (j2 := 7101) (j4 := 1011) (j5 := 7102) (by decide +kernel)
set_option maxRecDepth 100000 in
theorem mp_lkL_52 : mp_LV RL 52 yX10_halvings cX10_halvings 3 (some FieldType.int) 2 10 := mp_lv_ok (j1 := 7104) (j2 := 7105) (j3 := 7106) (j4 := 1011) (j5 := 7107) (by decide +kernel)
set_option maxRecDepth 100000 in
theorem mp_lkX10_288 : mp_LV RX10 288 yX10_lays cX10_lays 4 none 0 10 := mp_lv_ok (j1 := 7108) (j2 := 7110) (j3 := 66) (j4 := 1011) (j5 := 7111) (by decide +kernel)
set_option maxRecDepth 100000 in
theorem mp_lkX10_282 : mp_LV RX10 282 yX10_halvedOf cX10_halvedOf 5 (some FieldType.int) 2 10 := mp_lv_ok (j1 := 7112) (j2 := 7114) (j3 := 67) (j4 := 1011) (j5 := 7115) (by decide +kernel)
set_option maxRecDepth 100000 in
theorem mp_lkX10_279 : mp_LV RX10 279 yX10_ownOf cX10_ownOf 6 (some FieldType.int) 2 10 := mp_lv_ok (j1 := 7116) (j2 := 7118) (j3 := 68) (j4 := 1011) (j5 := 7119) (by decide +kernel)
set_option maxRecDepth 100000 in
theorem mp_lkL_56 : mp_LV RL 56 yX10_worth cX10_worth 3 (some FieldType.int) 2 10 := mp_lv_ok (j1 := 7120) (j2 := 7121) (j3 := 7122) (j4 := 1011) (j5 := 7123) (by decide +kernel)
set_option maxRecDepth 100000 in
theorem mp_lkX10_291 : mp_LV RX10 291 yX10_worthOf cX10_worthOf 4 (some FieldType.int) 2 10 := mp_lv_ok (j1 := 7124) (j2 := 7126) (j3 := 69) (j4 := 1011) (j5 := 7127) (by decide +kernel)
set_option maxRecDepth 100000 in
theorem mp_lkX10_285 : mp_LS RX10 285 yX10_halved cX10_halved 2 (some FieldType.int) 2 := mp_ls_ok (j1 := 7128) (j2 := 7129) (j4 := 1011) (j5 := 7130) (by decide +kernel)
set_option maxRecDepth 100000 in
theorem mp_lkL_60 : mp_LV RL 60 yX10_falls cX10_falls 4 (some FieldType.int) 2 10 := mp_lv_ok (j1 := 7131) (j2 := 7132) (j3 := 7133) (j4 := 1011) (j5 := 7134) (by decide +kernel)
set_option maxRecDepth 100000 in
theorem mp_lkL_65 : mp_LV RL 65 yX10_owed cX10_owed 4 (some FieldType.int) 3 10 := mp_lv_ok (j1 := 7135) (j2 := 7136) (j3 := 7137) (j4 := 1011) (j5 := 7138) (by decide +kernel)
set_option maxRecDepth 100000 in
theorem mp_lkX10_294 : mp_LV RX10 294 yX10_areTwo cX10_areTwo 3 (some FieldType.boolean) 2 10 := mp_lv_ok (j1 := 7139) (j2 := 7141) (j3 := 70) (j4 := 1011) (j5 := 7142) (by decide +kernel)
set_option maxRecDepth 100000 in
theorem mp_lkX10_298 : mp_LV RX10 298 yX10_owedOf cX10_owedOf 6 (some FieldType.int) 3 10 := mp_lv_ok (j1 := 7143) (j2 := 7145) (j3 := 71) (j4 := 1011) (j5 := 7146) (by decide +kernel)
set_option maxRecDepth 100000 in
theorem mp_lkL_69 : mp_LV RL 69 yX10_sum cX10_sum 4 (some FieldType.int) 3 10 := mp_lv_ok (j1 := 7147) (j2 := 7148) (j3 := 7149) (j4 := 1011) (j5 := 7150) (by decide +kernel)
set_option maxRecDepth 100000 in
theorem mp_lkX10_303 : mp_LV RX10 303 yX10_sumOf cX10_sumOf 7 (some FieldType.int) 3 10 := mp_lv_ok (j1 := 7152) (j2 := 7154) (j3 := 72) (j4 := 1011) (j5 := 7155) (by decide +kernel)
set_option maxRecDepth 100000 in
theorem mp_lkL_73 : mp_LV RL 73 yX10_richest cX10_richest 4 (some FieldType.int) 1 10 := mp_lv_ok (j1 := 7156) (j2 := 7157) (j3 := 7158) (j4 := 1011) (j5 := 7159) (by decide +kernel)
set_option maxRecDepth 100000 in
theorem mp_lkX10_306 : mp_LV RX10 306 yX10_areIsles cX10_areIsles 1 (some FieldType.boolean) 0 10 := mp_lv_ok (j1 := 7160) (j2 := 7162) (j3 := 73) (j4 := 1011) (j5 := 7163) (by decide +kernel)
set_option maxRecDepth 100000 in
theorem mp_lkL_77 : mp_LV RL 77 yX10_greatest cX10_greatest 4 (some FieldType.int) 1 10 := mp_lv_ok (j1 := 7164) (j2 := 7165) (j3 := 7166) (j4 := 1011) (j5 := 7167) (by decide +kernel)
set_option maxRecDepth 100000 in
theorem mp_lkL_81 : mp_LV RL 81 yX10_root cX10_root 2 (some FieldType.int) 1 10 := mp_lv_ok (j1 := 7168) (j2 := 7169) (j3 := 7170) (j4 := 1011) (j5 := 7171) (by decide +kernel)
set_option maxRecDepth 100000 in
theorem mp_lkX10_309 : mp_LV RX10 309 yX10_rootOf cX10_rootOf 2 (some FieldType.int) 1 10 := mp_lv_ok (j1 := 7172) (j2 := 7174) (j3 := 74) (j4 := 1011) (j5 := 7175) (by decide +kernel)
set_option maxRecDepth 100000 in
theorem mp_lkL_85 : mp_LV RL 85 yX10_upon cX10_upon 4 (some FieldType.int) 1 10 := mp_lv_ok (j1 := 7176) (j2 := 7177) (j3 := 7178) (j4 := 1011) (j5 := 7179) (by decide +kernel)
set_option maxRecDepth 100000 in
theorem mp_lkX10_312 : mp_LS RX10 312 yX10_isBit cX10_isBit 2 (some FieldType.boolean) 2 := mp_ls_ok (j1 := 7180) (j2 := 7181) (j4 := 1011) (j5 := 7182) (by decide +kernel)
set_option maxRecDepth 100000 in
theorem mp_lkL_89 : mp_LV RL 89 yX10_now cX10_now 1 (some FieldType.int) 0 10 := mp_lv_ok (j1 := 7183) (j2 := 7184) (j3 := 7185) (j4 := 1011) (j5 := 7186) (by decide +kernel)
set_option maxRecDepth 100000 in
theorem mp_lkL_93 : mp_LV RL 93 yX10_where cX10_where 2 (some FieldType.int) 1 10 := mp_lv_ok (j1 := 7187) (j2 := 7188) (j3 := 7189) (j4 := 1011) (j5 := 7190) (by decide +kernel)
set_option maxRecDepth 100000 in
theorem mp_lkL_97 : mp_LV RL 97 yX10_rowed cX10_rowed 2 (some FieldType.int) 1 10 := mp_lv_ok (j1 := 7191) (j2 := 7192) (j3 := 7193) (j4 := 1011) (j5 := 7194) (by decide +kernel)
set_option maxRecDepth 100000 in
theorem mp_lkL_101 : mp_LV RL 101 yX10_rows cX10_rows 3 (some FieldType.int) 2 10 := mp_lv_ok (j1 := 7195) (j2 := 7196) (j3 := 7197) (j4 := 1011) (j5 := 7198) (by decide +kernel)
set_option maxRecDepth 100000 in
theorem mp_lkX10_322 : mp_LV RX10 322 yX10_maySail cX10_maySail 3 (some FieldType.boolean) 2 10 := mp_lv_ok (j1 := 7199) (j2 := 7201) (j3 := 75) (j4 := 1011) (j5 := 7202) (by decide +kernel)
set_option maxRecDepth 100000 in
theorem mp_lkX10_318 : mp_LV RX10 318 yX10_isSea cX10_isSea 5 (some FieldType.boolean) 4 10 := mp_lv_ok (j1 := 7203) (j2 := 7205) (j3 := 76) (j4 := 1011) (j5 := 7206) (by decide +kernel)
set_option maxRecDepth 100000 in
theorem mp_lkX10_315 : mp_LV RX10 315 yX10_isDead cX10_isDead 3 (some FieldType.boolean) 2 10 := mp_lv_ok (j1 := 7207) (j2 := 7209) (j3 := 77) (j4 := 1011) (j5 := 7210) (by decide +kernel)
set_option maxRecDepth 100000 in
theorem mp_lkX10_325 : mp_LV RX10 325 yX10_isFull cX10_isFull 1 (some FieldType.boolean) 0 10 := mp_lv_ok (j1 := 7211) (j2 := 7213) (j3 := 78) (j4 := 1011) (j5 := 7214) (by decide +kernel)
set_option maxRecDepth 100000 in
theorem mp_lkX10_328 : mp_LV RX10 328 yX10_acts cX10_acts 2 none 1 10 := mp_lv_ok (j1 := 7215) (j2 := 7217) (j3 := 79) (j4 := 1011) (j5 := 7218) (by decide +kernel)
set_option maxRecDepth 100000 in
theorem mp_lkL_105 : mp_LV RL 105 yX10_says cX10_says 2 (some FieldType.int) 1 10 := mp_lv_ok (j1 := 7219) (j2 := 7220) (j3 := 7221) (j4 := 1011) (j5 := 7222) (by decide +kernel)
set_option maxRecDepth 100000 in
theorem mp_lkX10_331 : mp_LV RX10 331 yX10_maySay cX10_maySay 2 (some FieldType.boolean) 1 10 := mp_lv_ok (j1 := 7223) (j2 := 7225) (j3 := 80) (j4 := 1011) (j5 := 7226) (by decide +kernel)
set_option maxRecDepth 100000 in
theorem mp_lkL_109 : mp_LV RL 109 yX10_passes cX10_passes 1 (some FieldType.int) 0 10 := mp_lv_ok (j1 := 7227) (j2 := 7228) (j3 := 7229) (j4 := 1011) (j5 := 7230) (by decide +kernel)
set_option maxRecDepth 100000 in
theorem mp_lkL_113 : mp_LV RL 113 yX10_undo cX10_undo 1 (some FieldType.int) 0 10 := mp_lv_ok (j1 := 7231) (j2 := 7232) (j3 := 7233) (j4 := 1011) (j5 := 7234) (by decide +kernel)
set_option maxRecDepth 100000 in
theorem mp_lkL_117 : mp_LV RL 117 yX10_anew cX10_anew 2 (some FieldType.int) 0 10 := mp_lv_ok (j1 := 7235) (j2 := 7236) (j3 := 7237) (j4 := 1011) (j5 := 7238) (by decide +kernel)
set_option maxRecDepth 100000 in
theorem mp_lkL_121 : mp_LV RL 121 yX10_act cX10_act 2 (some FieldType.int) 1 10 := mp_lv_ok (j1 := 7239) (j2 := 8000) (j3 := 8001) (j4 := 1011) (j5 := 8002) (by decide +kernel)
set_option maxRecDepth 100000 in
theorem mp_lkL_125 : mp_LV RL 125 yX10_can cX10_can 3 (some FieldType.int) 0 10 := mp_lv_ok (j1 := 8003) (j2 := 8004) (j3 := 8005) (j4 := 1011) (j5 := 8006) (by decide +kernel)
set_option maxRecDepth 100000 in
theorem mp_lkL_129 : mp_LV RL 129 yX10_sails cX10_sails 4 (some FieldType.int) 1 10 := mp_lv_ok (j1 := 8007) (j2 := 8008) (j3 := 8009) (j4 := 1011) (j5 := 8010) (by decide +kernel)
set_option maxRecDepth 100000 in
theorem mp_lkL_133 : mp_LV RL 133 yX10_keeps cX10_keeps 4 (some FieldType.int) 2 10 := mp_lv_ok (j1 := 8011) (j2 := 8012) (j3 := 8013) (j4 := 1011) (j5 := 8014) (by decide +kernel)
set_option maxRecDepth 100000 in
theorem mp_lkX10_361 : mp_LV RX10 361 yX10_isPlan cX10_isPlan 3 (some FieldType.boolean) 2 10 := mp_lv_ok (j1 := 8015) (j2 := 8017) (j3 := 81) (j4 := 1011) (j5 := 8018) (by decide +kernel)
set_option maxRecDepth 100000 in
theorem mp_lkX10_364 : mp_LV RX10 364 yX10_keptNow cX10_keptNow 4 (some FieldType.int) 1 10 := mp_lv_ok (j1 := 8020) (j2 := 8022) (j3 := 82) (j4 := 1011) (j5 := 8023) (by decide +kernel)
set_option maxRecDepth 100000 in
theorem mp_lkX10_367 : mp_LV RX10 367 yX10_plansFor cX10_plansFor 5 (some FieldType.int) 3 10 := mp_lv_ok (j1 := 8024) (j2 := 8026) (j3 := 83) (j4 := 1011) (j5 := 8027) (by decide +kernel)
set_option maxRecDepth 100000 in
theorem mp_lkX10_356 : mp_LV RX10 356 yX10_onceNow cX10_onceNow 3 (some FieldType.int) 0 10 := mp_lv_ok (j1 := 8028) (j2 := 8030) (j3 := 84) (j4 := 1011) (j5 := 8031) (by decide +kernel)
set_option maxRecDepth 100000 in
theorem mp_lkX10_352 : mp_LV RX10 352 yX10_goesOn cX10_goesOn 9 none 3 10 := mp_lv_ok (j1 := 8032) (j2 := 8034) (j3 := 85) (j4 := 1011) (j5 := 8035) (by decide +kernel)
set_option maxRecDepth 100000 in
theorem mp_lkX10_346 : mp_LV RX10 346 yX10_oarsBy cX10_oarsBy 4 (some FieldType.int) 3 10 := mp_lv_ok (j1 := 8036) (j2 := 8038) (j3 := 86) (j4 := 1011) (j5 := 8039) (by decide +kernel)
set_option maxRecDepth 100000 in
theorem mp_lkX10_349 : mp_LV RX10 349 yX10_onceBehind cX10_onceBehind 7 (some FieldType.int) 3 10 := mp_lv_ok (j1 := 8040) (j2 := 8042) (j3 := 87) (j4 := 1011) (j5 := 8043) (by decide +kernel)
set_option maxRecDepth 100000 in
theorem mp_lkX10_340 : mp_LV RX10 340 yX10_saidOn cX10_saidOn 5 (some FieldType.int) 2 10 := mp_lv_ok (j1 := 8044) (j2 := 8046) (j3 := 88) (j4 := 1011) (j5 := 8047) (by decide +kernel)
set_option maxRecDepth 100000 in
theorem mp_lkL_137 : mp_LV RL 137 yX10_plan cX10_plan 8 (some FieldType.int) 3 10 := mp_lv_ok (j1 := 8048) (j2 := 8049) (j3 := 8050) (j4 := 1011) (j5 := 8051) (by decide +kernel)
set_option maxRecDepth 100000 in
theorem mp_lkX10_370 : mp_LV RX10 370 yX10_isStep cX10_isStep 6 (some FieldType.boolean) 4 10 := mp_lv_ok (j1 := 8052) (j2 := 8054) (j3 := 89) (j4 := 1011) (j5 := 8055) (by decide +kernel)
set_option maxRecDepth 100000 in
theorem mp_lkL_141 : mp_LV RL 141 yX10_lets cX10_lets 3 (some FieldType.int) 2 10 := mp_lv_ok (j1 := 8056) (j2 := 8057) (j3 := 8058) (j4 := 1011) (j5 := 8059) (by decide +kernel)
set_option maxRecDepth 100000 in
theorem mp_lkX10_376 : mp_LV RX10 376 yX10_fallenOf cX10_fallenOf 6 (some FieldType.int) 2 10 := mp_lv_ok (j1 := 8060) (j2 := 8062) (j3 := 90) (j4 := 1011) (j5 := 8063) (by decide +kernel)
set_option maxRecDepth 100000 in
theorem mp_lkX10_373 : mp_LS RX10 373 yX10_sizeOf cX10_sizeOf 3 (some FieldType.int) 1 := mp_ls_ok (j1 := 8064) (j2 := 8065) (j4 := 1011) (j5 := 8066) (by decide +kernel)
set_option maxRecDepth 100000 in
theorem mp_lkL_145 : mp_LV RL 145 yX10_fallen cX10_fallen 3 (some FieldType.int) 2 10 := mp_lv_ok (j1 := 8067) (j2 := 8068) (j3 := 8069) (j4 := 1011) (j5 := 8070) (by decide +kernel)
set_option maxRecDepth 100000 in
theorem mp_lkL_150 : mp_LV RL 150 yX10_plans cX10_plans 3 (some FieldType.long) 2 10 := mp_lv_ok (j1 := 8071) (j2 := 8072) (j3 := 8073) (j4 := 1011) (j5 := 8074) (by decide +kernel)
set_option maxRecDepth 100000 in
theorem mp_lkL_154 : mp_LV RL 154 yX10_love cX10_love 4 (some FieldType.int) 3 10 := mp_lv_ok (j1 := 8076) (j2 := 8077) (j3 := 8078) (j4 := 1011) (j5 := 8079) (by decide +kernel)
set_option maxRecDepth 100000 in
theorem mp_lkX10_390 : mp_LV RX10 390 yX10_isLove cX10_isLove 4 (some FieldType.boolean) 3 10 := mp_lv_ok (j1 := 8080) (j2 := 8082) (j3 := 91) (j4 := 1011) (j5 := 8083) (by decide +kernel)
set_option maxRecDepth 100000 in
theorem mp_lkX10_393 : mp_LV RX10 393 yX10_loves cX10_loves 10 none 3 10 := mp_lv_ok (j1 := 8084) (j2 := 8086) (j3 := 92) (j4 := 1011) (j5 := 8087) (by decide +kernel)
set_option maxRecDepth 100000 in
theorem mp_lkX10_387 : mp_LV RX10 387 yX10_worthSaid cX10_worthSaid 7 (some FieldType.int) 3 10 := mp_lv_ok (j1 := 8088) (j2 := 8090) (j3 := 93) (j4 := 1011) (j5 := 8091) (by decide +kernel)
set_option maxRecDepth 100000 in
theorem mp_lkL_158 : mp_LV RL 158 yX10_when cX10_when 4 (some FieldType.int) 3 10 := mp_lv_ok (j1 := 8092) (j2 := 8093) (j3 := 8094) (j4 := 1011) (j5 := 8095) (by decide +kernel)
set_option maxRecDepth 100000 in
theorem mp_lkL_162 : mp_LV RL 162 yX10_joins cX10_joins 4 (some FieldType.int) 2 10 := mp_lv_ok (j1 := 8096) (j2 := 8097) (j3 := 8098) (j4 := 1011) (j5 := 8099) (by decide +kernel)
set_option maxRecDepth 100000 in
theorem mp_lkX10_402 : mp_LV RX10 402 yX10_joinOf cX10_joinOf 4 (some FieldType.int) 2 10 := mp_lv_ok (j1 := 8100) (j2 := 8102) (j3 := 94) (j4 := 1011) (j5 := 8103) (by decide +kernel)
set_option maxRecDepth 100000 in
theorem mp_lkX10_396 : mp_LV RX10 396 yX10_isUnder cX10_isUnder 3 (some FieldType.boolean) 1 10 := mp_lv_ok (j1 := 8104) (j2 := 8106) (j3 := 95) (j4 := 1011) (j5 := 8107) (by decide +kernel)
set_option maxRecDepth 100000 in
theorem mp_lkL_166 : mp_LV RL 166 yX10_joined cX10_joined 6 (some FieldType.int) 0 10 := mp_lv_ok (j1 := 8110) (j2 := 8111) (j3 := 8112) (j4 := 1011) (j5 := 8113) (by decide +kernel)
set_option maxRecDepth 100000 in
theorem mp_lkL_170 : mp_LV RL 170 yX10_ring cX10_ring 2 (some FieldType.int) 1 10 := mp_lv_ok (j1 := 8114) (j2 := 8115) (j3 := 8116) (j4 := 1011) (j5 := 8117) (by decide +kernel)
set_option maxRecDepth 100000 in
theorem mp_lkX10_409 : mp_LV RX10 409 yX10_ringOf cX10_ringOf 6 (some FieldType.int) 1 10 := mp_lv_ok (j1 := 8118) (j2 := 8120) (j3 := 96) (j4 := 1011) (j5 := 8121) (by decide +kernel)
set_option maxRecDepth 100000 in
theorem mp_lkX10_405 : mp_LV RX10 405 yX10_struckOf cX10_struckOf 9 (some FieldType.int) 4 10 := mp_lv_ok (j1 := 8122) (j2 := 8124) (j3 := 97) (j4 := 1011) (j5 := 8125) (by decide +kernel)
set_option maxRecDepth 100000 in
theorem mp_lkL_174 : mp_LV RL 174 yX10_ringed cX10_ringed 3 (some FieldType.int) 2 10 := mp_lv_ok (j1 := 8126) (j2 := 8127) (j3 := 8128) (j4 := 1011) (j5 := 8129) (by decide +kernel)
set_option maxRecDepth 100000 in
theorem mp_lkL_179 : mp_LV RL 179 yX10_strikes cX10_strikes 5 (some FieldType.int) 4 10 := mp_lv_ok (j1 := 8130) (j2 := 8131) (j3 := 8132) (j4 := 1011) (j5 := 8133) (by decide +kernel)
set_option maxRecDepth 100000 in
theorem mp_lkL_183 : mp_LV RL 183 yX10_weighed cX10_weighed 4 (some FieldType.int) 2 10 := mp_lv_ok (j1 := 8134) (j2 := 8135) (j3 := 8136) (j4 := 1011) (j5 := 8137) (by decide +kernel)
set_option maxRecDepth 100000 in
theorem mp_lkX10_432 : mp_LV RX10 432 yX10_whyNot cX10_whyNot 4 (some FieldType.int) 2 10 := mp_lv_ok (j1 := 8138) (j2 := 8140) (j3 := 98) (j4 := 1011) (j5 := 8141) (by decide +kernel)
set_option maxRecDepth 100000 in
theorem mp_lkX10_435 : mp_LV RX10 435 yX10_laysWays cX10_laysWays 4 none 2 10 := mp_lv_ok (j1 := 8143) (j2 := 8145) (j3 := 99) (j4 := 1011) (j5 := 8146) (by decide +kernel)
set_option maxRecDepth 100000 in
theorem mp_lkX10_429 : mp_LV RX10 429 yX10_isWay cX10_isWay 5 (some FieldType.boolean) 3 10 := mp_lv_ok (j1 := 8147) (j2 := 8149) (j3 := 100) (j4 := 1011) (j5 := 8150) (by decide +kernel)
set_option maxRecDepth 100000 in
theorem mp_lkX10_414 : mp_LV RX10 414 yX10_worthBy cX10_worthBy 5 (some FieldType.int) 3 10 := mp_lv_ok (j1 := 8151) (j2 := 8153) (j3 := 101) (j4 := 1011) (j5 := 8154) (by decide +kernel)
set_option maxRecDepth 100000 in
theorem mp_lkL_187 : mp_LV RL 187 yX10_must cX10_must 5 (some FieldType.int) 3 10 := mp_lv_ok (j1 := 8155) (j2 := 8156) (j3 := 8157) (j4 := 1011) (j5 := 8158) (by decide +kernel)
set_option maxRecDepth 100000 in
theorem mp_lkL_191 : mp_LV RL 191 yX10_times cX10_times 4 (some FieldType.int) 2 10 := mp_lv_ok (j1 := 8159) (j2 := 8160) (j3 := 8161) (j4 := 1011) (j5 := 8162) (by decide +kernel)
set_option maxRecDepth 100000 in
theorem mp_lkL_195 : mp_LV RL 195 yX10_weigh cX10_weigh 8 (some FieldType.int) 2 10 := mp_lv_ok (j1 := 8163) (j2 := 8164) (j3 := 8165) (j4 := 1011) (j5 := 8166) (by decide +kernel)
set_option maxRecDepth 100000 in
theorem mp_lkX10_438 : mp_LV RX10 438 yX10_worstOf cX10_worstOf 9 (some FieldType.int) 3 10 := mp_lv_ok (j1 := 8167) (j2 := 8169) (j3 := 102) (j4 := 1011) (j5 := 8170) (by decide +kernel)
set_option maxRecDepth 100000 in
theorem mp_lkL_199 : mp_LV RL 199 yX10_said cX10_said 9 (some FieldType.int) 2 10 := mp_lv_ok (j1 := 8171) (j2 := 8172) (j3 := 8173) (j4 := 1011) (j5 := 8174) (by decide +kernel)
set_option maxRecDepth 100000 in
theorem mp_lkL_203 : mp_LV RL 203 yX10_span cX10_span 15 (some FieldType.int) 3 10 := mp_lv_ok (j1 := 8175) (j2 := 8176) (j3 := 8177) (j4 := 1011) (j5 := 8178) (by decide +kernel)
set_option maxRecDepth 100000 in
theorem mp_lkL_207 : mp_LV RL 207 yX10_wins cX10_wins 3 (some FieldType.int) 1 10 := mp_lv_ok (j1 := 8179) (j2 := 8180) (j3 := 8181) (j4 := 1011) (j5 := 8182) (by decide +kernel)
set_option maxRecDepth 100000 in
theorem mp_lkX10_444 : mp_LV RX10 444 yX10_whyNoThreat cX10_whyNoThreat 3 (some FieldType.int) 1 10 := mp_lv_ok (j1 := 8183) (j2 := 8185) (j3 := 103) (j4 := 1011) (j5 := 8186) (by decide +kernel)
set_option maxRecDepth 100000 in
theorem mp_lkX10_447 : mp_LV RX10 447 yX10_xorOf cX10_xorOf 4 (some FieldType.int) 1 10 := mp_lv_ok (j1 := 8187) (j2 := 8189) (j3 := 104) (j4 := 1011) (j5 := 8190) (by decide +kernel)
set_option maxRecDepth 100000 in
theorem mp_lkX10_441 : mp_LV RX10 441 yX10_laysNimbers cX10_laysNimbers 5 none 0 10 := mp_lv_ok (j1 := 8191) (j2 := 8193) (j3 := 105) (j4 := 1011) (j5 := 8194) (by decide +kernel)
set_option maxRecDepth 100000 in
theorem mp_lkL_211 : mp_LV RL 211 yX10_turn cX10_turn 7 (some FieldType.int) 1 10 := mp_lv_ok (j1 := 8195) (j2 := 8196) (j3 := 8197) (j4 := 1011) (j5 := 8198) (by decide +kernel)
set_option maxRecDepth 100000 in
theorem mp_lkL_215 : mp_LV RL 215 yX10_drawn cX10_drawn 4 (some FieldType.int) 3 10 := mp_lv_ok (j1 := 8199) (j2 := 8200) (j3 := 8201) (j4 := 1011) (j5 := 8202) (by decide +kernel)
set_option maxRecDepth 100000 in
theorem mp_lkX10_467 : mp_LV RX10 467 yX10_isDraw cX10_isDraw 4 (some FieldType.boolean) 3 10 := mp_lv_ok (j1 := 8203) (j2 := 8205) (j3 := 106) (j4 := 1011) (j5 := 8206) (by decide +kernel)
set_option maxRecDepth 100000 in
theorem mp_lkX10_470 : mp_LV RX10 470 yX10_draws cX10_draws 9 (some FieldType.int) 3 10 := mp_lv_ok (j1 := 8209) (j2 := 8211) (j3 := 107) (j4 := 1011) (j5 := 8212) (by decide +kernel)
set_option maxRecDepth 100000 in
theorem mp_lkL_219 : mp_LV RL 219 yX10_often cX10_often 4 (some FieldType.int) 3 10 := mp_lv_ok (j1 := 8218) (j2 := 8219) (j3 := 8220) (j4 := 1011) (j5 := 8221) (by decide +kernel)
set_option maxRecDepth 100000 in
theorem mp_lkL_223 : mp_LV RL 223 yX10_lucky cX10_lucky 7 (some FieldType.int) 4 10 := mp_lv_ok (j1 := 8222) (j2 := 8223) (j3 := 8224) (j4 := 1011) (j5 := 8225) (by decide +kernel)
set_option maxRecDepth 100000 in
theorem mp_lkL_227 : mp_LV RL 227 yX10_promises cX10_promises 5 (some FieldType.int) 3 10 := mp_lv_ok (j1 := 8226) (j2 := 8227) (j3 := 8228) (j4 := 1011) (j5 := 8229) (by decide +kernel)
set_option maxRecDepth 100000 in
theorem mp_lkL_231 : mp_LV RL 231 yX10_shuts cX10_shuts 5 (some FieldType.int) 3 10 := mp_lv_ok (j1 := 8230) (j2 := 8231) (j3 := 8232) (j4 := 1011) (j5 := 8233) (by decide +kernel)
set_option maxRecDepth 100000 in
theorem mp_lkL_235 : mp_LV RL 235 yX10_tends cX10_tends 4 (some FieldType.int) 2 10 := mp_lv_ok (j1 := 8234) (j2 := 8235) (j3 := 8236) (j4 := 1011) (j5 := 8237) (by decide +kernel)
set_option maxRecDepth 100000 in
theorem mp_lkL_239 : mp_LV RL 239 yX10_count cX10_count 4 (some FieldType.int) 1 10 := mp_lv_ok (j1 := 8238) (j2 := 8239) (j3 := 9000) (j4 := 1011) (j5 := 9001) (by decide +kernel)
set_option maxRecDepth 100000 in
theorem mp_lkL_243 : mp_LV RL 243 yX10_image cX10_image 2 (some FieldType.int) 1 10 := mp_lv_ok (j1 := 9002) (j2 := 9003) (j3 := 9004) (j4 := 1011) (j5 := 9005) (by decide +kernel)
set_option maxRecDepth 100000 in
theorem mp_lkL_247 : mp_LV RL 247 yX10_back cX10_back 2 (some FieldType.int) 1 10 := mp_lv_ok (j1 := 9006) (j2 := 9007) (j3 := 9008) (j4 := 1011) (j5 := 9009) (by decide +kernel)
set_option maxRecDepth 100000 in
theorem mp_lnL_7 : mp_LN RL 7 9 9 [.null, .null, .null, .null, .null, .null, .null, .null, .null] := ⟨_, tyX9, rfl, rfl, mp_gm (j := 1021) (by decide +kernel), mp_gm (j := 1022) (by decide +kernel), mp_gm (j := 1001) (by decide +kernel), tyX9_ok, by decide +kernel⟩
set_option maxRecDepth 100000 in
theorem mp_lnX9_7 : mp_LN RX9 7 3 10 [.null, .int 0, .null, .int 0, .int 0, .int 0, .int 0, .int 0, .int 0, .int 0] := ⟨_, tyX3, rfl, rfl, mp_gm (j := 1029) (by decide +kernel), mp_gm (j := 1030) (by decide +kernel), mp_gm (j := 1002) (by decide +kernel), tyX3_ok, by decide +kernel⟩
set_option maxRecDepth 100000 in
theorem mp_lnX3_15 : mp_LN RX3 15 7 18 [.int 0, .int 0, .int 0, .int 0, .int 0, .int 0, .null, .null, .null, .null, .null, .null, .null, .null, .null, .null, .null, .null] := ⟨_, tyX7, rfl, rfl, mp_gm (j := 1035) (by decide +kernel), mp_gm (j := 1036) (by decide +kernel), mp_gm (j := 1003) (by decide +kernel), tyX7_ok, by decide +kernel⟩
set_option maxRecDepth 100000 in
theorem mp_lnX9_16 : mp_LN RX9 16 0 8 [.null, .int 0, .null, .null, .null, .null, .null, .null] := ⟨_, tyX0, rfl, rfl, mp_gm (j := 1184) (by decide +kernel), mp_gm (j := 1185) (by decide +kernel), mp_gm (j := 1004) (by decide +kernel), tyX0_ok, by decide +kernel⟩
set_option maxRecDepth 100000 in
theorem mp_lnX0_9 : mp_LN RX0 9 7 18 [.int 0, .int 0, .int 0, .int 0, .int 0, .int 0, .null, .null, .null, .null, .null, .null, .null, .null, .null, .null, .null, .null] := ⟨_, tyX7, rfl, rfl, mp_gm (j := 1190) (by decide +kernel), mp_gm (j := 1036) (by decide +kernel), mp_gm (j := 1003) (by decide +kernel), tyX7_ok, by decide +kernel⟩
set_option maxRecDepth 100000 in
theorem mp_lnX9_23 : mp_LN RX9 23 7 18 [.int 0, .int 0, .int 0, .int 0, .int 0, .int 0, .null, .null, .null, .null, .null, .null, .null, .null, .null, .null, .null, .null] := ⟨_, tyX7, rfl, rfl, mp_gm (j := 1227) (by decide +kernel), mp_gm (j := 1036) (by decide +kernel), mp_gm (j := 1003) (by decide +kernel), tyX7_ok, by decide +kernel⟩
set_option maxRecDepth 100000 in
theorem mp_lnX9_29 : mp_LN RX9 29 1 4 [.null, .int 0, .int 0, .null] := ⟨_, tyX1, rfl, rfl, mp_gm (j := 1229) (by decide +kernel), mp_gm (j := 1230) (by decide +kernel), mp_gm (j := 1005) (by decide +kernel), tyX1_ok, by decide +kernel⟩
set_option maxRecDepth 100000 in
theorem mp_lnX9_36 : mp_LN RX9 36 2 11 [.int 0, .int 0, .int 0, .int 0, .null, .null, .null, .null, .null, .int 0, .int 0] := ⟨_, tyX2, rfl, rfl, mp_gm (j := 2010) (by decide +kernel), mp_gm (j := 2011) (by decide +kernel), mp_gm (j := 1006) (by decide +kernel), tyX2_ok, by decide +kernel⟩
set_option maxRecDepth 100000 in
theorem mp_lnX9_43 : mp_LN RX9 43 4 10 [.int 0, .int 0, .int 0, .null, .int 0, .int 0, .int 0, .int 0, .int 0, .null] := ⟨_, tyX4, rfl, rfl, mp_gm (j := 2052) (by decide +kernel), mp_gm (j := 2053) (by decide +kernel), mp_gm (j := 1007) (by decide +kernel), tyX4_ok, by decide +kernel⟩
set_option maxRecDepth 100000 in
theorem mp_lnX9_50 : mp_LN RX9 50 6 3 [.int 0, .null, .null] := ⟨_, tyX6, rfl, rfl, mp_gm (j := 2093) (by decide +kernel), mp_gm (j := 2094) (by decide +kernel), mp_gm (j := 1008) (by decide +kernel), tyX6_ok, by decide +kernel⟩
set_option maxRecDepth 100000 in
theorem mp_lnX9_57 : mp_LN RX9 57 8 3 [.null, .int 0, .int 0] := ⟨_, tyX8, rfl, rfl, mp_gm (j := 2109) (by decide +kernel), mp_gm (j := 2110) (by decide +kernel), mp_gm (j := 1009) (by decide +kernel), tyX8_ok, by decide +kernel⟩
set_option maxRecDepth 100000 in
theorem mp_lnX9_64 : mp_LN RX9 64 5 3 [.null, .null, .null] := ⟨_, tyX5, rfl, rfl, mp_gm (j := 2127) (by decide +kernel), mp_gm (j := 2128) (by decide +kernel), mp_gm (j := 1010) (by decide +kernel), tyX5_ok, by decide +kernel⟩
set_option maxRecDepth 100000 in
theorem mp_lnL_10 : mp_LN RL 10 10 47 [.int 0, .null, .null, .null, .null, .null, .int 0, .int 0, .int 0, .int 0, .int 0, .long 0, .int 0, .int 0, .int 0, .int 0, .null, .null, .null, .null, .null, .null, .null, .null, .int 0, .null, .null, .null, .null, .int 0, .int 0, .int 0, .null, .null, .int 0, .int 0, .null, .null, .null, .int 0, .int 0, .int 0, .int 0, .null, .null, .null, .int 0] := ⟨_, tyX10, rfl, rfl, mp_gm (j := 6005) (by decide +kernel), mp_gm (j := 6006) (by decide +kernel), mp_gm (j := 1011) (by decide +kernel), tyX10_ok, by decide +kernel⟩
theorem mp_bnd (x : Int32) : -2147483648 ≤ x.toInt ∧ x.toInt ≤ 2147483647 := ⟨Int32.le_toInt x, by have := Int32.toInt_lt x; omega⟩
theorem mp_add {z x y : Int32} {a b : Int} (h : z = x + y) (hx : x.toInt = a) (hy : y.toInt = b) (h1 : -2147483648 ≤ a + b) (h2 : a + b ≤ 2147483647) : z.toInt = a + b := by
  rw [h, Int32.toInt_add, hx, hy, Int.bmod_def]; omega
theorem mp_subi {z x y : Int32} {a b : Int} (h : z = x - y) (hx : x.toInt = a) (hy : y.toInt = b) (h1 : -2147483648 ≤ a - b) (h2 : a - b ≤ 2147483647) : z.toInt = a - b := by
  rw [h, Int32.toInt_sub, hx, hy, Int.bmod_def]; omega
theorem mp_mul {z x y : Int32} {a b : Int} (h : z = x * y) (hx : x.toInt = a) (hy : y.toInt = b) (h1 : -2147483648 ≤ a * b) (h2 : a * b ≤ 2147483647) : z.toInt = a * b := by
  rw [h, Int32.toInt_mul, hx, hy, Int.bmod_def]
  generalize a * b = c at *
  omega
theorem mp_div {z x y : Int32} {a b : Int} (h : z = x / y) (hx : x.toInt = a) (hy : y.toInt = b) (h1 : 0 ≤ a) (h2 : 0 < b) : z.toInt = a / b := by
  have hb := mp_bnd x
  rw [h, Int32.toInt_div, hx, hy, Int.tdiv_eq_ediv_of_nonneg h1, Int.bmod_def]
  have h3 : 0 ≤ a / b := Int.ediv_nonneg h1 (Int.le_of_lt h2)
  have h4 : a / b ≤ a := Int.ediv_le_self b h1
  generalize a / b = c at *
  omega
theorem mp_rem {z x y : Int32} {a b : Int} (h : z = x - x / y * y) (hx : x.toInt = a) (hy : y.toInt = b) (h1 : 0 ≤ a) (h2 : 0 < b) : z.toInt = a % b := by
  have hb := mp_bnd x
  have e1 : (x / y).toInt = a / b := mp_div rfl hx hy h1 h2
  have h5 : b * (a / b) + a % b = a := Int.mul_ediv_add_emod a b
  have h6 : 0 ≤ a % b := Int.emod_nonneg a (by omega)
  have h7 : 0 ≤ b * (a / b) := Int.mul_nonneg (Int.le_of_lt h2) (Int.ediv_nonneg h1 (Int.le_of_lt h2))
  have e2 : (x / y * y).toInt = a / b * b := mp_mul rfl e1 hy (by rw [Int.mul_comm]; omega) (by rw [Int.mul_comm]; omega)
  rw [Int.mul_comm] at e2
  have e3 := mp_subi h hx e2 (by omega) (by omega)
  omega
theorem mp_cpy0 {α : Type} {c : α} (sp dp n : Nat) : va_cpy (fun _ => c) (fun _ => c) sp dp n = (fun _ => c) := by
  funext k; simp [va_cpy]
end
section
set_option maxHeartbeats 4000000 in
set_option maxRecDepth 100000 in
theorem k_Told (E : mp_E) (h0 : Nat) : mp_Ct E yX7_init cX7_init 1 none 1 12 186 12 [.ref h0] [(h0, .inr (7, [.int 0, .int 0, .int 0, .int 0, .int 0, .int 0, .null, .null, .null, .null, .null, .null, .null, .null, .null, .null, .null, .null]))] (fun v w' => v = none ∧ ∃ b : Nat → Nat, b 0 = h0 ∧ w' = [(h0, .inr (7, [.int 0, .int 0, .int 0, .int 0, .int 0, .int 0, .ref (b 1), .ref (b 2), .ref (b 3), .ref (b 4), .ref (b 5), .ref (b 6), .ref (b 7), .ref (b 8), .ref (b 9), .ref (b 10), .ref (b 11), .ref (b 12)])), ((b 1), .inl (E.2.2 0, 36, .inl (fun _ => 0))), ((b 2), .inl (E.2.2 2, 12, .inr (.inl (fun _ => 0)))), ((b 3), .inl (E.2.2 0, 6, .inl (fun _ => 0))), ((b 4), .inl (E.2.2 0, 6, .inl (fun _ => 0))), ((b 5), .inl (E.2.2 0, 6, .inl (fun _ => 0))), ((b 6), .inl (E.2.2 0, 10, .inl (fun _ => 0))), ((b 7), .inl (E.2.2 0, 10, .inl (fun _ => 0))), ((b 8), .inl (E.2.2 0, 10, .inl (fun _ => 0))), ((b 9), .inl (E.2.2 0, 10, .inl (fun _ => 0))), ((b 10), .inl (E.2.2 0, 10, .inl (fun _ => 0))), ((b 11), .inl (E.2.2 0, 10, .inl (fun _ => 0))), ((b 12), .inl (E.2.2 0, 60, .inl (fun _ => 0)))]) := by
  refine mp_met true (by decide) (by decide) (Nat.le_of_ble_eq_true rfl) (fun X hF hQ => ?_)
  have hF : mp_F E X (RX7, cX7_init, 1, (1, 12, 186, 12), none, true) := hF
  show mp_W E X 1 0 [(0, .ref h0)] [] [(h0, .inr (7, [.int 0, .int 0, .int 0, .int 0, .int 0, .int 0, .null, .null, .null, .null, .null, .null, .null, .null, .null, .null, .null, .null]))] 0 0
  refine mp_run hF mp_tabX7_ok [mp_i (.aload_n 0)] (by decide +kernel) ?_
  show mp_W E X 1 1 [(0, .ref h0)] [.ref h0] [(h0, .inr (7, [.int 0, .int 0, .int 0, .int 0, .int 0, .int 0, .null, .null, .null, .null, .null, .null, .null, .null, .null, .null, .null, .null]))] 0 0
  refine mp_objInit hF (idx := 3) (mp_gm (j := 1040) (by decide +kernel)) ⟨(Nat.le_of_ble_eq_true rfl), (Nat.le_of_ble_eq_true rfl)⟩ (by decide +kernel) ?_
  show mp_W E X 1 4 [(0, .ref h0)] [] [(h0, .inr (7, [.int 0, .int 0, .int 0, .int 0, .int 0, .int 0, .null, .null, .null, .null, .null, .null, .null, .null, .null, .null, .null, .null]))] 0 0
  refine mp_run hF mp_tabX7_ok [mp_i (.aload_n 0), mp_c (.bipush 36) 36, mp_h (.newarray .int) [36], mp_h (.putfield 9) [6, 0]] (by decide +kernel) ?_
  refine And.intro (by decide) (And.intro (Nat.le_of_ble_eq_true rfl) (And.intro (Nat.le_of_ble_eq_true rfl) (And.intro (by decide) ?_)))
  intro q1
  refine And.intro rfl (And.intro rfl (And.intro rfl (And.intro rfl (And.intro (Nat.le_of_ble_eq_true rfl) ?_))))
  show mp_W E X 1 12 [(0, .ref h0)] [] [(h0, .inr (7, [.int 0, .int 0, .int 0, .int 0, .int 0, .int 0, .ref q1, .null, .null, .null, .null, .null, .null, .null, .null, .null, .null, .null])), (q1, .inl (E.2.2 0, 36, .inl (fun _ => 0)))] 1 36
  refine mp_run hF mp_tabX7_ok [mp_i (.aload_n 0), mp_c (.bipush 12) 12, mp_h (.newarray .long) [12], mp_h (.putfield 15) [7, 0]] (by decide +kernel) ?_
  refine And.intro (by decide) (And.intro (Nat.le_of_ble_eq_true rfl) (And.intro (Nat.le_of_ble_eq_true rfl) (And.intro (by decide) ?_)))
  intro q2
  refine And.intro rfl (And.intro rfl (And.intro rfl (And.intro rfl (And.intro (Nat.le_of_ble_eq_true rfl) ?_))))
  show mp_W E X 1 20 [(0, .ref h0)] [] [(h0, .inr (7, [.int 0, .int 0, .int 0, .int 0, .int 0, .int 0, .ref q1, .ref q2, .null, .null, .null, .null, .null, .null, .null, .null, .null, .null])), (q1, .inl (E.2.2 0, 36, .inl (fun _ => 0))), (q2, .inl (E.2.2 2, 12, .inr (.inl (fun _ => 0))))] 2 48
  refine mp_run hF mp_tabX7_ok [mp_i (.aload_n 0), mp_c (.bipush 6) 6, mp_h (.newarray .int) [6], mp_h (.putfield 19) [8, 0]] (by decide +kernel) ?_
  refine And.intro (by decide) (And.intro (Nat.le_of_ble_eq_true rfl) (And.intro (Nat.le_of_ble_eq_true rfl) (And.intro (by decide) ?_)))
  intro q3
  refine And.intro rfl (And.intro rfl (And.intro rfl (And.intro rfl (And.intro (Nat.le_of_ble_eq_true rfl) ?_))))
  show mp_W E X 1 28 [(0, .ref h0)] [] [(h0, .inr (7, [.int 0, .int 0, .int 0, .int 0, .int 0, .int 0, .ref q1, .ref q2, .ref q3, .null, .null, .null, .null, .null, .null, .null, .null, .null])), (q1, .inl (E.2.2 0, 36, .inl (fun _ => 0))), (q2, .inl (E.2.2 2, 12, .inr (.inl (fun _ => 0)))), (q3, .inl (E.2.2 0, 6, .inl (fun _ => 0)))] 3 54
  refine mp_run hF mp_tabX7_ok [mp_i (.aload_n 0), mp_c (.bipush 6) 6, mp_h (.newarray .int) [6], mp_h (.putfield 22) [9, 0]] (by decide +kernel) ?_
  refine And.intro (by decide) (And.intro (Nat.le_of_ble_eq_true rfl) (And.intro (Nat.le_of_ble_eq_true rfl) (And.intro (by decide) ?_)))
  intro q4
  refine And.intro rfl (And.intro rfl (And.intro rfl (And.intro rfl (And.intro (Nat.le_of_ble_eq_true rfl) ?_))))
  show mp_W E X 1 36 [(0, .ref h0)] [] [(h0, .inr (7, [.int 0, .int 0, .int 0, .int 0, .int 0, .int 0, .ref q1, .ref q2, .ref q3, .ref q4, .null, .null, .null, .null, .null, .null, .null, .null])), (q1, .inl (E.2.2 0, 36, .inl (fun _ => 0))), (q2, .inl (E.2.2 2, 12, .inr (.inl (fun _ => 0)))), (q3, .inl (E.2.2 0, 6, .inl (fun _ => 0))), (q4, .inl (E.2.2 0, 6, .inl (fun _ => 0)))] 4 60
  refine mp_run hF mp_tabX7_ok [mp_i (.aload_n 0), mp_c (.bipush 6) 6, mp_h (.newarray .int) [6], mp_h (.putfield 25) [10, 0]] (by decide +kernel) ?_
  refine And.intro (by decide) (And.intro (Nat.le_of_ble_eq_true rfl) (And.intro (Nat.le_of_ble_eq_true rfl) (And.intro (by decide) ?_)))
  intro q5
  refine And.intro rfl (And.intro rfl (And.intro rfl (And.intro rfl (And.intro (Nat.le_of_ble_eq_true rfl) ?_))))
  show mp_W E X 1 44 [(0, .ref h0)] [] [(h0, .inr (7, [.int 0, .int 0, .int 0, .int 0, .int 0, .int 0, .ref q1, .ref q2, .ref q3, .ref q4, .ref q5, .null, .null, .null, .null, .null, .null, .null])), (q1, .inl (E.2.2 0, 36, .inl (fun _ => 0))), (q2, .inl (E.2.2 2, 12, .inr (.inl (fun _ => 0)))), (q3, .inl (E.2.2 0, 6, .inl (fun _ => 0))), (q4, .inl (E.2.2 0, 6, .inl (fun _ => 0))), (q5, .inl (E.2.2 0, 6, .inl (fun _ => 0)))] 5 66
  refine mp_run hF mp_tabX7_ok [mp_i (.aload_n 0), mp_c (.bipush 10) 10, mp_h (.newarray .int) [10], mp_h (.putfield 28) [11, 0]] (by decide +kernel) ?_
  refine And.intro (by decide) (And.intro (Nat.le_of_ble_eq_true rfl) (And.intro (Nat.le_of_ble_eq_true rfl) (And.intro (by decide) ?_)))
  intro q6
  refine And.intro rfl (And.intro rfl (And.intro rfl (And.intro rfl (And.intro (Nat.le_of_ble_eq_true rfl) ?_))))
  show mp_W E X 1 52 [(0, .ref h0)] [] [(h0, .inr (7, [.int 0, .int 0, .int 0, .int 0, .int 0, .int 0, .ref q1, .ref q2, .ref q3, .ref q4, .ref q5, .ref q6, .null, .null, .null, .null, .null, .null])), (q1, .inl (E.2.2 0, 36, .inl (fun _ => 0))), (q2, .inl (E.2.2 2, 12, .inr (.inl (fun _ => 0)))), (q3, .inl (E.2.2 0, 6, .inl (fun _ => 0))), (q4, .inl (E.2.2 0, 6, .inl (fun _ => 0))), (q5, .inl (E.2.2 0, 6, .inl (fun _ => 0))), (q6, .inl (E.2.2 0, 10, .inl (fun _ => 0)))] 6 76
  refine mp_run hF mp_tabX7_ok [mp_i (.aload_n 0), mp_c (.bipush 10) 10, mp_h (.newarray .int) [10], mp_h (.putfield 31) [12, 0]] (by decide +kernel) ?_
  refine And.intro (by decide) (And.intro (Nat.le_of_ble_eq_true rfl) (And.intro (Nat.le_of_ble_eq_true rfl) (And.intro (by decide) ?_)))
  intro q7
  refine And.intro rfl (And.intro rfl (And.intro rfl (And.intro rfl (And.intro (Nat.le_of_ble_eq_true rfl) ?_))))
  show mp_W E X 1 60 [(0, .ref h0)] [] [(h0, .inr (7, [.int 0, .int 0, .int 0, .int 0, .int 0, .int 0, .ref q1, .ref q2, .ref q3, .ref q4, .ref q5, .ref q6, .ref q7, .null, .null, .null, .null, .null])), (q1, .inl (E.2.2 0, 36, .inl (fun _ => 0))), (q2, .inl (E.2.2 2, 12, .inr (.inl (fun _ => 0)))), (q3, .inl (E.2.2 0, 6, .inl (fun _ => 0))), (q4, .inl (E.2.2 0, 6, .inl (fun _ => 0))), (q5, .inl (E.2.2 0, 6, .inl (fun _ => 0))), (q6, .inl (E.2.2 0, 10, .inl (fun _ => 0))), (q7, .inl (E.2.2 0, 10, .inl (fun _ => 0)))] 7 86
  refine mp_run hF mp_tabX7_ok [mp_i (.aload_n 0), mp_c (.bipush 10) 10, mp_h (.newarray .int) [10], mp_h (.putfield 34) [13, 0]] (by decide +kernel) ?_
  refine And.intro (by decide) (And.intro (Nat.le_of_ble_eq_true rfl) (And.intro (Nat.le_of_ble_eq_true rfl) (And.intro (by decide) ?_)))
  intro q8
  refine And.intro rfl (And.intro rfl (And.intro rfl (And.intro rfl (And.intro (Nat.le_of_ble_eq_true rfl) ?_))))
  show mp_W E X 1 68 [(0, .ref h0)] [] [(h0, .inr (7, [.int 0, .int 0, .int 0, .int 0, .int 0, .int 0, .ref q1, .ref q2, .ref q3, .ref q4, .ref q5, .ref q6, .ref q7, .ref q8, .null, .null, .null, .null])), (q1, .inl (E.2.2 0, 36, .inl (fun _ => 0))), (q2, .inl (E.2.2 2, 12, .inr (.inl (fun _ => 0)))), (q3, .inl (E.2.2 0, 6, .inl (fun _ => 0))), (q4, .inl (E.2.2 0, 6, .inl (fun _ => 0))), (q5, .inl (E.2.2 0, 6, .inl (fun _ => 0))), (q6, .inl (E.2.2 0, 10, .inl (fun _ => 0))), (q7, .inl (E.2.2 0, 10, .inl (fun _ => 0))), (q8, .inl (E.2.2 0, 10, .inl (fun _ => 0)))] 8 96
  refine mp_run hF mp_tabX7_ok [mp_i (.aload_n 0), mp_c (.bipush 10) 10, mp_h (.newarray .int) [10], mp_h (.putfield 37) [14, 0]] (by decide +kernel) ?_
  refine And.intro (by decide) (And.intro (Nat.le_of_ble_eq_true rfl) (And.intro (Nat.le_of_ble_eq_true rfl) (And.intro (by decide) ?_)))
  intro q9
  refine And.intro rfl (And.intro rfl (And.intro rfl (And.intro rfl (And.intro (Nat.le_of_ble_eq_true rfl) ?_))))
  show mp_W E X 1 76 [(0, .ref h0)] [] [(h0, .inr (7, [.int 0, .int 0, .int 0, .int 0, .int 0, .int 0, .ref q1, .ref q2, .ref q3, .ref q4, .ref q5, .ref q6, .ref q7, .ref q8, .ref q9, .null, .null, .null])), (q1, .inl (E.2.2 0, 36, .inl (fun _ => 0))), (q2, .inl (E.2.2 2, 12, .inr (.inl (fun _ => 0)))), (q3, .inl (E.2.2 0, 6, .inl (fun _ => 0))), (q4, .inl (E.2.2 0, 6, .inl (fun _ => 0))), (q5, .inl (E.2.2 0, 6, .inl (fun _ => 0))), (q6, .inl (E.2.2 0, 10, .inl (fun _ => 0))), (q7, .inl (E.2.2 0, 10, .inl (fun _ => 0))), (q8, .inl (E.2.2 0, 10, .inl (fun _ => 0))), (q9, .inl (E.2.2 0, 10, .inl (fun _ => 0)))] 9 106
  refine mp_run hF mp_tabX7_ok [mp_i (.aload_n 0), mp_c (.bipush 10) 10, mp_h (.newarray .int) [10], mp_h (.putfield 40) [15, 0]] (by decide +kernel) ?_
  refine And.intro (by decide) (And.intro (Nat.le_of_ble_eq_true rfl) (And.intro (Nat.le_of_ble_eq_true rfl) (And.intro (by decide) ?_)))
  intro q10
  refine And.intro rfl (And.intro rfl (And.intro rfl (And.intro rfl (And.intro (Nat.le_of_ble_eq_true rfl) ?_))))
  show mp_W E X 1 84 [(0, .ref h0)] [] [(h0, .inr (7, [.int 0, .int 0, .int 0, .int 0, .int 0, .int 0, .ref q1, .ref q2, .ref q3, .ref q4, .ref q5, .ref q6, .ref q7, .ref q8, .ref q9, .ref q10, .null, .null])), (q1, .inl (E.2.2 0, 36, .inl (fun _ => 0))), (q2, .inl (E.2.2 2, 12, .inr (.inl (fun _ => 0)))), (q3, .inl (E.2.2 0, 6, .inl (fun _ => 0))), (q4, .inl (E.2.2 0, 6, .inl (fun _ => 0))), (q5, .inl (E.2.2 0, 6, .inl (fun _ => 0))), (q6, .inl (E.2.2 0, 10, .inl (fun _ => 0))), (q7, .inl (E.2.2 0, 10, .inl (fun _ => 0))), (q8, .inl (E.2.2 0, 10, .inl (fun _ => 0))), (q9, .inl (E.2.2 0, 10, .inl (fun _ => 0))), (q10, .inl (E.2.2 0, 10, .inl (fun _ => 0)))] 10 116
  refine mp_run hF mp_tabX7_ok [mp_i (.aload_n 0), mp_c (.bipush 10) 10, mp_h (.newarray .int) [10], mp_h (.putfield 43) [16, 0]] (by decide +kernel) ?_
  refine And.intro (by decide) (And.intro (Nat.le_of_ble_eq_true rfl) (And.intro (Nat.le_of_ble_eq_true rfl) (And.intro (by decide) ?_)))
  intro q11
  refine And.intro rfl (And.intro rfl (And.intro rfl (And.intro rfl (And.intro (Nat.le_of_ble_eq_true rfl) ?_))))
  show mp_W E X 1 92 [(0, .ref h0)] [] [(h0, .inr (7, [.int 0, .int 0, .int 0, .int 0, .int 0, .int 0, .ref q1, .ref q2, .ref q3, .ref q4, .ref q5, .ref q6, .ref q7, .ref q8, .ref q9, .ref q10, .ref q11, .null])), (q1, .inl (E.2.2 0, 36, .inl (fun _ => 0))), (q2, .inl (E.2.2 2, 12, .inr (.inl (fun _ => 0)))), (q3, .inl (E.2.2 0, 6, .inl (fun _ => 0))), (q4, .inl (E.2.2 0, 6, .inl (fun _ => 0))), (q5, .inl (E.2.2 0, 6, .inl (fun _ => 0))), (q6, .inl (E.2.2 0, 10, .inl (fun _ => 0))), (q7, .inl (E.2.2 0, 10, .inl (fun _ => 0))), (q8, .inl (E.2.2 0, 10, .inl (fun _ => 0))), (q9, .inl (E.2.2 0, 10, .inl (fun _ => 0))), (q10, .inl (E.2.2 0, 10, .inl (fun _ => 0))), (q11, .inl (E.2.2 0, 10, .inl (fun _ => 0)))] 11 126
  refine mp_run hF mp_tabX7_ok [mp_i (.aload_n 0), mp_c (.bipush 60) 60, mp_h (.newarray .int) [60], mp_h (.putfield 46) [17, 0]] (by decide +kernel) ?_
  refine And.intro (by decide) (And.intro (Nat.le_of_ble_eq_true rfl) (And.intro (Nat.le_of_ble_eq_true rfl) (And.intro (by decide) ?_)))
  intro q12
  refine And.intro rfl (And.intro rfl (And.intro rfl (And.intro rfl (And.intro (Nat.le_of_ble_eq_true rfl) ?_))))
  show mp_W E X 1 100 [(0, .ref h0)] [] [(h0, .inr (7, [.int 0, .int 0, .int 0, .int 0, .int 0, .int 0, .ref q1, .ref q2, .ref q3, .ref q4, .ref q5, .ref q6, .ref q7, .ref q8, .ref q9, .ref q10, .ref q11, .ref q12])), (q1, .inl (E.2.2 0, 36, .inl (fun _ => 0))), (q2, .inl (E.2.2 2, 12, .inr (.inl (fun _ => 0)))), (q3, .inl (E.2.2 0, 6, .inl (fun _ => 0))), (q4, .inl (E.2.2 0, 6, .inl (fun _ => 0))), (q5, .inl (E.2.2 0, 6, .inl (fun _ => 0))), (q6, .inl (E.2.2 0, 10, .inl (fun _ => 0))), (q7, .inl (E.2.2 0, 10, .inl (fun _ => 0))), (q8, .inl (E.2.2 0, 10, .inl (fun _ => 0))), (q9, .inl (E.2.2 0, 10, .inl (fun _ => 0))), (q10, .inl (E.2.2 0, 10, .inl (fun _ => 0))), (q11, .inl (E.2.2 0, 10, .inl (fun _ => 0))), (q12, .inl (E.2.2 0, 60, .inl (fun _ => 0)))] 12 186
  exact mp_vret hF hQ rfl (Nat.le_of_ble_eq_true rfl) (Nat.le_of_ble_eq_true rfl) [0, 1, 2, 3, 4, 5, 6, 7, 8, 9, 10, 11, 12] (w' := [(h0, .inr (7, [.int 0, .int 0, .int 0, .int 0, .int 0, .int 0, .ref q1, .ref q2, .ref q3, .ref q4, .ref q5, .ref q6, .ref q7, .ref q8, .ref q9, .ref q10, .ref q11, .ref q12])), (q1, .inl (E.2.2 0, 36, .inl (fun _ => 0))), (q2, .inl (E.2.2 2, 12, .inr (.inl (fun _ => 0)))), (q3, .inl (E.2.2 0, 6, .inl (fun _ => 0))), (q4, .inl (E.2.2 0, 6, .inl (fun _ => 0))), (q5, .inl (E.2.2 0, 6, .inl (fun _ => 0))), (q6, .inl (E.2.2 0, 10, .inl (fun _ => 0))), (q7, .inl (E.2.2 0, 10, .inl (fun _ => 0))), (q8, .inl (E.2.2 0, 10, .inl (fun _ => 0))), (q9, .inl (E.2.2 0, 10, .inl (fun _ => 0))), (q10, .inl (E.2.2 0, 10, .inl (fun _ => 0))), (q11, .inl (E.2.2 0, 10, .inl (fun _ => 0))), (q12, .inl (E.2.2 0, 60, .inl (fun _ => 0)))]) rfl rfl ⟨rfl, fun k => ([h0, q1, q2, q3, q4, q5, q6, q7, q8, q9, q10, q11, q12] : List Nat).getD k 0, rfl, rfl⟩ (by decide +kernel)

set_option maxHeartbeats 4000000 in
set_option maxRecDepth 100000 in
theorem k_Ledger (E : mp_E) (h0 : Nat) : mp_Ct E yX1_init cX1_init 1 none 1 2 39 12 [.ref h0] [(h0, .inr (1, [.null, .int 0, .int 0, .null]))] (fun v w' => v = none ∧ ∃ b : Nat → Nat, b 0 = h0 ∧ w' = [(h0, .inr (1, [.ref (b 1), .int 0, .int 0, .ref (b 2)])), ((b 1), .inl (E.2.2 0, 36, .inl (fun _ => 0))), ((b 2), .inl (E.2.2 0, 3, .inl (fun _ => 0)))]) := by
  refine mp_met true (by decide) (by decide) (Nat.le_of_ble_eq_true rfl) (fun X hF hQ => ?_)
  have hF : mp_F E X (RX1, cX1_init, 1, (1, 2, 39, 12), none, true) := hF
  show mp_W E X 1 0 [(0, .ref h0)] [] [(h0, .inr (1, [.null, .int 0, .int 0, .null]))] 0 0
  refine mp_run hF mp_tabX1_ok [mp_i (.aload_n 0)] (by decide +kernel) ?_
  show mp_W E X 1 1 [(0, .ref h0)] [.ref h0] [(h0, .inr (1, [.null, .int 0, .int 0, .null]))] 0 0
  refine mp_objInit hF (idx := 3) (mp_gm (j := 1234) (by decide +kernel)) ⟨(Nat.le_of_ble_eq_true rfl), (Nat.le_of_ble_eq_true rfl)⟩ (by decide +kernel) ?_
  show mp_W E X 1 4 [(0, .ref h0)] [] [(h0, .inr (1, [.null, .int 0, .int 0, .null]))] 0 0
  refine mp_run hF mp_tabX1_ok [mp_i (.aload_n 0), mp_c (.bipush 36) 36, mp_h (.newarray .int) [36], mp_h (.putfield 9) [5, 0]] (by decide +kernel) ?_
  refine And.intro (by decide) (And.intro (Nat.le_of_ble_eq_true rfl) (And.intro (Nat.le_of_ble_eq_true rfl) (And.intro (by decide) ?_)))
  intro q1
  refine And.intro rfl (And.intro rfl (And.intro rfl (And.intro rfl (And.intro (Nat.le_of_ble_eq_true rfl) ?_))))
  show mp_W E X 1 12 [(0, .ref h0)] [] [(h0, .inr (1, [.ref q1, .int 0, .int 0, .null])), (q1, .inl (E.2.2 0, 36, .inl (fun _ => 0)))] 1 36
  refine mp_run hF mp_tabX1_ok [mp_i (.aload_n 0), mp_c (.iconst 3) 3, mp_h (.newarray .int) [3], mp_h (.putfield 15) [8, 0]] (by decide +kernel) ?_
  refine And.intro (by decide) (And.intro (Nat.le_of_ble_eq_true rfl) (And.intro (Nat.le_of_ble_eq_true rfl) (And.intro (by decide) ?_)))
  intro q2
  refine And.intro rfl (And.intro rfl (And.intro rfl (And.intro rfl (And.intro (Nat.le_of_ble_eq_true rfl) ?_))))
  show mp_W E X 1 19 [(0, .ref h0)] [] [(h0, .inr (1, [.ref q1, .int 0, .int 0, .ref q2])), (q1, .inl (E.2.2 0, 36, .inl (fun _ => 0))), (q2, .inl (E.2.2 0, 3, .inl (fun _ => 0)))] 2 39
  exact mp_vret hF hQ rfl (Nat.le_of_ble_eq_true rfl) (Nat.le_of_ble_eq_true rfl) [0, 1, 2] (w' := [(h0, .inr (1, [.ref q1, .int 0, .int 0, .ref q2])), (q1, .inl (E.2.2 0, 36, .inl (fun _ => 0))), (q2, .inl (E.2.2 0, 3, .inl (fun _ => 0)))]) rfl rfl ⟨rfl, fun k => ([h0, q1, q2] : List Nat).getD k 0, rfl, rfl⟩ (by decide +kernel)

set_option maxHeartbeats 4000000 in
set_option maxRecDepth 100000 in
theorem k_Planner (E : mp_E) (h0 : Nat) : mp_Ct E yX2_init cX2_init 1 none 1 5 1092 12 [.ref h0] [(h0, .inr (2, [.int 0, .int 0, .int 0, .int 0, .null, .null, .null, .null, .null, .int 0, .int 0]))] (fun v w' => v = none ∧ ∃ b : Nat → Nat, b 0 = h0 ∧ w' = [(h0, .inr (2, [.int 0, .int 0, .int 0, .int 0, .ref (b 1), .ref (b 2), .ref (b 3), .ref (b 4), .ref (b 5), .int 0, .int 0])), ((b 1), .inl (E.2.2 0, 432, .inl (fun _ => 0))), ((b 2), .inl (E.2.2 0, 432, .inl (fun _ => 0))), ((b 3), .inl (E.2.2 0, 72, .inl (fun _ => 0))), ((b 4), .inl (E.2.2 0, 78, .inl (fun _ => 0))), ((b 5), .inl (E.2.2 2, 78, .inr (.inl (fun _ => 0))))]) := by
  refine mp_met true (by decide) (by decide) (Nat.le_of_ble_eq_true rfl) (fun X hF hQ => ?_)
  have hF : mp_F E X (RX2, cX2_init, 1, (1, 5, 1092, 12), none, true) := hF
  show mp_W E X 1 0 [(0, .ref h0)] [] [(h0, .inr (2, [.int 0, .int 0, .int 0, .int 0, .null, .null, .null, .null, .null, .int 0, .int 0]))] 0 0
  refine mp_run hF mp_tabX2_ok [mp_i (.aload_n 0)] (by decide +kernel) ?_
  show mp_W E X 1 1 [(0, .ref h0)] [.ref h0] [(h0, .inr (2, [.int 0, .int 0, .int 0, .int 0, .null, .null, .null, .null, .null, .int 0, .int 0]))] 0 0
  refine mp_objInit hF (idx := 3) (mp_gm (j := 2015) (by decide +kernel)) ⟨(Nat.le_of_ble_eq_true rfl), (Nat.le_of_ble_eq_true rfl)⟩ (by decide +kernel) ?_
  show mp_W E X 1 4 [(0, .ref h0)] [] [(h0, .inr (2, [.int 0, .int 0, .int 0, .int 0, .null, .null, .null, .null, .null, .int 0, .int 0]))] 0 0
  refine mp_run hF mp_tabX2_ok [mp_i (.aload_n 0), mp_c (.sipush 432) 432, mp_h (.newarray .int) [432], mp_h (.putfield 11) [11, 0]] (by decide +kernel) ?_
  refine And.intro (by decide) (And.intro (Nat.le_of_ble_eq_true rfl) (And.intro (Nat.le_of_ble_eq_true rfl) (And.intro (by decide) ?_)))
  intro q1
  refine And.intro rfl (And.intro rfl (And.intro rfl (And.intro rfl (And.intro (Nat.le_of_ble_eq_true rfl) ?_))))
  show mp_W E X 1 13 [(0, .ref h0)] [] [(h0, .inr (2, [.int 0, .int 0, .int 0, .int 0, .ref q1, .null, .null, .null, .null, .int 0, .int 0])), (q1, .inl (E.2.2 0, 432, .inl (fun _ => 0)))] 1 432
  refine mp_run hF mp_tabX2_ok [mp_i (.aload_n 0), mp_c (.sipush 432) 432, mp_h (.newarray .int) [432], mp_h (.putfield 15) [12, 0]] (by decide +kernel) ?_
  refine And.intro (by decide) (And.intro (Nat.le_of_ble_eq_true rfl) (And.intro (Nat.le_of_ble_eq_true rfl) (And.intro (by decide) ?_)))
  intro q2
  refine And.intro rfl (And.intro rfl (And.intro rfl (And.intro rfl (And.intro (Nat.le_of_ble_eq_true rfl) ?_))))
  show mp_W E X 1 22 [(0, .ref h0)] [] [(h0, .inr (2, [.int 0, .int 0, .int 0, .int 0, .ref q1, .ref q2, .null, .null, .null, .int 0, .int 0])), (q1, .inl (E.2.2 0, 432, .inl (fun _ => 0))), (q2, .inl (E.2.2 0, 432, .inl (fun _ => 0)))] 2 864
  refine mp_run hF mp_tabX2_ok [mp_i (.aload_n 0), mp_c (.bipush 72) 72, mp_h (.newarray .int) [72], mp_h (.putfield 18) [13, 0]] (by decide +kernel) ?_
  refine And.intro (by decide) (And.intro (Nat.le_of_ble_eq_true rfl) (And.intro (Nat.le_of_ble_eq_true rfl) (And.intro (by decide) ?_)))
  intro q3
  refine And.intro rfl (And.intro rfl (And.intro rfl (And.intro rfl (And.intro (Nat.le_of_ble_eq_true rfl) ?_))))
  show mp_W E X 1 30 [(0, .ref h0)] [] [(h0, .inr (2, [.int 0, .int 0, .int 0, .int 0, .ref q1, .ref q2, .ref q3, .null, .null, .int 0, .int 0])), (q1, .inl (E.2.2 0, 432, .inl (fun _ => 0))), (q2, .inl (E.2.2 0, 432, .inl (fun _ => 0))), (q3, .inl (E.2.2 0, 72, .inl (fun _ => 0)))] 3 936
  refine mp_run hF mp_tabX2_ok [mp_i (.aload_n 0), mp_c (.bipush 78) 78, mp_h (.newarray .int) [78], mp_h (.putfield 21) [14, 0]] (by decide +kernel) ?_
  refine And.intro (by decide) (And.intro (Nat.le_of_ble_eq_true rfl) (And.intro (Nat.le_of_ble_eq_true rfl) (And.intro (by decide) ?_)))
  intro q4
  refine And.intro rfl (And.intro rfl (And.intro rfl (And.intro rfl (And.intro (Nat.le_of_ble_eq_true rfl) ?_))))
  show mp_W E X 1 38 [(0, .ref h0)] [] [(h0, .inr (2, [.int 0, .int 0, .int 0, .int 0, .ref q1, .ref q2, .ref q3, .ref q4, .null, .int 0, .int 0])), (q1, .inl (E.2.2 0, 432, .inl (fun _ => 0))), (q2, .inl (E.2.2 0, 432, .inl (fun _ => 0))), (q3, .inl (E.2.2 0, 72, .inl (fun _ => 0))), (q4, .inl (E.2.2 0, 78, .inl (fun _ => 0)))] 4 1014
  refine mp_run hF mp_tabX2_ok [mp_i (.aload_n 0), mp_c (.bipush 78) 78, mp_h (.newarray .long) [78], mp_h (.putfield 24) [15, 0]] (by decide +kernel) ?_
  refine And.intro (by decide) (And.intro (Nat.le_of_ble_eq_true rfl) (And.intro (Nat.le_of_ble_eq_true rfl) (And.intro (by decide) ?_)))
  intro q5
  refine And.intro rfl (And.intro rfl (And.intro rfl (And.intro rfl (And.intro (Nat.le_of_ble_eq_true rfl) ?_))))
  show mp_W E X 1 46 [(0, .ref h0)] [] [(h0, .inr (2, [.int 0, .int 0, .int 0, .int 0, .ref q1, .ref q2, .ref q3, .ref q4, .ref q5, .int 0, .int 0])), (q1, .inl (E.2.2 0, 432, .inl (fun _ => 0))), (q2, .inl (E.2.2 0, 432, .inl (fun _ => 0))), (q3, .inl (E.2.2 0, 72, .inl (fun _ => 0))), (q4, .inl (E.2.2 0, 78, .inl (fun _ => 0))), (q5, .inl (E.2.2 2, 78, .inr (.inl (fun _ => 0))))] 5 1092
  exact mp_vret hF hQ rfl (Nat.le_of_ble_eq_true rfl) (Nat.le_of_ble_eq_true rfl) [0, 1, 2, 3, 4, 5] (w' := [(h0, .inr (2, [.int 0, .int 0, .int 0, .int 0, .ref q1, .ref q2, .ref q3, .ref q4, .ref q5, .int 0, .int 0])), (q1, .inl (E.2.2 0, 432, .inl (fun _ => 0))), (q2, .inl (E.2.2 0, 432, .inl (fun _ => 0))), (q3, .inl (E.2.2 0, 72, .inl (fun _ => 0))), (q4, .inl (E.2.2 0, 78, .inl (fun _ => 0))), (q5, .inl (E.2.2 2, 78, .inr (.inl (fun _ => 0))))]) rfl rfl ⟨rfl, fun k => ([h0, q1, q2, q3, q4, q5] : List Nat).getD k 0, rfl, rfl⟩ (by decide +kernel)

set_option maxHeartbeats 4000000 in
set_option maxRecDepth 100000 in
theorem k_Scales (E : mp_E) (h0 : Nat) : mp_Ct E yX4_init cX4_init 1 none 1 2 143 12 [.ref h0] [(h0, .inr (4, [.int 0, .int 0, .int 0, .null, .int 0, .int 0, .int 0, .int 0, .int 0, .null]))] (fun v w' => v = none ∧ ∃ b : Nat → Nat, b 0 = h0 ∧ w' = [(h0, .inr (4, [.int 0, .int 0, .int 0, .ref (b 1), .int 0, .int 0, .int 0, .int 0, .int 0, .ref (b 2)])), ((b 1), .inl (E.2.2 0, 11, .inl (fun _ => 0))), ((b 2), .inl (E.2.2 0, 132, .inl (fun _ => 0)))]) := by
  refine mp_met true (by decide) (by decide) (Nat.le_of_ble_eq_true rfl) (fun X hF hQ => ?_)
  have hF : mp_F E X (RX4, cX4_init, 1, (1, 2, 143, 12), none, true) := hF
  show mp_W E X 1 0 [(0, .ref h0)] [] [(h0, .inr (4, [.int 0, .int 0, .int 0, .null, .int 0, .int 0, .int 0, .int 0, .int 0, .null]))] 0 0
  refine mp_run hF mp_tabX4_ok [mp_i (.aload_n 0)] (by decide +kernel) ?_
  show mp_W E X 1 1 [(0, .ref h0)] [.ref h0] [(h0, .inr (4, [.int 0, .int 0, .int 0, .null, .int 0, .int 0, .int 0, .int 0, .int 0, .null]))] 0 0
  refine mp_objInit hF (idx := 3) (mp_gm (j := 2057) (by decide +kernel)) ⟨(Nat.le_of_ble_eq_true rfl), (Nat.le_of_ble_eq_true rfl)⟩ (by decide +kernel) ?_
  show mp_W E X 1 4 [(0, .ref h0)] [] [(h0, .inr (4, [.int 0, .int 0, .int 0, .null, .int 0, .int 0, .int 0, .int 0, .int 0, .null]))] 0 0
  refine mp_run hF mp_tabX4_ok [mp_i (.aload_n 0), mp_c (.bipush 11) 11, mp_h (.newarray .int) [11], mp_h (.putfield 11) [6, 0]] (by decide +kernel) ?_
  refine And.intro (by decide) (And.intro (Nat.le_of_ble_eq_true rfl) (And.intro (Nat.le_of_ble_eq_true rfl) (And.intro (by decide) ?_)))
  intro q1
  refine And.intro rfl (And.intro rfl (And.intro rfl (And.intro rfl (And.intro (Nat.le_of_ble_eq_true rfl) ?_))))
  show mp_W E X 1 12 [(0, .ref h0)] [] [(h0, .inr (4, [.int 0, .int 0, .int 0, .ref q1, .int 0, .int 0, .int 0, .int 0, .int 0, .null])), (q1, .inl (E.2.2 0, 11, .inl (fun _ => 0)))] 1 11
  refine mp_run hF mp_tabX4_ok [mp_i (.aload_n 0), mp_c (.sipush 132) 132, mp_h (.newarray .int) [132], mp_h (.putfield 15) [12, 0]] (by decide +kernel) ?_
  refine And.intro (by decide) (And.intro (Nat.le_of_ble_eq_true rfl) (And.intro (Nat.le_of_ble_eq_true rfl) (And.intro (by decide) ?_)))
  intro q2
  refine And.intro rfl (And.intro rfl (And.intro rfl (And.intro rfl (And.intro (Nat.le_of_ble_eq_true rfl) ?_))))
  show mp_W E X 1 21 [(0, .ref h0)] [] [(h0, .inr (4, [.int 0, .int 0, .int 0, .ref q1, .int 0, .int 0, .int 0, .int 0, .int 0, .ref q2])), (q1, .inl (E.2.2 0, 11, .inl (fun _ => 0))), (q2, .inl (E.2.2 0, 132, .inl (fun _ => 0)))] 2 143
  exact mp_vret hF hQ rfl (Nat.le_of_ble_eq_true rfl) (Nat.le_of_ble_eq_true rfl) [0, 1, 2] (w' := [(h0, .inr (4, [.int 0, .int 0, .int 0, .ref q1, .int 0, .int 0, .int 0, .int 0, .int 0, .ref q2])), (q1, .inl (E.2.2 0, 11, .inl (fun _ => 0))), (q2, .inl (E.2.2 0, 132, .inl (fun _ => 0)))]) rfl rfl ⟨rfl, fun k => ([h0, q1, q2] : List Nat).getD k 0, rfl, rfl⟩ (by decide +kernel)

set_option maxHeartbeats 4000000 in
set_option maxRecDepth 100000 in
theorem k_Years (E : mp_E) (h0 : Nat) : mp_Ct E yX8_init cX8_init 1 none 1 1 10 12 [.ref h0] [(h0, .inr (8, [.null, .int 0, .int 0]))] (fun v w' => v = none ∧ ∃ b : Nat → Nat, b 0 = h0 ∧ w' = [(h0, .inr (8, [.ref (b 1), .int 0, .int 0])), ((b 1), .inl (E.2.2 0, 10, .inl (fun _ => 0)))]) := by
  refine mp_met true (by decide) (by decide) (Nat.le_of_ble_eq_true rfl) (fun X hF hQ => ?_)
  have hF : mp_F E X (RX8, cX8_init, 1, (1, 1, 10, 12), none, true) := hF
  show mp_W E X 1 0 [(0, .ref h0)] [] [(h0, .inr (8, [.null, .int 0, .int 0]))] 0 0
  refine mp_run hF mp_tabX8_ok [mp_i (.aload_n 0)] (by decide +kernel) ?_
  show mp_W E X 1 1 [(0, .ref h0)] [.ref h0] [(h0, .inr (8, [.null, .int 0, .int 0]))] 0 0
  refine mp_objInit hF (idx := 3) (mp_gm (j := 2114) (by decide +kernel)) ⟨(Nat.le_of_ble_eq_true rfl), (Nat.le_of_ble_eq_true rfl)⟩ (by decide +kernel) ?_
  show mp_W E X 1 4 [(0, .ref h0)] [] [(h0, .inr (8, [.null, .int 0, .int 0]))] 0 0
  refine mp_run hF mp_tabX8_ok [mp_i (.aload_n 0), mp_c (.bipush 10) 10, mp_h (.newarray .int) [10], mp_h (.putfield 9) [5, 0]] (by decide +kernel) ?_
  refine And.intro (by decide) (And.intro (Nat.le_of_ble_eq_true rfl) (And.intro (Nat.le_of_ble_eq_true rfl) (And.intro (by decide) ?_)))
  intro q1
  refine And.intro rfl (And.intro rfl (And.intro rfl (And.intro rfl (And.intro (Nat.le_of_ble_eq_true rfl) ?_))))
  show mp_W E X 1 12 [(0, .ref h0)] [] [(h0, .inr (8, [.ref q1, .int 0, .int 0])), (q1, .inl (E.2.2 0, 10, .inl (fun _ => 0)))] 1 10
  exact mp_vret hF hQ rfl (Nat.le_of_ble_eq_true rfl) (Nat.le_of_ble_eq_true rfl) [0, 1] (w' := [(h0, .inr (8, [.ref q1, .int 0, .int 0])), (q1, .inl (E.2.2 0, 10, .inl (fun _ => 0)))]) rfl rfl ⟨rfl, fun k => ([h0, q1] : List Nat).getD k 0, rfl, rfl⟩ (by decide +kernel)

set_option maxHeartbeats 4000000 in
set_option maxRecDepth 100000 in
theorem k_Slots (E : mp_E) (h0 : Nat) : mp_Ct E yX5_init cX5_init 2 none 1 3 248 12 [.ref h0] [(h0, .inr (5, [.null, .null, .null]))] (fun v w' => v = none ∧ ∃ b : Nat → Nat, ∃ ln : Nat → Int32, b 0 = h0 ∧ (∀ j, j < 4 → ln j = -1) ∧ w' = [(h0, .inr (5, [.ref (b 1), .ref (b 2), .ref (b 3)])), ((b 1), .inl (E.2.2 2, 240, .inr (.inl (fun _ => 0)))), ((b 2), .inl (E.2.2 0, 4, .inl (fun _ => 0))), ((b 3), .inl (E.2.2 0, 4, .inl ln))]) := by
  refine mp_met true (by decide) (by decide) (Nat.le_of_ble_eq_true rfl) (fun X hF hQ => ?_)
  have hF : mp_F E X (RX5, cX5_init, 2, (1, 3, 248, 12), none, true) := hF
  show mp_W E X 2 0 [(0, .ref h0)] [] [(h0, .inr (5, [.null, .null, .null]))] 0 0
  refine mp_run hF mp_tabX5_ok [mp_i (.aload_n 0)] (by decide +kernel) ?_
  show mp_W E X 2 1 [(0, .ref h0)] [.ref h0] [(h0, .inr (5, [.null, .null, .null]))] 0 0
  refine mp_objInit hF (idx := 3) (mp_gm (j := 2132) (by decide +kernel)) ⟨(Nat.le_of_ble_eq_true rfl), (Nat.le_of_ble_eq_true rfl)⟩ (by decide +kernel) ?_
  show mp_W E X 2 4 [(0, .ref h0)] [] [(h0, .inr (5, [.null, .null, .null]))] 0 0
  refine mp_run hF mp_tabX5_ok [mp_i (.aload_n 0), mp_c (.sipush 240) 240, mp_h (.newarray .long) [240], mp_h (.putfield 9) [0, 0]] (by decide +kernel) ?_
  refine And.intro (by decide) (And.intro (Nat.le_of_ble_eq_true rfl) (And.intro (Nat.le_of_ble_eq_true rfl) (And.intro (by decide) ?_)))
  intro q1
  refine And.intro rfl (And.intro rfl (And.intro rfl (And.intro rfl (And.intro (Nat.le_of_ble_eq_true rfl) ?_))))
  show mp_W E X 2 13 [(0, .ref h0)] [] [(h0, .inr (5, [.ref q1, .null, .null])), (q1, .inl (E.2.2 2, 240, .inr (.inl (fun _ => 0))))] 1 240
  refine mp_run hF mp_tabX5_ok [mp_i (.aload_n 0), mp_c (.iconst 4) 4, mp_h (.newarray .int) [4], mp_h (.putfield 15) [1, 0]] (by decide +kernel) ?_
  refine And.intro (by decide) (And.intro (Nat.le_of_ble_eq_true rfl) (And.intro (Nat.le_of_ble_eq_true rfl) (And.intro (by decide) ?_)))
  intro q2
  refine And.intro rfl (And.intro rfl (And.intro rfl (And.intro rfl (And.intro (Nat.le_of_ble_eq_true rfl) ?_))))
  show mp_W E X 2 20 [(0, .ref h0)] [] [(h0, .inr (5, [.ref q1, .ref q2, .null])), (q1, .inl (E.2.2 2, 240, .inr (.inl (fun _ => 0)))), (q2, .inl (E.2.2 0, 4, .inl (fun _ => 0)))] 2 244
  refine mp_run hF mp_tabX5_ok [mp_i (.aload_n 0), mp_c (.iconst 4) 4, mp_h (.newarray .int) [4], mp_h (.putfield 19) [2, 0]] (by decide +kernel) ?_
  refine And.intro (by decide) (And.intro (Nat.le_of_ble_eq_true rfl) (And.intro (Nat.le_of_ble_eq_true rfl) (And.intro (by decide) ?_)))
  intro q3
  refine And.intro rfl (And.intro rfl (And.intro rfl (And.intro rfl (And.intro (Nat.le_of_ble_eq_true rfl) ?_))))
  show mp_W E X 2 27 [(0, .ref h0)] [] [(h0, .inr (5, [.ref q1, .ref q2, .ref q3])), (q1, .inl (E.2.2 2, 240, .inr (.inl (fun _ => 0)))), (q2, .inl (E.2.2 0, 4, .inl (fun _ => 0))), (q3, .inl (E.2.2 0, 4, .inl (fun _ => 0)))] 3 248
  refine mp_run hF mp_tabX5_ok [mp_c (.iconst 0) 0, mp_i (.istore_n 1), mp_i (.iload_n 1), mp_c (.iconst 4) 4, mp_h (.if_icmp .ge 16) [47]] (by decide +kernel) ?_
  refine And.intro (fun c4 => absurd c4 (by decide)) (fun _ => ?_)
  show mp_W E X 2 34 [(1, .int 0), (0, .ref h0)] [] [(h0, .inr (5, [.ref q1, .ref q2, .ref q3])), (q1, .inl (E.2.2 2, 240, .inr (.inl (fun _ => 0)))), (q2, .inl (E.2.2 0, 4, .inl (fun _ => 0))), (q3, .inl (E.2.2 0, 4, .inl (fun _ => 0)))] 3 248
  refine mp_run hF mp_tabX5_ok [mp_i (.aload_n 0), mp_h (.getfield 19) [2, 0], mp_i (.iload_n 1), mp_c (.iconst (-1)) (-1), mp_h .iastore [3]] (by decide +kernel) ?_
  refine And.intro rfl (And.intro rfl ?_)
  refine And.intro rfl (And.intro rfl (And.intro (vp_in_iff.mpr (by decide)) ?_))
  intro g5 h6
  show mp_W E X 2 41 [(1, .int 0), (0, .ref h0)] [] [(h0, .inr (5, [.ref q1, .ref q2, .ref q3])), (q1, .inl (E.2.2 2, 240, .inr (.inl (fun _ => 0)))), (q2, .inl (E.2.2 0, 4, .inl (fun _ => 0))), (q3, .inl (E.2.2 0, 4, .inl g5))] 3 248
  refine mp_run hF mp_tabX5_ok [mp_c (.iinc 1 1) 1, mp_h (.goto (-15)) [29], mp_i (.iload_n 1), mp_c (.iconst 4) 4, mp_h (.if_icmp .ge 16) [47]] (by decide +kernel) ?_
  intro z7 h8
  obtain rfl : z7 = 1 := h8.trans (by decide)
  refine And.intro (fun c9 => absurd c9 (by decide)) (fun _ => ?_)
  show mp_W E X 2 34 [(1, .int 1), (0, .ref h0)] [] [(h0, .inr (5, [.ref q1, .ref q2, .ref q3])), (q1, .inl (E.2.2 2, 240, .inr (.inl (fun _ => 0)))), (q2, .inl (E.2.2 0, 4, .inl (fun _ => 0))), (q3, .inl (E.2.2 0, 4, .inl g5))] 3 248
  refine mp_run hF mp_tabX5_ok [mp_i (.aload_n 0), mp_h (.getfield 19) [2, 0], mp_i (.iload_n 1), mp_c (.iconst (-1)) (-1), mp_h .iastore [3]] (by decide +kernel) ?_
  refine And.intro rfl (And.intro rfl ?_)
  refine And.intro rfl (And.intro rfl (And.intro (vp_in_iff.mpr (by decide)) ?_))
  intro g10 h11
  show mp_W E X 2 41 [(1, .int 1), (0, .ref h0)] [] [(h0, .inr (5, [.ref q1, .ref q2, .ref q3])), (q1, .inl (E.2.2 2, 240, .inr (.inl (fun _ => 0)))), (q2, .inl (E.2.2 0, 4, .inl (fun _ => 0))), (q3, .inl (E.2.2 0, 4, .inl g10))] 3 248
  refine mp_run hF mp_tabX5_ok [mp_c (.iinc 1 1) 1, mp_h (.goto (-15)) [29], mp_i (.iload_n 1), mp_c (.iconst 4) 4, mp_h (.if_icmp .ge 16) [47]] (by decide +kernel) ?_
  intro z12 h13
  obtain rfl : z12 = 2 := h13.trans (by decide)
  refine And.intro (fun c14 => absurd c14 (by decide)) (fun _ => ?_)
  show mp_W E X 2 34 [(1, .int 2), (0, .ref h0)] [] [(h0, .inr (5, [.ref q1, .ref q2, .ref q3])), (q1, .inl (E.2.2 2, 240, .inr (.inl (fun _ => 0)))), (q2, .inl (E.2.2 0, 4, .inl (fun _ => 0))), (q3, .inl (E.2.2 0, 4, .inl g10))] 3 248
  refine mp_run hF mp_tabX5_ok [mp_i (.aload_n 0), mp_h (.getfield 19) [2, 0], mp_i (.iload_n 1), mp_c (.iconst (-1)) (-1), mp_h .iastore [3]] (by decide +kernel) ?_
  refine And.intro rfl (And.intro rfl ?_)
  refine And.intro rfl (And.intro rfl (And.intro (vp_in_iff.mpr (by decide)) ?_))
  intro g15 h16
  show mp_W E X 2 41 [(1, .int 2), (0, .ref h0)] [] [(h0, .inr (5, [.ref q1, .ref q2, .ref q3])), (q1, .inl (E.2.2 2, 240, .inr (.inl (fun _ => 0)))), (q2, .inl (E.2.2 0, 4, .inl (fun _ => 0))), (q3, .inl (E.2.2 0, 4, .inl g15))] 3 248
  refine mp_run hF mp_tabX5_ok [mp_c (.iinc 1 1) 1, mp_h (.goto (-15)) [29], mp_i (.iload_n 1), mp_c (.iconst 4) 4, mp_h (.if_icmp .ge 16) [47]] (by decide +kernel) ?_
  intro z17 h18
  obtain rfl : z17 = 3 := h18.trans (by decide)
  refine And.intro (fun c19 => absurd c19 (by decide)) (fun _ => ?_)
  show mp_W E X 2 34 [(1, .int 3), (0, .ref h0)] [] [(h0, .inr (5, [.ref q1, .ref q2, .ref q3])), (q1, .inl (E.2.2 2, 240, .inr (.inl (fun _ => 0)))), (q2, .inl (E.2.2 0, 4, .inl (fun _ => 0))), (q3, .inl (E.2.2 0, 4, .inl g15))] 3 248
  refine mp_run hF mp_tabX5_ok [mp_i (.aload_n 0), mp_h (.getfield 19) [2, 0], mp_i (.iload_n 1), mp_c (.iconst (-1)) (-1), mp_h .iastore [3]] (by decide +kernel) ?_
  refine And.intro rfl (And.intro rfl ?_)
  refine And.intro rfl (And.intro rfl (And.intro (vp_in_iff.mpr (by decide)) ?_))
  intro g20 h21
  show mp_W E X 2 41 [(1, .int 3), (0, .ref h0)] [] [(h0, .inr (5, [.ref q1, .ref q2, .ref q3])), (q1, .inl (E.2.2 2, 240, .inr (.inl (fun _ => 0)))), (q2, .inl (E.2.2 0, 4, .inl (fun _ => 0))), (q3, .inl (E.2.2 0, 4, .inl g20))] 3 248
  refine mp_run hF mp_tabX5_ok [mp_c (.iinc 1 1) 1, mp_h (.goto (-15)) [29], mp_i (.iload_n 1), mp_c (.iconst 4) 4, mp_h (.if_icmp .ge 16) [47]] (by decide +kernel) ?_
  intro z22 h23
  obtain rfl : z22 = 4 := h23.trans (by decide)
  refine And.intro (fun _ => ?_) (fun c24 => absurd c24 (by decide))
  show mp_W E X 2 47 [(1, .int 4), (0, .ref h0)] [] [(h0, .inr (5, [.ref q1, .ref q2, .ref q3])), (q1, .inl (E.2.2 2, 240, .inr (.inl (fun _ => 0)))), (q2, .inl (E.2.2 0, 4, .inl (fun _ => 0))), (q3, .inl (E.2.2 0, 4, .inl g20))] 3 248
  exact mp_vret hF hQ rfl (Nat.le_of_ble_eq_true rfl) (Nat.le_of_ble_eq_true rfl) [0, 1, 2, 3] (w' := [(h0, .inr (5, [.ref q1, .ref q2, .ref q3])), (q1, .inl (E.2.2 2, 240, .inr (.inl (fun _ => 0)))), (q2, .inl (E.2.2 0, 4, .inl (fun _ => 0))), (q3, .inl (E.2.2 0, 4, .inl g20))]) rfl rfl ⟨rfl, fun k => ([h0, q1, q2, q3] : List Nat).getD k 0, g20, rfl, (by intro j hj; rw [h21, h16, h11, h6]; have h9 : j = 0 ∨ j = 1 ∨ j = 2 ∨ j = 3 := (by omega); rcases h9 with rfl | rfl | rfl | rfl <;> rfl), rfl⟩ (by decide +kernel)

set_option maxHeartbeats 4000000 in
set_option maxRecDepth 100000 in
theorem k_Reader (E : mp_E) (h0 : Nat) : mp_Ct E yX3_init cX3_init 1 none 2 14 1804 32 [.ref h0] [(h0, .inr (3, [.null, .int 0, .null, .int 0, .int 0, .int 0, .int 0, .int 0, .int 0, .int 0]))] (fun v w' => v = none ∧ ∃ b : Nat → Nat, b 0 = h0 ∧ w' = [(h0, .inr (3, [.ref (b 1), .int 0, .ref (b 2), .int 0, .int (-1), .int 0, .int 0, .int 0, .int 0, .int 0])), ((b 1), .inl (E.2.2 1, 1600, .inl (fun _ => 0))), ((b 2), .inr (7, [.int 0, .int 0, .int 0, .int 0, .int 0, .int 0, .ref (b 3), .ref (b 4), .ref (b 5), .ref (b 6), .ref (b 7), .ref (b 8), .ref (b 9), .ref (b 10), .ref (b 11), .ref (b 12), .ref (b 13), .ref (b 14)])), ((b 3), .inl (E.2.2 0, 36, .inl (fun _ => 0))), ((b 4), .inl (E.2.2 2, 12, .inr (.inl (fun _ => 0)))), ((b 5), .inl (E.2.2 0, 6, .inl (fun _ => 0))), ((b 6), .inl (E.2.2 0, 6, .inl (fun _ => 0))), ((b 7), .inl (E.2.2 0, 6, .inl (fun _ => 0))), ((b 8), .inl (E.2.2 0, 10, .inl (fun _ => 0))), ((b 9), .inl (E.2.2 0, 10, .inl (fun _ => 0))), ((b 10), .inl (E.2.2 0, 10, .inl (fun _ => 0))), ((b 11), .inl (E.2.2 0, 10, .inl (fun _ => 0))), ((b 12), .inl (E.2.2 0, 10, .inl (fun _ => 0))), ((b 13), .inl (E.2.2 0, 10, .inl (fun _ => 0))), ((b 14), .inl (E.2.2 0, 60, .inl (fun _ => 0)))]) := by
  refine mp_met true (by decide) (by decide) (Nat.le_of_ble_eq_true rfl) (fun X hF hQ => ?_)
  have hF : mp_F E X (RX3, cX3_init, 1, (2, 14, 1804, 32), none, true) := hF
  show mp_W E X 1 0 [(0, .ref h0)] [] [(h0, .inr (3, [.null, .int 0, .null, .int 0, .int 0, .int 0, .int 0, .int 0, .int 0, .int 0]))] 0 0
  refine mp_run hF mp_tabX3_ok [mp_i (.aload_n 0)] (by decide +kernel) ?_
  show mp_W E X 1 1 [(0, .ref h0)] [.ref h0] [(h0, .inr (3, [.null, .int 0, .null, .int 0, .int 0, .int 0, .int 0, .int 0, .int 0, .int 0]))] 0 0
  refine mp_objInit hF (idx := 3) (mp_gm (j := 1034) (by decide +kernel)) ⟨(Nat.le_of_ble_eq_true rfl), (Nat.le_of_ble_eq_true rfl)⟩ (by decide +kernel) ?_
  show mp_W E X 1 4 [(0, .ref h0)] [] [(h0, .inr (3, [.null, .int 0, .null, .int 0, .int 0, .int 0, .int 0, .int 0, .int 0, .int 0]))] 0 0
  refine mp_run hF mp_tabX3_ok [mp_i (.aload_n 0), mp_c (.sipush 1600) 1600, mp_h (.newarray .byte) [1600], mp_h (.putfield 9) [9, 0]] (by decide +kernel) ?_
  refine And.intro (by decide) (And.intro (Nat.le_of_ble_eq_true rfl) (And.intro (Nat.le_of_ble_eq_true rfl) (And.intro (by decide) ?_)))
  intro q1
  refine And.intro rfl (And.intro rfl (And.intro rfl (And.intro rfl (And.intro (Nat.le_of_ble_eq_true rfl) ?_))))
  show mp_W E X 1 13 [(0, .ref h0)] [] [(h0, .inr (3, [.ref q1, .int 0, .null, .int 0, .int 0, .int 0, .int 0, .int 0, .int 0, .int 0])), (q1, .inl (E.2.2 1, 1600, .inl (fun _ => 0)))] 1 1600
  refine mp_run hF mp_tabX3_ok [mp_i (.aload_n 0)] (by decide +kernel) ?_
  show mp_W E X 1 14 [(0, .ref h0)] [.ref h0] [(h0, .inr (3, [.ref q1, .int 0, .null, .int 0, .int 0, .int 0, .int 0, .int 0, .int 0, .int 0])), (q1, .inl (E.2.2 1, 1600, .inl (fun _ => 0)))] 1 1600
  refine mp_new hF (mp_lnX3_15) ⟨(Nat.le_of_ble_eq_true rfl), (Nat.le_of_ble_eq_true rfl)⟩ (by decide +kernel) (fun q2 => ?_)
  show mp_W E X 1 17 [(0, .ref h0)] [.ref q2, .ref h0] [(h0, .inr (3, [.ref q1, .int 0, .null, .int 0, .int 0, .int 0, .int 0, .int 0, .int 0, .int 0])), (q1, .inl (E.2.2 1, 1600, .inl (fun _ => 0))), (q2, .inr (7, [.int 0, .int 0, .int 0, .int 0, .int 0, .int 0, .null, .null, .null, .null, .null, .null, .null, .null, .null, .null, .null, .null]))] 2 1618
  refine mp_run hF mp_tabX3_ok [mp_i .dup] (by decide +kernel) ?_
  refine And.intro rfl ?_
  show mp_W E X 1 18 [(0, .ref h0)] [.ref q2, .ref q2, .ref h0] [(h0, .inr (3, [.ref q1, .int 0, .null, .int 0, .int 0, .int 0, .int 0, .int 0, .int 0, .int 0])), (q1, .inl (E.2.2 1, 1600, .inl (fun _ => 0))), (q2, .inr (7, [.int 0, .int 0, .int 0, .int 0, .int 0, .int 0, .null, .null, .null, .null, .null, .null, .null, .null, .null, .null, .null, .null]))] 2 1618
  refine mp_callIN hF (As := []) (rest := [.ref q2, .ref h0]) (wr := [(h0, .inr (3, [.ref q1, .int 0, .null, .int 0, .int 0, .int 0, .int 0, .int 0, .int 0, .int 0])), (q1, .inl (E.2.2 1, 1600, .inl (fun _ => 0)))]) (k_Told E q2) rfl (mp_gm (j := 1038) (by decide +kernel)) mp_lkX3_17 [2] [0, 1] rfl rfl rfl rfl rfl ⟨(Nat.le_of_ble_eq_true rfl), (Nat.le_of_ble_eq_true rfl), (Nat.le_of_ble_eq_true rfl), (Nat.le_of_ble_eq_true rfl)⟩ (Nat.le_of_ble_eq_true rfl) (by decide +kernel) (fun v3 w4 h5 => ?_)
  obtain ⟨rfl, b6, h7, rfl⟩ := h5
  clear h7
  show mp_W E X 1 21 [(0, .ref h0)] [.ref q2, .ref h0] [(h0, .inr (3, [.ref q1, .int 0, .null, .int 0, .int 0, .int 0, .int 0, .int 0, .int 0, .int 0])), (q1, .inl (E.2.2 1, 1600, .inl (fun _ => 0))), (q2, .inr (7, [.int 0, .int 0, .int 0, .int 0, .int 0, .int 0, .ref (b6 1), .ref (b6 2), .ref (b6 3), .ref (b6 4), .ref (b6 5), .ref (b6 6), .ref (b6 7), .ref (b6 8), .ref (b6 9), .ref (b6 10), .ref (b6 11), .ref (b6 12)])), ((b6 1), .inl (E.2.2 0, 36, .inl (fun _ => 0))), ((b6 2), .inl (E.2.2 2, 12, .inr (.inl (fun _ => 0)))), ((b6 3), .inl (E.2.2 0, 6, .inl (fun _ => 0))), ((b6 4), .inl (E.2.2 0, 6, .inl (fun _ => 0))), ((b6 5), .inl (E.2.2 0, 6, .inl (fun _ => 0))), ((b6 6), .inl (E.2.2 0, 10, .inl (fun _ => 0))), ((b6 7), .inl (E.2.2 0, 10, .inl (fun _ => 0))), ((b6 8), .inl (E.2.2 0, 10, .inl (fun _ => 0))), ((b6 9), .inl (E.2.2 0, 10, .inl (fun _ => 0))), ((b6 10), .inl (E.2.2 0, 10, .inl (fun _ => 0))), ((b6 11), .inl (E.2.2 0, 10, .inl (fun _ => 0))), ((b6 12), .inl (E.2.2 0, 60, .inl (fun _ => 0)))] 14 1804
  refine mp_run hF mp_tabX3_ok [mp_h (.putfield 18) [11, 0]] (by decide +kernel) ?_
  refine And.intro rfl (And.intro rfl (And.intro rfl (And.intro rfl (And.intro (Nat.le_of_ble_eq_true rfl) ?_))))
  show mp_W E X 1 24 [(0, .ref h0)] [] [(h0, .inr (3, [.ref q1, .int 0, .ref q2, .int 0, .int 0, .int 0, .int 0, .int 0, .int 0, .int 0])), (q1, .inl (E.2.2 1, 1600, .inl (fun _ => 0))), (q2, .inr (7, [.int 0, .int 0, .int 0, .int 0, .int 0, .int 0, .ref (b6 1), .ref (b6 2), .ref (b6 3), .ref (b6 4), .ref (b6 5), .ref (b6 6), .ref (b6 7), .ref (b6 8), .ref (b6 9), .ref (b6 10), .ref (b6 11), .ref (b6 12)])), ((b6 1), .inl (E.2.2 0, 36, .inl (fun _ => 0))), ((b6 2), .inl (E.2.2 2, 12, .inr (.inl (fun _ => 0)))), ((b6 3), .inl (E.2.2 0, 6, .inl (fun _ => 0))), ((b6 4), .inl (E.2.2 0, 6, .inl (fun _ => 0))), ((b6 5), .inl (E.2.2 0, 6, .inl (fun _ => 0))), ((b6 6), .inl (E.2.2 0, 10, .inl (fun _ => 0))), ((b6 7), .inl (E.2.2 0, 10, .inl (fun _ => 0))), ((b6 8), .inl (E.2.2 0, 10, .inl (fun _ => 0))), ((b6 9), .inl (E.2.2 0, 10, .inl (fun _ => 0))), ((b6 10), .inl (E.2.2 0, 10, .inl (fun _ => 0))), ((b6 11), .inl (E.2.2 0, 10, .inl (fun _ => 0))), ((b6 12), .inl (E.2.2 0, 60, .inl (fun _ => 0)))] 14 1804
  refine mp_run hF mp_tabX3_ok [mp_i (.aload_n 0), mp_c (.iconst (-1)) (-1), mp_h (.putfield 22) [13, 0]] (by decide +kernel) ?_
  refine And.intro rfl (And.intro rfl (And.intro rfl (And.intro rfl (And.intro (Nat.le_of_ble_eq_true rfl) ?_))))
  show mp_W E X 1 29 [(0, .ref h0)] [] [(h0, .inr (3, [.ref q1, .int 0, .ref q2, .int 0, .int (-1), .int 0, .int 0, .int 0, .int 0, .int 0])), (q1, .inl (E.2.2 1, 1600, .inl (fun _ => 0))), (q2, .inr (7, [.int 0, .int 0, .int 0, .int 0, .int 0, .int 0, .ref (b6 1), .ref (b6 2), .ref (b6 3), .ref (b6 4), .ref (b6 5), .ref (b6 6), .ref (b6 7), .ref (b6 8), .ref (b6 9), .ref (b6 10), .ref (b6 11), .ref (b6 12)])), ((b6 1), .inl (E.2.2 0, 36, .inl (fun _ => 0))), ((b6 2), .inl (E.2.2 2, 12, .inr (.inl (fun _ => 0)))), ((b6 3), .inl (E.2.2 0, 6, .inl (fun _ => 0))), ((b6 4), .inl (E.2.2 0, 6, .inl (fun _ => 0))), ((b6 5), .inl (E.2.2 0, 6, .inl (fun _ => 0))), ((b6 6), .inl (E.2.2 0, 10, .inl (fun _ => 0))), ((b6 7), .inl (E.2.2 0, 10, .inl (fun _ => 0))), ((b6 8), .inl (E.2.2 0, 10, .inl (fun _ => 0))), ((b6 9), .inl (E.2.2 0, 10, .inl (fun _ => 0))), ((b6 10), .inl (E.2.2 0, 10, .inl (fun _ => 0))), ((b6 11), .inl (E.2.2 0, 10, .inl (fun _ => 0))), ((b6 12), .inl (E.2.2 0, 60, .inl (fun _ => 0)))] 14 1804
  exact mp_vret hF hQ rfl (Nat.le_of_ble_eq_true rfl) (Nat.le_of_ble_eq_true rfl) [0, 1, 2, 3, 4, 5, 6, 7, 8, 9, 10, 11, 12, 13, 14] (w' := [(h0, .inr (3, [.ref q1, .int 0, .ref q2, .int 0, .int (-1), .int 0, .int 0, .int 0, .int 0, .int 0])), (q1, .inl (E.2.2 1, 1600, .inl (fun _ => 0))), (q2, .inr (7, [.int 0, .int 0, .int 0, .int 0, .int 0, .int 0, .ref (b6 1), .ref (b6 2), .ref (b6 3), .ref (b6 4), .ref (b6 5), .ref (b6 6), .ref (b6 7), .ref (b6 8), .ref (b6 9), .ref (b6 10), .ref (b6 11), .ref (b6 12)])), ((b6 1), .inl (E.2.2 0, 36, .inl (fun _ => 0))), ((b6 2), .inl (E.2.2 2, 12, .inr (.inl (fun _ => 0)))), ((b6 3), .inl (E.2.2 0, 6, .inl (fun _ => 0))), ((b6 4), .inl (E.2.2 0, 6, .inl (fun _ => 0))), ((b6 5), .inl (E.2.2 0, 6, .inl (fun _ => 0))), ((b6 6), .inl (E.2.2 0, 10, .inl (fun _ => 0))), ((b6 7), .inl (E.2.2 0, 10, .inl (fun _ => 0))), ((b6 8), .inl (E.2.2 0, 10, .inl (fun _ => 0))), ((b6 9), .inl (E.2.2 0, 10, .inl (fun _ => 0))), ((b6 10), .inl (E.2.2 0, 10, .inl (fun _ => 0))), ((b6 11), .inl (E.2.2 0, 10, .inl (fun _ => 0))), ((b6 12), .inl (E.2.2 0, 60, .inl (fun _ => 0)))]) rfl rfl ⟨rfl, fun k => ([h0, q1, q2, (b6 1), (b6 2), (b6 3), (b6 4), (b6 5), (b6 6), (b6 7), (b6 8), (b6 9), (b6 10), (b6 11), (b6 12)] : List Nat).getD k 0, rfl, rfl⟩ (by decide +kernel)

set_option maxHeartbeats 4000000 in
set_option maxRecDepth 100000 in
theorem k_Course (E : mp_E) (h0 : Nat) : mp_Ct E yX0_init cX0_init 1 none 2 19 262 32 [.ref h0] [(h0, .inr (0, [.null, .int 0, .null, .null, .null, .null, .null, .null]))] (fun v w' => v = none ∧ ∃ b : Nat → Nat, b 0 = h0 ∧ w' = [(h0, .inr (0, [.ref (b 1), .int 0, .ref (b 14), .ref (b 15), .ref (b 16), .ref (b 17), .ref (b 18), .ref (b 19)])), ((b 1), .inr (7, [.int 0, .int 0, .int 0, .int 0, .int 0, .int 0, .ref (b 2), .ref (b 3), .ref (b 4), .ref (b 5), .ref (b 6), .ref (b 7), .ref (b 8), .ref (b 9), .ref (b 10), .ref (b 11), .ref (b 12), .ref (b 13)])), ((b 2), .inl (E.2.2 0, 36, .inl (fun _ => 0))), ((b 3), .inl (E.2.2 2, 12, .inr (.inl (fun _ => 0)))), ((b 4), .inl (E.2.2 0, 6, .inl (fun _ => 0))), ((b 5), .inl (E.2.2 0, 6, .inl (fun _ => 0))), ((b 6), .inl (E.2.2 0, 6, .inl (fun _ => 0))), ((b 7), .inl (E.2.2 0, 10, .inl (fun _ => 0))), ((b 8), .inl (E.2.2 0, 10, .inl (fun _ => 0))), ((b 9), .inl (E.2.2 0, 10, .inl (fun _ => 0))), ((b 10), .inl (E.2.2 0, 10, .inl (fun _ => 0))), ((b 11), .inl (E.2.2 0, 10, .inl (fun _ => 0))), ((b 12), .inl (E.2.2 0, 10, .inl (fun _ => 0))), ((b 13), .inl (E.2.2 0, 60, .inl (fun _ => 0))), ((b 14), .inl (E.2.2 0, 6, .inl (fun _ => 0))), ((b 15), .inl (E.2.2 0, 6, .inl (fun _ => 0))), ((b 16), .inl (E.2.2 0, 6, .inl (fun _ => 0))), ((b 17), .inl (E.2.2 2, 20, .inr (.inl (fun _ => 0)))), ((b 18), .inl (E.2.2 0, 10, .inl (fun _ => 0))), ((b 19), .inl (E.2.2 0, 10, .inl (fun _ => 0)))]) := by
  refine mp_met true (by decide) (by decide) (Nat.le_of_ble_eq_true rfl) (fun X hF hQ => ?_)
  have hF : mp_F E X (RX0, cX0_init, 1, (2, 19, 262, 32), none, true) := hF
  show mp_W E X 1 0 [(0, .ref h0)] [] [(h0, .inr (0, [.null, .int 0, .null, .null, .null, .null, .null, .null]))] 0 0
  refine mp_run hF mp_tabX0_ok [mp_i (.aload_n 0)] (by decide +kernel) ?_
  show mp_W E X 1 1 [(0, .ref h0)] [.ref h0] [(h0, .inr (0, [.null, .int 0, .null, .null, .null, .null, .null, .null]))] 0 0
  refine mp_objInit hF (idx := 3) (mp_gm (j := 1189) (by decide +kernel)) ⟨(Nat.le_of_ble_eq_true rfl), (Nat.le_of_ble_eq_true rfl)⟩ (by decide +kernel) ?_
  show mp_W E X 1 4 [(0, .ref h0)] [] [(h0, .inr (0, [.null, .int 0, .null, .null, .null, .null, .null, .null]))] 0 0
  refine mp_run hF mp_tabX0_ok [mp_i (.aload_n 0)] (by decide +kernel) ?_
  show mp_W E X 1 5 [(0, .ref h0)] [.ref h0] [(h0, .inr (0, [.null, .int 0, .null, .null, .null, .null, .null, .null]))] 0 0
  refine mp_new hF (mp_lnX0_9) ⟨(Nat.le_of_ble_eq_true rfl), (Nat.le_of_ble_eq_true rfl)⟩ (by decide +kernel) (fun q1 => ?_)
  show mp_W E X 1 8 [(0, .ref h0)] [.ref q1, .ref h0] [(h0, .inr (0, [.null, .int 0, .null, .null, .null, .null, .null, .null])), (q1, .inr (7, [.int 0, .int 0, .int 0, .int 0, .int 0, .int 0, .null, .null, .null, .null, .null, .null, .null, .null, .null, .null, .null, .null]))] 1 18
  refine mp_run hF mp_tabX0_ok [mp_i .dup] (by decide +kernel) ?_
  refine And.intro rfl ?_
  show mp_W E X 1 9 [(0, .ref h0)] [.ref q1, .ref q1, .ref h0] [(h0, .inr (0, [.null, .int 0, .null, .null, .null, .null, .null, .null])), (q1, .inr (7, [.int 0, .int 0, .int 0, .int 0, .int 0, .int 0, .null, .null, .null, .null, .null, .null, .null, .null, .null, .null, .null, .null]))] 1 18
  refine mp_callIN hF (As := []) (rest := [.ref q1, .ref h0]) (wr := [(h0, .inr (0, [.null, .int 0, .null, .null, .null, .null, .null, .null]))]) (k_Told E q1) rfl (mp_gm (j := 1038) (by decide +kernel)) mp_lkX0_11 [1] [0] rfl rfl rfl rfl rfl ⟨(Nat.le_of_ble_eq_true rfl), (Nat.le_of_ble_eq_true rfl), (Nat.le_of_ble_eq_true rfl), (Nat.le_of_ble_eq_true rfl)⟩ (Nat.le_of_ble_eq_true rfl) (by decide +kernel) (fun v2 w3 h4 => ?_)
  obtain ⟨rfl, b5, h6, rfl⟩ := h4
  clear h6
  show mp_W E X 1 12 [(0, .ref h0)] [.ref q1, .ref h0] [(h0, .inr (0, [.null, .int 0, .null, .null, .null, .null, .null, .null])), (q1, .inr (7, [.int 0, .int 0, .int 0, .int 0, .int 0, .int 0, .ref (b5 1), .ref (b5 2), .ref (b5 3), .ref (b5 4), .ref (b5 5), .ref (b5 6), .ref (b5 7), .ref (b5 8), .ref (b5 9), .ref (b5 10), .ref (b5 11), .ref (b5 12)])), ((b5 1), .inl (E.2.2 0, 36, .inl (fun _ => 0))), ((b5 2), .inl (E.2.2 2, 12, .inr (.inl (fun _ => 0)))), ((b5 3), .inl (E.2.2 0, 6, .inl (fun _ => 0))), ((b5 4), .inl (E.2.2 0, 6, .inl (fun _ => 0))), ((b5 5), .inl (E.2.2 0, 6, .inl (fun _ => 0))), ((b5 6), .inl (E.2.2 0, 10, .inl (fun _ => 0))), ((b5 7), .inl (E.2.2 0, 10, .inl (fun _ => 0))), ((b5 8), .inl (E.2.2 0, 10, .inl (fun _ => 0))), ((b5 9), .inl (E.2.2 0, 10, .inl (fun _ => 0))), ((b5 10), .inl (E.2.2 0, 10, .inl (fun _ => 0))), ((b5 11), .inl (E.2.2 0, 10, .inl (fun _ => 0))), ((b5 12), .inl (E.2.2 0, 60, .inl (fun _ => 0)))] 13 204
  refine mp_run hF mp_tabX0_ok [mp_h (.putfield 12) [11, 0]] (by decide +kernel) ?_
  refine And.intro rfl (And.intro rfl (And.intro rfl (And.intro rfl (And.intro (Nat.le_of_ble_eq_true rfl) ?_))))
  show mp_W E X 1 15 [(0, .ref h0)] [] [(h0, .inr (0, [.ref q1, .int 0, .null, .null, .null, .null, .null, .null])), (q1, .inr (7, [.int 0, .int 0, .int 0, .int 0, .int 0, .int 0, .ref (b5 1), .ref (b5 2), .ref (b5 3), .ref (b5 4), .ref (b5 5), .ref (b5 6), .ref (b5 7), .ref (b5 8), .ref (b5 9), .ref (b5 10), .ref (b5 11), .ref (b5 12)])), ((b5 1), .inl (E.2.2 0, 36, .inl (fun _ => 0))), ((b5 2), .inl (E.2.2 2, 12, .inr (.inl (fun _ => 0)))), ((b5 3), .inl (E.2.2 0, 6, .inl (fun _ => 0))), ((b5 4), .inl (E.2.2 0, 6, .inl (fun _ => 0))), ((b5 5), .inl (E.2.2 0, 6, .inl (fun _ => 0))), ((b5 6), .inl (E.2.2 0, 10, .inl (fun _ => 0))), ((b5 7), .inl (E.2.2 0, 10, .inl (fun _ => 0))), ((b5 8), .inl (E.2.2 0, 10, .inl (fun _ => 0))), ((b5 9), .inl (E.2.2 0, 10, .inl (fun _ => 0))), ((b5 10), .inl (E.2.2 0, 10, .inl (fun _ => 0))), ((b5 11), .inl (E.2.2 0, 10, .inl (fun _ => 0))), ((b5 12), .inl (E.2.2 0, 60, .inl (fun _ => 0)))] 13 204
  refine mp_run hF mp_tabX0_ok [mp_i (.aload_n 0), mp_c (.bipush 6) 6, mp_h (.newarray .int) [6], mp_h (.putfield 18) [13, 0]] (by decide +kernel) ?_
  refine And.intro (by decide) (And.intro (Nat.le_of_ble_eq_true rfl) (And.intro (Nat.le_of_ble_eq_true rfl) (And.intro (by decide) ?_)))
  intro q7
  refine And.intro rfl (And.intro rfl (And.intro rfl (And.intro rfl (And.intro (Nat.le_of_ble_eq_true rfl) ?_))))
  show mp_W E X 1 23 [(0, .ref h0)] [] [(h0, .inr (0, [.ref q1, .int 0, .ref q7, .null, .null, .null, .null, .null])), (q1, .inr (7, [.int 0, .int 0, .int 0, .int 0, .int 0, .int 0, .ref (b5 1), .ref (b5 2), .ref (b5 3), .ref (b5 4), .ref (b5 5), .ref (b5 6), .ref (b5 7), .ref (b5 8), .ref (b5 9), .ref (b5 10), .ref (b5 11), .ref (b5 12)])), ((b5 1), .inl (E.2.2 0, 36, .inl (fun _ => 0))), ((b5 2), .inl (E.2.2 2, 12, .inr (.inl (fun _ => 0)))), ((b5 3), .inl (E.2.2 0, 6, .inl (fun _ => 0))), ((b5 4), .inl (E.2.2 0, 6, .inl (fun _ => 0))), ((b5 5), .inl (E.2.2 0, 6, .inl (fun _ => 0))), ((b5 6), .inl (E.2.2 0, 10, .inl (fun _ => 0))), ((b5 7), .inl (E.2.2 0, 10, .inl (fun _ => 0))), ((b5 8), .inl (E.2.2 0, 10, .inl (fun _ => 0))), ((b5 9), .inl (E.2.2 0, 10, .inl (fun _ => 0))), ((b5 10), .inl (E.2.2 0, 10, .inl (fun _ => 0))), ((b5 11), .inl (E.2.2 0, 10, .inl (fun _ => 0))), ((b5 12), .inl (E.2.2 0, 60, .inl (fun _ => 0))), (q7, .inl (E.2.2 0, 6, .inl (fun _ => 0)))] 14 210
  refine mp_run hF mp_tabX0_ok [mp_i (.aload_n 0), mp_c (.bipush 6) 6, mp_h (.newarray .int) [6], mp_h (.putfield 22) [14, 0]] (by decide +kernel) ?_
  refine And.intro (by decide) (And.intro (Nat.le_of_ble_eq_true rfl) (And.intro (Nat.le_of_ble_eq_true rfl) (And.intro (by decide) ?_)))
  intro q8
  refine And.intro rfl (And.intro rfl (And.intro rfl (And.intro rfl (And.intro (Nat.le_of_ble_eq_true rfl) ?_))))
  show mp_W E X 1 31 [(0, .ref h0)] [] [(h0, .inr (0, [.ref q1, .int 0, .ref q7, .ref q8, .null, .null, .null, .null])), (q1, .inr (7, [.int 0, .int 0, .int 0, .int 0, .int 0, .int 0, .ref (b5 1), .ref (b5 2), .ref (b5 3), .ref (b5 4), .ref (b5 5), .ref (b5 6), .ref (b5 7), .ref (b5 8), .ref (b5 9), .ref (b5 10), .ref (b5 11), .ref (b5 12)])), ((b5 1), .inl (E.2.2 0, 36, .inl (fun _ => 0))), ((b5 2), .inl (E.2.2 2, 12, .inr (.inl (fun _ => 0)))), ((b5 3), .inl (E.2.2 0, 6, .inl (fun _ => 0))), ((b5 4), .inl (E.2.2 0, 6, .inl (fun _ => 0))), ((b5 5), .inl (E.2.2 0, 6, .inl (fun _ => 0))), ((b5 6), .inl (E.2.2 0, 10, .inl (fun _ => 0))), ((b5 7), .inl (E.2.2 0, 10, .inl (fun _ => 0))), ((b5 8), .inl (E.2.2 0, 10, .inl (fun _ => 0))), ((b5 9), .inl (E.2.2 0, 10, .inl (fun _ => 0))), ((b5 10), .inl (E.2.2 0, 10, .inl (fun _ => 0))), ((b5 11), .inl (E.2.2 0, 10, .inl (fun _ => 0))), ((b5 12), .inl (E.2.2 0, 60, .inl (fun _ => 0))), (q7, .inl (E.2.2 0, 6, .inl (fun _ => 0))), (q8, .inl (E.2.2 0, 6, .inl (fun _ => 0)))] 15 216
  refine mp_run hF mp_tabX0_ok [mp_i (.aload_n 0), mp_c (.bipush 6) 6, mp_h (.newarray .int) [6], mp_h (.putfield 25) [15, 0]] (by decide +kernel) ?_
  refine And.intro (by decide) (And.intro (Nat.le_of_ble_eq_true rfl) (And.intro (Nat.le_of_ble_eq_true rfl) (And.intro (by decide) ?_)))
  intro q9
  refine And.intro rfl (And.intro rfl (And.intro rfl (And.intro rfl (And.intro (Nat.le_of_ble_eq_true rfl) ?_))))
  show mp_W E X 1 39 [(0, .ref h0)] [] [(h0, .inr (0, [.ref q1, .int 0, .ref q7, .ref q8, .ref q9, .null, .null, .null])), (q1, .inr (7, [.int 0, .int 0, .int 0, .int 0, .int 0, .int 0, .ref (b5 1), .ref (b5 2), .ref (b5 3), .ref (b5 4), .ref (b5 5), .ref (b5 6), .ref (b5 7), .ref (b5 8), .ref (b5 9), .ref (b5 10), .ref (b5 11), .ref (b5 12)])), ((b5 1), .inl (E.2.2 0, 36, .inl (fun _ => 0))), ((b5 2), .inl (E.2.2 2, 12, .inr (.inl (fun _ => 0)))), ((b5 3), .inl (E.2.2 0, 6, .inl (fun _ => 0))), ((b5 4), .inl (E.2.2 0, 6, .inl (fun _ => 0))), ((b5 5), .inl (E.2.2 0, 6, .inl (fun _ => 0))), ((b5 6), .inl (E.2.2 0, 10, .inl (fun _ => 0))), ((b5 7), .inl (E.2.2 0, 10, .inl (fun _ => 0))), ((b5 8), .inl (E.2.2 0, 10, .inl (fun _ => 0))), ((b5 9), .inl (E.2.2 0, 10, .inl (fun _ => 0))), ((b5 10), .inl (E.2.2 0, 10, .inl (fun _ => 0))), ((b5 11), .inl (E.2.2 0, 10, .inl (fun _ => 0))), ((b5 12), .inl (E.2.2 0, 60, .inl (fun _ => 0))), (q7, .inl (E.2.2 0, 6, .inl (fun _ => 0))), (q8, .inl (E.2.2 0, 6, .inl (fun _ => 0))), (q9, .inl (E.2.2 0, 6, .inl (fun _ => 0)))] 16 222
  refine mp_run hF mp_tabX0_ok [mp_i (.aload_n 0), mp_c (.bipush 20) 20, mp_h (.newarray .long) [20], mp_h (.putfield 28) [16, 0]] (by decide +kernel) ?_
  refine And.intro (by decide) (And.intro (Nat.le_of_ble_eq_true rfl) (And.intro (Nat.le_of_ble_eq_true rfl) (And.intro (by decide) ?_)))
  intro q10
  refine And.intro rfl (And.intro rfl (And.intro rfl (And.intro rfl (And.intro (Nat.le_of_ble_eq_true rfl) ?_))))
  show mp_W E X 1 47 [(0, .ref h0)] [] [(h0, .inr (0, [.ref q1, .int 0, .ref q7, .ref q8, .ref q9, .ref q10, .null, .null])), (q1, .inr (7, [.int 0, .int 0, .int 0, .int 0, .int 0, .int 0, .ref (b5 1), .ref (b5 2), .ref (b5 3), .ref (b5 4), .ref (b5 5), .ref (b5 6), .ref (b5 7), .ref (b5 8), .ref (b5 9), .ref (b5 10), .ref (b5 11), .ref (b5 12)])), ((b5 1), .inl (E.2.2 0, 36, .inl (fun _ => 0))), ((b5 2), .inl (E.2.2 2, 12, .inr (.inl (fun _ => 0)))), ((b5 3), .inl (E.2.2 0, 6, .inl (fun _ => 0))), ((b5 4), .inl (E.2.2 0, 6, .inl (fun _ => 0))), ((b5 5), .inl (E.2.2 0, 6, .inl (fun _ => 0))), ((b5 6), .inl (E.2.2 0, 10, .inl (fun _ => 0))), ((b5 7), .inl (E.2.2 0, 10, .inl (fun _ => 0))), ((b5 8), .inl (E.2.2 0, 10, .inl (fun _ => 0))), ((b5 9), .inl (E.2.2 0, 10, .inl (fun _ => 0))), ((b5 10), .inl (E.2.2 0, 10, .inl (fun _ => 0))), ((b5 11), .inl (E.2.2 0, 10, .inl (fun _ => 0))), ((b5 12), .inl (E.2.2 0, 60, .inl (fun _ => 0))), (q7, .inl (E.2.2 0, 6, .inl (fun _ => 0))), (q8, .inl (E.2.2 0, 6, .inl (fun _ => 0))), (q9, .inl (E.2.2 0, 6, .inl (fun _ => 0))), (q10, .inl (E.2.2 2, 20, .inr (.inl (fun _ => 0))))] 17 242
  refine mp_run hF mp_tabX0_ok [mp_i (.aload_n 0), mp_c (.bipush 10) 10, mp_h (.newarray .int) [10], mp_h (.putfield 32) [17, 0]] (by decide +kernel) ?_
  refine And.intro (by decide) (And.intro (Nat.le_of_ble_eq_true rfl) (And.intro (Nat.le_of_ble_eq_true rfl) (And.intro (by decide) ?_)))
  intro q11
  refine And.intro rfl (And.intro rfl (And.intro rfl (And.intro rfl (And.intro (Nat.le_of_ble_eq_true rfl) ?_))))
  show mp_W E X 1 55 [(0, .ref h0)] [] [(h0, .inr (0, [.ref q1, .int 0, .ref q7, .ref q8, .ref q9, .ref q10, .ref q11, .null])), (q1, .inr (7, [.int 0, .int 0, .int 0, .int 0, .int 0, .int 0, .ref (b5 1), .ref (b5 2), .ref (b5 3), .ref (b5 4), .ref (b5 5), .ref (b5 6), .ref (b5 7), .ref (b5 8), .ref (b5 9), .ref (b5 10), .ref (b5 11), .ref (b5 12)])), ((b5 1), .inl (E.2.2 0, 36, .inl (fun _ => 0))), ((b5 2), .inl (E.2.2 2, 12, .inr (.inl (fun _ => 0)))), ((b5 3), .inl (E.2.2 0, 6, .inl (fun _ => 0))), ((b5 4), .inl (E.2.2 0, 6, .inl (fun _ => 0))), ((b5 5), .inl (E.2.2 0, 6, .inl (fun _ => 0))), ((b5 6), .inl (E.2.2 0, 10, .inl (fun _ => 0))), ((b5 7), .inl (E.2.2 0, 10, .inl (fun _ => 0))), ((b5 8), .inl (E.2.2 0, 10, .inl (fun _ => 0))), ((b5 9), .inl (E.2.2 0, 10, .inl (fun _ => 0))), ((b5 10), .inl (E.2.2 0, 10, .inl (fun _ => 0))), ((b5 11), .inl (E.2.2 0, 10, .inl (fun _ => 0))), ((b5 12), .inl (E.2.2 0, 60, .inl (fun _ => 0))), (q7, .inl (E.2.2 0, 6, .inl (fun _ => 0))), (q8, .inl (E.2.2 0, 6, .inl (fun _ => 0))), (q9, .inl (E.2.2 0, 6, .inl (fun _ => 0))), (q10, .inl (E.2.2 2, 20, .inr (.inl (fun _ => 0)))), (q11, .inl (E.2.2 0, 10, .inl (fun _ => 0)))] 18 252
  refine mp_run hF mp_tabX0_ok [mp_i (.aload_n 0), mp_c (.bipush 10) 10, mp_h (.newarray .int) [10], mp_h (.putfield 35) [18, 0]] (by decide +kernel) ?_
  refine And.intro (by decide) (And.intro (Nat.le_of_ble_eq_true rfl) (And.intro (Nat.le_of_ble_eq_true rfl) (And.intro (by decide) ?_)))
  intro q12
  refine And.intro rfl (And.intro rfl (And.intro rfl (And.intro rfl (And.intro (Nat.le_of_ble_eq_true rfl) ?_))))
  show mp_W E X 1 63 [(0, .ref h0)] [] [(h0, .inr (0, [.ref q1, .int 0, .ref q7, .ref q8, .ref q9, .ref q10, .ref q11, .ref q12])), (q1, .inr (7, [.int 0, .int 0, .int 0, .int 0, .int 0, .int 0, .ref (b5 1), .ref (b5 2), .ref (b5 3), .ref (b5 4), .ref (b5 5), .ref (b5 6), .ref (b5 7), .ref (b5 8), .ref (b5 9), .ref (b5 10), .ref (b5 11), .ref (b5 12)])), ((b5 1), .inl (E.2.2 0, 36, .inl (fun _ => 0))), ((b5 2), .inl (E.2.2 2, 12, .inr (.inl (fun _ => 0)))), ((b5 3), .inl (E.2.2 0, 6, .inl (fun _ => 0))), ((b5 4), .inl (E.2.2 0, 6, .inl (fun _ => 0))), ((b5 5), .inl (E.2.2 0, 6, .inl (fun _ => 0))), ((b5 6), .inl (E.2.2 0, 10, .inl (fun _ => 0))), ((b5 7), .inl (E.2.2 0, 10, .inl (fun _ => 0))), ((b5 8), .inl (E.2.2 0, 10, .inl (fun _ => 0))), ((b5 9), .inl (E.2.2 0, 10, .inl (fun _ => 0))), ((b5 10), .inl (E.2.2 0, 10, .inl (fun _ => 0))), ((b5 11), .inl (E.2.2 0, 10, .inl (fun _ => 0))), ((b5 12), .inl (E.2.2 0, 60, .inl (fun _ => 0))), (q7, .inl (E.2.2 0, 6, .inl (fun _ => 0))), (q8, .inl (E.2.2 0, 6, .inl (fun _ => 0))), (q9, .inl (E.2.2 0, 6, .inl (fun _ => 0))), (q10, .inl (E.2.2 2, 20, .inr (.inl (fun _ => 0)))), (q11, .inl (E.2.2 0, 10, .inl (fun _ => 0))), (q12, .inl (E.2.2 0, 10, .inl (fun _ => 0)))] 19 262
  exact mp_vret hF hQ rfl (Nat.le_of_ble_eq_true rfl) (Nat.le_of_ble_eq_true rfl) [0, 1, 2, 3, 4, 5, 6, 7, 8, 9, 10, 11, 12, 13, 14, 15, 16, 17, 18, 19] (w' := [(h0, .inr (0, [.ref q1, .int 0, .ref q7, .ref q8, .ref q9, .ref q10, .ref q11, .ref q12])), (q1, .inr (7, [.int 0, .int 0, .int 0, .int 0, .int 0, .int 0, .ref (b5 1), .ref (b5 2), .ref (b5 3), .ref (b5 4), .ref (b5 5), .ref (b5 6), .ref (b5 7), .ref (b5 8), .ref (b5 9), .ref (b5 10), .ref (b5 11), .ref (b5 12)])), ((b5 1), .inl (E.2.2 0, 36, .inl (fun _ => 0))), ((b5 2), .inl (E.2.2 2, 12, .inr (.inl (fun _ => 0)))), ((b5 3), .inl (E.2.2 0, 6, .inl (fun _ => 0))), ((b5 4), .inl (E.2.2 0, 6, .inl (fun _ => 0))), ((b5 5), .inl (E.2.2 0, 6, .inl (fun _ => 0))), ((b5 6), .inl (E.2.2 0, 10, .inl (fun _ => 0))), ((b5 7), .inl (E.2.2 0, 10, .inl (fun _ => 0))), ((b5 8), .inl (E.2.2 0, 10, .inl (fun _ => 0))), ((b5 9), .inl (E.2.2 0, 10, .inl (fun _ => 0))), ((b5 10), .inl (E.2.2 0, 10, .inl (fun _ => 0))), ((b5 11), .inl (E.2.2 0, 10, .inl (fun _ => 0))), ((b5 12), .inl (E.2.2 0, 60, .inl (fun _ => 0))), (q7, .inl (E.2.2 0, 6, .inl (fun _ => 0))), (q8, .inl (E.2.2 0, 6, .inl (fun _ => 0))), (q9, .inl (E.2.2 0, 6, .inl (fun _ => 0))), (q10, .inl (E.2.2 2, 20, .inr (.inl (fun _ => 0)))), (q11, .inl (E.2.2 0, 10, .inl (fun _ => 0))), (q12, .inl (E.2.2 0, 10, .inl (fun _ => 0)))]) rfl rfl ⟨rfl, fun k => ([h0, q1, (b5 1), (b5 2), (b5 3), (b5 4), (b5 5), (b5 6), (b5 7), (b5 8), (b5 9), (b5 10), (b5 11), (b5 12), q7, q8, q9, q10, q11, q12] : List Nat).getD k 0, rfl, rfl⟩ (by decide +kernel)

set_option maxHeartbeats 4000000 in
set_option maxRecDepth 100000 in
theorem k_Threat (E : mp_E) (h0 : Nat) : mp_Ct E yX6_init cX6_init 4 none 1 2 108 12 [.ref h0] [(h0, .inr (6, [.int 0, .null, .null]))] (fun v w' => v = none ∧ ∃ b : Nat → Nat, ∃ vs : Nat → Int32, b 0 = h0 ∧ w' = [(h0, .inr (6, [.int 0, .ref (b 1), .ref (b 2)])), ((b 1), .inl (E.2.2 0, 8, .inl (fun _ => 0))), ((b 2), .inl (E.2.2 0, 100, .inl vs))]) := by
  refine mp_met true (by decide) (by decide) (Nat.le_of_ble_eq_true rfl) (fun X hF hQ => ?_)
  have hF : mp_F E X (RX6, cX6_init, 4, (1, 2, 108, 12), none, true) := hF
  show mp_W E X 4 0 [(0, .ref h0)] [] [(h0, .inr (6, [.int 0, .null, .null]))] 0 0
  refine mp_run hF mp_tabX6_ok [mp_i (.aload_n 0)] (by decide +kernel) ?_
  show mp_W E X 4 1 [(0, .ref h0)] [.ref h0] [(h0, .inr (6, [.int 0, .null, .null]))] 0 0
  refine mp_objInit hF (idx := 3) (mp_gm (j := 2098) (by decide +kernel)) ⟨(Nat.le_of_ble_eq_true rfl), (Nat.le_of_ble_eq_true rfl)⟩ (by decide +kernel) ?_
  show mp_W E X 4 4 [(0, .ref h0)] [] [(h0, .inr (6, [.int 0, .null, .null]))] 0 0
  refine mp_run hF mp_tabX6_ok [mp_i (.aload_n 0), mp_c (.bipush 8) 8, mp_h (.newarray .int) [8], mp_h (.putfield 11) [1, 0]] (by decide +kernel) ?_
  refine And.intro (by decide) (And.intro (Nat.le_of_ble_eq_true rfl) (And.intro (Nat.le_of_ble_eq_true rfl) (And.intro (by decide) ?_)))
  intro q1
  refine And.intro rfl (And.intro rfl (And.intro rfl (And.intro rfl (And.intro (Nat.le_of_ble_eq_true rfl) ?_))))
  show mp_W E X 4 12 [(0, .ref h0)] [] [(h0, .inr (6, [.int 0, .ref q1, .null])), (q1, .inl (E.2.2 0, 8, .inl (fun _ => 0)))] 1 8
  refine mp_run hF mp_tabX6_ok [mp_i (.aload_n 0), mp_c (.bipush 100) 100, mp_h (.newarray .int) [100], mp_h (.putfield 15) [2, 0]] (by decide +kernel) ?_
  refine And.intro (by decide) (And.intro (Nat.le_of_ble_eq_true rfl) (And.intro (Nat.le_of_ble_eq_true rfl) (And.intro (by decide) ?_)))
  intro q2
  refine And.intro rfl (And.intro rfl (And.intro rfl (And.intro rfl (And.intro (Nat.le_of_ble_eq_true rfl) ?_))))
  show mp_W E X 4 20 [(0, .ref h0)] [] [(h0, .inr (6, [.int 0, .ref q1, .ref q2])), (q1, .inl (E.2.2 0, 8, .inl (fun _ => 0))), (q2, .inl (E.2.2 0, 100, .inl (fun _ => 0)))] 2 108
  refine mp_run hF mp_tabX6_ok [mp_c (.iconst 1) 1, mp_i (.istore_n 1)] (by decide +kernel) ?_
  show mp_W E X 4 22 [(1, .int 1), (0, .ref h0)] [] [(h0, .inr (6, [.int 0, .ref q1, .ref q2])), (q1, .inl (E.2.2 0, 8, .inl (fun _ => 0))), (q2, .inl (E.2.2 0, 100, .inl (fun _ => 0)))] 2 108
  have lp3 : ∀ (d4 : Nat) (i6 : Int32) (g7 : Nat → Int32), 1 ≤ i6.toInt → i6.toInt + d4 = 100 → mp_W E X 4 22 [(1, .int i6), (0, .ref h0)] [] [(h0, .inr (6, [.int 0, .ref q1, .ref q2])), (q1, .inl (E.2.2 0, 8, .inl (fun _ => 0))), (q2, .inl (E.2.2 0, 100, .inl g7))] 2 108 := by
    intro d4
    induction d4 with
    | zero =>
      intro i6 g7 h8 h9
      refine mp_run hF mp_tabX6_ok [mp_i (.iload_n 1), mp_c (.bipush 99) 99, mp_h (.if_icmp .gt 58) [83]] (by decide +kernel) ?_
      refine And.intro (fun c10 => ?_) (fun c10 => ?_)
      · have c10 : 99 < i6.toInt := c10
        show mp_W E X 4 83 [(1, .int i6), (0, .ref h0)] [] [(h0, .inr (6, [.int 0, .ref q1, .ref q2])), (q1, .inl (E.2.2 0, 8, .inl (fun _ => 0))), (q2, .inl (E.2.2 0, 100, .inl g7))] 2 108
        exact mp_vret hF hQ rfl (Nat.le_of_ble_eq_true rfl) (Nat.le_of_ble_eq_true rfl) [0, 1, 2] (w' := [(h0, .inr (6, [.int 0, .ref q1, .ref q2])), (q1, .inl (E.2.2 0, 8, .inl (fun _ => 0))), (q2, .inl (E.2.2 0, 100, .inl g7))]) rfl rfl ⟨rfl, fun k => ([h0, q1, q2] : List Nat).getD k 0, g7, rfl, rfl⟩ (by decide +kernel)
      · have c10 : i6.toInt ≤ 99 := c10
        exfalso; omega
    | succ d4 ih5 =>
      intro i6 g7 h8 h9
      refine mp_run hF mp_tabX6_ok [mp_i (.iload_n 1), mp_c (.bipush 99) 99, mp_h (.if_icmp .gt 58) [83]] (by decide +kernel) ?_
      refine And.intro (fun c11 => ?_) (fun c11 => ?_)
      · have c11 : 99 < i6.toInt := c11
        exfalso; omega
      · have c11 : i6.toInt ≤ 99 := c11
        show mp_W E X 4 28 [(1, .int i6), (0, .ref h0)] [] [(h0, .inr (6, [.int 0, .ref q1, .ref q2])), (q1, .inl (E.2.2 0, 8, .inl (fun _ => 0))), (q2, .inl (E.2.2 0, 100, .inl g7))] 2 108
        refine mp_run hF mp_tabX6_ok [mp_c (.iconst 0) 0, mp_i (.istore_n 2), mp_c (.iconst 0) 0, mp_i (.istore_n 3), mp_i (.iload_n 3), mp_c (.iconst 2) 2, mp_h (.if_icmp .ge 36) [70]] (by decide +kernel) ?_
        refine And.intro (fun c12 => absurd c12 (by decide)) (fun _ => ?_)
        show mp_W E X 4 37 [(3, .int 0), (2, .int 0), (1, .int i6), (0, .ref h0)] [] [(h0, .inr (6, [.int 0, .ref q1, .ref q2])), (q1, .inl (E.2.2 0, 8, .inl (fun _ => 0))), (q2, .inl (E.2.2 0, 100, .inl g7))] 2 108
        refine mp_run hF mp_tabX6_ok [mp_i (.iload_n 2), mp_i (.aload_n 0), mp_h (.getfield 15) [2, 0], mp_i (.iload_n 1), mp_c (.iconst 1) 1, mp_i .isub, mp_h .iaload [2], mp_h (.if_icmp .eq 15) [61]] (by decide +kernel) ?_
        refine And.intro rfl (And.intro rfl ?_)
        intro z13 h14
        have e15 : z13.toInt = i6.toInt - 1 := mp_subi (a := i6.toInt) (b := 1) h14 rfl (by decide) (by omega) (by omega)
        refine And.intro rfl (And.intro rfl (And.intro (vp_in_iff.mpr (by omega)) ?_))
        intro z16 h17
        refine And.intro (fun c18 => ?_) (fun c18 => ?_)
        · have c18 : 0 = z16.toInt := (congrArg Int32.toInt c18)
          show mp_W E X 4 61 [(3, .int 0), (2, .int 0), (1, .int i6), (0, .ref h0)] [] [(h0, .inr (6, [.int 0, .ref q1, .ref q2])), (q1, .inl (E.2.2 0, 8, .inl (fun _ => 0))), (q2, .inl (E.2.2 0, 100, .inl g7))] 2 108
          refine mp_run hF mp_tabX6_ok [mp_c (.iinc 2 1) 1, mp_c (.iinc 3 1) 1, mp_h (.goto (-35)) [32], mp_i (.iload_n 3), mp_c (.iconst 2) 2, mp_h (.if_icmp .ge 36) [70]] (by decide +kernel) ?_
          intro z19 h20
          obtain rfl : z19 = 1 := h20.trans (by decide)
          intro z21 h22
          obtain rfl : z21 = 1 := h22.trans (by decide)
          refine And.intro (fun c23 => absurd c23 (by decide)) (fun _ => ?_)
          show mp_W E X 4 37 [(3, .int 1), (2, .int 1), (1, .int i6), (0, .ref h0)] [] [(h0, .inr (6, [.int 0, .ref q1, .ref q2])), (q1, .inl (E.2.2 0, 8, .inl (fun _ => 0))), (q2, .inl (E.2.2 0, 100, .inl g7))] 2 108
          refine mp_run hF mp_tabX6_ok [mp_i (.iload_n 2), mp_i (.aload_n 0), mp_h (.getfield 15) [2, 0], mp_i (.iload_n 1), mp_c (.iconst 1) 1, mp_i .isub, mp_h .iaload [2], mp_h (.if_icmp .eq 15) [61]] (by decide +kernel) ?_
          refine And.intro rfl (And.intro rfl ?_)
          intro z24 h25
          have e26 : z24.toInt = i6.toInt - 1 := mp_subi (a := i6.toInt) (b := 1) h25 rfl (by decide) (by omega) (by omega)
          refine And.intro rfl (And.intro rfl (And.intro (vp_in_iff.mpr (by omega)) ?_))
          intro z27 h28
          refine And.intro (fun c29 => ?_) (fun c29 => ?_)
          · have c29 : 1 = z27.toInt := (congrArg Int32.toInt c29)
            show mp_W E X 4 61 [(3, .int 1), (2, .int 1), (1, .int i6), (0, .ref h0)] [] [(h0, .inr (6, [.int 0, .ref q1, .ref q2])), (q1, .inl (E.2.2 0, 8, .inl (fun _ => 0))), (q2, .inl (E.2.2 0, 100, .inl g7))] 2 108
            refine mp_run hF mp_tabX6_ok [mp_c (.iinc 2 1) 1, mp_c (.iinc 3 1) 1, mp_h (.goto (-35)) [32], mp_i (.iload_n 3), mp_c (.iconst 2) 2, mp_h (.if_icmp .ge 36) [70]] (by decide +kernel) ?_
            intro z30 h31
            obtain rfl : z30 = 2 := h31.trans (by decide)
            intro z32 h33
            obtain rfl : z32 = 2 := h33.trans (by decide)
            refine And.intro (fun _ => ?_) (fun c34 => absurd c34 (by decide))
            show mp_W E X 4 70 [(3, .int 2), (2, .int 2), (1, .int i6), (0, .ref h0)] [] [(h0, .inr (6, [.int 0, .ref q1, .ref q2])), (q1, .inl (E.2.2 0, 8, .inl (fun _ => 0))), (q2, .inl (E.2.2 0, 100, .inl g7))] 2 108
            refine mp_run hF mp_tabX6_ok [mp_i (.aload_n 0), mp_h (.getfield 15) [2, 0], mp_i (.iload_n 1), mp_i (.iload_n 2), mp_h .iastore [2]] (by decide +kernel) ?_
            refine And.intro rfl (And.intro rfl ?_)
            refine And.intro rfl (And.intro rfl (And.intro (vp_in_iff.mpr (by omega)) ?_))
            intro g35 h36
            show mp_W E X 4 77 [(3, .int 2), (2, .int 2), (1, .int i6), (0, .ref h0)] [] [(h0, .inr (6, [.int 0, .ref q1, .ref q2])), (q1, .inl (E.2.2 0, 8, .inl (fun _ => 0))), (q2, .inl (E.2.2 0, 100, .inl g35))] 2 108
            refine mp_run hF mp_tabX6_ok [mp_c (.iinc 1 1) 1, mp_h (.goto (-58)) [22]] (by decide +kernel) ?_
            intro z37 h38
            have e39 : z37.toInt = i6.toInt + 1 := mp_add (a := i6.toInt) (b := 1) h38 rfl (by decide) (by omega) (by omega)
            show mp_W E X 4 22 [(1, .int z37), (3, .int 2), (2, .int 2), (0, .ref h0)] [] [(h0, .inr (6, [.int 0, .ref q1, .ref q2])), (q1, .inl (E.2.2 0, 8, .inl (fun _ => 0))), (q2, .inl (E.2.2 0, 100, .inl g35))] 2 108
            exact mp_sub [0, 3] rfl [0, 1, 2] rfl rfl (ih5 z37 g35 (by omega) (by omega))
          · have c29 : 1 ≠ z27.toInt := c29
            show mp_W E X 4 49 [(3, .int 1), (2, .int 1), (1, .int i6), (0, .ref h0)] [] [(h0, .inr (6, [.int 0, .ref q1, .ref q2])), (q1, .inl (E.2.2 0, 8, .inl (fun _ => 0))), (q2, .inl (E.2.2 0, 100, .inl g7))] 2 108
            refine mp_run hF mp_tabX6_ok [mp_i (.iload_n 2), mp_i (.aload_n 0), mp_h (.getfield 15) [2, 0], mp_i (.iload_n 1), mp_c (.iconst 2) 2, mp_i .idiv, mp_h .iaload [2], mp_h (.if_icmp .ne 6) [64]] (by decide +kernel) ?_
            refine And.intro rfl (And.intro rfl ?_)
            refine And.intro (by decide) ?_
            intro z40 h41
            have e42 : z40.toInt = i6.toInt / 2 := mp_div (a := i6.toInt) (b := 2) h41 rfl (by decide) (by omega) (by decide)
            refine And.intro rfl (And.intro rfl (And.intro (vp_in_iff.mpr (by omega)) ?_))
            intro z43 h44
            refine And.intro (fun c45 => ?_) (fun c45 => ?_)
            · have c45 : 1 ≠ z43.toInt := c45
              show mp_W E X 4 64 [(3, .int 1), (2, .int 1), (1, .int i6), (0, .ref h0)] [] [(h0, .inr (6, [.int 0, .ref q1, .ref q2])), (q1, .inl (E.2.2 0, 8, .inl (fun _ => 0))), (q2, .inl (E.2.2 0, 100, .inl g7))] 2 108
              refine mp_run hF mp_tabX6_ok [mp_c (.iinc 3 1) 1, mp_h (.goto (-35)) [32], mp_i (.iload_n 3), mp_c (.iconst 2) 2, mp_h (.if_icmp .ge 36) [70]] (by decide +kernel) ?_
              intro z46 h47
              obtain rfl : z46 = 2 := h47.trans (by decide)
              refine And.intro (fun _ => ?_) (fun c48 => absurd c48 (by decide))
              show mp_W E X 4 70 [(3, .int 2), (2, .int 1), (1, .int i6), (0, .ref h0)] [] [(h0, .inr (6, [.int 0, .ref q1, .ref q2])), (q1, .inl (E.2.2 0, 8, .inl (fun _ => 0))), (q2, .inl (E.2.2 0, 100, .inl g7))] 2 108
              refine mp_run hF mp_tabX6_ok [mp_i (.aload_n 0), mp_h (.getfield 15) [2, 0], mp_i (.iload_n 1), mp_i (.iload_n 2), mp_h .iastore [2]] (by decide +kernel) ?_
              refine And.intro rfl (And.intro rfl ?_)
              refine And.intro rfl (And.intro rfl (And.intro (vp_in_iff.mpr (by omega)) ?_))
              intro g49 h50
              show mp_W E X 4 77 [(3, .int 2), (2, .int 1), (1, .int i6), (0, .ref h0)] [] [(h0, .inr (6, [.int 0, .ref q1, .ref q2])), (q1, .inl (E.2.2 0, 8, .inl (fun _ => 0))), (q2, .inl (E.2.2 0, 100, .inl g49))] 2 108
              refine mp_run hF mp_tabX6_ok [mp_c (.iinc 1 1) 1, mp_h (.goto (-58)) [22]] (by decide +kernel) ?_
              intro z51 h52
              have e53 : z51.toInt = i6.toInt + 1 := mp_add (a := i6.toInt) (b := 1) h52 rfl (by decide) (by omega) (by omega)
              show mp_W E X 4 22 [(1, .int z51), (3, .int 2), (2, .int 1), (0, .ref h0)] [] [(h0, .inr (6, [.int 0, .ref q1, .ref q2])), (q1, .inl (E.2.2 0, 8, .inl (fun _ => 0))), (q2, .inl (E.2.2 0, 100, .inl g49))] 2 108
              exact mp_sub [0, 3] rfl [0, 1, 2] rfl rfl (ih5 z51 g49 (by omega) (by omega))
            · have c45 : 1 = z43.toInt := (congrArg Int32.toInt c45)
              show mp_W E X 4 61 [(3, .int 1), (2, .int 1), (1, .int i6), (0, .ref h0)] [] [(h0, .inr (6, [.int 0, .ref q1, .ref q2])), (q1, .inl (E.2.2 0, 8, .inl (fun _ => 0))), (q2, .inl (E.2.2 0, 100, .inl g7))] 2 108
              refine mp_run hF mp_tabX6_ok [mp_c (.iinc 2 1) 1, mp_c (.iinc 3 1) 1, mp_h (.goto (-35)) [32], mp_i (.iload_n 3), mp_c (.iconst 2) 2, mp_h (.if_icmp .ge 36) [70]] (by decide +kernel) ?_
              intro z54 h55
              obtain rfl : z54 = 2 := h55.trans (by decide)
              intro z56 h57
              obtain rfl : z56 = 2 := h57.trans (by decide)
              refine And.intro (fun _ => ?_) (fun c58 => absurd c58 (by decide))
              show mp_W E X 4 70 [(3, .int 2), (2, .int 2), (1, .int i6), (0, .ref h0)] [] [(h0, .inr (6, [.int 0, .ref q1, .ref q2])), (q1, .inl (E.2.2 0, 8, .inl (fun _ => 0))), (q2, .inl (E.2.2 0, 100, .inl g7))] 2 108
              refine mp_run hF mp_tabX6_ok [mp_i (.aload_n 0), mp_h (.getfield 15) [2, 0], mp_i (.iload_n 1), mp_i (.iload_n 2), mp_h .iastore [2]] (by decide +kernel) ?_
              refine And.intro rfl (And.intro rfl ?_)
              refine And.intro rfl (And.intro rfl (And.intro (vp_in_iff.mpr (by omega)) ?_))
              intro g59 h60
              show mp_W E X 4 77 [(3, .int 2), (2, .int 2), (1, .int i6), (0, .ref h0)] [] [(h0, .inr (6, [.int 0, .ref q1, .ref q2])), (q1, .inl (E.2.2 0, 8, .inl (fun _ => 0))), (q2, .inl (E.2.2 0, 100, .inl g59))] 2 108
              refine mp_run hF mp_tabX6_ok [mp_c (.iinc 1 1) 1, mp_h (.goto (-58)) [22]] (by decide +kernel) ?_
              intro z61 h62
              have e63 : z61.toInt = i6.toInt + 1 := mp_add (a := i6.toInt) (b := 1) h62 rfl (by decide) (by omega) (by omega)
              show mp_W E X 4 22 [(1, .int z61), (3, .int 2), (2, .int 2), (0, .ref h0)] [] [(h0, .inr (6, [.int 0, .ref q1, .ref q2])), (q1, .inl (E.2.2 0, 8, .inl (fun _ => 0))), (q2, .inl (E.2.2 0, 100, .inl g59))] 2 108
              exact mp_sub [0, 3] rfl [0, 1, 2] rfl rfl (ih5 z61 g59 (by omega) (by omega))
        · have c18 : 0 ≠ z16.toInt := c18
          show mp_W E X 4 49 [(3, .int 0), (2, .int 0), (1, .int i6), (0, .ref h0)] [] [(h0, .inr (6, [.int 0, .ref q1, .ref q2])), (q1, .inl (E.2.2 0, 8, .inl (fun _ => 0))), (q2, .inl (E.2.2 0, 100, .inl g7))] 2 108
          refine mp_run hF mp_tabX6_ok [mp_i (.iload_n 2), mp_i (.aload_n 0), mp_h (.getfield 15) [2, 0], mp_i (.iload_n 1), mp_c (.iconst 2) 2, mp_i .idiv, mp_h .iaload [2], mp_h (.if_icmp .ne 6) [64]] (by decide +kernel) ?_
          refine And.intro rfl (And.intro rfl ?_)
          refine And.intro (by decide) ?_
          intro z64 h65
          have e66 : z64.toInt = i6.toInt / 2 := mp_div (a := i6.toInt) (b := 2) h65 rfl (by decide) (by omega) (by decide)
          refine And.intro rfl (And.intro rfl (And.intro (vp_in_iff.mpr (by omega)) ?_))
          intro z67 h68
          refine And.intro (fun c69 => ?_) (fun c69 => ?_)
          · have c69 : 0 ≠ z67.toInt := c69
            show mp_W E X 4 64 [(3, .int 0), (2, .int 0), (1, .int i6), (0, .ref h0)] [] [(h0, .inr (6, [.int 0, .ref q1, .ref q2])), (q1, .inl (E.2.2 0, 8, .inl (fun _ => 0))), (q2, .inl (E.2.2 0, 100, .inl g7))] 2 108
            refine mp_run hF mp_tabX6_ok [mp_c (.iinc 3 1) 1, mp_h (.goto (-35)) [32], mp_i (.iload_n 3), mp_c (.iconst 2) 2, mp_h (.if_icmp .ge 36) [70]] (by decide +kernel) ?_
            intro z70 h71
            obtain rfl : z70 = 1 := h71.trans (by decide)
            refine And.intro (fun c72 => absurd c72 (by decide)) (fun _ => ?_)
            show mp_W E X 4 37 [(3, .int 1), (2, .int 0), (1, .int i6), (0, .ref h0)] [] [(h0, .inr (6, [.int 0, .ref q1, .ref q2])), (q1, .inl (E.2.2 0, 8, .inl (fun _ => 0))), (q2, .inl (E.2.2 0, 100, .inl g7))] 2 108
            refine mp_run hF mp_tabX6_ok [mp_i (.iload_n 2), mp_i (.aload_n 0), mp_h (.getfield 15) [2, 0], mp_i (.iload_n 1), mp_c (.iconst 1) 1, mp_i .isub, mp_h .iaload [2], mp_h (.if_icmp .eq 15) [61]] (by decide +kernel) ?_
            refine And.intro rfl (And.intro rfl ?_)
            intro z73 h74
            have e75 : z73.toInt = i6.toInt - 1 := mp_subi (a := i6.toInt) (b := 1) h74 rfl (by decide) (by omega) (by omega)
            refine And.intro rfl (And.intro rfl (And.intro (vp_in_iff.mpr (by omega)) ?_))
            intro z76 h77
            refine And.intro (fun c78 => ?_) (fun c78 => ?_)
            · have c78 : 0 = z76.toInt := (congrArg Int32.toInt c78)
              show mp_W E X 4 61 [(3, .int 1), (2, .int 0), (1, .int i6), (0, .ref h0)] [] [(h0, .inr (6, [.int 0, .ref q1, .ref q2])), (q1, .inl (E.2.2 0, 8, .inl (fun _ => 0))), (q2, .inl (E.2.2 0, 100, .inl g7))] 2 108
              refine mp_run hF mp_tabX6_ok [mp_c (.iinc 2 1) 1, mp_c (.iinc 3 1) 1, mp_h (.goto (-35)) [32], mp_i (.iload_n 3), mp_c (.iconst 2) 2, mp_h (.if_icmp .ge 36) [70]] (by decide +kernel) ?_
              intro z79 h80
              obtain rfl : z79 = 1 := h80.trans (by decide)
              intro z81 h82
              obtain rfl : z81 = 2 := h82.trans (by decide)
              refine And.intro (fun _ => ?_) (fun c83 => absurd c83 (by decide))
              show mp_W E X 4 70 [(3, .int 2), (2, .int 1), (1, .int i6), (0, .ref h0)] [] [(h0, .inr (6, [.int 0, .ref q1, .ref q2])), (q1, .inl (E.2.2 0, 8, .inl (fun _ => 0))), (q2, .inl (E.2.2 0, 100, .inl g7))] 2 108
              refine mp_run hF mp_tabX6_ok [mp_i (.aload_n 0), mp_h (.getfield 15) [2, 0], mp_i (.iload_n 1), mp_i (.iload_n 2), mp_h .iastore [2]] (by decide +kernel) ?_
              refine And.intro rfl (And.intro rfl ?_)
              refine And.intro rfl (And.intro rfl (And.intro (vp_in_iff.mpr (by omega)) ?_))
              intro g84 h85
              show mp_W E X 4 77 [(3, .int 2), (2, .int 1), (1, .int i6), (0, .ref h0)] [] [(h0, .inr (6, [.int 0, .ref q1, .ref q2])), (q1, .inl (E.2.2 0, 8, .inl (fun _ => 0))), (q2, .inl (E.2.2 0, 100, .inl g84))] 2 108
              refine mp_run hF mp_tabX6_ok [mp_c (.iinc 1 1) 1, mp_h (.goto (-58)) [22]] (by decide +kernel) ?_
              intro z86 h87
              have e88 : z86.toInt = i6.toInt + 1 := mp_add (a := i6.toInt) (b := 1) h87 rfl (by decide) (by omega) (by omega)
              show mp_W E X 4 22 [(1, .int z86), (3, .int 2), (2, .int 1), (0, .ref h0)] [] [(h0, .inr (6, [.int 0, .ref q1, .ref q2])), (q1, .inl (E.2.2 0, 8, .inl (fun _ => 0))), (q2, .inl (E.2.2 0, 100, .inl g84))] 2 108
              exact mp_sub [0, 3] rfl [0, 1, 2] rfl rfl (ih5 z86 g84 (by omega) (by omega))
            · have c78 : 0 ≠ z76.toInt := c78
              show mp_W E X 4 49 [(3, .int 1), (2, .int 0), (1, .int i6), (0, .ref h0)] [] [(h0, .inr (6, [.int 0, .ref q1, .ref q2])), (q1, .inl (E.2.2 0, 8, .inl (fun _ => 0))), (q2, .inl (E.2.2 0, 100, .inl g7))] 2 108
              refine mp_run hF mp_tabX6_ok [mp_i (.iload_n 2), mp_i (.aload_n 0), mp_h (.getfield 15) [2, 0], mp_i (.iload_n 1), mp_c (.iconst 2) 2, mp_i .idiv, mp_h .iaload [2], mp_h (.if_icmp .ne 6) [64]] (by decide +kernel) ?_
              refine And.intro rfl (And.intro rfl ?_)
              refine And.intro (by decide) ?_
              intro z89 h90
              have e91 : z89.toInt = i6.toInt / 2 := mp_div (a := i6.toInt) (b := 2) h90 rfl (by decide) (by omega) (by decide)
              refine And.intro rfl (And.intro rfl (And.intro (vp_in_iff.mpr (by omega)) ?_))
              intro z92 h93
              refine And.intro (fun c94 => ?_) (fun c94 => ?_)
              · have c94 : 0 ≠ z92.toInt := c94
                show mp_W E X 4 64 [(3, .int 1), (2, .int 0), (1, .int i6), (0, .ref h0)] [] [(h0, .inr (6, [.int 0, .ref q1, .ref q2])), (q1, .inl (E.2.2 0, 8, .inl (fun _ => 0))), (q2, .inl (E.2.2 0, 100, .inl g7))] 2 108
                refine mp_run hF mp_tabX6_ok [mp_c (.iinc 3 1) 1, mp_h (.goto (-35)) [32], mp_i (.iload_n 3), mp_c (.iconst 2) 2, mp_h (.if_icmp .ge 36) [70]] (by decide +kernel) ?_
                intro z95 h96
                obtain rfl : z95 = 2 := h96.trans (by decide)
                refine And.intro (fun _ => ?_) (fun c97 => absurd c97 (by decide))
                show mp_W E X 4 70 [(3, .int 2), (2, .int 0), (1, .int i6), (0, .ref h0)] [] [(h0, .inr (6, [.int 0, .ref q1, .ref q2])), (q1, .inl (E.2.2 0, 8, .inl (fun _ => 0))), (q2, .inl (E.2.2 0, 100, .inl g7))] 2 108
                refine mp_run hF mp_tabX6_ok [mp_i (.aload_n 0), mp_h (.getfield 15) [2, 0], mp_i (.iload_n 1), mp_i (.iload_n 2), mp_h .iastore [2]] (by decide +kernel) ?_
                refine And.intro rfl (And.intro rfl ?_)
                refine And.intro rfl (And.intro rfl (And.intro (vp_in_iff.mpr (by omega)) ?_))
                intro g98 h99
                show mp_W E X 4 77 [(3, .int 2), (2, .int 0), (1, .int i6), (0, .ref h0)] [] [(h0, .inr (6, [.int 0, .ref q1, .ref q2])), (q1, .inl (E.2.2 0, 8, .inl (fun _ => 0))), (q2, .inl (E.2.2 0, 100, .inl g98))] 2 108
                refine mp_run hF mp_tabX6_ok [mp_c (.iinc 1 1) 1, mp_h (.goto (-58)) [22]] (by decide +kernel) ?_
                intro z100 h101
                have e102 : z100.toInt = i6.toInt + 1 := mp_add (a := i6.toInt) (b := 1) h101 rfl (by decide) (by omega) (by omega)
                show mp_W E X 4 22 [(1, .int z100), (3, .int 2), (2, .int 0), (0, .ref h0)] [] [(h0, .inr (6, [.int 0, .ref q1, .ref q2])), (q1, .inl (E.2.2 0, 8, .inl (fun _ => 0))), (q2, .inl (E.2.2 0, 100, .inl g98))] 2 108
                exact mp_sub [0, 3] rfl [0, 1, 2] rfl rfl (ih5 z100 g98 (by omega) (by omega))
              · have c94 : 0 = z92.toInt := (congrArg Int32.toInt c94)
                show mp_W E X 4 61 [(3, .int 1), (2, .int 0), (1, .int i6), (0, .ref h0)] [] [(h0, .inr (6, [.int 0, .ref q1, .ref q2])), (q1, .inl (E.2.2 0, 8, .inl (fun _ => 0))), (q2, .inl (E.2.2 0, 100, .inl g7))] 2 108
                refine mp_run hF mp_tabX6_ok [mp_c (.iinc 2 1) 1, mp_c (.iinc 3 1) 1, mp_h (.goto (-35)) [32], mp_i (.iload_n 3), mp_c (.iconst 2) 2, mp_h (.if_icmp .ge 36) [70]] (by decide +kernel) ?_
                intro z103 h104
                obtain rfl : z103 = 1 := h104.trans (by decide)
                intro z105 h106
                obtain rfl : z105 = 2 := h106.trans (by decide)
                refine And.intro (fun _ => ?_) (fun c107 => absurd c107 (by decide))
                show mp_W E X 4 70 [(3, .int 2), (2, .int 1), (1, .int i6), (0, .ref h0)] [] [(h0, .inr (6, [.int 0, .ref q1, .ref q2])), (q1, .inl (E.2.2 0, 8, .inl (fun _ => 0))), (q2, .inl (E.2.2 0, 100, .inl g7))] 2 108
                refine mp_run hF mp_tabX6_ok [mp_i (.aload_n 0), mp_h (.getfield 15) [2, 0], mp_i (.iload_n 1), mp_i (.iload_n 2), mp_h .iastore [2]] (by decide +kernel) ?_
                refine And.intro rfl (And.intro rfl ?_)
                refine And.intro rfl (And.intro rfl (And.intro (vp_in_iff.mpr (by omega)) ?_))
                intro g108 h109
                show mp_W E X 4 77 [(3, .int 2), (2, .int 1), (1, .int i6), (0, .ref h0)] [] [(h0, .inr (6, [.int 0, .ref q1, .ref q2])), (q1, .inl (E.2.2 0, 8, .inl (fun _ => 0))), (q2, .inl (E.2.2 0, 100, .inl g108))] 2 108
                refine mp_run hF mp_tabX6_ok [mp_c (.iinc 1 1) 1, mp_h (.goto (-58)) [22]] (by decide +kernel) ?_
                intro z110 h111
                have e112 : z110.toInt = i6.toInt + 1 := mp_add (a := i6.toInt) (b := 1) h111 rfl (by decide) (by omega) (by omega)
                show mp_W E X 4 22 [(1, .int z110), (3, .int 2), (2, .int 1), (0, .ref h0)] [] [(h0, .inr (6, [.int 0, .ref q1, .ref q2])), (q1, .inl (E.2.2 0, 8, .inl (fun _ => 0))), (q2, .inl (E.2.2 0, 100, .inl g108))] 2 108
                exact mp_sub [0, 3] rfl [0, 1, 2] rfl rfl (ih5 z110 g108 (by omega) (by omega))
          · have c69 : 0 = z67.toInt := (congrArg Int32.toInt c69)
            show mp_W E X 4 61 [(3, .int 0), (2, .int 0), (1, .int i6), (0, .ref h0)] [] [(h0, .inr (6, [.int 0, .ref q1, .ref q2])), (q1, .inl (E.2.2 0, 8, .inl (fun _ => 0))), (q2, .inl (E.2.2 0, 100, .inl g7))] 2 108
            refine mp_run hF mp_tabX6_ok [mp_c (.iinc 2 1) 1, mp_c (.iinc 3 1) 1, mp_h (.goto (-35)) [32], mp_i (.iload_n 3), mp_c (.iconst 2) 2, mp_h (.if_icmp .ge 36) [70]] (by decide +kernel) ?_
            intro z113 h114
            obtain rfl : z113 = 1 := h114.trans (by decide)
            intro z115 h116
            obtain rfl : z115 = 1 := h116.trans (by decide)
            refine And.intro (fun c117 => absurd c117 (by decide)) (fun _ => ?_)
            show mp_W E X 4 37 [(3, .int 1), (2, .int 1), (1, .int i6), (0, .ref h0)] [] [(h0, .inr (6, [.int 0, .ref q1, .ref q2])), (q1, .inl (E.2.2 0, 8, .inl (fun _ => 0))), (q2, .inl (E.2.2 0, 100, .inl g7))] 2 108
            refine mp_run hF mp_tabX6_ok [mp_i (.iload_n 2), mp_i (.aload_n 0), mp_h (.getfield 15) [2, 0], mp_i (.iload_n 1), mp_c (.iconst 1) 1, mp_i .isub, mp_h .iaload [2], mp_h (.if_icmp .eq 15) [61]] (by decide +kernel) ?_
            refine And.intro rfl (And.intro rfl ?_)
            intro z118 h119
            have e120 : z118.toInt = i6.toInt - 1 := mp_subi (a := i6.toInt) (b := 1) h119 rfl (by decide) (by omega) (by omega)
            refine And.intro rfl (And.intro rfl (And.intro (vp_in_iff.mpr (by omega)) ?_))
            intro z121 h122
            refine And.intro (fun c123 => ?_) (fun c123 => ?_)
            · have c123 : 1 = z121.toInt := (congrArg Int32.toInt c123)
              show mp_W E X 4 61 [(3, .int 1), (2, .int 1), (1, .int i6), (0, .ref h0)] [] [(h0, .inr (6, [.int 0, .ref q1, .ref q2])), (q1, .inl (E.2.2 0, 8, .inl (fun _ => 0))), (q2, .inl (E.2.2 0, 100, .inl g7))] 2 108
              refine mp_run hF mp_tabX6_ok [mp_c (.iinc 2 1) 1, mp_c (.iinc 3 1) 1, mp_h (.goto (-35)) [32], mp_i (.iload_n 3), mp_c (.iconst 2) 2, mp_h (.if_icmp .ge 36) [70]] (by decide +kernel) ?_
              intro z124 h125
              obtain rfl : z124 = 2 := h125.trans (by decide)
              intro z126 h127
              obtain rfl : z126 = 2 := h127.trans (by decide)
              refine And.intro (fun _ => ?_) (fun c128 => absurd c128 (by decide))
              show mp_W E X 4 70 [(3, .int 2), (2, .int 2), (1, .int i6), (0, .ref h0)] [] [(h0, .inr (6, [.int 0, .ref q1, .ref q2])), (q1, .inl (E.2.2 0, 8, .inl (fun _ => 0))), (q2, .inl (E.2.2 0, 100, .inl g7))] 2 108
              refine mp_run hF mp_tabX6_ok [mp_i (.aload_n 0), mp_h (.getfield 15) [2, 0], mp_i (.iload_n 1), mp_i (.iload_n 2), mp_h .iastore [2]] (by decide +kernel) ?_
              refine And.intro rfl (And.intro rfl ?_)
              refine And.intro rfl (And.intro rfl (And.intro (vp_in_iff.mpr (by omega)) ?_))
              intro g129 h130
              show mp_W E X 4 77 [(3, .int 2), (2, .int 2), (1, .int i6), (0, .ref h0)] [] [(h0, .inr (6, [.int 0, .ref q1, .ref q2])), (q1, .inl (E.2.2 0, 8, .inl (fun _ => 0))), (q2, .inl (E.2.2 0, 100, .inl g129))] 2 108
              refine mp_run hF mp_tabX6_ok [mp_c (.iinc 1 1) 1, mp_h (.goto (-58)) [22]] (by decide +kernel) ?_
              intro z131 h132
              have e133 : z131.toInt = i6.toInt + 1 := mp_add (a := i6.toInt) (b := 1) h132 rfl (by decide) (by omega) (by omega)
              show mp_W E X 4 22 [(1, .int z131), (3, .int 2), (2, .int 2), (0, .ref h0)] [] [(h0, .inr (6, [.int 0, .ref q1, .ref q2])), (q1, .inl (E.2.2 0, 8, .inl (fun _ => 0))), (q2, .inl (E.2.2 0, 100, .inl g129))] 2 108
              exact mp_sub [0, 3] rfl [0, 1, 2] rfl rfl (ih5 z131 g129 (by omega) (by omega))
            · have c123 : 1 ≠ z121.toInt := c123
              show mp_W E X 4 49 [(3, .int 1), (2, .int 1), (1, .int i6), (0, .ref h0)] [] [(h0, .inr (6, [.int 0, .ref q1, .ref q2])), (q1, .inl (E.2.2 0, 8, .inl (fun _ => 0))), (q2, .inl (E.2.2 0, 100, .inl g7))] 2 108
              refine mp_run hF mp_tabX6_ok [mp_i (.iload_n 2), mp_i (.aload_n 0), mp_h (.getfield 15) [2, 0], mp_i (.iload_n 1), mp_c (.iconst 2) 2, mp_i .idiv, mp_h .iaload [2], mp_h (.if_icmp .ne 6) [64]] (by decide +kernel) ?_
              refine And.intro rfl (And.intro rfl ?_)
              refine And.intro (by decide) ?_
              intro z134 h135
              have e136 : z134.toInt = i6.toInt / 2 := mp_div (a := i6.toInt) (b := 2) h135 rfl (by decide) (by omega) (by decide)
              refine And.intro rfl (And.intro rfl (And.intro (vp_in_iff.mpr (by omega)) ?_))
              intro z137 h138
              refine And.intro (fun c139 => ?_) (fun c139 => ?_)
              · have c139 : 1 ≠ z137.toInt := c139
                show mp_W E X 4 64 [(3, .int 1), (2, .int 1), (1, .int i6), (0, .ref h0)] [] [(h0, .inr (6, [.int 0, .ref q1, .ref q2])), (q1, .inl (E.2.2 0, 8, .inl (fun _ => 0))), (q2, .inl (E.2.2 0, 100, .inl g7))] 2 108
                refine mp_run hF mp_tabX6_ok [mp_c (.iinc 3 1) 1, mp_h (.goto (-35)) [32], mp_i (.iload_n 3), mp_c (.iconst 2) 2, mp_h (.if_icmp .ge 36) [70]] (by decide +kernel) ?_
                intro z140 h141
                obtain rfl : z140 = 2 := h141.trans (by decide)
                refine And.intro (fun _ => ?_) (fun c142 => absurd c142 (by decide))
                show mp_W E X 4 70 [(3, .int 2), (2, .int 1), (1, .int i6), (0, .ref h0)] [] [(h0, .inr (6, [.int 0, .ref q1, .ref q2])), (q1, .inl (E.2.2 0, 8, .inl (fun _ => 0))), (q2, .inl (E.2.2 0, 100, .inl g7))] 2 108
                refine mp_run hF mp_tabX6_ok [mp_i (.aload_n 0), mp_h (.getfield 15) [2, 0], mp_i (.iload_n 1), mp_i (.iload_n 2), mp_h .iastore [2]] (by decide +kernel) ?_
                refine And.intro rfl (And.intro rfl ?_)
                refine And.intro rfl (And.intro rfl (And.intro (vp_in_iff.mpr (by omega)) ?_))
                intro g143 h144
                show mp_W E X 4 77 [(3, .int 2), (2, .int 1), (1, .int i6), (0, .ref h0)] [] [(h0, .inr (6, [.int 0, .ref q1, .ref q2])), (q1, .inl (E.2.2 0, 8, .inl (fun _ => 0))), (q2, .inl (E.2.2 0, 100, .inl g143))] 2 108
                refine mp_run hF mp_tabX6_ok [mp_c (.iinc 1 1) 1, mp_h (.goto (-58)) [22]] (by decide +kernel) ?_
                intro z145 h146
                have e147 : z145.toInt = i6.toInt + 1 := mp_add (a := i6.toInt) (b := 1) h146 rfl (by decide) (by omega) (by omega)
                show mp_W E X 4 22 [(1, .int z145), (3, .int 2), (2, .int 1), (0, .ref h0)] [] [(h0, .inr (6, [.int 0, .ref q1, .ref q2])), (q1, .inl (E.2.2 0, 8, .inl (fun _ => 0))), (q2, .inl (E.2.2 0, 100, .inl g143))] 2 108
                exact mp_sub [0, 3] rfl [0, 1, 2] rfl rfl (ih5 z145 g143 (by omega) (by omega))
              · have c139 : 1 = z137.toInt := (congrArg Int32.toInt c139)
                show mp_W E X 4 61 [(3, .int 1), (2, .int 1), (1, .int i6), (0, .ref h0)] [] [(h0, .inr (6, [.int 0, .ref q1, .ref q2])), (q1, .inl (E.2.2 0, 8, .inl (fun _ => 0))), (q2, .inl (E.2.2 0, 100, .inl g7))] 2 108
                refine mp_run hF mp_tabX6_ok [mp_c (.iinc 2 1) 1, mp_c (.iinc 3 1) 1, mp_h (.goto (-35)) [32], mp_i (.iload_n 3), mp_c (.iconst 2) 2, mp_h (.if_icmp .ge 36) [70]] (by decide +kernel) ?_
                intro z148 h149
                obtain rfl : z148 = 2 := h149.trans (by decide)
                intro z150 h151
                obtain rfl : z150 = 2 := h151.trans (by decide)
                refine And.intro (fun _ => ?_) (fun c152 => absurd c152 (by decide))
                show mp_W E X 4 70 [(3, .int 2), (2, .int 2), (1, .int i6), (0, .ref h0)] [] [(h0, .inr (6, [.int 0, .ref q1, .ref q2])), (q1, .inl (E.2.2 0, 8, .inl (fun _ => 0))), (q2, .inl (E.2.2 0, 100, .inl g7))] 2 108
                refine mp_run hF mp_tabX6_ok [mp_i (.aload_n 0), mp_h (.getfield 15) [2, 0], mp_i (.iload_n 1), mp_i (.iload_n 2), mp_h .iastore [2]] (by decide +kernel) ?_
                refine And.intro rfl (And.intro rfl ?_)
                refine And.intro rfl (And.intro rfl (And.intro (vp_in_iff.mpr (by omega)) ?_))
                intro g153 h154
                show mp_W E X 4 77 [(3, .int 2), (2, .int 2), (1, .int i6), (0, .ref h0)] [] [(h0, .inr (6, [.int 0, .ref q1, .ref q2])), (q1, .inl (E.2.2 0, 8, .inl (fun _ => 0))), (q2, .inl (E.2.2 0, 100, .inl g153))] 2 108
                refine mp_run hF mp_tabX6_ok [mp_c (.iinc 1 1) 1, mp_h (.goto (-58)) [22]] (by decide +kernel) ?_
                intro z155 h156
                have e157 : z155.toInt = i6.toInt + 1 := mp_add (a := i6.toInt) (b := 1) h156 rfl (by decide) (by omega) (by omega)
                show mp_W E X 4 22 [(1, .int z155), (3, .int 2), (2, .int 2), (0, .ref h0)] [] [(h0, .inr (6, [.int 0, .ref q1, .ref q2])), (q1, .inl (E.2.2 0, 8, .inl (fun _ => 0))), (q2, .inl (E.2.2 0, 100, .inl g153))] 2 108
                exact mp_sub [0, 3] rfl [0, 1, 2] rfl rfl (ih5 z155 g153 (by omega) (by omega))
  exact mp_sub [0, 1] rfl [0, 1, 2] rfl rfl (lp3 99 1 ((fun _ => 0)) (by decide) (by decide))

set_option maxHeartbeats 4000000 in
set_option maxRecDepth 100000 in
theorem k_Model (E : mp_E) (h0 : Nat) : mp_Ct E yX10_init cX10_init 2 none 1 25 7624 12 [.ref h0] [(h0, .inr (10, [.int 0, .null, .null, .null, .null, .null, .int 0, .int 0, .int 0, .int 0, .int 0, .long 0, .int 0, .int 0, .int 0, .int 0, .null, .null, .null, .null, .null, .null, .null, .null, .int 0, .null, .null, .null, .null, .int 0, .int 0, .int 0, .null, .null, .int 0, .int 0, .null, .null, .null, .int 0, .int 0, .int 0, .int 0, .null, .null, .null, .int 0]))] (fun v w' => v = none ∧ ∃ b : Nat → Nat, ∃ wd : Nat → Int32, b 0 = h0 ∧ (∀ j, j < 4 → wd j = -1) ∧ w' = [(h0, .inr (10, [.int 0, .ref (b 1), .ref (b 2), .ref (b 3), .ref (b 4), .ref (b 5), .int 0, .int 0, .int 0, .int 0, .int 0, .long 0, .int 0, .int 0, .int 0, .int (-1), .ref (b 6), .ref (b 7), .ref (b 8), .ref (b 9), .ref (b 10), .ref (b 11), .ref (b 12), .ref (b 13), .int 0, .ref (b 14), .ref (b 15), .ref (b 16), .ref (b 17), .int 0, .int 0, .int 0, .ref (b 18), .ref (b 19), .int 0, .int 0, .ref (b 20), .ref (b 21), .ref (b 22), .int 0, .int 0, .int 0, .int 0, .ref (b 23), .ref (b 24), .ref (b 25), .int 0])), ((b 1), .inl (E.2.2 0, 4, .inl wd)), ((b 2), .inl (E.2.2 0, 4, .inl (fun _ => 0))), ((b 3), .inl (E.2.2 2, 240, .inr (.inl (fun _ => 0)))), ((b 4), .inl (E.2.2 2, 60, .inr (.inl (fun _ => 0)))), ((b 5), .inl (E.2.2 1, 1600, .inl (fun _ => 0))), ((b 6), .inl (E.2.2 0, 5, .inl (fun _ => 0))), ((b 7), .inl (E.2.2 0, 25, .inl (fun _ => 0))), ((b 8), .inl (E.2.2 0, 180, .inl (fun _ => 0))), ((b 9), .inl (E.2.2 3, 3000, .inl (fun _ => 0))), ((b 10), .inl (E.2.2 0, 90, .inl (fun _ => 0))), ((b 11), .inl (E.2.2 0, 300, .inl (fun _ => 0))), ((b 12), .inl (E.2.2 0, 300, .inl (fun _ => 0))), ((b 13), .inl (E.2.2 3, 3, .inl (fun _ => 0))), ((b 14), .inl (E.2.2 0, 6, .inl (fun _ => 0))), ((b 15), .inl (E.2.2 0, 6, .inl (fun _ => 0))), ((b 16), .inl (E.2.2 0, 6, .inl (fun _ => 0))), ((b 17), .inl (E.2.2 3, 1500, .inl (fun _ => 0))), ((b 18), .inl (E.2.2 0, 78, .inl (fun _ => 0))), ((b 19), .inl (E.2.2 2, 78, .inr (.inl (fun _ => 0)))), ((b 20), .inl (E.2.2 0, 6, .inl (fun _ => 0))), ((b 21), .inl (E.2.2 0, 6, .inl (fun _ => 0))), ((b 22), .inl (E.2.2 0, 3, .inl (fun _ => 0))), ((b 23), .inl (E.2.2 0, 12, .inl (fun _ => 0))), ((b 24), .inl (E.2.2 0, 12, .inl (fun _ => 0))), ((b 25), .inl (E.2.2 0, 100, .inl (fun _ => 0)))]) := by
  refine mp_met true (by decide) (by decide) (Nat.le_of_ble_eq_true rfl) (fun X hF hQ => ?_)
  have hF : mp_F E X (RX10, cX10_init, 2, (1, 25, 7624, 12), none, true) := hF
  show mp_W E X 2 0 [(0, .ref h0)] [] [(h0, .inr (10, [.int 0, .null, .null, .null, .null, .null, .int 0, .int 0, .int 0, .int 0, .int 0, .long 0, .int 0, .int 0, .int 0, .int 0, .null, .null, .null, .null, .null, .null, .null, .null, .int 0, .null, .null, .null, .null, .int 0, .int 0, .int 0, .null, .null, .int 0, .int 0, .null, .null, .null, .int 0, .int 0, .int 0, .int 0, .null, .null, .null, .int 0]))] 0 0
  refine mp_run hF mp_tabX10_ok [mp_i (.aload_n 0)] (by decide +kernel) ?_
  show mp_W E X 2 1 [(0, .ref h0)] [.ref h0] [(h0, .inr (10, [.int 0, .null, .null, .null, .null, .null, .int 0, .int 0, .int 0, .int 0, .int 0, .long 0, .int 0, .int 0, .int 0, .int 0, .null, .null, .null, .null, .null, .null, .null, .null, .int 0, .null, .null, .null, .null, .int 0, .int 0, .int 0, .null, .null, .int 0, .int 0, .null, .null, .null, .int 0, .int 0, .int 0, .int 0, .null, .null, .null, .int 0]))] 0 0
  refine mp_objInit hF (idx := 1) (mp_gm (j := 6010) (by decide +kernel)) ⟨(Nat.le_of_ble_eq_true rfl), (Nat.le_of_ble_eq_true rfl)⟩ (by decide +kernel) ?_
  show mp_W E X 2 4 [(0, .ref h0)] [] [(h0, .inr (10, [.int 0, .null, .null, .null, .null, .null, .int 0, .int 0, .int 0, .int 0, .int 0, .long 0, .int 0, .int 0, .int 0, .int 0, .null, .null, .null, .null, .null, .null, .null, .null, .int 0, .null, .null, .null, .null, .int 0, .int 0, .int 0, .null, .null, .int 0, .int 0, .null, .null, .null, .int 0, .int 0, .int 0, .int 0, .null, .null, .null, .int 0]))] 0 0
  refine mp_run hF mp_tabX10_ok [mp_i (.aload_n 0), mp_c (.iconst 4) 4, mp_h (.newarray .int) [4], mp_h (.putfield 7) [1, 0]] (by decide +kernel) ?_
  refine And.intro (by decide) (And.intro (Nat.le_of_ble_eq_true rfl) (And.intro (Nat.le_of_ble_eq_true rfl) (And.intro (by decide) ?_)))
  intro q1
  refine And.intro rfl (And.intro rfl (And.intro rfl (And.intro rfl (And.intro (Nat.le_of_ble_eq_true rfl) ?_))))
  show mp_W E X 2 11 [(0, .ref h0)] [] [(h0, .inr (10, [.int 0, .ref q1, .null, .null, .null, .null, .int 0, .int 0, .int 0, .int 0, .int 0, .long 0, .int 0, .int 0, .int 0, .int 0, .null, .null, .null, .null, .null, .null, .null, .null, .int 0, .null, .null, .null, .null, .int 0, .int 0, .int 0, .null, .null, .int 0, .int 0, .null, .null, .null, .int 0, .int 0, .int 0, .int 0, .null, .null, .null, .int 0])), (q1, .inl (E.2.2 0, 4, .inl (fun _ => 0)))] 1 4
  refine mp_run hF mp_tabX10_ok [mp_i (.aload_n 0), mp_c (.iconst 4) 4, mp_h (.newarray .int) [4], mp_h (.putfield 13) [2, 0]] (by decide +kernel) ?_
  refine And.intro (by decide) (And.intro (Nat.le_of_ble_eq_true rfl) (And.intro (Nat.le_of_ble_eq_true rfl) (And.intro (by decide) ?_)))
  intro q2
  refine And.intro rfl (And.intro rfl (And.intro rfl (And.intro rfl (And.intro (Nat.le_of_ble_eq_true rfl) ?_))))
  show mp_W E X 2 18 [(0, .ref h0)] [] [(h0, .inr (10, [.int 0, .ref q1, .ref q2, .null, .null, .null, .int 0, .int 0, .int 0, .int 0, .int 0, .long 0, .int 0, .int 0, .int 0, .int 0, .null, .null, .null, .null, .null, .null, .null, .null, .int 0, .null, .null, .null, .null, .int 0, .int 0, .int 0, .null, .null, .int 0, .int 0, .null, .null, .null, .int 0, .int 0, .int 0, .int 0, .null, .null, .null, .int 0])), (q1, .inl (E.2.2 0, 4, .inl (fun _ => 0))), (q2, .inl (E.2.2 0, 4, .inl (fun _ => 0)))] 2 8
  refine mp_run hF mp_tabX10_ok [mp_i (.aload_n 0), mp_c (.sipush 240) 240, mp_h (.newarray .long) [240], mp_h (.putfield 16) [3, 0]] (by decide +kernel) ?_
  refine And.intro (by decide) (And.intro (Nat.le_of_ble_eq_true rfl) (And.intro (Nat.le_of_ble_eq_true rfl) (And.intro (by decide) ?_)))
  intro q3
  refine And.intro rfl (And.intro rfl (And.intro rfl (And.intro rfl (And.intro (Nat.le_of_ble_eq_true rfl) ?_))))
  show mp_W E X 2 27 [(0, .ref h0)] [] [(h0, .inr (10, [.int 0, .ref q1, .ref q2, .ref q3, .null, .null, .int 0, .int 0, .int 0, .int 0, .int 0, .long 0, .int 0, .int 0, .int 0, .int 0, .null, .null, .null, .null, .null, .null, .null, .null, .int 0, .null, .null, .null, .null, .int 0, .int 0, .int 0, .null, .null, .int 0, .int 0, .null, .null, .null, .int 0, .int 0, .int 0, .int 0, .null, .null, .null, .int 0])), (q1, .inl (E.2.2 0, 4, .inl (fun _ => 0))), (q2, .inl (E.2.2 0, 4, .inl (fun _ => 0))), (q3, .inl (E.2.2 2, 240, .inr (.inl (fun _ => 0))))] 3 248
  refine mp_run hF mp_tabX10_ok [mp_i (.aload_n 0), mp_c (.bipush 60) 60, mp_h (.newarray .long) [60], mp_h (.putfield 20) [4, 0]] (by decide +kernel) ?_
  refine And.intro (by decide) (And.intro (Nat.le_of_ble_eq_true rfl) (And.intro (Nat.le_of_ble_eq_true rfl) (And.intro (by decide) ?_)))
  intro q4
  refine And.intro rfl (And.intro rfl (And.intro rfl (And.intro rfl (And.intro (Nat.le_of_ble_eq_true rfl) ?_))))
  show mp_W E X 2 35 [(0, .ref h0)] [] [(h0, .inr (10, [.int 0, .ref q1, .ref q2, .ref q3, .ref q4, .null, .int 0, .int 0, .int 0, .int 0, .int 0, .long 0, .int 0, .int 0, .int 0, .int 0, .null, .null, .null, .null, .null, .null, .null, .null, .int 0, .null, .null, .null, .null, .int 0, .int 0, .int 0, .null, .null, .int 0, .int 0, .null, .null, .null, .int 0, .int 0, .int 0, .int 0, .null, .null, .null, .int 0])), (q1, .inl (E.2.2 0, 4, .inl (fun _ => 0))), (q2, .inl (E.2.2 0, 4, .inl (fun _ => 0))), (q3, .inl (E.2.2 2, 240, .inr (.inl (fun _ => 0)))), (q4, .inl (E.2.2 2, 60, .inr (.inl (fun _ => 0))))] 4 308
  refine mp_run hF mp_tabX10_ok [mp_i (.aload_n 0), mp_c (.sipush 1600) 1600, mp_h (.newarray .byte) [1600], mp_h (.putfield 23) [5, 0]] (by decide +kernel) ?_
  refine And.intro (by decide) (And.intro (Nat.le_of_ble_eq_true rfl) (And.intro (Nat.le_of_ble_eq_true rfl) (And.intro (by decide) ?_)))
  intro q5
  refine And.intro rfl (And.intro rfl (And.intro rfl (And.intro rfl (And.intro (Nat.le_of_ble_eq_true rfl) ?_))))
  show mp_W E X 2 44 [(0, .ref h0)] [] [(h0, .inr (10, [.int 0, .ref q1, .ref q2, .ref q3, .ref q4, .ref q5, .int 0, .int 0, .int 0, .int 0, .int 0, .long 0, .int 0, .int 0, .int 0, .int 0, .null, .null, .null, .null, .null, .null, .null, .null, .int 0, .null, .null, .null, .null, .int 0, .int 0, .int 0, .null, .null, .int 0, .int 0, .null, .null, .null, .int 0, .int 0, .int 0, .int 0, .null, .null, .null, .int 0])), (q1, .inl (E.2.2 0, 4, .inl (fun _ => 0))), (q2, .inl (E.2.2 0, 4, .inl (fun _ => 0))), (q3, .inl (E.2.2 2, 240, .inr (.inl (fun _ => 0)))), (q4, .inl (E.2.2 2, 60, .inr (.inl (fun _ => 0)))), (q5, .inl (E.2.2 1, 1600, .inl (fun _ => 0)))] 5 1908
  refine mp_run hF mp_tabX10_ok [mp_i (.aload_n 0), mp_c (.iconst (-1)) (-1), mp_h (.putfield 27) [15, 0]] (by decide +kernel) ?_
  refine And.intro rfl (And.intro rfl (And.intro rfl (And.intro rfl (And.intro (Nat.le_of_ble_eq_true rfl) ?_))))
  show mp_W E X 2 49 [(0, .ref h0)] [] [(h0, .inr (10, [.int 0, .ref q1, .ref q2, .ref q3, .ref q4, .ref q5, .int 0, .int 0, .int 0, .int 0, .int 0, .long 0, .int 0, .int 0, .int 0, .int (-1), .null, .null, .null, .null, .null, .null, .null, .null, .int 0, .null, .null, .null, .null, .int 0, .int 0, .int 0, .null, .null, .int 0, .int 0, .null, .null, .null, .int 0, .int 0, .int 0, .int 0, .null, .null, .null, .int 0])), (q1, .inl (E.2.2 0, 4, .inl (fun _ => 0))), (q2, .inl (E.2.2 0, 4, .inl (fun _ => 0))), (q3, .inl (E.2.2 2, 240, .inr (.inl (fun _ => 0)))), (q4, .inl (E.2.2 2, 60, .inr (.inl (fun _ => 0)))), (q5, .inl (E.2.2 1, 1600, .inl (fun _ => 0)))] 5 1908
  refine mp_run hF mp_tabX10_ok [mp_i (.aload_n 0), mp_c (.iconst 5) 5, mp_h (.newarray .int) [5], mp_h (.putfield 31) [16, 0]] (by decide +kernel) ?_
  refine And.intro (by decide) (And.intro (Nat.le_of_ble_eq_true rfl) (And.intro (Nat.le_of_ble_eq_true rfl) (And.intro (by decide) ?_)))
  intro q6
  refine And.intro rfl (And.intro rfl (And.intro rfl (And.intro rfl (And.intro (Nat.le_of_ble_eq_true rfl) ?_))))
  show mp_W E X 2 56 [(0, .ref h0)] [] [(h0, .inr (10, [.int 0, .ref q1, .ref q2, .ref q3, .ref q4, .ref q5, .int 0, .int 0, .int 0, .int 0, .int 0, .long 0, .int 0, .int 0, .int 0, .int (-1), .ref q6, .null, .null, .null, .null, .null, .null, .null, .int 0, .null, .null, .null, .null, .int 0, .int 0, .int 0, .null, .null, .int 0, .int 0, .null, .null, .null, .int 0, .int 0, .int 0, .int 0, .null, .null, .null, .int 0])), (q1, .inl (E.2.2 0, 4, .inl (fun _ => 0))), (q2, .inl (E.2.2 0, 4, .inl (fun _ => 0))), (q3, .inl (E.2.2 2, 240, .inr (.inl (fun _ => 0)))), (q4, .inl (E.2.2 2, 60, .inr (.inl (fun _ => 0)))), (q5, .inl (E.2.2 1, 1600, .inl (fun _ => 0))), (q6, .inl (E.2.2 0, 5, .inl (fun _ => 0)))] 6 1913
  refine mp_run hF mp_tabX10_ok [mp_i (.aload_n 0), mp_c (.bipush 25) 25, mp_h (.newarray .int) [25], mp_h (.putfield 34) [17, 0]] (by decide +kernel) ?_
  refine And.intro (by decide) (And.intro (Nat.le_of_ble_eq_true rfl) (And.intro (Nat.le_of_ble_eq_true rfl) (And.intro (by decide) ?_)))
  intro q7
  refine And.intro rfl (And.intro rfl (And.intro rfl (And.intro rfl (And.intro (Nat.le_of_ble_eq_true rfl) ?_))))
  show mp_W E X 2 64 [(0, .ref h0)] [] [(h0, .inr (10, [.int 0, .ref q1, .ref q2, .ref q3, .ref q4, .ref q5, .int 0, .int 0, .int 0, .int 0, .int 0, .long 0, .int 0, .int 0, .int 0, .int (-1), .ref q6, .ref q7, .null, .null, .null, .null, .null, .null, .int 0, .null, .null, .null, .null, .int 0, .int 0, .int 0, .null, .null, .int 0, .int 0, .null, .null, .null, .int 0, .int 0, .int 0, .int 0, .null, .null, .null, .int 0])), (q1, .inl (E.2.2 0, 4, .inl (fun _ => 0))), (q2, .inl (E.2.2 0, 4, .inl (fun _ => 0))), (q3, .inl (E.2.2 2, 240, .inr (.inl (fun _ => 0)))), (q4, .inl (E.2.2 2, 60, .inr (.inl (fun _ => 0)))), (q5, .inl (E.2.2 1, 1600, .inl (fun _ => 0))), (q6, .inl (E.2.2 0, 5, .inl (fun _ => 0))), (q7, .inl (E.2.2 0, 25, .inl (fun _ => 0)))] 7 1938
  refine mp_run hF mp_tabX10_ok [mp_i (.aload_n 0), mp_c (.sipush 180) 180, mp_h (.newarray .int) [180], mp_h (.putfield 37) [18, 0]] (by decide +kernel) ?_
  refine And.intro (by decide) (And.intro (Nat.le_of_ble_eq_true rfl) (And.intro (Nat.le_of_ble_eq_true rfl) (And.intro (by decide) ?_)))
  intro q8
  refine And.intro rfl (And.intro rfl (And.intro rfl (And.intro rfl (And.intro (Nat.le_of_ble_eq_true rfl) ?_))))
  show mp_W E X 2 73 [(0, .ref h0)] [] [(h0, .inr (10, [.int 0, .ref q1, .ref q2, .ref q3, .ref q4, .ref q5, .int 0, .int 0, .int 0, .int 0, .int 0, .long 0, .int 0, .int 0, .int 0, .int (-1), .ref q6, .ref q7, .ref q8, .null, .null, .null, .null, .null, .int 0, .null, .null, .null, .null, .int 0, .int 0, .int 0, .null, .null, .int 0, .int 0, .null, .null, .null, .int 0, .int 0, .int 0, .int 0, .null, .null, .null, .int 0])), (q1, .inl (E.2.2 0, 4, .inl (fun _ => 0))), (q2, .inl (E.2.2 0, 4, .inl (fun _ => 0))), (q3, .inl (E.2.2 2, 240, .inr (.inl (fun _ => 0)))), (q4, .inl (E.2.2 2, 60, .inr (.inl (fun _ => 0)))), (q5, .inl (E.2.2 1, 1600, .inl (fun _ => 0))), (q6, .inl (E.2.2 0, 5, .inl (fun _ => 0))), (q7, .inl (E.2.2 0, 25, .inl (fun _ => 0))), (q8, .inl (E.2.2 0, 180, .inl (fun _ => 0)))] 8 2118
  refine mp_run hF mp_tabX10_ok [mp_i (.aload_n 0), mp_c (.sipush 3000) 3000, mp_h (.newarray .boolean) [3000], mp_h (.putfield 40) [19, 0]] (by decide +kernel) ?_
  refine And.intro (by decide) (And.intro (Nat.le_of_ble_eq_true rfl) (And.intro (Nat.le_of_ble_eq_true rfl) (And.intro (by decide) ?_)))
  intro q9
  refine And.intro rfl (And.intro rfl (And.intro rfl (And.intro rfl (And.intro (Nat.le_of_ble_eq_true rfl) ?_))))
  show mp_W E X 2 82 [(0, .ref h0)] [] [(h0, .inr (10, [.int 0, .ref q1, .ref q2, .ref q3, .ref q4, .ref q5, .int 0, .int 0, .int 0, .int 0, .int 0, .long 0, .int 0, .int 0, .int 0, .int (-1), .ref q6, .ref q7, .ref q8, .ref q9, .null, .null, .null, .null, .int 0, .null, .null, .null, .null, .int 0, .int 0, .int 0, .null, .null, .int 0, .int 0, .null, .null, .null, .int 0, .int 0, .int 0, .int 0, .null, .null, .null, .int 0])), (q1, .inl (E.2.2 0, 4, .inl (fun _ => 0))), (q2, .inl (E.2.2 0, 4, .inl (fun _ => 0))), (q3, .inl (E.2.2 2, 240, .inr (.inl (fun _ => 0)))), (q4, .inl (E.2.2 2, 60, .inr (.inl (fun _ => 0)))), (q5, .inl (E.2.2 1, 1600, .inl (fun _ => 0))), (q6, .inl (E.2.2 0, 5, .inl (fun _ => 0))), (q7, .inl (E.2.2 0, 25, .inl (fun _ => 0))), (q8, .inl (E.2.2 0, 180, .inl (fun _ => 0))), (q9, .inl (E.2.2 3, 3000, .inl (fun _ => 0)))] 9 5118
  refine mp_run hF mp_tabX10_ok [mp_i (.aload_n 0), mp_c (.bipush 90) 90, mp_h (.newarray .int) [90], mp_h (.putfield 44) [20, 0]] (by decide +kernel) ?_
  refine And.intro (by decide) (And.intro (Nat.le_of_ble_eq_true rfl) (And.intro (Nat.le_of_ble_eq_true rfl) (And.intro (by decide) ?_)))
  intro q10
  refine And.intro rfl (And.intro rfl (And.intro rfl (And.intro rfl (And.intro (Nat.le_of_ble_eq_true rfl) ?_))))
  show mp_W E X 2 90 [(0, .ref h0)] [] [(h0, .inr (10, [.int 0, .ref q1, .ref q2, .ref q3, .ref q4, .ref q5, .int 0, .int 0, .int 0, .int 0, .int 0, .long 0, .int 0, .int 0, .int 0, .int (-1), .ref q6, .ref q7, .ref q8, .ref q9, .ref q10, .null, .null, .null, .int 0, .null, .null, .null, .null, .int 0, .int 0, .int 0, .null, .null, .int 0, .int 0, .null, .null, .null, .int 0, .int 0, .int 0, .int 0, .null, .null, .null, .int 0])), (q1, .inl (E.2.2 0, 4, .inl (fun _ => 0))), (q2, .inl (E.2.2 0, 4, .inl (fun _ => 0))), (q3, .inl (E.2.2 2, 240, .inr (.inl (fun _ => 0)))), (q4, .inl (E.2.2 2, 60, .inr (.inl (fun _ => 0)))), (q5, .inl (E.2.2 1, 1600, .inl (fun _ => 0))), (q6, .inl (E.2.2 0, 5, .inl (fun _ => 0))), (q7, .inl (E.2.2 0, 25, .inl (fun _ => 0))), (q8, .inl (E.2.2 0, 180, .inl (fun _ => 0))), (q9, .inl (E.2.2 3, 3000, .inl (fun _ => 0))), (q10, .inl (E.2.2 0, 90, .inl (fun _ => 0)))] 10 5208
  refine mp_run hF mp_tabX10_ok [mp_i (.aload_n 0), mp_c (.sipush 300) 300, mp_h (.newarray .int) [300], mp_h (.putfield 47) [21, 0]] (by decide +kernel) ?_
  refine And.intro (by decide) (And.intro (Nat.le_of_ble_eq_true rfl) (And.intro (Nat.le_of_ble_eq_true rfl) (And.intro (by decide) ?_)))
  intro q11
  refine And.intro rfl (And.intro rfl (And.intro rfl (And.intro rfl (And.intro (Nat.le_of_ble_eq_true rfl) ?_))))
  show mp_W E X 2 99 [(0, .ref h0)] [] [(h0, .inr (10, [.int 0, .ref q1, .ref q2, .ref q3, .ref q4, .ref q5, .int 0, .int 0, .int 0, .int 0, .int 0, .long 0, .int 0, .int 0, .int 0, .int (-1), .ref q6, .ref q7, .ref q8, .ref q9, .ref q10, .ref q11, .null, .null, .int 0, .null, .null, .null, .null, .int 0, .int 0, .int 0, .null, .null, .int 0, .int 0, .null, .null, .null, .int 0, .int 0, .int 0, .int 0, .null, .null, .null, .int 0])), (q1, .inl (E.2.2 0, 4, .inl (fun _ => 0))), (q2, .inl (E.2.2 0, 4, .inl (fun _ => 0))), (q3, .inl (E.2.2 2, 240, .inr (.inl (fun _ => 0)))), (q4, .inl (E.2.2 2, 60, .inr (.inl (fun _ => 0)))), (q5, .inl (E.2.2 1, 1600, .inl (fun _ => 0))), (q6, .inl (E.2.2 0, 5, .inl (fun _ => 0))), (q7, .inl (E.2.2 0, 25, .inl (fun _ => 0))), (q8, .inl (E.2.2 0, 180, .inl (fun _ => 0))), (q9, .inl (E.2.2 3, 3000, .inl (fun _ => 0))), (q10, .inl (E.2.2 0, 90, .inl (fun _ => 0))), (q11, .inl (E.2.2 0, 300, .inl (fun _ => 0)))] 11 5508
  refine mp_run hF mp_tabX10_ok [mp_i (.aload_n 0), mp_c (.sipush 300) 300, mp_h (.newarray .int) [300], mp_h (.putfield 50) [22, 0]] (by decide +kernel) ?_
  refine And.intro (by decide) (And.intro (Nat.le_of_ble_eq_true rfl) (And.intro (Nat.le_of_ble_eq_true rfl) (And.intro (by decide) ?_)))
  intro q12
  refine And.intro rfl (And.intro rfl (And.intro rfl (And.intro rfl (And.intro (Nat.le_of_ble_eq_true rfl) ?_))))
  show mp_W E X 2 108 [(0, .ref h0)] [] [(h0, .inr (10, [.int 0, .ref q1, .ref q2, .ref q3, .ref q4, .ref q5, .int 0, .int 0, .int 0, .int 0, .int 0, .long 0, .int 0, .int 0, .int 0, .int (-1), .ref q6, .ref q7, .ref q8, .ref q9, .ref q10, .ref q11, .ref q12, .null, .int 0, .null, .null, .null, .null, .int 0, .int 0, .int 0, .null, .null, .int 0, .int 0, .null, .null, .null, .int 0, .int 0, .int 0, .int 0, .null, .null, .null, .int 0])), (q1, .inl (E.2.2 0, 4, .inl (fun _ => 0))), (q2, .inl (E.2.2 0, 4, .inl (fun _ => 0))), (q3, .inl (E.2.2 2, 240, .inr (.inl (fun _ => 0)))), (q4, .inl (E.2.2 2, 60, .inr (.inl (fun _ => 0)))), (q5, .inl (E.2.2 1, 1600, .inl (fun _ => 0))), (q6, .inl (E.2.2 0, 5, .inl (fun _ => 0))), (q7, .inl (E.2.2 0, 25, .inl (fun _ => 0))), (q8, .inl (E.2.2 0, 180, .inl (fun _ => 0))), (q9, .inl (E.2.2 3, 3000, .inl (fun _ => 0))), (q10, .inl (E.2.2 0, 90, .inl (fun _ => 0))), (q11, .inl (E.2.2 0, 300, .inl (fun _ => 0))), (q12, .inl (E.2.2 0, 300, .inl (fun _ => 0)))] 12 5808
  refine mp_run hF mp_tabX10_ok [mp_i (.aload_n 0), mp_c (.iconst 3) 3, mp_h (.newarray .boolean) [3], mp_h (.putfield 53) [23, 0]] (by decide +kernel) ?_
  refine And.intro (by decide) (And.intro (Nat.le_of_ble_eq_true rfl) (And.intro (Nat.le_of_ble_eq_true rfl) (And.intro (by decide) ?_)))
  intro q13
  refine And.intro rfl (And.intro rfl (And.intro rfl (And.intro rfl (And.intro (Nat.le_of_ble_eq_true rfl) ?_))))
  show mp_W E X 2 115 [(0, .ref h0)] [] [(h0, .inr (10, [.int 0, .ref q1, .ref q2, .ref q3, .ref q4, .ref q5, .int 0, .int 0, .int 0, .int 0, .int 0, .long 0, .int 0, .int 0, .int 0, .int (-1), .ref q6, .ref q7, .ref q8, .ref q9, .ref q10, .ref q11, .ref q12, .ref q13, .int 0, .null, .null, .null, .null, .int 0, .int 0, .int 0, .null, .null, .int 0, .int 0, .null, .null, .null, .int 0, .int 0, .int 0, .int 0, .null, .null, .null, .int 0])), (q1, .inl (E.2.2 0, 4, .inl (fun _ => 0))), (q2, .inl (E.2.2 0, 4, .inl (fun _ => 0))), (q3, .inl (E.2.2 2, 240, .inr (.inl (fun _ => 0)))), (q4, .inl (E.2.2 2, 60, .inr (.inl (fun _ => 0)))), (q5, .inl (E.2.2 1, 1600, .inl (fun _ => 0))), (q6, .inl (E.2.2 0, 5, .inl (fun _ => 0))), (q7, .inl (E.2.2 0, 25, .inl (fun _ => 0))), (q8, .inl (E.2.2 0, 180, .inl (fun _ => 0))), (q9, .inl (E.2.2 3, 3000, .inl (fun _ => 0))), (q10, .inl (E.2.2 0, 90, .inl (fun _ => 0))), (q11, .inl (E.2.2 0, 300, .inl (fun _ => 0))), (q12, .inl (E.2.2 0, 300, .inl (fun _ => 0))), (q13, .inl (E.2.2 3, 3, .inl (fun _ => 0)))] 13 5811
  refine mp_run hF mp_tabX10_ok [mp_i (.aload_n 0), mp_c (.bipush 6) 6, mp_h (.newarray .int) [6], mp_h (.putfield 56) [25, 0]] (by decide +kernel) ?_
  refine And.intro (by decide) (And.intro (Nat.le_of_ble_eq_true rfl) (And.intro (Nat.le_of_ble_eq_true rfl) (And.intro (by decide) ?_)))
  intro q14
  refine And.intro rfl (And.intro rfl (And.intro rfl (And.intro rfl (And.intro (Nat.le_of_ble_eq_true rfl) ?_))))
  show mp_W E X 2 123 [(0, .ref h0)] [] [(h0, .inr (10, [.int 0, .ref q1, .ref q2, .ref q3, .ref q4, .ref q5, .int 0, .int 0, .int 0, .int 0, .int 0, .long 0, .int 0, .int 0, .int 0, .int (-1), .ref q6, .ref q7, .ref q8, .ref q9, .ref q10, .ref q11, .ref q12, .ref q13, .int 0, .ref q14, .null, .null, .null, .int 0, .int 0, .int 0, .null, .null, .int 0, .int 0, .null, .null, .null, .int 0, .int 0, .int 0, .int 0, .null, .null, .null, .int 0])), (q1, .inl (E.2.2 0, 4, .inl (fun _ => 0))), (q2, .inl (E.2.2 0, 4, .inl (fun _ => 0))), (q3, .inl (E.2.2 2, 240, .inr (.inl (fun _ => 0)))), (q4, .inl (E.2.2 2, 60, .inr (.inl (fun _ => 0)))), (q5, .inl (E.2.2 1, 1600, .inl (fun _ => 0))), (q6, .inl (E.2.2 0, 5, .inl (fun _ => 0))), (q7, .inl (E.2.2 0, 25, .inl (fun _ => 0))), (q8, .inl (E.2.2 0, 180, .inl (fun _ => 0))), (q9, .inl (E.2.2 3, 3000, .inl (fun _ => 0))), (q10, .inl (E.2.2 0, 90, .inl (fun _ => 0))), (q11, .inl (E.2.2 0, 300, .inl (fun _ => 0))), (q12, .inl (E.2.2 0, 300, .inl (fun _ => 0))), (q13, .inl (E.2.2 3, 3, .inl (fun _ => 0))), (q14, .inl (E.2.2 0, 6, .inl (fun _ => 0)))] 14 5817
  refine mp_run hF mp_tabX10_ok [mp_i (.aload_n 0), mp_c (.bipush 6) 6, mp_h (.newarray .int) [6], mp_h (.putfield 59) [26, 0]] (by decide +kernel) ?_
  refine And.intro (by decide) (And.intro (Nat.le_of_ble_eq_true rfl) (And.intro (Nat.le_of_ble_eq_true rfl) (And.intro (by decide) ?_)))
  intro q15
  refine And.intro rfl (And.intro rfl (And.intro rfl (And.intro rfl (And.intro (Nat.le_of_ble_eq_true rfl) ?_))))
  show mp_W E X 2 131 [(0, .ref h0)] [] [(h0, .inr (10, [.int 0, .ref q1, .ref q2, .ref q3, .ref q4, .ref q5, .int 0, .int 0, .int 0, .int 0, .int 0, .long 0, .int 0, .int 0, .int 0, .int (-1), .ref q6, .ref q7, .ref q8, .ref q9, .ref q10, .ref q11, .ref q12, .ref q13, .int 0, .ref q14, .ref q15, .null, .null, .int 0, .int 0, .int 0, .null, .null, .int 0, .int 0, .null, .null, .null, .int 0, .int 0, .int 0, .int 0, .null, .null, .null, .int 0])), (q1, .inl (E.2.2 0, 4, .inl (fun _ => 0))), (q2, .inl (E.2.2 0, 4, .inl (fun _ => 0))), (q3, .inl (E.2.2 2, 240, .inr (.inl (fun _ => 0)))), (q4, .inl (E.2.2 2, 60, .inr (.inl (fun _ => 0)))), (q5, .inl (E.2.2 1, 1600, .inl (fun _ => 0))), (q6, .inl (E.2.2 0, 5, .inl (fun _ => 0))), (q7, .inl (E.2.2 0, 25, .inl (fun _ => 0))), (q8, .inl (E.2.2 0, 180, .inl (fun _ => 0))), (q9, .inl (E.2.2 3, 3000, .inl (fun _ => 0))), (q10, .inl (E.2.2 0, 90, .inl (fun _ => 0))), (q11, .inl (E.2.2 0, 300, .inl (fun _ => 0))), (q12, .inl (E.2.2 0, 300, .inl (fun _ => 0))), (q13, .inl (E.2.2 3, 3, .inl (fun _ => 0))), (q14, .inl (E.2.2 0, 6, .inl (fun _ => 0))), (q15, .inl (E.2.2 0, 6, .inl (fun _ => 0)))] 15 5823
  refine mp_run hF mp_tabX10_ok [mp_i (.aload_n 0), mp_c (.bipush 6) 6, mp_h (.newarray .int) [6], mp_h (.putfield 62) [27, 0]] (by decide +kernel) ?_
  refine And.intro (by decide) (And.intro (Nat.le_of_ble_eq_true rfl) (And.intro (Nat.le_of_ble_eq_true rfl) (And.intro (by decide) ?_)))
  intro q16
  refine And.intro rfl (And.intro rfl (And.intro rfl (And.intro rfl (And.intro (Nat.le_of_ble_eq_true rfl) ?_))))
  show mp_W E X 2 139 [(0, .ref h0)] [] [(h0, .inr (10, [.int 0, .ref q1, .ref q2, .ref q3, .ref q4, .ref q5, .int 0, .int 0, .int 0, .int 0, .int 0, .long 0, .int 0, .int 0, .int 0, .int (-1), .ref q6, .ref q7, .ref q8, .ref q9, .ref q10, .ref q11, .ref q12, .ref q13, .int 0, .ref q14, .ref q15, .ref q16, .null, .int 0, .int 0, .int 0, .null, .null, .int 0, .int 0, .null, .null, .null, .int 0, .int 0, .int 0, .int 0, .null, .null, .null, .int 0])), (q1, .inl (E.2.2 0, 4, .inl (fun _ => 0))), (q2, .inl (E.2.2 0, 4, .inl (fun _ => 0))), (q3, .inl (E.2.2 2, 240, .inr (.inl (fun _ => 0)))), (q4, .inl (E.2.2 2, 60, .inr (.inl (fun _ => 0)))), (q5, .inl (E.2.2 1, 1600, .inl (fun _ => 0))), (q6, .inl (E.2.2 0, 5, .inl (fun _ => 0))), (q7, .inl (E.2.2 0, 25, .inl (fun _ => 0))), (q8, .inl (E.2.2 0, 180, .inl (fun _ => 0))), (q9, .inl (E.2.2 3, 3000, .inl (fun _ => 0))), (q10, .inl (E.2.2 0, 90, .inl (fun _ => 0))), (q11, .inl (E.2.2 0, 300, .inl (fun _ => 0))), (q12, .inl (E.2.2 0, 300, .inl (fun _ => 0))), (q13, .inl (E.2.2 3, 3, .inl (fun _ => 0))), (q14, .inl (E.2.2 0, 6, .inl (fun _ => 0))), (q15, .inl (E.2.2 0, 6, .inl (fun _ => 0))), (q16, .inl (E.2.2 0, 6, .inl (fun _ => 0)))] 16 5829
  refine mp_run hF mp_tabX10_ok [mp_i (.aload_n 0), mp_c (.sipush 1500) 1500, mp_h (.newarray .boolean) [1500], mp_h (.putfield 65) [28, 0]] (by decide +kernel) ?_
  refine And.intro (by decide) (And.intro (Nat.le_of_ble_eq_true rfl) (And.intro (Nat.le_of_ble_eq_true rfl) (And.intro (by decide) ?_)))
  intro q17
  refine And.intro rfl (And.intro rfl (And.intro rfl (And.intro rfl (And.intro (Nat.le_of_ble_eq_true rfl) ?_))))
  show mp_W E X 2 148 [(0, .ref h0)] [] [(h0, .inr (10, [.int 0, .ref q1, .ref q2, .ref q3, .ref q4, .ref q5, .int 0, .int 0, .int 0, .int 0, .int 0, .long 0, .int 0, .int 0, .int 0, .int (-1), .ref q6, .ref q7, .ref q8, .ref q9, .ref q10, .ref q11, .ref q12, .ref q13, .int 0, .ref q14, .ref q15, .ref q16, .ref q17, .int 0, .int 0, .int 0, .null, .null, .int 0, .int 0, .null, .null, .null, .int 0, .int 0, .int 0, .int 0, .null, .null, .null, .int 0])), (q1, .inl (E.2.2 0, 4, .inl (fun _ => 0))), (q2, .inl (E.2.2 0, 4, .inl (fun _ => 0))), (q3, .inl (E.2.2 2, 240, .inr (.inl (fun _ => 0)))), (q4, .inl (E.2.2 2, 60, .inr (.inl (fun _ => 0)))), (q5, .inl (E.2.2 1, 1600, .inl (fun _ => 0))), (q6, .inl (E.2.2 0, 5, .inl (fun _ => 0))), (q7, .inl (E.2.2 0, 25, .inl (fun _ => 0))), (q8, .inl (E.2.2 0, 180, .inl (fun _ => 0))), (q9, .inl (E.2.2 3, 3000, .inl (fun _ => 0))), (q10, .inl (E.2.2 0, 90, .inl (fun _ => 0))), (q11, .inl (E.2.2 0, 300, .inl (fun _ => 0))), (q12, .inl (E.2.2 0, 300, .inl (fun _ => 0))), (q13, .inl (E.2.2 3, 3, .inl (fun _ => 0))), (q14, .inl (E.2.2 0, 6, .inl (fun _ => 0))), (q15, .inl (E.2.2 0, 6, .inl (fun _ => 0))), (q16, .inl (E.2.2 0, 6, .inl (fun _ => 0))), (q17, .inl (E.2.2 3, 1500, .inl (fun _ => 0)))] 17 7329
  refine mp_run hF mp_tabX10_ok [mp_i (.aload_n 0), mp_c (.bipush 78) 78, mp_h (.newarray .int) [78], mp_h (.putfield 68) [32, 0]] (by decide +kernel) ?_
  refine And.intro (by decide) (And.intro (Nat.le_of_ble_eq_true rfl) (And.intro (Nat.le_of_ble_eq_true rfl) (And.intro (by decide) ?_)))
  intro q18
  refine And.intro rfl (And.intro rfl (And.intro rfl (And.intro rfl (And.intro (Nat.le_of_ble_eq_true rfl) ?_))))
  show mp_W E X 2 156 [(0, .ref h0)] [] [(h0, .inr (10, [.int 0, .ref q1, .ref q2, .ref q3, .ref q4, .ref q5, .int 0, .int 0, .int 0, .int 0, .int 0, .long 0, .int 0, .int 0, .int 0, .int (-1), .ref q6, .ref q7, .ref q8, .ref q9, .ref q10, .ref q11, .ref q12, .ref q13, .int 0, .ref q14, .ref q15, .ref q16, .ref q17, .int 0, .int 0, .int 0, .ref q18, .null, .int 0, .int 0, .null, .null, .null, .int 0, .int 0, .int 0, .int 0, .null, .null, .null, .int 0])), (q1, .inl (E.2.2 0, 4, .inl (fun _ => 0))), (q2, .inl (E.2.2 0, 4, .inl (fun _ => 0))), (q3, .inl (E.2.2 2, 240, .inr (.inl (fun _ => 0)))), (q4, .inl (E.2.2 2, 60, .inr (.inl (fun _ => 0)))), (q5, .inl (E.2.2 1, 1600, .inl (fun _ => 0))), (q6, .inl (E.2.2 0, 5, .inl (fun _ => 0))), (q7, .inl (E.2.2 0, 25, .inl (fun _ => 0))), (q8, .inl (E.2.2 0, 180, .inl (fun _ => 0))), (q9, .inl (E.2.2 3, 3000, .inl (fun _ => 0))), (q10, .inl (E.2.2 0, 90, .inl (fun _ => 0))), (q11, .inl (E.2.2 0, 300, .inl (fun _ => 0))), (q12, .inl (E.2.2 0, 300, .inl (fun _ => 0))), (q13, .inl (E.2.2 3, 3, .inl (fun _ => 0))), (q14, .inl (E.2.2 0, 6, .inl (fun _ => 0))), (q15, .inl (E.2.2 0, 6, .inl (fun _ => 0))), (q16, .inl (E.2.2 0, 6, .inl (fun _ => 0))), (q17, .inl (E.2.2 3, 1500, .inl (fun _ => 0))), (q18, .inl (E.2.2 0, 78, .inl (fun _ => 0)))] 18 7407
  refine mp_run hF mp_tabX10_ok [mp_i (.aload_n 0), mp_c (.bipush 78) 78, mp_h (.newarray .long) [78], mp_h (.putfield 71) [33, 0]] (by decide +kernel) ?_
  refine And.intro (by decide) (And.intro (Nat.le_of_ble_eq_true rfl) (And.intro (Nat.le_of_ble_eq_true rfl) (And.intro (by decide) ?_)))
  intro q19
  refine And.intro rfl (And.intro rfl (And.intro rfl (And.intro rfl (And.intro (Nat.le_of_ble_eq_true rfl) ?_))))
  show mp_W E X 2 164 [(0, .ref h0)] [] [(h0, .inr (10, [.int 0, .ref q1, .ref q2, .ref q3, .ref q4, .ref q5, .int 0, .int 0, .int 0, .int 0, .int 0, .long 0, .int 0, .int 0, .int 0, .int (-1), .ref q6, .ref q7, .ref q8, .ref q9, .ref q10, .ref q11, .ref q12, .ref q13, .int 0, .ref q14, .ref q15, .ref q16, .ref q17, .int 0, .int 0, .int 0, .ref q18, .ref q19, .int 0, .int 0, .null, .null, .null, .int 0, .int 0, .int 0, .int 0, .null, .null, .null, .int 0])), (q1, .inl (E.2.2 0, 4, .inl (fun _ => 0))), (q2, .inl (E.2.2 0, 4, .inl (fun _ => 0))), (q3, .inl (E.2.2 2, 240, .inr (.inl (fun _ => 0)))), (q4, .inl (E.2.2 2, 60, .inr (.inl (fun _ => 0)))), (q5, .inl (E.2.2 1, 1600, .inl (fun _ => 0))), (q6, .inl (E.2.2 0, 5, .inl (fun _ => 0))), (q7, .inl (E.2.2 0, 25, .inl (fun _ => 0))), (q8, .inl (E.2.2 0, 180, .inl (fun _ => 0))), (q9, .inl (E.2.2 3, 3000, .inl (fun _ => 0))), (q10, .inl (E.2.2 0, 90, .inl (fun _ => 0))), (q11, .inl (E.2.2 0, 300, .inl (fun _ => 0))), (q12, .inl (E.2.2 0, 300, .inl (fun _ => 0))), (q13, .inl (E.2.2 3, 3, .inl (fun _ => 0))), (q14, .inl (E.2.2 0, 6, .inl (fun _ => 0))), (q15, .inl (E.2.2 0, 6, .inl (fun _ => 0))), (q16, .inl (E.2.2 0, 6, .inl (fun _ => 0))), (q17, .inl (E.2.2 3, 1500, .inl (fun _ => 0))), (q18, .inl (E.2.2 0, 78, .inl (fun _ => 0))), (q19, .inl (E.2.2 2, 78, .inr (.inl (fun _ => 0))))] 19 7485
  refine mp_run hF mp_tabX10_ok [mp_i (.aload_n 0), mp_c (.bipush 6) 6, mp_h (.newarray .int) [6], mp_h (.putfield 74) [36, 0]] (by decide +kernel) ?_
  refine And.intro (by decide) (And.intro (Nat.le_of_ble_eq_true rfl) (And.intro (Nat.le_of_ble_eq_true rfl) (And.intro (by decide) ?_)))
  intro q20
  refine And.intro rfl (And.intro rfl (And.intro rfl (And.intro rfl (And.intro (Nat.le_of_ble_eq_true rfl) ?_))))
  show mp_W E X 2 172 [(0, .ref h0)] [] [(h0, .inr (10, [.int 0, .ref q1, .ref q2, .ref q3, .ref q4, .ref q5, .int 0, .int 0, .int 0, .int 0, .int 0, .long 0, .int 0, .int 0, .int 0, .int (-1), .ref q6, .ref q7, .ref q8, .ref q9, .ref q10, .ref q11, .ref q12, .ref q13, .int 0, .ref q14, .ref q15, .ref q16, .ref q17, .int 0, .int 0, .int 0, .ref q18, .ref q19, .int 0, .int 0, .ref q20, .null, .null, .int 0, .int 0, .int 0, .int 0, .null, .null, .null, .int 0])), (q1, .inl (E.2.2 0, 4, .inl (fun _ => 0))), (q2, .inl (E.2.2 0, 4, .inl (fun _ => 0))), (q3, .inl (E.2.2 2, 240, .inr (.inl (fun _ => 0)))), (q4, .inl (E.2.2 2, 60, .inr (.inl (fun _ => 0)))), (q5, .inl (E.2.2 1, 1600, .inl (fun _ => 0))), (q6, .inl (E.2.2 0, 5, .inl (fun _ => 0))), (q7, .inl (E.2.2 0, 25, .inl (fun _ => 0))), (q8, .inl (E.2.2 0, 180, .inl (fun _ => 0))), (q9, .inl (E.2.2 3, 3000, .inl (fun _ => 0))), (q10, .inl (E.2.2 0, 90, .inl (fun _ => 0))), (q11, .inl (E.2.2 0, 300, .inl (fun _ => 0))), (q12, .inl (E.2.2 0, 300, .inl (fun _ => 0))), (q13, .inl (E.2.2 3, 3, .inl (fun _ => 0))), (q14, .inl (E.2.2 0, 6, .inl (fun _ => 0))), (q15, .inl (E.2.2 0, 6, .inl (fun _ => 0))), (q16, .inl (E.2.2 0, 6, .inl (fun _ => 0))), (q17, .inl (E.2.2 3, 1500, .inl (fun _ => 0))), (q18, .inl (E.2.2 0, 78, .inl (fun _ => 0))), (q19, .inl (E.2.2 2, 78, .inr (.inl (fun _ => 0)))), (q20, .inl (E.2.2 0, 6, .inl (fun _ => 0)))] 20 7491
  refine mp_run hF mp_tabX10_ok [mp_i (.aload_n 0), mp_c (.bipush 6) 6, mp_h (.newarray .int) [6], mp_h (.putfield 77) [37, 0]] (by decide +kernel) ?_
  refine And.intro (by decide) (And.intro (Nat.le_of_ble_eq_true rfl) (And.intro (Nat.le_of_ble_eq_true rfl) (And.intro (by decide) ?_)))
  intro q21
  refine And.intro rfl (And.intro rfl (And.intro rfl (And.intro rfl (And.intro (Nat.le_of_ble_eq_true rfl) ?_))))
  show mp_W E X 2 180 [(0, .ref h0)] [] [(h0, .inr (10, [.int 0, .ref q1, .ref q2, .ref q3, .ref q4, .ref q5, .int 0, .int 0, .int 0, .int 0, .int 0, .long 0, .int 0, .int 0, .int 0, .int (-1), .ref q6, .ref q7, .ref q8, .ref q9, .ref q10, .ref q11, .ref q12, .ref q13, .int 0, .ref q14, .ref q15, .ref q16, .ref q17, .int 0, .int 0, .int 0, .ref q18, .ref q19, .int 0, .int 0, .ref q20, .ref q21, .null, .int 0, .int 0, .int 0, .int 0, .null, .null, .null, .int 0])), (q1, .inl (E.2.2 0, 4, .inl (fun _ => 0))), (q2, .inl (E.2.2 0, 4, .inl (fun _ => 0))), (q3, .inl (E.2.2 2, 240, .inr (.inl (fun _ => 0)))), (q4, .inl (E.2.2 2, 60, .inr (.inl (fun _ => 0)))), (q5, .inl (E.2.2 1, 1600, .inl (fun _ => 0))), (q6, .inl (E.2.2 0, 5, .inl (fun _ => 0))), (q7, .inl (E.2.2 0, 25, .inl (fun _ => 0))), (q8, .inl (E.2.2 0, 180, .inl (fun _ => 0))), (q9, .inl (E.2.2 3, 3000, .inl (fun _ => 0))), (q10, .inl (E.2.2 0, 90, .inl (fun _ => 0))), (q11, .inl (E.2.2 0, 300, .inl (fun _ => 0))), (q12, .inl (E.2.2 0, 300, .inl (fun _ => 0))), (q13, .inl (E.2.2 3, 3, .inl (fun _ => 0))), (q14, .inl (E.2.2 0, 6, .inl (fun _ => 0))), (q15, .inl (E.2.2 0, 6, .inl (fun _ => 0))), (q16, .inl (E.2.2 0, 6, .inl (fun _ => 0))), (q17, .inl (E.2.2 3, 1500, .inl (fun _ => 0))), (q18, .inl (E.2.2 0, 78, .inl (fun _ => 0))), (q19, .inl (E.2.2 2, 78, .inr (.inl (fun _ => 0)))), (q20, .inl (E.2.2 0, 6, .inl (fun _ => 0))), (q21, .inl (E.2.2 0, 6, .inl (fun _ => 0)))] 21 7497
  refine mp_run hF mp_tabX10_ok [mp_i (.aload_n 0), mp_c (.iconst 3) 3, mp_h (.newarray .int) [3], mp_h (.putfield 80) [38, 0]] (by decide +kernel) ?_
  refine And.intro (by decide) (And.intro (Nat.le_of_ble_eq_true rfl) (And.intro (Nat.le_of_ble_eq_true rfl) (And.intro (by decide) ?_)))
  intro q22
  refine And.intro rfl (And.intro rfl (And.intro rfl (And.intro rfl (And.intro (Nat.le_of_ble_eq_true rfl) ?_))))
  show mp_W E X 2 187 [(0, .ref h0)] [] [(h0, .inr (10, [.int 0, .ref q1, .ref q2, .ref q3, .ref q4, .ref q5, .int 0, .int 0, .int 0, .int 0, .int 0, .long 0, .int 0, .int 0, .int 0, .int (-1), .ref q6, .ref q7, .ref q8, .ref q9, .ref q10, .ref q11, .ref q12, .ref q13, .int 0, .ref q14, .ref q15, .ref q16, .ref q17, .int 0, .int 0, .int 0, .ref q18, .ref q19, .int 0, .int 0, .ref q20, .ref q21, .ref q22, .int 0, .int 0, .int 0, .int 0, .null, .null, .null, .int 0])), (q1, .inl (E.2.2 0, 4, .inl (fun _ => 0))), (q2, .inl (E.2.2 0, 4, .inl (fun _ => 0))), (q3, .inl (E.2.2 2, 240, .inr (.inl (fun _ => 0)))), (q4, .inl (E.2.2 2, 60, .inr (.inl (fun _ => 0)))), (q5, .inl (E.2.2 1, 1600, .inl (fun _ => 0))), (q6, .inl (E.2.2 0, 5, .inl (fun _ => 0))), (q7, .inl (E.2.2 0, 25, .inl (fun _ => 0))), (q8, .inl (E.2.2 0, 180, .inl (fun _ => 0))), (q9, .inl (E.2.2 3, 3000, .inl (fun _ => 0))), (q10, .inl (E.2.2 0, 90, .inl (fun _ => 0))), (q11, .inl (E.2.2 0, 300, .inl (fun _ => 0))), (q12, .inl (E.2.2 0, 300, .inl (fun _ => 0))), (q13, .inl (E.2.2 3, 3, .inl (fun _ => 0))), (q14, .inl (E.2.2 0, 6, .inl (fun _ => 0))), (q15, .inl (E.2.2 0, 6, .inl (fun _ => 0))), (q16, .inl (E.2.2 0, 6, .inl (fun _ => 0))), (q17, .inl (E.2.2 3, 1500, .inl (fun _ => 0))), (q18, .inl (E.2.2 0, 78, .inl (fun _ => 0))), (q19, .inl (E.2.2 2, 78, .inr (.inl (fun _ => 0)))), (q20, .inl (E.2.2 0, 6, .inl (fun _ => 0))), (q21, .inl (E.2.2 0, 6, .inl (fun _ => 0))), (q22, .inl (E.2.2 0, 3, .inl (fun _ => 0)))] 22 7500
  refine mp_run hF mp_tabX10_ok [mp_i (.aload_n 0), mp_c (.bipush 12) 12, mp_h (.newarray .int) [12], mp_h (.putfield 83) [43, 0]] (by decide +kernel) ?_
  refine And.intro (by decide) (And.intro (Nat.le_of_ble_eq_true rfl) (And.intro (Nat.le_of_ble_eq_true rfl) (And.intro (by decide) ?_)))
  intro q23
  refine And.intro rfl (And.intro rfl (And.intro rfl (And.intro rfl (And.intro (Nat.le_of_ble_eq_true rfl) ?_))))
  show mp_W E X 2 195 [(0, .ref h0)] [] [(h0, .inr (10, [.int 0, .ref q1, .ref q2, .ref q3, .ref q4, .ref q5, .int 0, .int 0, .int 0, .int 0, .int 0, .long 0, .int 0, .int 0, .int 0, .int (-1), .ref q6, .ref q7, .ref q8, .ref q9, .ref q10, .ref q11, .ref q12, .ref q13, .int 0, .ref q14, .ref q15, .ref q16, .ref q17, .int 0, .int 0, .int 0, .ref q18, .ref q19, .int 0, .int 0, .ref q20, .ref q21, .ref q22, .int 0, .int 0, .int 0, .int 0, .ref q23, .null, .null, .int 0])), (q1, .inl (E.2.2 0, 4, .inl (fun _ => 0))), (q2, .inl (E.2.2 0, 4, .inl (fun _ => 0))), (q3, .inl (E.2.2 2, 240, .inr (.inl (fun _ => 0)))), (q4, .inl (E.2.2 2, 60, .inr (.inl (fun _ => 0)))), (q5, .inl (E.2.2 1, 1600, .inl (fun _ => 0))), (q6, .inl (E.2.2 0, 5, .inl (fun _ => 0))), (q7, .inl (E.2.2 0, 25, .inl (fun _ => 0))), (q8, .inl (E.2.2 0, 180, .inl (fun _ => 0))), (q9, .inl (E.2.2 3, 3000, .inl (fun _ => 0))), (q10, .inl (E.2.2 0, 90, .inl (fun _ => 0))), (q11, .inl (E.2.2 0, 300, .inl (fun _ => 0))), (q12, .inl (E.2.2 0, 300, .inl (fun _ => 0))), (q13, .inl (E.2.2 3, 3, .inl (fun _ => 0))), (q14, .inl (E.2.2 0, 6, .inl (fun _ => 0))), (q15, .inl (E.2.2 0, 6, .inl (fun _ => 0))), (q16, .inl (E.2.2 0, 6, .inl (fun _ => 0))), (q17, .inl (E.2.2 3, 1500, .inl (fun _ => 0))), (q18, .inl (E.2.2 0, 78, .inl (fun _ => 0))), (q19, .inl (E.2.2 2, 78, .inr (.inl (fun _ => 0)))), (q20, .inl (E.2.2 0, 6, .inl (fun _ => 0))), (q21, .inl (E.2.2 0, 6, .inl (fun _ => 0))), (q22, .inl (E.2.2 0, 3, .inl (fun _ => 0))), (q23, .inl (E.2.2 0, 12, .inl (fun _ => 0)))] 23 7512
  refine mp_run hF mp_tabX10_ok [mp_i (.aload_n 0), mp_c (.bipush 12) 12, mp_h (.newarray .int) [12], mp_h (.putfield 86) [44, 0]] (by decide +kernel) ?_
  refine And.intro (by decide) (And.intro (Nat.le_of_ble_eq_true rfl) (And.intro (Nat.le_of_ble_eq_true rfl) (And.intro (by decide) ?_)))
  intro q24
  refine And.intro rfl (And.intro rfl (And.intro rfl (And.intro rfl (And.intro (Nat.le_of_ble_eq_true rfl) ?_))))
  show mp_W E X 2 203 [(0, .ref h0)] [] [(h0, .inr (10, [.int 0, .ref q1, .ref q2, .ref q3, .ref q4, .ref q5, .int 0, .int 0, .int 0, .int 0, .int 0, .long 0, .int 0, .int 0, .int 0, .int (-1), .ref q6, .ref q7, .ref q8, .ref q9, .ref q10, .ref q11, .ref q12, .ref q13, .int 0, .ref q14, .ref q15, .ref q16, .ref q17, .int 0, .int 0, .int 0, .ref q18, .ref q19, .int 0, .int 0, .ref q20, .ref q21, .ref q22, .int 0, .int 0, .int 0, .int 0, .ref q23, .ref q24, .null, .int 0])), (q1, .inl (E.2.2 0, 4, .inl (fun _ => 0))), (q2, .inl (E.2.2 0, 4, .inl (fun _ => 0))), (q3, .inl (E.2.2 2, 240, .inr (.inl (fun _ => 0)))), (q4, .inl (E.2.2 2, 60, .inr (.inl (fun _ => 0)))), (q5, .inl (E.2.2 1, 1600, .inl (fun _ => 0))), (q6, .inl (E.2.2 0, 5, .inl (fun _ => 0))), (q7, .inl (E.2.2 0, 25, .inl (fun _ => 0))), (q8, .inl (E.2.2 0, 180, .inl (fun _ => 0))), (q9, .inl (E.2.2 3, 3000, .inl (fun _ => 0))), (q10, .inl (E.2.2 0, 90, .inl (fun _ => 0))), (q11, .inl (E.2.2 0, 300, .inl (fun _ => 0))), (q12, .inl (E.2.2 0, 300, .inl (fun _ => 0))), (q13, .inl (E.2.2 3, 3, .inl (fun _ => 0))), (q14, .inl (E.2.2 0, 6, .inl (fun _ => 0))), (q15, .inl (E.2.2 0, 6, .inl (fun _ => 0))), (q16, .inl (E.2.2 0, 6, .inl (fun _ => 0))), (q17, .inl (E.2.2 3, 1500, .inl (fun _ => 0))), (q18, .inl (E.2.2 0, 78, .inl (fun _ => 0))), (q19, .inl (E.2.2 2, 78, .inr (.inl (fun _ => 0)))), (q20, .inl (E.2.2 0, 6, .inl (fun _ => 0))), (q21, .inl (E.2.2 0, 6, .inl (fun _ => 0))), (q22, .inl (E.2.2 0, 3, .inl (fun _ => 0))), (q23, .inl (E.2.2 0, 12, .inl (fun _ => 0))), (q24, .inl (E.2.2 0, 12, .inl (fun _ => 0)))] 24 7524
  refine mp_run hF mp_tabX10_ok [mp_i (.aload_n 0), mp_c (.bipush 100) 100, mp_h (.newarray .int) [100], mp_h (.putfield 89) [45, 0]] (by decide +kernel) ?_
  refine And.intro (by decide) (And.intro (Nat.le_of_ble_eq_true rfl) (And.intro (Nat.le_of_ble_eq_true rfl) (And.intro (by decide) ?_)))
  intro q25
  refine And.intro rfl (And.intro rfl (And.intro rfl (And.intro rfl (And.intro (Nat.le_of_ble_eq_true rfl) ?_))))
  show mp_W E X 2 211 [(0, .ref h0)] [] [(h0, .inr (10, [.int 0, .ref q1, .ref q2, .ref q3, .ref q4, .ref q5, .int 0, .int 0, .int 0, .int 0, .int 0, .long 0, .int 0, .int 0, .int 0, .int (-1), .ref q6, .ref q7, .ref q8, .ref q9, .ref q10, .ref q11, .ref q12, .ref q13, .int 0, .ref q14, .ref q15, .ref q16, .ref q17, .int 0, .int 0, .int 0, .ref q18, .ref q19, .int 0, .int 0, .ref q20, .ref q21, .ref q22, .int 0, .int 0, .int 0, .int 0, .ref q23, .ref q24, .ref q25, .int 0])), (q1, .inl (E.2.2 0, 4, .inl (fun _ => 0))), (q2, .inl (E.2.2 0, 4, .inl (fun _ => 0))), (q3, .inl (E.2.2 2, 240, .inr (.inl (fun _ => 0)))), (q4, .inl (E.2.2 2, 60, .inr (.inl (fun _ => 0)))), (q5, .inl (E.2.2 1, 1600, .inl (fun _ => 0))), (q6, .inl (E.2.2 0, 5, .inl (fun _ => 0))), (q7, .inl (E.2.2 0, 25, .inl (fun _ => 0))), (q8, .inl (E.2.2 0, 180, .inl (fun _ => 0))), (q9, .inl (E.2.2 3, 3000, .inl (fun _ => 0))), (q10, .inl (E.2.2 0, 90, .inl (fun _ => 0))), (q11, .inl (E.2.2 0, 300, .inl (fun _ => 0))), (q12, .inl (E.2.2 0, 300, .inl (fun _ => 0))), (q13, .inl (E.2.2 3, 3, .inl (fun _ => 0))), (q14, .inl (E.2.2 0, 6, .inl (fun _ => 0))), (q15, .inl (E.2.2 0, 6, .inl (fun _ => 0))), (q16, .inl (E.2.2 0, 6, .inl (fun _ => 0))), (q17, .inl (E.2.2 3, 1500, .inl (fun _ => 0))), (q18, .inl (E.2.2 0, 78, .inl (fun _ => 0))), (q19, .inl (E.2.2 2, 78, .inr (.inl (fun _ => 0)))), (q20, .inl (E.2.2 0, 6, .inl (fun _ => 0))), (q21, .inl (E.2.2 0, 6, .inl (fun _ => 0))), (q22, .inl (E.2.2 0, 3, .inl (fun _ => 0))), (q23, .inl (E.2.2 0, 12, .inl (fun _ => 0))), (q24, .inl (E.2.2 0, 12, .inl (fun _ => 0))), (q25, .inl (E.2.2 0, 100, .inl (fun _ => 0)))] 25 7624
  refine mp_run hF mp_tabX10_ok [mp_c (.iconst 0) 0, mp_i (.istore_n 1), mp_i (.iload_n 1), mp_c (.iconst 4) 4, mp_h (.if_icmp .ge 16) [231]] (by decide +kernel) ?_
  refine And.intro (fun c26 => absurd c26 (by decide)) (fun _ => ?_)
  show mp_W E X 2 218 [(1, .int 0), (0, .ref h0)] [] [(h0, .inr (10, [.int 0, .ref q1, .ref q2, .ref q3, .ref q4, .ref q5, .int 0, .int 0, .int 0, .int 0, .int 0, .long 0, .int 0, .int 0, .int 0, .int (-1), .ref q6, .ref q7, .ref q8, .ref q9, .ref q10, .ref q11, .ref q12, .ref q13, .int 0, .ref q14, .ref q15, .ref q16, .ref q17, .int 0, .int 0, .int 0, .ref q18, .ref q19, .int 0, .int 0, .ref q20, .ref q21, .ref q22, .int 0, .int 0, .int 0, .int 0, .ref q23, .ref q24, .ref q25, .int 0])), (q1, .inl (E.2.2 0, 4, .inl (fun _ => 0))), (q2, .inl (E.2.2 0, 4, .inl (fun _ => 0))), (q3, .inl (E.2.2 2, 240, .inr (.inl (fun _ => 0)))), (q4, .inl (E.2.2 2, 60, .inr (.inl (fun _ => 0)))), (q5, .inl (E.2.2 1, 1600, .inl (fun _ => 0))), (q6, .inl (E.2.2 0, 5, .inl (fun _ => 0))), (q7, .inl (E.2.2 0, 25, .inl (fun _ => 0))), (q8, .inl (E.2.2 0, 180, .inl (fun _ => 0))), (q9, .inl (E.2.2 3, 3000, .inl (fun _ => 0))), (q10, .inl (E.2.2 0, 90, .inl (fun _ => 0))), (q11, .inl (E.2.2 0, 300, .inl (fun _ => 0))), (q12, .inl (E.2.2 0, 300, .inl (fun _ => 0))), (q13, .inl (E.2.2 3, 3, .inl (fun _ => 0))), (q14, .inl (E.2.2 0, 6, .inl (fun _ => 0))), (q15, .inl (E.2.2 0, 6, .inl (fun _ => 0))), (q16, .inl (E.2.2 0, 6, .inl (fun _ => 0))), (q17, .inl (E.2.2 3, 1500, .inl (fun _ => 0))), (q18, .inl (E.2.2 0, 78, .inl (fun _ => 0))), (q19, .inl (E.2.2 2, 78, .inr (.inl (fun _ => 0)))), (q20, .inl (E.2.2 0, 6, .inl (fun _ => 0))), (q21, .inl (E.2.2 0, 6, .inl (fun _ => 0))), (q22, .inl (E.2.2 0, 3, .inl (fun _ => 0))), (q23, .inl (E.2.2 0, 12, .inl (fun _ => 0))), (q24, .inl (E.2.2 0, 12, .inl (fun _ => 0))), (q25, .inl (E.2.2 0, 100, .inl (fun _ => 0)))] 25 7624
  refine mp_run hF mp_tabX10_ok [mp_i (.aload_n 0), mp_h (.getfield 7) [1, 0], mp_i (.iload_n 1), mp_c (.iconst (-1)) (-1), mp_h .iastore [1]] (by decide +kernel) ?_
  refine And.intro rfl (And.intro rfl ?_)
  refine And.intro rfl (And.intro rfl (And.intro (vp_in_iff.mpr (by decide)) ?_))
  intro g27 h28
  show mp_W E X 2 225 [(1, .int 0), (0, .ref h0)] [] [(h0, .inr (10, [.int 0, .ref q1, .ref q2, .ref q3, .ref q4, .ref q5, .int 0, .int 0, .int 0, .int 0, .int 0, .long 0, .int 0, .int 0, .int 0, .int (-1), .ref q6, .ref q7, .ref q8, .ref q9, .ref q10, .ref q11, .ref q12, .ref q13, .int 0, .ref q14, .ref q15, .ref q16, .ref q17, .int 0, .int 0, .int 0, .ref q18, .ref q19, .int 0, .int 0, .ref q20, .ref q21, .ref q22, .int 0, .int 0, .int 0, .int 0, .ref q23, .ref q24, .ref q25, .int 0])), (q1, .inl (E.2.2 0, 4, .inl g27)), (q2, .inl (E.2.2 0, 4, .inl (fun _ => 0))), (q3, .inl (E.2.2 2, 240, .inr (.inl (fun _ => 0)))), (q4, .inl (E.2.2 2, 60, .inr (.inl (fun _ => 0)))), (q5, .inl (E.2.2 1, 1600, .inl (fun _ => 0))), (q6, .inl (E.2.2 0, 5, .inl (fun _ => 0))), (q7, .inl (E.2.2 0, 25, .inl (fun _ => 0))), (q8, .inl (E.2.2 0, 180, .inl (fun _ => 0))), (q9, .inl (E.2.2 3, 3000, .inl (fun _ => 0))), (q10, .inl (E.2.2 0, 90, .inl (fun _ => 0))), (q11, .inl (E.2.2 0, 300, .inl (fun _ => 0))), (q12, .inl (E.2.2 0, 300, .inl (fun _ => 0))), (q13, .inl (E.2.2 3, 3, .inl (fun _ => 0))), (q14, .inl (E.2.2 0, 6, .inl (fun _ => 0))), (q15, .inl (E.2.2 0, 6, .inl (fun _ => 0))), (q16, .inl (E.2.2 0, 6, .inl (fun _ => 0))), (q17, .inl (E.2.2 3, 1500, .inl (fun _ => 0))), (q18, .inl (E.2.2 0, 78, .inl (fun _ => 0))), (q19, .inl (E.2.2 2, 78, .inr (.inl (fun _ => 0)))), (q20, .inl (E.2.2 0, 6, .inl (fun _ => 0))), (q21, .inl (E.2.2 0, 6, .inl (fun _ => 0))), (q22, .inl (E.2.2 0, 3, .inl (fun _ => 0))), (q23, .inl (E.2.2 0, 12, .inl (fun _ => 0))), (q24, .inl (E.2.2 0, 12, .inl (fun _ => 0))), (q25, .inl (E.2.2 0, 100, .inl (fun _ => 0)))] 25 7624
  refine mp_run hF mp_tabX10_ok [mp_c (.iinc 1 1) 1, mp_h (.goto (-15)) [213], mp_i (.iload_n 1), mp_c (.iconst 4) 4, mp_h (.if_icmp .ge 16) [231]] (by decide +kernel) ?_
  intro z29 h30
  obtain rfl : z29 = 1 := h30.trans (by decide)
  refine And.intro (fun c31 => absurd c31 (by decide)) (fun _ => ?_)
  show mp_W E X 2 218 [(1, .int 1), (0, .ref h0)] [] [(h0, .inr (10, [.int 0, .ref q1, .ref q2, .ref q3, .ref q4, .ref q5, .int 0, .int 0, .int 0, .int 0, .int 0, .long 0, .int 0, .int 0, .int 0, .int (-1), .ref q6, .ref q7, .ref q8, .ref q9, .ref q10, .ref q11, .ref q12, .ref q13, .int 0, .ref q14, .ref q15, .ref q16, .ref q17, .int 0, .int 0, .int 0, .ref q18, .ref q19, .int 0, .int 0, .ref q20, .ref q21, .ref q22, .int 0, .int 0, .int 0, .int 0, .ref q23, .ref q24, .ref q25, .int 0])), (q1, .inl (E.2.2 0, 4, .inl g27)), (q2, .inl (E.2.2 0, 4, .inl (fun _ => 0))), (q3, .inl (E.2.2 2, 240, .inr (.inl (fun _ => 0)))), (q4, .inl (E.2.2 2, 60, .inr (.inl (fun _ => 0)))), (q5, .inl (E.2.2 1, 1600, .inl (fun _ => 0))), (q6, .inl (E.2.2 0, 5, .inl (fun _ => 0))), (q7, .inl (E.2.2 0, 25, .inl (fun _ => 0))), (q8, .inl (E.2.2 0, 180, .inl (fun _ => 0))), (q9, .inl (E.2.2 3, 3000, .inl (fun _ => 0))), (q10, .inl (E.2.2 0, 90, .inl (fun _ => 0))), (q11, .inl (E.2.2 0, 300, .inl (fun _ => 0))), (q12, .inl (E.2.2 0, 300, .inl (fun _ => 0))), (q13, .inl (E.2.2 3, 3, .inl (fun _ => 0))), (q14, .inl (E.2.2 0, 6, .inl (fun _ => 0))), (q15, .inl (E.2.2 0, 6, .inl (fun _ => 0))), (q16, .inl (E.2.2 0, 6, .inl (fun _ => 0))), (q17, .inl (E.2.2 3, 1500, .inl (fun _ => 0))), (q18, .inl (E.2.2 0, 78, .inl (fun _ => 0))), (q19, .inl (E.2.2 2, 78, .inr (.inl (fun _ => 0)))), (q20, .inl (E.2.2 0, 6, .inl (fun _ => 0))), (q21, .inl (E.2.2 0, 6, .inl (fun _ => 0))), (q22, .inl (E.2.2 0, 3, .inl (fun _ => 0))), (q23, .inl (E.2.2 0, 12, .inl (fun _ => 0))), (q24, .inl (E.2.2 0, 12, .inl (fun _ => 0))), (q25, .inl (E.2.2 0, 100, .inl (fun _ => 0)))] 25 7624
  refine mp_run hF mp_tabX10_ok [mp_i (.aload_n 0), mp_h (.getfield 7) [1, 0], mp_i (.iload_n 1), mp_c (.iconst (-1)) (-1), mp_h .iastore [1]] (by decide +kernel) ?_
  refine And.intro rfl (And.intro rfl ?_)
  refine And.intro rfl (And.intro rfl (And.intro (vp_in_iff.mpr (by decide)) ?_))
  intro g32 h33
  show mp_W E X 2 225 [(1, .int 1), (0, .ref h0)] [] [(h0, .inr (10, [.int 0, .ref q1, .ref q2, .ref q3, .ref q4, .ref q5, .int 0, .int 0, .int 0, .int 0, .int 0, .long 0, .int 0, .int 0, .int 0, .int (-1), .ref q6, .ref q7, .ref q8, .ref q9, .ref q10, .ref q11, .ref q12, .ref q13, .int 0, .ref q14, .ref q15, .ref q16, .ref q17, .int 0, .int 0, .int 0, .ref q18, .ref q19, .int 0, .int 0, .ref q20, .ref q21, .ref q22, .int 0, .int 0, .int 0, .int 0, .ref q23, .ref q24, .ref q25, .int 0])), (q1, .inl (E.2.2 0, 4, .inl g32)), (q2, .inl (E.2.2 0, 4, .inl (fun _ => 0))), (q3, .inl (E.2.2 2, 240, .inr (.inl (fun _ => 0)))), (q4, .inl (E.2.2 2, 60, .inr (.inl (fun _ => 0)))), (q5, .inl (E.2.2 1, 1600, .inl (fun _ => 0))), (q6, .inl (E.2.2 0, 5, .inl (fun _ => 0))), (q7, .inl (E.2.2 0, 25, .inl (fun _ => 0))), (q8, .inl (E.2.2 0, 180, .inl (fun _ => 0))), (q9, .inl (E.2.2 3, 3000, .inl (fun _ => 0))), (q10, .inl (E.2.2 0, 90, .inl (fun _ => 0))), (q11, .inl (E.2.2 0, 300, .inl (fun _ => 0))), (q12, .inl (E.2.2 0, 300, .inl (fun _ => 0))), (q13, .inl (E.2.2 3, 3, .inl (fun _ => 0))), (q14, .inl (E.2.2 0, 6, .inl (fun _ => 0))), (q15, .inl (E.2.2 0, 6, .inl (fun _ => 0))), (q16, .inl (E.2.2 0, 6, .inl (fun _ => 0))), (q17, .inl (E.2.2 3, 1500, .inl (fun _ => 0))), (q18, .inl (E.2.2 0, 78, .inl (fun _ => 0))), (q19, .inl (E.2.2 2, 78, .inr (.inl (fun _ => 0)))), (q20, .inl (E.2.2 0, 6, .inl (fun _ => 0))), (q21, .inl (E.2.2 0, 6, .inl (fun _ => 0))), (q22, .inl (E.2.2 0, 3, .inl (fun _ => 0))), (q23, .inl (E.2.2 0, 12, .inl (fun _ => 0))), (q24, .inl (E.2.2 0, 12, .inl (fun _ => 0))), (q25, .inl (E.2.2 0, 100, .inl (fun _ => 0)))] 25 7624
  refine mp_run hF mp_tabX10_ok [mp_c (.iinc 1 1) 1, mp_h (.goto (-15)) [213], mp_i (.iload_n 1), mp_c (.iconst 4) 4, mp_h (.if_icmp .ge 16) [231]] (by decide +kernel) ?_
  intro z34 h35
  obtain rfl : z34 = 2 := h35.trans (by decide)
  refine And.intro (fun c36 => absurd c36 (by decide)) (fun _ => ?_)
  show mp_W E X 2 218 [(1, .int 2), (0, .ref h0)] [] [(h0, .inr (10, [.int 0, .ref q1, .ref q2, .ref q3, .ref q4, .ref q5, .int 0, .int 0, .int 0, .int 0, .int 0, .long 0, .int 0, .int 0, .int 0, .int (-1), .ref q6, .ref q7, .ref q8, .ref q9, .ref q10, .ref q11, .ref q12, .ref q13, .int 0, .ref q14, .ref q15, .ref q16, .ref q17, .int 0, .int 0, .int 0, .ref q18, .ref q19, .int 0, .int 0, .ref q20, .ref q21, .ref q22, .int 0, .int 0, .int 0, .int 0, .ref q23, .ref q24, .ref q25, .int 0])), (q1, .inl (E.2.2 0, 4, .inl g32)), (q2, .inl (E.2.2 0, 4, .inl (fun _ => 0))), (q3, .inl (E.2.2 2, 240, .inr (.inl (fun _ => 0)))), (q4, .inl (E.2.2 2, 60, .inr (.inl (fun _ => 0)))), (q5, .inl (E.2.2 1, 1600, .inl (fun _ => 0))), (q6, .inl (E.2.2 0, 5, .inl (fun _ => 0))), (q7, .inl (E.2.2 0, 25, .inl (fun _ => 0))), (q8, .inl (E.2.2 0, 180, .inl (fun _ => 0))), (q9, .inl (E.2.2 3, 3000, .inl (fun _ => 0))), (q10, .inl (E.2.2 0, 90, .inl (fun _ => 0))), (q11, .inl (E.2.2 0, 300, .inl (fun _ => 0))), (q12, .inl (E.2.2 0, 300, .inl (fun _ => 0))), (q13, .inl (E.2.2 3, 3, .inl (fun _ => 0))), (q14, .inl (E.2.2 0, 6, .inl (fun _ => 0))), (q15, .inl (E.2.2 0, 6, .inl (fun _ => 0))), (q16, .inl (E.2.2 0, 6, .inl (fun _ => 0))), (q17, .inl (E.2.2 3, 1500, .inl (fun _ => 0))), (q18, .inl (E.2.2 0, 78, .inl (fun _ => 0))), (q19, .inl (E.2.2 2, 78, .inr (.inl (fun _ => 0)))), (q20, .inl (E.2.2 0, 6, .inl (fun _ => 0))), (q21, .inl (E.2.2 0, 6, .inl (fun _ => 0))), (q22, .inl (E.2.2 0, 3, .inl (fun _ => 0))), (q23, .inl (E.2.2 0, 12, .inl (fun _ => 0))), (q24, .inl (E.2.2 0, 12, .inl (fun _ => 0))), (q25, .inl (E.2.2 0, 100, .inl (fun _ => 0)))] 25 7624
  refine mp_run hF mp_tabX10_ok [mp_i (.aload_n 0), mp_h (.getfield 7) [1, 0], mp_i (.iload_n 1), mp_c (.iconst (-1)) (-1), mp_h .iastore [1]] (by decide +kernel) ?_
  refine And.intro rfl (And.intro rfl ?_)
  refine And.intro rfl (And.intro rfl (And.intro (vp_in_iff.mpr (by decide)) ?_))
  intro g37 h38
  show mp_W E X 2 225 [(1, .int 2), (0, .ref h0)] [] [(h0, .inr (10, [.int 0, .ref q1, .ref q2, .ref q3, .ref q4, .ref q5, .int 0, .int 0, .int 0, .int 0, .int 0, .long 0, .int 0, .int 0, .int 0, .int (-1), .ref q6, .ref q7, .ref q8, .ref q9, .ref q10, .ref q11, .ref q12, .ref q13, .int 0, .ref q14, .ref q15, .ref q16, .ref q17, .int 0, .int 0, .int 0, .ref q18, .ref q19, .int 0, .int 0, .ref q20, .ref q21, .ref q22, .int 0, .int 0, .int 0, .int 0, .ref q23, .ref q24, .ref q25, .int 0])), (q1, .inl (E.2.2 0, 4, .inl g37)), (q2, .inl (E.2.2 0, 4, .inl (fun _ => 0))), (q3, .inl (E.2.2 2, 240, .inr (.inl (fun _ => 0)))), (q4, .inl (E.2.2 2, 60, .inr (.inl (fun _ => 0)))), (q5, .inl (E.2.2 1, 1600, .inl (fun _ => 0))), (q6, .inl (E.2.2 0, 5, .inl (fun _ => 0))), (q7, .inl (E.2.2 0, 25, .inl (fun _ => 0))), (q8, .inl (E.2.2 0, 180, .inl (fun _ => 0))), (q9, .inl (E.2.2 3, 3000, .inl (fun _ => 0))), (q10, .inl (E.2.2 0, 90, .inl (fun _ => 0))), (q11, .inl (E.2.2 0, 300, .inl (fun _ => 0))), (q12, .inl (E.2.2 0, 300, .inl (fun _ => 0))), (q13, .inl (E.2.2 3, 3, .inl (fun _ => 0))), (q14, .inl (E.2.2 0, 6, .inl (fun _ => 0))), (q15, .inl (E.2.2 0, 6, .inl (fun _ => 0))), (q16, .inl (E.2.2 0, 6, .inl (fun _ => 0))), (q17, .inl (E.2.2 3, 1500, .inl (fun _ => 0))), (q18, .inl (E.2.2 0, 78, .inl (fun _ => 0))), (q19, .inl (E.2.2 2, 78, .inr (.inl (fun _ => 0)))), (q20, .inl (E.2.2 0, 6, .inl (fun _ => 0))), (q21, .inl (E.2.2 0, 6, .inl (fun _ => 0))), (q22, .inl (E.2.2 0, 3, .inl (fun _ => 0))), (q23, .inl (E.2.2 0, 12, .inl (fun _ => 0))), (q24, .inl (E.2.2 0, 12, .inl (fun _ => 0))), (q25, .inl (E.2.2 0, 100, .inl (fun _ => 0)))] 25 7624
  refine mp_run hF mp_tabX10_ok [mp_c (.iinc 1 1) 1, mp_h (.goto (-15)) [213], mp_i (.iload_n 1), mp_c (.iconst 4) 4, mp_h (.if_icmp .ge 16) [231]] (by decide +kernel) ?_
  intro z39 h40
  obtain rfl : z39 = 3 := h40.trans (by decide)
  refine And.intro (fun c41 => absurd c41 (by decide)) (fun _ => ?_)
  show mp_W E X 2 218 [(1, .int 3), (0, .ref h0)] [] [(h0, .inr (10, [.int 0, .ref q1, .ref q2, .ref q3, .ref q4, .ref q5, .int 0, .int 0, .int 0, .int 0, .int 0, .long 0, .int 0, .int 0, .int 0, .int (-1), .ref q6, .ref q7, .ref q8, .ref q9, .ref q10, .ref q11, .ref q12, .ref q13, .int 0, .ref q14, .ref q15, .ref q16, .ref q17, .int 0, .int 0, .int 0, .ref q18, .ref q19, .int 0, .int 0, .ref q20, .ref q21, .ref q22, .int 0, .int 0, .int 0, .int 0, .ref q23, .ref q24, .ref q25, .int 0])), (q1, .inl (E.2.2 0, 4, .inl g37)), (q2, .inl (E.2.2 0, 4, .inl (fun _ => 0))), (q3, .inl (E.2.2 2, 240, .inr (.inl (fun _ => 0)))), (q4, .inl (E.2.2 2, 60, .inr (.inl (fun _ => 0)))), (q5, .inl (E.2.2 1, 1600, .inl (fun _ => 0))), (q6, .inl (E.2.2 0, 5, .inl (fun _ => 0))), (q7, .inl (E.2.2 0, 25, .inl (fun _ => 0))), (q8, .inl (E.2.2 0, 180, .inl (fun _ => 0))), (q9, .inl (E.2.2 3, 3000, .inl (fun _ => 0))), (q10, .inl (E.2.2 0, 90, .inl (fun _ => 0))), (q11, .inl (E.2.2 0, 300, .inl (fun _ => 0))), (q12, .inl (E.2.2 0, 300, .inl (fun _ => 0))), (q13, .inl (E.2.2 3, 3, .inl (fun _ => 0))), (q14, .inl (E.2.2 0, 6, .inl (fun _ => 0))), (q15, .inl (E.2.2 0, 6, .inl (fun _ => 0))), (q16, .inl (E.2.2 0, 6, .inl (fun _ => 0))), (q17, .inl (E.2.2 3, 1500, .inl (fun _ => 0))), (q18, .inl (E.2.2 0, 78, .inl (fun _ => 0))), (q19, .inl (E.2.2 2, 78, .inr (.inl (fun _ => 0)))), (q20, .inl (E.2.2 0, 6, .inl (fun _ => 0))), (q21, .inl (E.2.2 0, 6, .inl (fun _ => 0))), (q22, .inl (E.2.2 0, 3, .inl (fun _ => 0))), (q23, .inl (E.2.2 0, 12, .inl (fun _ => 0))), (q24, .inl (E.2.2 0, 12, .inl (fun _ => 0))), (q25, .inl (E.2.2 0, 100, .inl (fun _ => 0)))] 25 7624
  refine mp_run hF mp_tabX10_ok [mp_i (.aload_n 0), mp_h (.getfield 7) [1, 0], mp_i (.iload_n 1), mp_c (.iconst (-1)) (-1), mp_h .iastore [1]] (by decide +kernel) ?_
  refine And.intro rfl (And.intro rfl ?_)
  refine And.intro rfl (And.intro rfl (And.intro (vp_in_iff.mpr (by decide)) ?_))
  intro g42 h43
  show mp_W E X 2 225 [(1, .int 3), (0, .ref h0)] [] [(h0, .inr (10, [.int 0, .ref q1, .ref q2, .ref q3, .ref q4, .ref q5, .int 0, .int 0, .int 0, .int 0, .int 0, .long 0, .int 0, .int 0, .int 0, .int (-1), .ref q6, .ref q7, .ref q8, .ref q9, .ref q10, .ref q11, .ref q12, .ref q13, .int 0, .ref q14, .ref q15, .ref q16, .ref q17, .int 0, .int 0, .int 0, .ref q18, .ref q19, .int 0, .int 0, .ref q20, .ref q21, .ref q22, .int 0, .int 0, .int 0, .int 0, .ref q23, .ref q24, .ref q25, .int 0])), (q1, .inl (E.2.2 0, 4, .inl g42)), (q2, .inl (E.2.2 0, 4, .inl (fun _ => 0))), (q3, .inl (E.2.2 2, 240, .inr (.inl (fun _ => 0)))), (q4, .inl (E.2.2 2, 60, .inr (.inl (fun _ => 0)))), (q5, .inl (E.2.2 1, 1600, .inl (fun _ => 0))), (q6, .inl (E.2.2 0, 5, .inl (fun _ => 0))), (q7, .inl (E.2.2 0, 25, .inl (fun _ => 0))), (q8, .inl (E.2.2 0, 180, .inl (fun _ => 0))), (q9, .inl (E.2.2 3, 3000, .inl (fun _ => 0))), (q10, .inl (E.2.2 0, 90, .inl (fun _ => 0))), (q11, .inl (E.2.2 0, 300, .inl (fun _ => 0))), (q12, .inl (E.2.2 0, 300, .inl (fun _ => 0))), (q13, .inl (E.2.2 3, 3, .inl (fun _ => 0))), (q14, .inl (E.2.2 0, 6, .inl (fun _ => 0))), (q15, .inl (E.2.2 0, 6, .inl (fun _ => 0))), (q16, .inl (E.2.2 0, 6, .inl (fun _ => 0))), (q17, .inl (E.2.2 3, 1500, .inl (fun _ => 0))), (q18, .inl (E.2.2 0, 78, .inl (fun _ => 0))), (q19, .inl (E.2.2 2, 78, .inr (.inl (fun _ => 0)))), (q20, .inl (E.2.2 0, 6, .inl (fun _ => 0))), (q21, .inl (E.2.2 0, 6, .inl (fun _ => 0))), (q22, .inl (E.2.2 0, 3, .inl (fun _ => 0))), (q23, .inl (E.2.2 0, 12, .inl (fun _ => 0))), (q24, .inl (E.2.2 0, 12, .inl (fun _ => 0))), (q25, .inl (E.2.2 0, 100, .inl (fun _ => 0)))] 25 7624
  refine mp_run hF mp_tabX10_ok [mp_c (.iinc 1 1) 1, mp_h (.goto (-15)) [213], mp_i (.iload_n 1), mp_c (.iconst 4) 4, mp_h (.if_icmp .ge 16) [231]] (by decide +kernel) ?_
  intro z44 h45
  obtain rfl : z44 = 4 := h45.trans (by decide)
  refine And.intro (fun _ => ?_) (fun c46 => absurd c46 (by decide))
  show mp_W E X 2 231 [(1, .int 4), (0, .ref h0)] [] [(h0, .inr (10, [.int 0, .ref q1, .ref q2, .ref q3, .ref q4, .ref q5, .int 0, .int 0, .int 0, .int 0, .int 0, .long 0, .int 0, .int 0, .int 0, .int (-1), .ref q6, .ref q7, .ref q8, .ref q9, .ref q10, .ref q11, .ref q12, .ref q13, .int 0, .ref q14, .ref q15, .ref q16, .ref q17, .int 0, .int 0, .int 0, .ref q18, .ref q19, .int 0, .int 0, .ref q20, .ref q21, .ref q22, .int 0, .int 0, .int 0, .int 0, .ref q23, .ref q24, .ref q25, .int 0])), (q1, .inl (E.2.2 0, 4, .inl g42)), (q2, .inl (E.2.2 0, 4, .inl (fun _ => 0))), (q3, .inl (E.2.2 2, 240, .inr (.inl (fun _ => 0)))), (q4, .inl (E.2.2 2, 60, .inr (.inl (fun _ => 0)))), (q5, .inl (E.2.2 1, 1600, .inl (fun _ => 0))), (q6, .inl (E.2.2 0, 5, .inl (fun _ => 0))), (q7, .inl (E.2.2 0, 25, .inl (fun _ => 0))), (q8, .inl (E.2.2 0, 180, .inl (fun _ => 0))), (q9, .inl (E.2.2 3, 3000, .inl (fun _ => 0))), (q10, .inl (E.2.2 0, 90, .inl (fun _ => 0))), (q11, .inl (E.2.2 0, 300, .inl (fun _ => 0))), (q12, .inl (E.2.2 0, 300, .inl (fun _ => 0))), (q13, .inl (E.2.2 3, 3, .inl (fun _ => 0))), (q14, .inl (E.2.2 0, 6, .inl (fun _ => 0))), (q15, .inl (E.2.2 0, 6, .inl (fun _ => 0))), (q16, .inl (E.2.2 0, 6, .inl (fun _ => 0))), (q17, .inl (E.2.2 3, 1500, .inl (fun _ => 0))), (q18, .inl (E.2.2 0, 78, .inl (fun _ => 0))), (q19, .inl (E.2.2 2, 78, .inr (.inl (fun _ => 0)))), (q20, .inl (E.2.2 0, 6, .inl (fun _ => 0))), (q21, .inl (E.2.2 0, 6, .inl (fun _ => 0))), (q22, .inl (E.2.2 0, 3, .inl (fun _ => 0))), (q23, .inl (E.2.2 0, 12, .inl (fun _ => 0))), (q24, .inl (E.2.2 0, 12, .inl (fun _ => 0))), (q25, .inl (E.2.2 0, 100, .inl (fun _ => 0)))] 25 7624
  exact mp_vret hF hQ rfl (Nat.le_of_ble_eq_true rfl) (Nat.le_of_ble_eq_true rfl) [0, 1, 2, 3, 4, 5, 6, 7, 8, 9, 10, 11, 12, 13, 14, 15, 16, 17, 18, 19, 20, 21, 22, 23, 24, 25] (w' := [(h0, .inr (10, [.int 0, .ref q1, .ref q2, .ref q3, .ref q4, .ref q5, .int 0, .int 0, .int 0, .int 0, .int 0, .long 0, .int 0, .int 0, .int 0, .int (-1), .ref q6, .ref q7, .ref q8, .ref q9, .ref q10, .ref q11, .ref q12, .ref q13, .int 0, .ref q14, .ref q15, .ref q16, .ref q17, .int 0, .int 0, .int 0, .ref q18, .ref q19, .int 0, .int 0, .ref q20, .ref q21, .ref q22, .int 0, .int 0, .int 0, .int 0, .ref q23, .ref q24, .ref q25, .int 0])), (q1, .inl (E.2.2 0, 4, .inl g42)), (q2, .inl (E.2.2 0, 4, .inl (fun _ => 0))), (q3, .inl (E.2.2 2, 240, .inr (.inl (fun _ => 0)))), (q4, .inl (E.2.2 2, 60, .inr (.inl (fun _ => 0)))), (q5, .inl (E.2.2 1, 1600, .inl (fun _ => 0))), (q6, .inl (E.2.2 0, 5, .inl (fun _ => 0))), (q7, .inl (E.2.2 0, 25, .inl (fun _ => 0))), (q8, .inl (E.2.2 0, 180, .inl (fun _ => 0))), (q9, .inl (E.2.2 3, 3000, .inl (fun _ => 0))), (q10, .inl (E.2.2 0, 90, .inl (fun _ => 0))), (q11, .inl (E.2.2 0, 300, .inl (fun _ => 0))), (q12, .inl (E.2.2 0, 300, .inl (fun _ => 0))), (q13, .inl (E.2.2 3, 3, .inl (fun _ => 0))), (q14, .inl (E.2.2 0, 6, .inl (fun _ => 0))), (q15, .inl (E.2.2 0, 6, .inl (fun _ => 0))), (q16, .inl (E.2.2 0, 6, .inl (fun _ => 0))), (q17, .inl (E.2.2 3, 1500, .inl (fun _ => 0))), (q18, .inl (E.2.2 0, 78, .inl (fun _ => 0))), (q19, .inl (E.2.2 2, 78, .inr (.inl (fun _ => 0)))), (q20, .inl (E.2.2 0, 6, .inl (fun _ => 0))), (q21, .inl (E.2.2 0, 6, .inl (fun _ => 0))), (q22, .inl (E.2.2 0, 3, .inl (fun _ => 0))), (q23, .inl (E.2.2 0, 12, .inl (fun _ => 0))), (q24, .inl (E.2.2 0, 12, .inl (fun _ => 0))), (q25, .inl (E.2.2 0, 100, .inl (fun _ => 0)))]) rfl rfl ⟨rfl, fun k => ([h0, q1, q2, q3, q4, q5, q6, q7, q8, q9, q10, q11, q12, q13, q14, q15, q16, q17, q18, q19, q20, q21, q22, q23, q24, q25] : List Nat).getD k 0, g42, rfl, (by intro j hj; rw [h43, h38, h33, h28]; have h9 : j = 0 ∨ j = 1 ∨ j = 2 ∨ j = 3 := (by omega); rcases h9 with rfl | rfl | rfl | rfl <;> rfl), rfl⟩ (by decide +kernel)

set_option maxHeartbeats 4000000 in
set_option maxRecDepth 100000 in
theorem k_Main (E : mp_E) (h0 : Nat) : mp_Ct E yX9_init cX9_init 1 none 3 57 3761 52 [.ref h0] [(h0, .inr (9, [.null, .null, .null, .null, .null, .null, .null, .null, .null]))] (fun v w' => v = none ∧ ∃ b : Nat → Nat, ∃ (vs ln : Nat → Int32), b 0 = h0 ∧ (∀ j, j < 4 → ln j = -1) ∧ w' = [(h0, .inr (9, [.ref (b 1), .ref (b 16), .ref (b 36), .ref (b 37), .ref (b 40), .ref (b 46), .ref (b 49), .ref (b 52), .ref (b 54)])), ((b 1), .inr (3, [.ref (b 2), .int 0, .ref (b 3), .int 0, .int (-1), .int 0, .int 0, .int 0, .int 0, .int 0])), ((b 2), .inl (E.2.2 1, 1600, .inl (fun _ => 0))), ((b 3), .inr (7, [.int 0, .int 0, .int 0, .int 0, .int 0, .int 0, .ref (b 4), .ref (b 5), .ref (b 6), .ref (b 7), .ref (b 8), .ref (b 9), .ref (b 10), .ref (b 11), .ref (b 12), .ref (b 13), .ref (b 14), .ref (b 15)])), ((b 4), .inl (E.2.2 0, 36, .inl (fun _ => 0))), ((b 5), .inl (E.2.2 2, 12, .inr (.inl (fun _ => 0)))), ((b 6), .inl (E.2.2 0, 6, .inl (fun _ => 0))), ((b 7), .inl (E.2.2 0, 6, .inl (fun _ => 0))), ((b 8), .inl (E.2.2 0, 6, .inl (fun _ => 0))), ((b 9), .inl (E.2.2 0, 10, .inl (fun _ => 0))), ((b 10), .inl (E.2.2 0, 10, .inl (fun _ => 0))), ((b 11), .inl (E.2.2 0, 10, .inl (fun _ => 0))), ((b 12), .inl (E.2.2 0, 10, .inl (fun _ => 0))), ((b 13), .inl (E.2.2 0, 10, .inl (fun _ => 0))), ((b 14), .inl (E.2.2 0, 10, .inl (fun _ => 0))), ((b 15), .inl (E.2.2 0, 60, .inl (fun _ => 0))), ((b 16), .inr (0, [.ref (b 17), .int 0, .ref (b 30), .ref (b 31), .ref (b 32), .ref (b 33), .ref (b 34), .ref (b 35)])), ((b 17), .inr (7, [.int 0, .int 0, .int 0, .int 0, .int 0, .int 0, .ref (b 18), .ref (b 19), .ref (b 20), .ref (b 21), .ref (b 22), .ref (b 23), .ref (b 24), .ref (b 25), .ref (b 26), .ref (b 27), .ref (b 28), .ref (b 29)])), ((b 18), .inl (E.2.2 0, 36, .inl (fun _ => 0))), ((b 19), .inl (E.2.2 2, 12, .inr (.inl (fun _ => 0)))), ((b 20), .inl (E.2.2 0, 6, .inl (fun _ => 0))), ((b 21), .inl (E.2.2 0, 6, .inl (fun _ => 0))), ((b 22), .inl (E.2.2 0, 6, .inl (fun _ => 0))), ((b 23), .inl (E.2.2 0, 10, .inl (fun _ => 0))), ((b 24), .inl (E.2.2 0, 10, .inl (fun _ => 0))), ((b 25), .inl (E.2.2 0, 10, .inl (fun _ => 0))), ((b 26), .inl (E.2.2 0, 10, .inl (fun _ => 0))), ((b 27), .inl (E.2.2 0, 10, .inl (fun _ => 0))), ((b 28), .inl (E.2.2 0, 10, .inl (fun _ => 0))), ((b 29), .inl (E.2.2 0, 60, .inl (fun _ => 0))), ((b 30), .inl (E.2.2 0, 6, .inl (fun _ => 0))), ((b 31), .inl (E.2.2 0, 6, .inl (fun _ => 0))), ((b 32), .inl (E.2.2 0, 6, .inl (fun _ => 0))), ((b 33), .inl (E.2.2 2, 20, .inr (.inl (fun _ => 0)))), ((b 34), .inl (E.2.2 0, 10, .inl (fun _ => 0))), ((b 35), .inl (E.2.2 0, 10, .inl (fun _ => 0))), ((b 36), .inl (E.2.2 4, 3, .inr (.inr (.inr (.inr (fun _ => none)))))), ((b 37), .inr (1, [.ref (b 38), .int 0, .int 0, .ref (b 39)])), ((b 38), .inl (E.2.2 0, 36, .inl (fun _ => 0))), ((b 39), .inl (E.2.2 0, 3, .inl (fun _ => 0))), ((b 40), .inr (2, [.int 0, .int 0, .int 0, .int 0, .ref (b 41), .ref (b 42), .ref (b 43), .ref (b 44), .ref (b 45), .int 0, .int 0])), ((b 41), .inl (E.2.2 0, 432, .inl (fun _ => 0))), ((b 42), .inl (E.2.2 0, 432, .inl (fun _ => 0))), ((b 43), .inl (E.2.2 0, 72, .inl (fun _ => 0))), ((b 44), .inl (E.2.2 0, 78, .inl (fun _ => 0))), ((b 45), .inl (E.2.2 2, 78, .inr (.inl (fun _ => 0)))), ((b 46), .inr (4, [.int 0, .int 0, .int 0, .ref (b 47), .int 0, .int 0, .int 0, .int 0, .int 0, .ref (b 48)])), ((b 47), .inl (E.2.2 0, 11, .inl (fun _ => 0))), ((b 48), .inl (E.2.2 0, 132, .inl (fun _ => 0))), ((b 49), .inr (6, [.int 0, .ref (b 50), .ref (b 51)])), ((b 50), .inl (E.2.2 0, 8, .inl (fun _ => 0))), ((b 51), .inl (E.2.2 0, 100, .inl vs)), ((b 52), .inr (8, [.ref (b 53), .int 0, .int 0])), ((b 53), .inl (E.2.2 0, 10, .inl (fun _ => 0))), ((b 54), .inr (5, [.ref (b 55), .ref (b 56), .ref (b 57)])), ((b 55), .inl (E.2.2 2, 240, .inr (.inl (fun _ => 0)))), ((b 56), .inl (E.2.2 0, 4, .inl (fun _ => 0))), ((b 57), .inl (E.2.2 0, 4, .inl ln))]) := by
  refine mp_met true (by decide) (by decide) (Nat.le_of_ble_eq_true rfl) (fun X hF hQ => ?_)
  have hF : mp_F E X (RX9, cX9_init, 1, (3, 57, 3761, 52), none, true) := hF
  show mp_W E X 1 0 [(0, .ref h0)] [] [(h0, .inr (9, [.null, .null, .null, .null, .null, .null, .null, .null, .null]))] 0 0
  refine mp_run hF mp_tabX9_ok [mp_i (.aload_n 0)] (by decide +kernel) ?_
  show mp_W E X 1 1 [(0, .ref h0)] [.ref h0] [(h0, .inr (9, [.null, .null, .null, .null, .null, .null, .null, .null, .null]))] 0 0
  refine mp_objInit hF (idx := 1) (mp_gm (j := 1026) (by decide +kernel)) ⟨(Nat.le_of_ble_eq_true rfl), (Nat.le_of_ble_eq_true rfl)⟩ (by decide +kernel) ?_
  show mp_W E X 1 4 [(0, .ref h0)] [] [(h0, .inr (9, [.null, .null, .null, .null, .null, .null, .null, .null, .null]))] 0 0
  refine mp_run hF mp_tabX9_ok [mp_i (.aload_n 0)] (by decide +kernel) ?_
  show mp_W E X 1 5 [(0, .ref h0)] [.ref h0] [(h0, .inr (9, [.null, .null, .null, .null, .null, .null, .null, .null, .null]))] 0 0
  refine mp_new hF (mp_lnX9_7) ⟨(Nat.le_of_ble_eq_true rfl), (Nat.le_of_ble_eq_true rfl)⟩ (by decide +kernel) (fun q1 => ?_)
  show mp_W E X 1 8 [(0, .ref h0)] [.ref q1, .ref h0] [(h0, .inr (9, [.null, .null, .null, .null, .null, .null, .null, .null, .null])), (q1, .inr (3, [.null, .int 0, .null, .int 0, .int 0, .int 0, .int 0, .int 0, .int 0, .int 0]))] 1 10
  refine mp_run hF mp_tabX9_ok [mp_i .dup] (by decide +kernel) ?_
  refine And.intro rfl ?_
  show mp_W E X 1 9 [(0, .ref h0)] [.ref q1, .ref q1, .ref h0] [(h0, .inr (9, [.null, .null, .null, .null, .null, .null, .null, .null, .null])), (q1, .inr (3, [.null, .int 0, .null, .int 0, .int 0, .int 0, .int 0, .int 0, .int 0, .int 0]))] 1 10
  refine mp_callIN hF (As := []) (rest := [.ref q1, .ref h0]) (wr := [(h0, .inr (9, [.null, .null, .null, .null, .null, .null, .null, .null, .null]))]) (k_Reader E q1) rfl (mp_gm (j := 1032) (by decide +kernel)) mp_lkX9_9 [1] [0] rfl rfl rfl rfl rfl ⟨(Nat.le_of_ble_eq_true rfl), (Nat.le_of_ble_eq_true rfl), (Nat.le_of_ble_eq_true rfl), (Nat.le_of_ble_eq_true rfl)⟩ (Nat.le_of_ble_eq_true rfl) (by decide +kernel) (fun v2 w3 h4 => ?_)
  obtain ⟨rfl, b5, h6, rfl⟩ := h4
  clear h6
  show mp_W E X 1 12 [(0, .ref h0)] [.ref q1, .ref h0] [(h0, .inr (9, [.null, .null, .null, .null, .null, .null, .null, .null, .null])), (q1, .inr (3, [.ref (b5 1), .int 0, .ref (b5 2), .int 0, .int (-1), .int 0, .int 0, .int 0, .int 0, .int 0])), ((b5 1), .inl (E.2.2 1, 1600, .inl (fun _ => 0))), ((b5 2), .inr (7, [.int 0, .int 0, .int 0, .int 0, .int 0, .int 0, .ref (b5 3), .ref (b5 4), .ref (b5 5), .ref (b5 6), .ref (b5 7), .ref (b5 8), .ref (b5 9), .ref (b5 10), .ref (b5 11), .ref (b5 12), .ref (b5 13), .ref (b5 14)])), ((b5 3), .inl (E.2.2 0, 36, .inl (fun _ => 0))), ((b5 4), .inl (E.2.2 2, 12, .inr (.inl (fun _ => 0)))), ((b5 5), .inl (E.2.2 0, 6, .inl (fun _ => 0))), ((b5 6), .inl (E.2.2 0, 6, .inl (fun _ => 0))), ((b5 7), .inl (E.2.2 0, 6, .inl (fun _ => 0))), ((b5 8), .inl (E.2.2 0, 10, .inl (fun _ => 0))), ((b5 9), .inl (E.2.2 0, 10, .inl (fun _ => 0))), ((b5 10), .inl (E.2.2 0, 10, .inl (fun _ => 0))), ((b5 11), .inl (E.2.2 0, 10, .inl (fun _ => 0))), ((b5 12), .inl (E.2.2 0, 10, .inl (fun _ => 0))), ((b5 13), .inl (E.2.2 0, 10, .inl (fun _ => 0))), ((b5 14), .inl (E.2.2 0, 60, .inl (fun _ => 0)))] 15 1814
  refine mp_run hF mp_tabX9_ok [mp_h (.putfield 10) [36, 0]] (by decide +kernel) ?_
  refine And.intro rfl (And.intro rfl (And.intro rfl (And.intro rfl (And.intro (Nat.le_of_ble_eq_true rfl) ?_))))
  show mp_W E X 1 15 [(0, .ref h0)] [] [(h0, .inr (9, [.ref q1, .null, .null, .null, .null, .null, .null, .null, .null])), (q1, .inr (3, [.ref (b5 1), .int 0, .ref (b5 2), .int 0, .int (-1), .int 0, .int 0, .int 0, .int 0, .int 0])), ((b5 1), .inl (E.2.2 1, 1600, .inl (fun _ => 0))), ((b5 2), .inr (7, [.int 0, .int 0, .int 0, .int 0, .int 0, .int 0, .ref (b5 3), .ref (b5 4), .ref (b5 5), .ref (b5 6), .ref (b5 7), .ref (b5 8), .ref (b5 9), .ref (b5 10), .ref (b5 11), .ref (b5 12), .ref (b5 13), .ref (b5 14)])), ((b5 3), .inl (E.2.2 0, 36, .inl (fun _ => 0))), ((b5 4), .inl (E.2.2 2, 12, .inr (.inl (fun _ => 0)))), ((b5 5), .inl (E.2.2 0, 6, .inl (fun _ => 0))), ((b5 6), .inl (E.2.2 0, 6, .inl (fun _ => 0))), ((b5 7), .inl (E.2.2 0, 6, .inl (fun _ => 0))), ((b5 8), .inl (E.2.2 0, 10, .inl (fun _ => 0))), ((b5 9), .inl (E.2.2 0, 10, .inl (fun _ => 0))), ((b5 10), .inl (E.2.2 0, 10, .inl (fun _ => 0))), ((b5 11), .inl (E.2.2 0, 10, .inl (fun _ => 0))), ((b5 12), .inl (E.2.2 0, 10, .inl (fun _ => 0))), ((b5 13), .inl (E.2.2 0, 10, .inl (fun _ => 0))), ((b5 14), .inl (E.2.2 0, 60, .inl (fun _ => 0)))] 15 1814
  refine mp_run hF mp_tabX9_ok [mp_i (.aload_n 0)] (by decide +kernel) ?_
  show mp_W E X 1 16 [(0, .ref h0)] [.ref h0] [(h0, .inr (9, [.ref q1, .null, .null, .null, .null, .null, .null, .null, .null])), (q1, .inr (3, [.ref (b5 1), .int 0, .ref (b5 2), .int 0, .int (-1), .int 0, .int 0, .int 0, .int 0, .int 0])), ((b5 1), .inl (E.2.2 1, 1600, .inl (fun _ => 0))), ((b5 2), .inr (7, [.int 0, .int 0, .int 0, .int 0, .int 0, .int 0, .ref (b5 3), .ref (b5 4), .ref (b5 5), .ref (b5 6), .ref (b5 7), .ref (b5 8), .ref (b5 9), .ref (b5 10), .ref (b5 11), .ref (b5 12), .ref (b5 13), .ref (b5 14)])), ((b5 3), .inl (E.2.2 0, 36, .inl (fun _ => 0))), ((b5 4), .inl (E.2.2 2, 12, .inr (.inl (fun _ => 0)))), ((b5 5), .inl (E.2.2 0, 6, .inl (fun _ => 0))), ((b5 6), .inl (E.2.2 0, 6, .inl (fun _ => 0))), ((b5 7), .inl (E.2.2 0, 6, .inl (fun _ => 0))), ((b5 8), .inl (E.2.2 0, 10, .inl (fun _ => 0))), ((b5 9), .inl (E.2.2 0, 10, .inl (fun _ => 0))), ((b5 10), .inl (E.2.2 0, 10, .inl (fun _ => 0))), ((b5 11), .inl (E.2.2 0, 10, .inl (fun _ => 0))), ((b5 12), .inl (E.2.2 0, 10, .inl (fun _ => 0))), ((b5 13), .inl (E.2.2 0, 10, .inl (fun _ => 0))), ((b5 14), .inl (E.2.2 0, 60, .inl (fun _ => 0)))] 15 1814
  refine mp_new hF (mp_lnX9_16) ⟨(Nat.le_of_ble_eq_true rfl), (Nat.le_of_ble_eq_true rfl)⟩ (by decide +kernel) (fun q7 => ?_)
  show mp_W E X 1 19 [(0, .ref h0)] [.ref q7, .ref h0] [(h0, .inr (9, [.ref q1, .null, .null, .null, .null, .null, .null, .null, .null])), (q1, .inr (3, [.ref (b5 1), .int 0, .ref (b5 2), .int 0, .int (-1), .int 0, .int 0, .int 0, .int 0, .int 0])), ((b5 1), .inl (E.2.2 1, 1600, .inl (fun _ => 0))), ((b5 2), .inr (7, [.int 0, .int 0, .int 0, .int 0, .int 0, .int 0, .ref (b5 3), .ref (b5 4), .ref (b5 5), .ref (b5 6), .ref (b5 7), .ref (b5 8), .ref (b5 9), .ref (b5 10), .ref (b5 11), .ref (b5 12), .ref (b5 13), .ref (b5 14)])), ((b5 3), .inl (E.2.2 0, 36, .inl (fun _ => 0))), ((b5 4), .inl (E.2.2 2, 12, .inr (.inl (fun _ => 0)))), ((b5 5), .inl (E.2.2 0, 6, .inl (fun _ => 0))), ((b5 6), .inl (E.2.2 0, 6, .inl (fun _ => 0))), ((b5 7), .inl (E.2.2 0, 6, .inl (fun _ => 0))), ((b5 8), .inl (E.2.2 0, 10, .inl (fun _ => 0))), ((b5 9), .inl (E.2.2 0, 10, .inl (fun _ => 0))), ((b5 10), .inl (E.2.2 0, 10, .inl (fun _ => 0))), ((b5 11), .inl (E.2.2 0, 10, .inl (fun _ => 0))), ((b5 12), .inl (E.2.2 0, 10, .inl (fun _ => 0))), ((b5 13), .inl (E.2.2 0, 10, .inl (fun _ => 0))), ((b5 14), .inl (E.2.2 0, 60, .inl (fun _ => 0))), (q7, .inr (0, [.null, .int 0, .null, .null, .null, .null, .null, .null]))] 16 1822
  refine mp_run hF mp_tabX9_ok [mp_i .dup] (by decide +kernel) ?_
  refine And.intro rfl ?_
  show mp_W E X 1 20 [(0, .ref h0)] [.ref q7, .ref q7, .ref h0] [(h0, .inr (9, [.ref q1, .null, .null, .null, .null, .null, .null, .null, .null])), (q1, .inr (3, [.ref (b5 1), .int 0, .ref (b5 2), .int 0, .int (-1), .int 0, .int 0, .int 0, .int 0, .int 0])), ((b5 1), .inl (E.2.2 1, 1600, .inl (fun _ => 0))), ((b5 2), .inr (7, [.int 0, .int 0, .int 0, .int 0, .int 0, .int 0, .ref (b5 3), .ref (b5 4), .ref (b5 5), .ref (b5 6), .ref (b5 7), .ref (b5 8), .ref (b5 9), .ref (b5 10), .ref (b5 11), .ref (b5 12), .ref (b5 13), .ref (b5 14)])), ((b5 3), .inl (E.2.2 0, 36, .inl (fun _ => 0))), ((b5 4), .inl (E.2.2 2, 12, .inr (.inl (fun _ => 0)))), ((b5 5), .inl (E.2.2 0, 6, .inl (fun _ => 0))), ((b5 6), .inl (E.2.2 0, 6, .inl (fun _ => 0))), ((b5 7), .inl (E.2.2 0, 6, .inl (fun _ => 0))), ((b5 8), .inl (E.2.2 0, 10, .inl (fun _ => 0))), ((b5 9), .inl (E.2.2 0, 10, .inl (fun _ => 0))), ((b5 10), .inl (E.2.2 0, 10, .inl (fun _ => 0))), ((b5 11), .inl (E.2.2 0, 10, .inl (fun _ => 0))), ((b5 12), .inl (E.2.2 0, 10, .inl (fun _ => 0))), ((b5 13), .inl (E.2.2 0, 10, .inl (fun _ => 0))), ((b5 14), .inl (E.2.2 0, 60, .inl (fun _ => 0))), (q7, .inr (0, [.null, .int 0, .null, .null, .null, .null, .null, .null]))] 16 1822
  refine mp_callIN hF (As := []) (rest := [.ref q7, .ref h0]) (wr := [(h0, .inr (9, [.ref q1, .null, .null, .null, .null, .null, .null, .null, .null])), (q1, .inr (3, [.ref (b5 1), .int 0, .ref (b5 2), .int 0, .int (-1), .int 0, .int 0, .int 0, .int 0, .int 0])), ((b5 1), .inl (E.2.2 1, 1600, .inl (fun _ => 0))), ((b5 2), .inr (7, [.int 0, .int 0, .int 0, .int 0, .int 0, .int 0, .ref (b5 3), .ref (b5 4), .ref (b5 5), .ref (b5 6), .ref (b5 7), .ref (b5 8), .ref (b5 9), .ref (b5 10), .ref (b5 11), .ref (b5 12), .ref (b5 13), .ref (b5 14)])), ((b5 3), .inl (E.2.2 0, 36, .inl (fun _ => 0))), ((b5 4), .inl (E.2.2 2, 12, .inr (.inl (fun _ => 0)))), ((b5 5), .inl (E.2.2 0, 6, .inl (fun _ => 0))), ((b5 6), .inl (E.2.2 0, 6, .inl (fun _ => 0))), ((b5 7), .inl (E.2.2 0, 6, .inl (fun _ => 0))), ((b5 8), .inl (E.2.2 0, 10, .inl (fun _ => 0))), ((b5 9), .inl (E.2.2 0, 10, .inl (fun _ => 0))), ((b5 10), .inl (E.2.2 0, 10, .inl (fun _ => 0))), ((b5 11), .inl (E.2.2 0, 10, .inl (fun _ => 0))), ((b5 12), .inl (E.2.2 0, 10, .inl (fun _ => 0))), ((b5 13), .inl (E.2.2 0, 10, .inl (fun _ => 0))), ((b5 14), .inl (E.2.2 0, 60, .inl (fun _ => 0)))]) (k_Course E q7) rfl (mp_gm (j := 1187) (by decide +kernel)) mp_lkX9_18 [16] [0, 1, 2, 3, 4, 5, 6, 7, 8, 9, 10, 11, 12, 13, 14, 15] rfl rfl rfl rfl rfl ⟨(Nat.le_of_ble_eq_true rfl), (Nat.le_of_ble_eq_true rfl), (Nat.le_of_ble_eq_true rfl), (Nat.le_of_ble_eq_true rfl)⟩ (Nat.le_of_ble_eq_true rfl) (by decide +kernel) (fun v8 w9 h10 => ?_)
  obtain ⟨rfl, b11, h12, rfl⟩ := h10
  clear h12
  show mp_W E X 1 23 [(0, .ref h0)] [.ref q7, .ref h0] [(h0, .inr (9, [.ref q1, .null, .null, .null, .null, .null, .null, .null, .null])), (q1, .inr (3, [.ref (b5 1), .int 0, .ref (b5 2), .int 0, .int (-1), .int 0, .int 0, .int 0, .int 0, .int 0])), ((b5 1), .inl (E.2.2 1, 1600, .inl (fun _ => 0))), ((b5 2), .inr (7, [.int 0, .int 0, .int 0, .int 0, .int 0, .int 0, .ref (b5 3), .ref (b5 4), .ref (b5 5), .ref (b5 6), .ref (b5 7), .ref (b5 8), .ref (b5 9), .ref (b5 10), .ref (b5 11), .ref (b5 12), .ref (b5 13), .ref (b5 14)])), ((b5 3), .inl (E.2.2 0, 36, .inl (fun _ => 0))), ((b5 4), .inl (E.2.2 2, 12, .inr (.inl (fun _ => 0)))), ((b5 5), .inl (E.2.2 0, 6, .inl (fun _ => 0))), ((b5 6), .inl (E.2.2 0, 6, .inl (fun _ => 0))), ((b5 7), .inl (E.2.2 0, 6, .inl (fun _ => 0))), ((b5 8), .inl (E.2.2 0, 10, .inl (fun _ => 0))), ((b5 9), .inl (E.2.2 0, 10, .inl (fun _ => 0))), ((b5 10), .inl (E.2.2 0, 10, .inl (fun _ => 0))), ((b5 11), .inl (E.2.2 0, 10, .inl (fun _ => 0))), ((b5 12), .inl (E.2.2 0, 10, .inl (fun _ => 0))), ((b5 13), .inl (E.2.2 0, 10, .inl (fun _ => 0))), ((b5 14), .inl (E.2.2 0, 60, .inl (fun _ => 0))), (q7, .inr (0, [.ref (b11 1), .int 0, .ref (b11 14), .ref (b11 15), .ref (b11 16), .ref (b11 17), .ref (b11 18), .ref (b11 19)])), ((b11 1), .inr (7, [.int 0, .int 0, .int 0, .int 0, .int 0, .int 0, .ref (b11 2), .ref (b11 3), .ref (b11 4), .ref (b11 5), .ref (b11 6), .ref (b11 7), .ref (b11 8), .ref (b11 9), .ref (b11 10), .ref (b11 11), .ref (b11 12), .ref (b11 13)])), ((b11 2), .inl (E.2.2 0, 36, .inl (fun _ => 0))), ((b11 3), .inl (E.2.2 2, 12, .inr (.inl (fun _ => 0)))), ((b11 4), .inl (E.2.2 0, 6, .inl (fun _ => 0))), ((b11 5), .inl (E.2.2 0, 6, .inl (fun _ => 0))), ((b11 6), .inl (E.2.2 0, 6, .inl (fun _ => 0))), ((b11 7), .inl (E.2.2 0, 10, .inl (fun _ => 0))), ((b11 8), .inl (E.2.2 0, 10, .inl (fun _ => 0))), ((b11 9), .inl (E.2.2 0, 10, .inl (fun _ => 0))), ((b11 10), .inl (E.2.2 0, 10, .inl (fun _ => 0))), ((b11 11), .inl (E.2.2 0, 10, .inl (fun _ => 0))), ((b11 12), .inl (E.2.2 0, 10, .inl (fun _ => 0))), ((b11 13), .inl (E.2.2 0, 60, .inl (fun _ => 0))), ((b11 14), .inl (E.2.2 0, 6, .inl (fun _ => 0))), ((b11 15), .inl (E.2.2 0, 6, .inl (fun _ => 0))), ((b11 16), .inl (E.2.2 0, 6, .inl (fun _ => 0))), ((b11 17), .inl (E.2.2 2, 20, .inr (.inl (fun _ => 0)))), ((b11 18), .inl (E.2.2 0, 10, .inl (fun _ => 0))), ((b11 19), .inl (E.2.2 0, 10, .inl (fun _ => 0)))] 35 2084
  refine mp_run hF mp_tabX9_ok [mp_h (.putfield 19) [37, 0]] (by decide +kernel) ?_
  refine And.intro rfl (And.intro rfl (And.intro rfl (And.intro rfl (And.intro (Nat.le_of_ble_eq_true rfl) ?_))))
  show mp_W E X 1 26 [(0, .ref h0)] [] [(h0, .inr (9, [.ref q1, .ref q7, .null, .null, .null, .null, .null, .null, .null])), (q1, .inr (3, [.ref (b5 1), .int 0, .ref (b5 2), .int 0, .int (-1), .int 0, .int 0, .int 0, .int 0, .int 0])), ((b5 1), .inl (E.2.2 1, 1600, .inl (fun _ => 0))), ((b5 2), .inr (7, [.int 0, .int 0, .int 0, .int 0, .int 0, .int 0, .ref (b5 3), .ref (b5 4), .ref (b5 5), .ref (b5 6), .ref (b5 7), .ref (b5 8), .ref (b5 9), .ref (b5 10), .ref (b5 11), .ref (b5 12), .ref (b5 13), .ref (b5 14)])), ((b5 3), .inl (E.2.2 0, 36, .inl (fun _ => 0))), ((b5 4), .inl (E.2.2 2, 12, .inr (.inl (fun _ => 0)))), ((b5 5), .inl (E.2.2 0, 6, .inl (fun _ => 0))), ((b5 6), .inl (E.2.2 0, 6, .inl (fun _ => 0))), ((b5 7), .inl (E.2.2 0, 6, .inl (fun _ => 0))), ((b5 8), .inl (E.2.2 0, 10, .inl (fun _ => 0))), ((b5 9), .inl (E.2.2 0, 10, .inl (fun _ => 0))), ((b5 10), .inl (E.2.2 0, 10, .inl (fun _ => 0))), ((b5 11), .inl (E.2.2 0, 10, .inl (fun _ => 0))), ((b5 12), .inl (E.2.2 0, 10, .inl (fun _ => 0))), ((b5 13), .inl (E.2.2 0, 10, .inl (fun _ => 0))), ((b5 14), .inl (E.2.2 0, 60, .inl (fun _ => 0))), (q7, .inr (0, [.ref (b11 1), .int 0, .ref (b11 14), .ref (b11 15), .ref (b11 16), .ref (b11 17), .ref (b11 18), .ref (b11 19)])), ((b11 1), .inr (7, [.int 0, .int 0, .int 0, .int 0, .int 0, .int 0, .ref (b11 2), .ref (b11 3), .ref (b11 4), .ref (b11 5), .ref (b11 6), .ref (b11 7), .ref (b11 8), .ref (b11 9), .ref (b11 10), .ref (b11 11), .ref (b11 12), .ref (b11 13)])), ((b11 2), .inl (E.2.2 0, 36, .inl (fun _ => 0))), ((b11 3), .inl (E.2.2 2, 12, .inr (.inl (fun _ => 0)))), ((b11 4), .inl (E.2.2 0, 6, .inl (fun _ => 0))), ((b11 5), .inl (E.2.2 0, 6, .inl (fun _ => 0))), ((b11 6), .inl (E.2.2 0, 6, .inl (fun _ => 0))), ((b11 7), .inl (E.2.2 0, 10, .inl (fun _ => 0))), ((b11 8), .inl (E.2.2 0, 10, .inl (fun _ => 0))), ((b11 9), .inl (E.2.2 0, 10, .inl (fun _ => 0))), ((b11 10), .inl (E.2.2 0, 10, .inl (fun _ => 0))), ((b11 11), .inl (E.2.2 0, 10, .inl (fun _ => 0))), ((b11 12), .inl (E.2.2 0, 10, .inl (fun _ => 0))), ((b11 13), .inl (E.2.2 0, 60, .inl (fun _ => 0))), ((b11 14), .inl (E.2.2 0, 6, .inl (fun _ => 0))), ((b11 15), .inl (E.2.2 0, 6, .inl (fun _ => 0))), ((b11 16), .inl (E.2.2 0, 6, .inl (fun _ => 0))), ((b11 17), .inl (E.2.2 2, 20, .inr (.inl (fun _ => 0)))), ((b11 18), .inl (E.2.2 0, 10, .inl (fun _ => 0))), ((b11 19), .inl (E.2.2 0, 10, .inl (fun _ => 0)))] 35 2084
  refine mp_run hF mp_tabX9_ok [mp_i (.aload_n 0), mp_c (.iconst 3) 3] (by decide +kernel) ?_
  show mp_W E X 1 28 [(0, .ref h0)] [.int 3, .ref h0] [(h0, .inr (9, [.ref q1, .ref q7, .null, .null, .null, .null, .null, .null, .null])), (q1, .inr (3, [.ref (b5 1), .int 0, .ref (b5 2), .int 0, .int (-1), .int 0, .int 0, .int 0, .int 0, .int 0])), ((b5 1), .inl (E.2.2 1, 1600, .inl (fun _ => 0))), ((b5 2), .inr (7, [.int 0, .int 0, .int 0, .int 0, .int 0, .int 0, .ref (b5 3), .ref (b5 4), .ref (b5 5), .ref (b5 6), .ref (b5 7), .ref (b5 8), .ref (b5 9), .ref (b5 10), .ref (b5 11), .ref (b5 12), .ref (b5 13), .ref (b5 14)])), ((b5 3), .inl (E.2.2 0, 36, .inl (fun _ => 0))), ((b5 4), .inl (E.2.2 2, 12, .inr (.inl (fun _ => 0)))), ((b5 5), .inl (E.2.2 0, 6, .inl (fun _ => 0))), ((b5 6), .inl (E.2.2 0, 6, .inl (fun _ => 0))), ((b5 7), .inl (E.2.2 0, 6, .inl (fun _ => 0))), ((b5 8), .inl (E.2.2 0, 10, .inl (fun _ => 0))), ((b5 9), .inl (E.2.2 0, 10, .inl (fun _ => 0))), ((b5 10), .inl (E.2.2 0, 10, .inl (fun _ => 0))), ((b5 11), .inl (E.2.2 0, 10, .inl (fun _ => 0))), ((b5 12), .inl (E.2.2 0, 10, .inl (fun _ => 0))), ((b5 13), .inl (E.2.2 0, 10, .inl (fun _ => 0))), ((b5 14), .inl (E.2.2 0, 60, .inl (fun _ => 0))), (q7, .inr (0, [.ref (b11 1), .int 0, .ref (b11 14), .ref (b11 15), .ref (b11 16), .ref (b11 17), .ref (b11 18), .ref (b11 19)])), ((b11 1), .inr (7, [.int 0, .int 0, .int 0, .int 0, .int 0, .int 0, .ref (b11 2), .ref (b11 3), .ref (b11 4), .ref (b11 5), .ref (b11 6), .ref (b11 7), .ref (b11 8), .ref (b11 9), .ref (b11 10), .ref (b11 11), .ref (b11 12), .ref (b11 13)])), ((b11 2), .inl (E.2.2 0, 36, .inl (fun _ => 0))), ((b11 3), .inl (E.2.2 2, 12, .inr (.inl (fun _ => 0)))), ((b11 4), .inl (E.2.2 0, 6, .inl (fun _ => 0))), ((b11 5), .inl (E.2.2 0, 6, .inl (fun _ => 0))), ((b11 6), .inl (E.2.2 0, 6, .inl (fun _ => 0))), ((b11 7), .inl (E.2.2 0, 10, .inl (fun _ => 0))), ((b11 8), .inl (E.2.2 0, 10, .inl (fun _ => 0))), ((b11 9), .inl (E.2.2 0, 10, .inl (fun _ => 0))), ((b11 10), .inl (E.2.2 0, 10, .inl (fun _ => 0))), ((b11 11), .inl (E.2.2 0, 10, .inl (fun _ => 0))), ((b11 12), .inl (E.2.2 0, 10, .inl (fun _ => 0))), ((b11 13), .inl (E.2.2 0, 60, .inl (fun _ => 0))), ((b11 14), .inl (E.2.2 0, 6, .inl (fun _ => 0))), ((b11 15), .inl (E.2.2 0, 6, .inl (fun _ => 0))), ((b11 16), .inl (E.2.2 0, 6, .inl (fun _ => 0))), ((b11 17), .inl (E.2.2 2, 20, .inr (.inl (fun _ => 0)))), ((b11 18), .inl (E.2.2 0, 10, .inl (fun _ => 0))), ((b11 19), .inl (E.2.2 0, 10, .inl (fun _ => 0)))] 35 2084
  refine mp_newq hF (idx := 23) (mp_gm (j := 1227) (by decide +kernel)) (N := 3) (by decide) (by decide) (by decide) ⟨(Nat.le_of_ble_eq_true rfl), (Nat.le_of_ble_eq_true rfl)⟩ (by decide +kernel) (fun q13 => ?_)
  show mp_W E X 1 31 [(0, .ref h0)] [.ref q13, .ref h0] [(h0, .inr (9, [.ref q1, .ref q7, .null, .null, .null, .null, .null, .null, .null])), (q1, .inr (3, [.ref (b5 1), .int 0, .ref (b5 2), .int 0, .int (-1), .int 0, .int 0, .int 0, .int 0, .int 0])), ((b5 1), .inl (E.2.2 1, 1600, .inl (fun _ => 0))), ((b5 2), .inr (7, [.int 0, .int 0, .int 0, .int 0, .int 0, .int 0, .ref (b5 3), .ref (b5 4), .ref (b5 5), .ref (b5 6), .ref (b5 7), .ref (b5 8), .ref (b5 9), .ref (b5 10), .ref (b5 11), .ref (b5 12), .ref (b5 13), .ref (b5 14)])), ((b5 3), .inl (E.2.2 0, 36, .inl (fun _ => 0))), ((b5 4), .inl (E.2.2 2, 12, .inr (.inl (fun _ => 0)))), ((b5 5), .inl (E.2.2 0, 6, .inl (fun _ => 0))), ((b5 6), .inl (E.2.2 0, 6, .inl (fun _ => 0))), ((b5 7), .inl (E.2.2 0, 6, .inl (fun _ => 0))), ((b5 8), .inl (E.2.2 0, 10, .inl (fun _ => 0))), ((b5 9), .inl (E.2.2 0, 10, .inl (fun _ => 0))), ((b5 10), .inl (E.2.2 0, 10, .inl (fun _ => 0))), ((b5 11), .inl (E.2.2 0, 10, .inl (fun _ => 0))), ((b5 12), .inl (E.2.2 0, 10, .inl (fun _ => 0))), ((b5 13), .inl (E.2.2 0, 10, .inl (fun _ => 0))), ((b5 14), .inl (E.2.2 0, 60, .inl (fun _ => 0))), (q7, .inr (0, [.ref (b11 1), .int 0, .ref (b11 14), .ref (b11 15), .ref (b11 16), .ref (b11 17), .ref (b11 18), .ref (b11 19)])), ((b11 1), .inr (7, [.int 0, .int 0, .int 0, .int 0, .int 0, .int 0, .ref (b11 2), .ref (b11 3), .ref (b11 4), .ref (b11 5), .ref (b11 6), .ref (b11 7), .ref (b11 8), .ref (b11 9), .ref (b11 10), .ref (b11 11), .ref (b11 12), .ref (b11 13)])), ((b11 2), .inl (E.2.2 0, 36, .inl (fun _ => 0))), ((b11 3), .inl (E.2.2 2, 12, .inr (.inl (fun _ => 0)))), ((b11 4), .inl (E.2.2 0, 6, .inl (fun _ => 0))), ((b11 5), .inl (E.2.2 0, 6, .inl (fun _ => 0))), ((b11 6), .inl (E.2.2 0, 6, .inl (fun _ => 0))), ((b11 7), .inl (E.2.2 0, 10, .inl (fun _ => 0))), ((b11 8), .inl (E.2.2 0, 10, .inl (fun _ => 0))), ((b11 9), .inl (E.2.2 0, 10, .inl (fun _ => 0))), ((b11 10), .inl (E.2.2 0, 10, .inl (fun _ => 0))), ((b11 11), .inl (E.2.2 0, 10, .inl (fun _ => 0))), ((b11 12), .inl (E.2.2 0, 10, .inl (fun _ => 0))), ((b11 13), .inl (E.2.2 0, 60, .inl (fun _ => 0))), ((b11 14), .inl (E.2.2 0, 6, .inl (fun _ => 0))), ((b11 15), .inl (E.2.2 0, 6, .inl (fun _ => 0))), ((b11 16), .inl (E.2.2 0, 6, .inl (fun _ => 0))), ((b11 17), .inl (E.2.2 2, 20, .inr (.inl (fun _ => 0)))), ((b11 18), .inl (E.2.2 0, 10, .inl (fun _ => 0))), ((b11 19), .inl (E.2.2 0, 10, .inl (fun _ => 0))), (q13, .inl (E.2.2 4, 3, .inr (.inr (.inr (.inr (fun _ => none))))))] 36 2087
  refine mp_run hF mp_tabX9_ok [mp_h (.putfield 25) [38, 0]] (by decide +kernel) ?_
  refine And.intro rfl (And.intro rfl (And.intro rfl (And.intro rfl (And.intro (Nat.le_of_ble_eq_true rfl) ?_))))
  show mp_W E X 1 34 [(0, .ref h0)] [] [(h0, .inr (9, [.ref q1, .ref q7, .ref q13, .null, .null, .null, .null, .null, .null])), (q1, .inr (3, [.ref (b5 1), .int 0, .ref (b5 2), .int 0, .int (-1), .int 0, .int 0, .int 0, .int 0, .int 0])), ((b5 1), .inl (E.2.2 1, 1600, .inl (fun _ => 0))), ((b5 2), .inr (7, [.int 0, .int 0, .int 0, .int 0, .int 0, .int 0, .ref (b5 3), .ref (b5 4), .ref (b5 5), .ref (b5 6), .ref (b5 7), .ref (b5 8), .ref (b5 9), .ref (b5 10), .ref (b5 11), .ref (b5 12), .ref (b5 13), .ref (b5 14)])), ((b5 3), .inl (E.2.2 0, 36, .inl (fun _ => 0))), ((b5 4), .inl (E.2.2 2, 12, .inr (.inl (fun _ => 0)))), ((b5 5), .inl (E.2.2 0, 6, .inl (fun _ => 0))), ((b5 6), .inl (E.2.2 0, 6, .inl (fun _ => 0))), ((b5 7), .inl (E.2.2 0, 6, .inl (fun _ => 0))), ((b5 8), .inl (E.2.2 0, 10, .inl (fun _ => 0))), ((b5 9), .inl (E.2.2 0, 10, .inl (fun _ => 0))), ((b5 10), .inl (E.2.2 0, 10, .inl (fun _ => 0))), ((b5 11), .inl (E.2.2 0, 10, .inl (fun _ => 0))), ((b5 12), .inl (E.2.2 0, 10, .inl (fun _ => 0))), ((b5 13), .inl (E.2.2 0, 10, .inl (fun _ => 0))), ((b5 14), .inl (E.2.2 0, 60, .inl (fun _ => 0))), (q7, .inr (0, [.ref (b11 1), .int 0, .ref (b11 14), .ref (b11 15), .ref (b11 16), .ref (b11 17), .ref (b11 18), .ref (b11 19)])), ((b11 1), .inr (7, [.int 0, .int 0, .int 0, .int 0, .int 0, .int 0, .ref (b11 2), .ref (b11 3), .ref (b11 4), .ref (b11 5), .ref (b11 6), .ref (b11 7), .ref (b11 8), .ref (b11 9), .ref (b11 10), .ref (b11 11), .ref (b11 12), .ref (b11 13)])), ((b11 2), .inl (E.2.2 0, 36, .inl (fun _ => 0))), ((b11 3), .inl (E.2.2 2, 12, .inr (.inl (fun _ => 0)))), ((b11 4), .inl (E.2.2 0, 6, .inl (fun _ => 0))), ((b11 5), .inl (E.2.2 0, 6, .inl (fun _ => 0))), ((b11 6), .inl (E.2.2 0, 6, .inl (fun _ => 0))), ((b11 7), .inl (E.2.2 0, 10, .inl (fun _ => 0))), ((b11 8), .inl (E.2.2 0, 10, .inl (fun _ => 0))), ((b11 9), .inl (E.2.2 0, 10, .inl (fun _ => 0))), ((b11 10), .inl (E.2.2 0, 10, .inl (fun _ => 0))), ((b11 11), .inl (E.2.2 0, 10, .inl (fun _ => 0))), ((b11 12), .inl (E.2.2 0, 10, .inl (fun _ => 0))), ((b11 13), .inl (E.2.2 0, 60, .inl (fun _ => 0))), ((b11 14), .inl (E.2.2 0, 6, .inl (fun _ => 0))), ((b11 15), .inl (E.2.2 0, 6, .inl (fun _ => 0))), ((b11 16), .inl (E.2.2 0, 6, .inl (fun _ => 0))), ((b11 17), .inl (E.2.2 2, 20, .inr (.inl (fun _ => 0)))), ((b11 18), .inl (E.2.2 0, 10, .inl (fun _ => 0))), ((b11 19), .inl (E.2.2 0, 10, .inl (fun _ => 0))), (q13, .inl (E.2.2 4, 3, .inr (.inr (.inr (.inr (fun _ => none))))))] 36 2087
  refine mp_run hF mp_tabX9_ok [mp_i (.aload_n 0)] (by decide +kernel) ?_
  show mp_W E X 1 35 [(0, .ref h0)] [.ref h0] [(h0, .inr (9, [.ref q1, .ref q7, .ref q13, .null, .null, .null, .null, .null, .null])), (q1, .inr (3, [.ref (b5 1), .int 0, .ref (b5 2), .int 0, .int (-1), .int 0, .int 0, .int 0, .int 0, .int 0])), ((b5 1), .inl (E.2.2 1, 1600, .inl (fun _ => 0))), ((b5 2), .inr (7, [.int 0, .int 0, .int 0, .int 0, .int 0, .int 0, .ref (b5 3), .ref (b5 4), .ref (b5 5), .ref (b5 6), .ref (b5 7), .ref (b5 8), .ref (b5 9), .ref (b5 10), .ref (b5 11), .ref (b5 12), .ref (b5 13), .ref (b5 14)])), ((b5 3), .inl (E.2.2 0, 36, .inl (fun _ => 0))), ((b5 4), .inl (E.2.2 2, 12, .inr (.inl (fun _ => 0)))), ((b5 5), .inl (E.2.2 0, 6, .inl (fun _ => 0))), ((b5 6), .inl (E.2.2 0, 6, .inl (fun _ => 0))), ((b5 7), .inl (E.2.2 0, 6, .inl (fun _ => 0))), ((b5 8), .inl (E.2.2 0, 10, .inl (fun _ => 0))), ((b5 9), .inl (E.2.2 0, 10, .inl (fun _ => 0))), ((b5 10), .inl (E.2.2 0, 10, .inl (fun _ => 0))), ((b5 11), .inl (E.2.2 0, 10, .inl (fun _ => 0))), ((b5 12), .inl (E.2.2 0, 10, .inl (fun _ => 0))), ((b5 13), .inl (E.2.2 0, 10, .inl (fun _ => 0))), ((b5 14), .inl (E.2.2 0, 60, .inl (fun _ => 0))), (q7, .inr (0, [.ref (b11 1), .int 0, .ref (b11 14), .ref (b11 15), .ref (b11 16), .ref (b11 17), .ref (b11 18), .ref (b11 19)])), ((b11 1), .inr (7, [.int 0, .int 0, .int 0, .int 0, .int 0, .int 0, .ref (b11 2), .ref (b11 3), .ref (b11 4), .ref (b11 5), .ref (b11 6), .ref (b11 7), .ref (b11 8), .ref (b11 9), .ref (b11 10), .ref (b11 11), .ref (b11 12), .ref (b11 13)])), ((b11 2), .inl (E.2.2 0, 36, .inl (fun _ => 0))), ((b11 3), .inl (E.2.2 2, 12, .inr (.inl (fun _ => 0)))), ((b11 4), .inl (E.2.2 0, 6, .inl (fun _ => 0))), ((b11 5), .inl (E.2.2 0, 6, .inl (fun _ => 0))), ((b11 6), .inl (E.2.2 0, 6, .inl (fun _ => 0))), ((b11 7), .inl (E.2.2 0, 10, .inl (fun _ => 0))), ((b11 8), .inl (E.2.2 0, 10, .inl (fun _ => 0))), ((b11 9), .inl (E.2.2 0, 10, .inl (fun _ => 0))), ((b11 10), .inl (E.2.2 0, 10, .inl (fun _ => 0))), ((b11 11), .inl (E.2.2 0, 10, .inl (fun _ => 0))), ((b11 12), .inl (E.2.2 0, 10, .inl (fun _ => 0))), ((b11 13), .inl (E.2.2 0, 60, .inl (fun _ => 0))), ((b11 14), .inl (E.2.2 0, 6, .inl (fun _ => 0))), ((b11 15), .inl (E.2.2 0, 6, .inl (fun _ => 0))), ((b11 16), .inl (E.2.2 0, 6, .inl (fun _ => 0))), ((b11 17), .inl (E.2.2 2, 20, .inr (.inl (fun _ => 0)))), ((b11 18), .inl (E.2.2 0, 10, .inl (fun _ => 0))), ((b11 19), .inl (E.2.2 0, 10, .inl (fun _ => 0))), (q13, .inl (E.2.2 4, 3, .inr (.inr (.inr (.inr (fun _ => none))))))] 36 2087
  refine mp_new hF (mp_lnX9_29) ⟨(Nat.le_of_ble_eq_true rfl), (Nat.le_of_ble_eq_true rfl)⟩ (by decide +kernel) (fun q14 => ?_)
  show mp_W E X 1 38 [(0, .ref h0)] [.ref q14, .ref h0] [(h0, .inr (9, [.ref q1, .ref q7, .ref q13, .null, .null, .null, .null, .null, .null])), (q1, .inr (3, [.ref (b5 1), .int 0, .ref (b5 2), .int 0, .int (-1), .int 0, .int 0, .int 0, .int 0, .int 0])), ((b5 1), .inl (E.2.2 1, 1600, .inl (fun _ => 0))), ((b5 2), .inr (7, [.int 0, .int 0, .int 0, .int 0, .int 0, .int 0, .ref (b5 3), .ref (b5 4), .ref (b5 5), .ref (b5 6), .ref (b5 7), .ref (b5 8), .ref (b5 9), .ref (b5 10), .ref (b5 11), .ref (b5 12), .ref (b5 13), .ref (b5 14)])), ((b5 3), .inl (E.2.2 0, 36, .inl (fun _ => 0))), ((b5 4), .inl (E.2.2 2, 12, .inr (.inl (fun _ => 0)))), ((b5 5), .inl (E.2.2 0, 6, .inl (fun _ => 0))), ((b5 6), .inl (E.2.2 0, 6, .inl (fun _ => 0))), ((b5 7), .inl (E.2.2 0, 6, .inl (fun _ => 0))), ((b5 8), .inl (E.2.2 0, 10, .inl (fun _ => 0))), ((b5 9), .inl (E.2.2 0, 10, .inl (fun _ => 0))), ((b5 10), .inl (E.2.2 0, 10, .inl (fun _ => 0))), ((b5 11), .inl (E.2.2 0, 10, .inl (fun _ => 0))), ((b5 12), .inl (E.2.2 0, 10, .inl (fun _ => 0))), ((b5 13), .inl (E.2.2 0, 10, .inl (fun _ => 0))), ((b5 14), .inl (E.2.2 0, 60, .inl (fun _ => 0))), (q7, .inr (0, [.ref (b11 1), .int 0, .ref (b11 14), .ref (b11 15), .ref (b11 16), .ref (b11 17), .ref (b11 18), .ref (b11 19)])), ((b11 1), .inr (7, [.int 0, .int 0, .int 0, .int 0, .int 0, .int 0, .ref (b11 2), .ref (b11 3), .ref (b11 4), .ref (b11 5), .ref (b11 6), .ref (b11 7), .ref (b11 8), .ref (b11 9), .ref (b11 10), .ref (b11 11), .ref (b11 12), .ref (b11 13)])), ((b11 2), .inl (E.2.2 0, 36, .inl (fun _ => 0))), ((b11 3), .inl (E.2.2 2, 12, .inr (.inl (fun _ => 0)))), ((b11 4), .inl (E.2.2 0, 6, .inl (fun _ => 0))), ((b11 5), .inl (E.2.2 0, 6, .inl (fun _ => 0))), ((b11 6), .inl (E.2.2 0, 6, .inl (fun _ => 0))), ((b11 7), .inl (E.2.2 0, 10, .inl (fun _ => 0))), ((b11 8), .inl (E.2.2 0, 10, .inl (fun _ => 0))), ((b11 9), .inl (E.2.2 0, 10, .inl (fun _ => 0))), ((b11 10), .inl (E.2.2 0, 10, .inl (fun _ => 0))), ((b11 11), .inl (E.2.2 0, 10, .inl (fun _ => 0))), ((b11 12), .inl (E.2.2 0, 10, .inl (fun _ => 0))), ((b11 13), .inl (E.2.2 0, 60, .inl (fun _ => 0))), ((b11 14), .inl (E.2.2 0, 6, .inl (fun _ => 0))), ((b11 15), .inl (E.2.2 0, 6, .inl (fun _ => 0))), ((b11 16), .inl (E.2.2 0, 6, .inl (fun _ => 0))), ((b11 17), .inl (E.2.2 2, 20, .inr (.inl (fun _ => 0)))), ((b11 18), .inl (E.2.2 0, 10, .inl (fun _ => 0))), ((b11 19), .inl (E.2.2 0, 10, .inl (fun _ => 0))), (q13, .inl (E.2.2 4, 3, .inr (.inr (.inr (.inr (fun _ => none)))))), (q14, .inr (1, [.null, .int 0, .int 0, .null]))] 37 2091
  refine mp_run hF mp_tabX9_ok [mp_i .dup] (by decide +kernel) ?_
  refine And.intro rfl ?_
  show mp_W E X 1 39 [(0, .ref h0)] [.ref q14, .ref q14, .ref h0] [(h0, .inr (9, [.ref q1, .ref q7, .ref q13, .null, .null, .null, .null, .null, .null])), (q1, .inr (3, [.ref (b5 1), .int 0, .ref (b5 2), .int 0, .int (-1), .int 0, .int 0, .int 0, .int 0, .int 0])), ((b5 1), .inl (E.2.2 1, 1600, .inl (fun _ => 0))), ((b5 2), .inr (7, [.int 0, .int 0, .int 0, .int 0, .int 0, .int 0, .ref (b5 3), .ref (b5 4), .ref (b5 5), .ref (b5 6), .ref (b5 7), .ref (b5 8), .ref (b5 9), .ref (b5 10), .ref (b5 11), .ref (b5 12), .ref (b5 13), .ref (b5 14)])), ((b5 3), .inl (E.2.2 0, 36, .inl (fun _ => 0))), ((b5 4), .inl (E.2.2 2, 12, .inr (.inl (fun _ => 0)))), ((b5 5), .inl (E.2.2 0, 6, .inl (fun _ => 0))), ((b5 6), .inl (E.2.2 0, 6, .inl (fun _ => 0))), ((b5 7), .inl (E.2.2 0, 6, .inl (fun _ => 0))), ((b5 8), .inl (E.2.2 0, 10, .inl (fun _ => 0))), ((b5 9), .inl (E.2.2 0, 10, .inl (fun _ => 0))), ((b5 10), .inl (E.2.2 0, 10, .inl (fun _ => 0))), ((b5 11), .inl (E.2.2 0, 10, .inl (fun _ => 0))), ((b5 12), .inl (E.2.2 0, 10, .inl (fun _ => 0))), ((b5 13), .inl (E.2.2 0, 10, .inl (fun _ => 0))), ((b5 14), .inl (E.2.2 0, 60, .inl (fun _ => 0))), (q7, .inr (0, [.ref (b11 1), .int 0, .ref (b11 14), .ref (b11 15), .ref (b11 16), .ref (b11 17), .ref (b11 18), .ref (b11 19)])), ((b11 1), .inr (7, [.int 0, .int 0, .int 0, .int 0, .int 0, .int 0, .ref (b11 2), .ref (b11 3), .ref (b11 4), .ref (b11 5), .ref (b11 6), .ref (b11 7), .ref (b11 8), .ref (b11 9), .ref (b11 10), .ref (b11 11), .ref (b11 12), .ref (b11 13)])), ((b11 2), .inl (E.2.2 0, 36, .inl (fun _ => 0))), ((b11 3), .inl (E.2.2 2, 12, .inr (.inl (fun _ => 0)))), ((b11 4), .inl (E.2.2 0, 6, .inl (fun _ => 0))), ((b11 5), .inl (E.2.2 0, 6, .inl (fun _ => 0))), ((b11 6), .inl (E.2.2 0, 6, .inl (fun _ => 0))), ((b11 7), .inl (E.2.2 0, 10, .inl (fun _ => 0))), ((b11 8), .inl (E.2.2 0, 10, .inl (fun _ => 0))), ((b11 9), .inl (E.2.2 0, 10, .inl (fun _ => 0))), ((b11 10), .inl (E.2.2 0, 10, .inl (fun _ => 0))), ((b11 11), .inl (E.2.2 0, 10, .inl (fun _ => 0))), ((b11 12), .inl (E.2.2 0, 10, .inl (fun _ => 0))), ((b11 13), .inl (E.2.2 0, 60, .inl (fun _ => 0))), ((b11 14), .inl (E.2.2 0, 6, .inl (fun _ => 0))), ((b11 15), .inl (E.2.2 0, 6, .inl (fun _ => 0))), ((b11 16), .inl (E.2.2 0, 6, .inl (fun _ => 0))), ((b11 17), .inl (E.2.2 2, 20, .inr (.inl (fun _ => 0)))), ((b11 18), .inl (E.2.2 0, 10, .inl (fun _ => 0))), ((b11 19), .inl (E.2.2 0, 10, .inl (fun _ => 0))), (q13, .inl (E.2.2 4, 3, .inr (.inr (.inr (.inr (fun _ => none)))))), (q14, .inr (1, [.null, .int 0, .int 0, .null]))] 37 2091
  refine mp_callIN hF (As := []) (rest := [.ref q14, .ref h0]) (wr := [(h0, .inr (9, [.ref q1, .ref q7, .ref q13, .null, .null, .null, .null, .null, .null])), (q1, .inr (3, [.ref (b5 1), .int 0, .ref (b5 2), .int 0, .int (-1), .int 0, .int 0, .int 0, .int 0, .int 0])), ((b5 1), .inl (E.2.2 1, 1600, .inl (fun _ => 0))), ((b5 2), .inr (7, [.int 0, .int 0, .int 0, .int 0, .int 0, .int 0, .ref (b5 3), .ref (b5 4), .ref (b5 5), .ref (b5 6), .ref (b5 7), .ref (b5 8), .ref (b5 9), .ref (b5 10), .ref (b5 11), .ref (b5 12), .ref (b5 13), .ref (b5 14)])), ((b5 3), .inl (E.2.2 0, 36, .inl (fun _ => 0))), ((b5 4), .inl (E.2.2 2, 12, .inr (.inl (fun _ => 0)))), ((b5 5), .inl (E.2.2 0, 6, .inl (fun _ => 0))), ((b5 6), .inl (E.2.2 0, 6, .inl (fun _ => 0))), ((b5 7), .inl (E.2.2 0, 6, .inl (fun _ => 0))), ((b5 8), .inl (E.2.2 0, 10, .inl (fun _ => 0))), ((b5 9), .inl (E.2.2 0, 10, .inl (fun _ => 0))), ((b5 10), .inl (E.2.2 0, 10, .inl (fun _ => 0))), ((b5 11), .inl (E.2.2 0, 10, .inl (fun _ => 0))), ((b5 12), .inl (E.2.2 0, 10, .inl (fun _ => 0))), ((b5 13), .inl (E.2.2 0, 10, .inl (fun _ => 0))), ((b5 14), .inl (E.2.2 0, 60, .inl (fun _ => 0))), (q7, .inr (0, [.ref (b11 1), .int 0, .ref (b11 14), .ref (b11 15), .ref (b11 16), .ref (b11 17), .ref (b11 18), .ref (b11 19)])), ((b11 1), .inr (7, [.int 0, .int 0, .int 0, .int 0, .int 0, .int 0, .ref (b11 2), .ref (b11 3), .ref (b11 4), .ref (b11 5), .ref (b11 6), .ref (b11 7), .ref (b11 8), .ref (b11 9), .ref (b11 10), .ref (b11 11), .ref (b11 12), .ref (b11 13)])), ((b11 2), .inl (E.2.2 0, 36, .inl (fun _ => 0))), ((b11 3), .inl (E.2.2 2, 12, .inr (.inl (fun _ => 0)))), ((b11 4), .inl (E.2.2 0, 6, .inl (fun _ => 0))), ((b11 5), .inl (E.2.2 0, 6, .inl (fun _ => 0))), ((b11 6), .inl (E.2.2 0, 6, .inl (fun _ => 0))), ((b11 7), .inl (E.2.2 0, 10, .inl (fun _ => 0))), ((b11 8), .inl (E.2.2 0, 10, .inl (fun _ => 0))), ((b11 9), .inl (E.2.2 0, 10, .inl (fun _ => 0))), ((b11 10), .inl (E.2.2 0, 10, .inl (fun _ => 0))), ((b11 11), .inl (E.2.2 0, 10, .inl (fun _ => 0))), ((b11 12), .inl (E.2.2 0, 10, .inl (fun _ => 0))), ((b11 13), .inl (E.2.2 0, 60, .inl (fun _ => 0))), ((b11 14), .inl (E.2.2 0, 6, .inl (fun _ => 0))), ((b11 15), .inl (E.2.2 0, 6, .inl (fun _ => 0))), ((b11 16), .inl (E.2.2 0, 6, .inl (fun _ => 0))), ((b11 17), .inl (E.2.2 2, 20, .inr (.inl (fun _ => 0)))), ((b11 18), .inl (E.2.2 0, 10, .inl (fun _ => 0))), ((b11 19), .inl (E.2.2 0, 10, .inl (fun _ => 0))), (q13, .inl (E.2.2 4, 3, .inr (.inr (.inr (.inr (fun _ => none))))))]) (k_Ledger E q14) rfl (mp_gm (j := 1232) (by decide +kernel)) mp_lkX9_31 [37] [0, 1, 2, 3, 4, 5, 6, 7, 8, 9, 10, 11, 12, 13, 14, 15, 16, 17, 18, 19, 20, 21, 22, 23, 24, 25, 26, 27, 28, 29, 30, 31, 32, 33, 34, 35, 36] rfl rfl rfl rfl rfl ⟨(Nat.le_of_ble_eq_true rfl), (Nat.le_of_ble_eq_true rfl), (Nat.le_of_ble_eq_true rfl), (Nat.le_of_ble_eq_true rfl)⟩ (Nat.le_of_ble_eq_true rfl) (by decide +kernel) (fun v15 w16 h17 => ?_)
  obtain ⟨rfl, b18, h19, rfl⟩ := h17
  clear h19
  show mp_W E X 1 42 [(0, .ref h0)] [.ref q14, .ref h0] [(h0, .inr (9, [.ref q1, .ref q7, .ref q13, .null, .null, .null, .null, .null, .null])), (q1, .inr (3, [.ref (b5 1), .int 0, .ref (b5 2), .int 0, .int (-1), .int 0, .int 0, .int 0, .int 0, .int 0])), ((b5 1), .inl (E.2.2 1, 1600, .inl (fun _ => 0))), ((b5 2), .inr (7, [.int 0, .int 0, .int 0, .int 0, .int 0, .int 0, .ref (b5 3), .ref (b5 4), .ref (b5 5), .ref (b5 6), .ref (b5 7), .ref (b5 8), .ref (b5 9), .ref (b5 10), .ref (b5 11), .ref (b5 12), .ref (b5 13), .ref (b5 14)])), ((b5 3), .inl (E.2.2 0, 36, .inl (fun _ => 0))), ((b5 4), .inl (E.2.2 2, 12, .inr (.inl (fun _ => 0)))), ((b5 5), .inl (E.2.2 0, 6, .inl (fun _ => 0))), ((b5 6), .inl (E.2.2 0, 6, .inl (fun _ => 0))), ((b5 7), .inl (E.2.2 0, 6, .inl (fun _ => 0))), ((b5 8), .inl (E.2.2 0, 10, .inl (fun _ => 0))), ((b5 9), .inl (E.2.2 0, 10, .inl (fun _ => 0))), ((b5 10), .inl (E.2.2 0, 10, .inl (fun _ => 0))), ((b5 11), .inl (E.2.2 0, 10, .inl (fun _ => 0))), ((b5 12), .inl (E.2.2 0, 10, .inl (fun _ => 0))), ((b5 13), .inl (E.2.2 0, 10, .inl (fun _ => 0))), ((b5 14), .inl (E.2.2 0, 60, .inl (fun _ => 0))), (q7, .inr (0, [.ref (b11 1), .int 0, .ref (b11 14), .ref (b11 15), .ref (b11 16), .ref (b11 17), .ref (b11 18), .ref (b11 19)])), ((b11 1), .inr (7, [.int 0, .int 0, .int 0, .int 0, .int 0, .int 0, .ref (b11 2), .ref (b11 3), .ref (b11 4), .ref (b11 5), .ref (b11 6), .ref (b11 7), .ref (b11 8), .ref (b11 9), .ref (b11 10), .ref (b11 11), .ref (b11 12), .ref (b11 13)])), ((b11 2), .inl (E.2.2 0, 36, .inl (fun _ => 0))), ((b11 3), .inl (E.2.2 2, 12, .inr (.inl (fun _ => 0)))), ((b11 4), .inl (E.2.2 0, 6, .inl (fun _ => 0))), ((b11 5), .inl (E.2.2 0, 6, .inl (fun _ => 0))), ((b11 6), .inl (E.2.2 0, 6, .inl (fun _ => 0))), ((b11 7), .inl (E.2.2 0, 10, .inl (fun _ => 0))), ((b11 8), .inl (E.2.2 0, 10, .inl (fun _ => 0))), ((b11 9), .inl (E.2.2 0, 10, .inl (fun _ => 0))), ((b11 10), .inl (E.2.2 0, 10, .inl (fun _ => 0))), ((b11 11), .inl (E.2.2 0, 10, .inl (fun _ => 0))), ((b11 12), .inl (E.2.2 0, 10, .inl (fun _ => 0))), ((b11 13), .inl (E.2.2 0, 60, .inl (fun _ => 0))), ((b11 14), .inl (E.2.2 0, 6, .inl (fun _ => 0))), ((b11 15), .inl (E.2.2 0, 6, .inl (fun _ => 0))), ((b11 16), .inl (E.2.2 0, 6, .inl (fun _ => 0))), ((b11 17), .inl (E.2.2 2, 20, .inr (.inl (fun _ => 0)))), ((b11 18), .inl (E.2.2 0, 10, .inl (fun _ => 0))), ((b11 19), .inl (E.2.2 0, 10, .inl (fun _ => 0))), (q13, .inl (E.2.2 4, 3, .inr (.inr (.inr (.inr (fun _ => none)))))), (q14, .inr (1, [.ref (b18 1), .int 0, .int 0, .ref (b18 2)])), ((b18 1), .inl (E.2.2 0, 36, .inl (fun _ => 0))), ((b18 2), .inl (E.2.2 0, 3, .inl (fun _ => 0)))] 39 2130
  refine mp_run hF mp_tabX9_ok [mp_h (.putfield 32) [39, 0]] (by decide +kernel) ?_
  refine And.intro rfl (And.intro rfl (And.intro rfl (And.intro rfl (And.intro (Nat.le_of_ble_eq_true rfl) ?_))))
  show mp_W E X 1 45 [(0, .ref h0)] [] [(h0, .inr (9, [.ref q1, .ref q7, .ref q13, .ref q14, .null, .null, .null, .null, .null])), (q1, .inr (3, [.ref (b5 1), .int 0, .ref (b5 2), .int 0, .int (-1), .int 0, .int 0, .int 0, .int 0, .int 0])), ((b5 1), .inl (E.2.2 1, 1600, .inl (fun _ => 0))), ((b5 2), .inr (7, [.int 0, .int 0, .int 0, .int 0, .int 0, .int 0, .ref (b5 3), .ref (b5 4), .ref (b5 5), .ref (b5 6), .ref (b5 7), .ref (b5 8), .ref (b5 9), .ref (b5 10), .ref (b5 11), .ref (b5 12), .ref (b5 13), .ref (b5 14)])), ((b5 3), .inl (E.2.2 0, 36, .inl (fun _ => 0))), ((b5 4), .inl (E.2.2 2, 12, .inr (.inl (fun _ => 0)))), ((b5 5), .inl (E.2.2 0, 6, .inl (fun _ => 0))), ((b5 6), .inl (E.2.2 0, 6, .inl (fun _ => 0))), ((b5 7), .inl (E.2.2 0, 6, .inl (fun _ => 0))), ((b5 8), .inl (E.2.2 0, 10, .inl (fun _ => 0))), ((b5 9), .inl (E.2.2 0, 10, .inl (fun _ => 0))), ((b5 10), .inl (E.2.2 0, 10, .inl (fun _ => 0))), ((b5 11), .inl (E.2.2 0, 10, .inl (fun _ => 0))), ((b5 12), .inl (E.2.2 0, 10, .inl (fun _ => 0))), ((b5 13), .inl (E.2.2 0, 10, .inl (fun _ => 0))), ((b5 14), .inl (E.2.2 0, 60, .inl (fun _ => 0))), (q7, .inr (0, [.ref (b11 1), .int 0, .ref (b11 14), .ref (b11 15), .ref (b11 16), .ref (b11 17), .ref (b11 18), .ref (b11 19)])), ((b11 1), .inr (7, [.int 0, .int 0, .int 0, .int 0, .int 0, .int 0, .ref (b11 2), .ref (b11 3), .ref (b11 4), .ref (b11 5), .ref (b11 6), .ref (b11 7), .ref (b11 8), .ref (b11 9), .ref (b11 10), .ref (b11 11), .ref (b11 12), .ref (b11 13)])), ((b11 2), .inl (E.2.2 0, 36, .inl (fun _ => 0))), ((b11 3), .inl (E.2.2 2, 12, .inr (.inl (fun _ => 0)))), ((b11 4), .inl (E.2.2 0, 6, .inl (fun _ => 0))), ((b11 5), .inl (E.2.2 0, 6, .inl (fun _ => 0))), ((b11 6), .inl (E.2.2 0, 6, .inl (fun _ => 0))), ((b11 7), .inl (E.2.2 0, 10, .inl (fun _ => 0))), ((b11 8), .inl (E.2.2 0, 10, .inl (fun _ => 0))), ((b11 9), .inl (E.2.2 0, 10, .inl (fun _ => 0))), ((b11 10), .inl (E.2.2 0, 10, .inl (fun _ => 0))), ((b11 11), .inl (E.2.2 0, 10, .inl (fun _ => 0))), ((b11 12), .inl (E.2.2 0, 10, .inl (fun _ => 0))), ((b11 13), .inl (E.2.2 0, 60, .inl (fun _ => 0))), ((b11 14), .inl (E.2.2 0, 6, .inl (fun _ => 0))), ((b11 15), .inl (E.2.2 0, 6, .inl (fun _ => 0))), ((b11 16), .inl (E.2.2 0, 6, .inl (fun _ => 0))), ((b11 17), .inl (E.2.2 2, 20, .inr (.inl (fun _ => 0)))), ((b11 18), .inl (E.2.2 0, 10, .inl (fun _ => 0))), ((b11 19), .inl (E.2.2 0, 10, .inl (fun _ => 0))), (q13, .inl (E.2.2 4, 3, .inr (.inr (.inr (.inr (fun _ => none)))))), (q14, .inr (1, [.ref (b18 1), .int 0, .int 0, .ref (b18 2)])), ((b18 1), .inl (E.2.2 0, 36, .inl (fun _ => 0))), ((b18 2), .inl (E.2.2 0, 3, .inl (fun _ => 0)))] 39 2130
  refine mp_run hF mp_tabX9_ok [mp_i (.aload_n 0)] (by decide +kernel) ?_
  show mp_W E X 1 46 [(0, .ref h0)] [.ref h0] [(h0, .inr (9, [.ref q1, .ref q7, .ref q13, .ref q14, .null, .null, .null, .null, .null])), (q1, .inr (3, [.ref (b5 1), .int 0, .ref (b5 2), .int 0, .int (-1), .int 0, .int 0, .int 0, .int 0, .int 0])), ((b5 1), .inl (E.2.2 1, 1600, .inl (fun _ => 0))), ((b5 2), .inr (7, [.int 0, .int 0, .int 0, .int 0, .int 0, .int 0, .ref (b5 3), .ref (b5 4), .ref (b5 5), .ref (b5 6), .ref (b5 7), .ref (b5 8), .ref (b5 9), .ref (b5 10), .ref (b5 11), .ref (b5 12), .ref (b5 13), .ref (b5 14)])), ((b5 3), .inl (E.2.2 0, 36, .inl (fun _ => 0))), ((b5 4), .inl (E.2.2 2, 12, .inr (.inl (fun _ => 0)))), ((b5 5), .inl (E.2.2 0, 6, .inl (fun _ => 0))), ((b5 6), .inl (E.2.2 0, 6, .inl (fun _ => 0))), ((b5 7), .inl (E.2.2 0, 6, .inl (fun _ => 0))), ((b5 8), .inl (E.2.2 0, 10, .inl (fun _ => 0))), ((b5 9), .inl (E.2.2 0, 10, .inl (fun _ => 0))), ((b5 10), .inl (E.2.2 0, 10, .inl (fun _ => 0))), ((b5 11), .inl (E.2.2 0, 10, .inl (fun _ => 0))), ((b5 12), .inl (E.2.2 0, 10, .inl (fun _ => 0))), ((b5 13), .inl (E.2.2 0, 10, .inl (fun _ => 0))), ((b5 14), .inl (E.2.2 0, 60, .inl (fun _ => 0))), (q7, .inr (0, [.ref (b11 1), .int 0, .ref (b11 14), .ref (b11 15), .ref (b11 16), .ref (b11 17), .ref (b11 18), .ref (b11 19)])), ((b11 1), .inr (7, [.int 0, .int 0, .int 0, .int 0, .int 0, .int 0, .ref (b11 2), .ref (b11 3), .ref (b11 4), .ref (b11 5), .ref (b11 6), .ref (b11 7), .ref (b11 8), .ref (b11 9), .ref (b11 10), .ref (b11 11), .ref (b11 12), .ref (b11 13)])), ((b11 2), .inl (E.2.2 0, 36, .inl (fun _ => 0))), ((b11 3), .inl (E.2.2 2, 12, .inr (.inl (fun _ => 0)))), ((b11 4), .inl (E.2.2 0, 6, .inl (fun _ => 0))), ((b11 5), .inl (E.2.2 0, 6, .inl (fun _ => 0))), ((b11 6), .inl (E.2.2 0, 6, .inl (fun _ => 0))), ((b11 7), .inl (E.2.2 0, 10, .inl (fun _ => 0))), ((b11 8), .inl (E.2.2 0, 10, .inl (fun _ => 0))), ((b11 9), .inl (E.2.2 0, 10, .inl (fun _ => 0))), ((b11 10), .inl (E.2.2 0, 10, .inl (fun _ => 0))), ((b11 11), .inl (E.2.2 0, 10, .inl (fun _ => 0))), ((b11 12), .inl (E.2.2 0, 10, .inl (fun _ => 0))), ((b11 13), .inl (E.2.2 0, 60, .inl (fun _ => 0))), ((b11 14), .inl (E.2.2 0, 6, .inl (fun _ => 0))), ((b11 15), .inl (E.2.2 0, 6, .inl (fun _ => 0))), ((b11 16), .inl (E.2.2 0, 6, .inl (fun _ => 0))), ((b11 17), .inl (E.2.2 2, 20, .inr (.inl (fun _ => 0)))), ((b11 18), .inl (E.2.2 0, 10, .inl (fun _ => 0))), ((b11 19), .inl (E.2.2 0, 10, .inl (fun _ => 0))), (q13, .inl (E.2.2 4, 3, .inr (.inr (.inr (.inr (fun _ => none)))))), (q14, .inr (1, [.ref (b18 1), .int 0, .int 0, .ref (b18 2)])), ((b18 1), .inl (E.2.2 0, 36, .inl (fun _ => 0))), ((b18 2), .inl (E.2.2 0, 3, .inl (fun _ => 0)))] 39 2130
  refine mp_new hF (mp_lnX9_36) ⟨(Nat.le_of_ble_eq_true rfl), (Nat.le_of_ble_eq_true rfl)⟩ (by decide +kernel) (fun q20 => ?_)
  show mp_W E X 1 49 [(0, .ref h0)] [.ref q20, .ref h0] [(h0, .inr (9, [.ref q1, .ref q7, .ref q13, .ref q14, .null, .null, .null, .null, .null])), (q1, .inr (3, [.ref (b5 1), .int 0, .ref (b5 2), .int 0, .int (-1), .int 0, .int 0, .int 0, .int 0, .int 0])), ((b5 1), .inl (E.2.2 1, 1600, .inl (fun _ => 0))), ((b5 2), .inr (7, [.int 0, .int 0, .int 0, .int 0, .int 0, .int 0, .ref (b5 3), .ref (b5 4), .ref (b5 5), .ref (b5 6), .ref (b5 7), .ref (b5 8), .ref (b5 9), .ref (b5 10), .ref (b5 11), .ref (b5 12), .ref (b5 13), .ref (b5 14)])), ((b5 3), .inl (E.2.2 0, 36, .inl (fun _ => 0))), ((b5 4), .inl (E.2.2 2, 12, .inr (.inl (fun _ => 0)))), ((b5 5), .inl (E.2.2 0, 6, .inl (fun _ => 0))), ((b5 6), .inl (E.2.2 0, 6, .inl (fun _ => 0))), ((b5 7), .inl (E.2.2 0, 6, .inl (fun _ => 0))), ((b5 8), .inl (E.2.2 0, 10, .inl (fun _ => 0))), ((b5 9), .inl (E.2.2 0, 10, .inl (fun _ => 0))), ((b5 10), .inl (E.2.2 0, 10, .inl (fun _ => 0))), ((b5 11), .inl (E.2.2 0, 10, .inl (fun _ => 0))), ((b5 12), .inl (E.2.2 0, 10, .inl (fun _ => 0))), ((b5 13), .inl (E.2.2 0, 10, .inl (fun _ => 0))), ((b5 14), .inl (E.2.2 0, 60, .inl (fun _ => 0))), (q7, .inr (0, [.ref (b11 1), .int 0, .ref (b11 14), .ref (b11 15), .ref (b11 16), .ref (b11 17), .ref (b11 18), .ref (b11 19)])), ((b11 1), .inr (7, [.int 0, .int 0, .int 0, .int 0, .int 0, .int 0, .ref (b11 2), .ref (b11 3), .ref (b11 4), .ref (b11 5), .ref (b11 6), .ref (b11 7), .ref (b11 8), .ref (b11 9), .ref (b11 10), .ref (b11 11), .ref (b11 12), .ref (b11 13)])), ((b11 2), .inl (E.2.2 0, 36, .inl (fun _ => 0))), ((b11 3), .inl (E.2.2 2, 12, .inr (.inl (fun _ => 0)))), ((b11 4), .inl (E.2.2 0, 6, .inl (fun _ => 0))), ((b11 5), .inl (E.2.2 0, 6, .inl (fun _ => 0))), ((b11 6), .inl (E.2.2 0, 6, .inl (fun _ => 0))), ((b11 7), .inl (E.2.2 0, 10, .inl (fun _ => 0))), ((b11 8), .inl (E.2.2 0, 10, .inl (fun _ => 0))), ((b11 9), .inl (E.2.2 0, 10, .inl (fun _ => 0))), ((b11 10), .inl (E.2.2 0, 10, .inl (fun _ => 0))), ((b11 11), .inl (E.2.2 0, 10, .inl (fun _ => 0))), ((b11 12), .inl (E.2.2 0, 10, .inl (fun _ => 0))), ((b11 13), .inl (E.2.2 0, 60, .inl (fun _ => 0))), ((b11 14), .inl (E.2.2 0, 6, .inl (fun _ => 0))), ((b11 15), .inl (E.2.2 0, 6, .inl (fun _ => 0))), ((b11 16), .inl (E.2.2 0, 6, .inl (fun _ => 0))), ((b11 17), .inl (E.2.2 2, 20, .inr (.inl (fun _ => 0)))), ((b11 18), .inl (E.2.2 0, 10, .inl (fun _ => 0))), ((b11 19), .inl (E.2.2 0, 10, .inl (fun _ => 0))), (q13, .inl (E.2.2 4, 3, .inr (.inr (.inr (.inr (fun _ => none)))))), (q14, .inr (1, [.ref (b18 1), .int 0, .int 0, .ref (b18 2)])), ((b18 1), .inl (E.2.2 0, 36, .inl (fun _ => 0))), ((b18 2), .inl (E.2.2 0, 3, .inl (fun _ => 0))), (q20, .inr (2, [.int 0, .int 0, .int 0, .int 0, .null, .null, .null, .null, .null, .int 0, .int 0]))] 40 2141
  refine mp_run hF mp_tabX9_ok [mp_i .dup] (by decide +kernel) ?_
  refine And.intro rfl ?_
  show mp_W E X 1 50 [(0, .ref h0)] [.ref q20, .ref q20, .ref h0] [(h0, .inr (9, [.ref q1, .ref q7, .ref q13, .ref q14, .null, .null, .null, .null, .null])), (q1, .inr (3, [.ref (b5 1), .int 0, .ref (b5 2), .int 0, .int (-1), .int 0, .int 0, .int 0, .int 0, .int 0])), ((b5 1), .inl (E.2.2 1, 1600, .inl (fun _ => 0))), ((b5 2), .inr (7, [.int 0, .int 0, .int 0, .int 0, .int 0, .int 0, .ref (b5 3), .ref (b5 4), .ref (b5 5), .ref (b5 6), .ref (b5 7), .ref (b5 8), .ref (b5 9), .ref (b5 10), .ref (b5 11), .ref (b5 12), .ref (b5 13), .ref (b5 14)])), ((b5 3), .inl (E.2.2 0, 36, .inl (fun _ => 0))), ((b5 4), .inl (E.2.2 2, 12, .inr (.inl (fun _ => 0)))), ((b5 5), .inl (E.2.2 0, 6, .inl (fun _ => 0))), ((b5 6), .inl (E.2.2 0, 6, .inl (fun _ => 0))), ((b5 7), .inl (E.2.2 0, 6, .inl (fun _ => 0))), ((b5 8), .inl (E.2.2 0, 10, .inl (fun _ => 0))), ((b5 9), .inl (E.2.2 0, 10, .inl (fun _ => 0))), ((b5 10), .inl (E.2.2 0, 10, .inl (fun _ => 0))), ((b5 11), .inl (E.2.2 0, 10, .inl (fun _ => 0))), ((b5 12), .inl (E.2.2 0, 10, .inl (fun _ => 0))), ((b5 13), .inl (E.2.2 0, 10, .inl (fun _ => 0))), ((b5 14), .inl (E.2.2 0, 60, .inl (fun _ => 0))), (q7, .inr (0, [.ref (b11 1), .int 0, .ref (b11 14), .ref (b11 15), .ref (b11 16), .ref (b11 17), .ref (b11 18), .ref (b11 19)])), ((b11 1), .inr (7, [.int 0, .int 0, .int 0, .int 0, .int 0, .int 0, .ref (b11 2), .ref (b11 3), .ref (b11 4), .ref (b11 5), .ref (b11 6), .ref (b11 7), .ref (b11 8), .ref (b11 9), .ref (b11 10), .ref (b11 11), .ref (b11 12), .ref (b11 13)])), ((b11 2), .inl (E.2.2 0, 36, .inl (fun _ => 0))), ((b11 3), .inl (E.2.2 2, 12, .inr (.inl (fun _ => 0)))), ((b11 4), .inl (E.2.2 0, 6, .inl (fun _ => 0))), ((b11 5), .inl (E.2.2 0, 6, .inl (fun _ => 0))), ((b11 6), .inl (E.2.2 0, 6, .inl (fun _ => 0))), ((b11 7), .inl (E.2.2 0, 10, .inl (fun _ => 0))), ((b11 8), .inl (E.2.2 0, 10, .inl (fun _ => 0))), ((b11 9), .inl (E.2.2 0, 10, .inl (fun _ => 0))), ((b11 10), .inl (E.2.2 0, 10, .inl (fun _ => 0))), ((b11 11), .inl (E.2.2 0, 10, .inl (fun _ => 0))), ((b11 12), .inl (E.2.2 0, 10, .inl (fun _ => 0))), ((b11 13), .inl (E.2.2 0, 60, .inl (fun _ => 0))), ((b11 14), .inl (E.2.2 0, 6, .inl (fun _ => 0))), ((b11 15), .inl (E.2.2 0, 6, .inl (fun _ => 0))), ((b11 16), .inl (E.2.2 0, 6, .inl (fun _ => 0))), ((b11 17), .inl (E.2.2 2, 20, .inr (.inl (fun _ => 0)))), ((b11 18), .inl (E.2.2 0, 10, .inl (fun _ => 0))), ((b11 19), .inl (E.2.2 0, 10, .inl (fun _ => 0))), (q13, .inl (E.2.2 4, 3, .inr (.inr (.inr (.inr (fun _ => none)))))), (q14, .inr (1, [.ref (b18 1), .int 0, .int 0, .ref (b18 2)])), ((b18 1), .inl (E.2.2 0, 36, .inl (fun _ => 0))), ((b18 2), .inl (E.2.2 0, 3, .inl (fun _ => 0))), (q20, .inr (2, [.int 0, .int 0, .int 0, .int 0, .null, .null, .null, .null, .null, .int 0, .int 0]))] 40 2141
  refine mp_callIN hF (As := []) (rest := [.ref q20, .ref h0]) (wr := [(h0, .inr (9, [.ref q1, .ref q7, .ref q13, .ref q14, .null, .null, .null, .null, .null])), (q1, .inr (3, [.ref (b5 1), .int 0, .ref (b5 2), .int 0, .int (-1), .int 0, .int 0, .int 0, .int 0, .int 0])), ((b5 1), .inl (E.2.2 1, 1600, .inl (fun _ => 0))), ((b5 2), .inr (7, [.int 0, .int 0, .int 0, .int 0, .int 0, .int 0, .ref (b5 3), .ref (b5 4), .ref (b5 5), .ref (b5 6), .ref (b5 7), .ref (b5 8), .ref (b5 9), .ref (b5 10), .ref (b5 11), .ref (b5 12), .ref (b5 13), .ref (b5 14)])), ((b5 3), .inl (E.2.2 0, 36, .inl (fun _ => 0))), ((b5 4), .inl (E.2.2 2, 12, .inr (.inl (fun _ => 0)))), ((b5 5), .inl (E.2.2 0, 6, .inl (fun _ => 0))), ((b5 6), .inl (E.2.2 0, 6, .inl (fun _ => 0))), ((b5 7), .inl (E.2.2 0, 6, .inl (fun _ => 0))), ((b5 8), .inl (E.2.2 0, 10, .inl (fun _ => 0))), ((b5 9), .inl (E.2.2 0, 10, .inl (fun _ => 0))), ((b5 10), .inl (E.2.2 0, 10, .inl (fun _ => 0))), ((b5 11), .inl (E.2.2 0, 10, .inl (fun _ => 0))), ((b5 12), .inl (E.2.2 0, 10, .inl (fun _ => 0))), ((b5 13), .inl (E.2.2 0, 10, .inl (fun _ => 0))), ((b5 14), .inl (E.2.2 0, 60, .inl (fun _ => 0))), (q7, .inr (0, [.ref (b11 1), .int 0, .ref (b11 14), .ref (b11 15), .ref (b11 16), .ref (b11 17), .ref (b11 18), .ref (b11 19)])), ((b11 1), .inr (7, [.int 0, .int 0, .int 0, .int 0, .int 0, .int 0, .ref (b11 2), .ref (b11 3), .ref (b11 4), .ref (b11 5), .ref (b11 6), .ref (b11 7), .ref (b11 8), .ref (b11 9), .ref (b11 10), .ref (b11 11), .ref (b11 12), .ref (b11 13)])), ((b11 2), .inl (E.2.2 0, 36, .inl (fun _ => 0))), ((b11 3), .inl (E.2.2 2, 12, .inr (.inl (fun _ => 0)))), ((b11 4), .inl (E.2.2 0, 6, .inl (fun _ => 0))), ((b11 5), .inl (E.2.2 0, 6, .inl (fun _ => 0))), ((b11 6), .inl (E.2.2 0, 6, .inl (fun _ => 0))), ((b11 7), .inl (E.2.2 0, 10, .inl (fun _ => 0))), ((b11 8), .inl (E.2.2 0, 10, .inl (fun _ => 0))), ((b11 9), .inl (E.2.2 0, 10, .inl (fun _ => 0))), ((b11 10), .inl (E.2.2 0, 10, .inl (fun _ => 0))), ((b11 11), .inl (E.2.2 0, 10, .inl (fun _ => 0))), ((b11 12), .inl (E.2.2 0, 10, .inl (fun _ => 0))), ((b11 13), .inl (E.2.2 0, 60, .inl (fun _ => 0))), ((b11 14), .inl (E.2.2 0, 6, .inl (fun _ => 0))), ((b11 15), .inl (E.2.2 0, 6, .inl (fun _ => 0))), ((b11 16), .inl (E.2.2 0, 6, .inl (fun _ => 0))), ((b11 17), .inl (E.2.2 2, 20, .inr (.inl (fun _ => 0)))), ((b11 18), .inl (E.2.2 0, 10, .inl (fun _ => 0))), ((b11 19), .inl (E.2.2 0, 10, .inl (fun _ => 0))), (q13, .inl (E.2.2 4, 3, .inr (.inr (.inr (.inr (fun _ => none)))))), (q14, .inr (1, [.ref (b18 1), .int 0, .int 0, .ref (b18 2)])), ((b18 1), .inl (E.2.2 0, 36, .inl (fun _ => 0))), ((b18 2), .inl (E.2.2 0, 3, .inl (fun _ => 0)))]) (k_Planner E q20) rfl (mp_gm (j := 2013) (by decide +kernel)) mp_lkX9_38 [40] [0, 1, 2, 3, 4, 5, 6, 7, 8, 9, 10, 11, 12, 13, 14, 15, 16, 17, 18, 19, 20, 21, 22, 23, 24, 25, 26, 27, 28, 29, 30, 31, 32, 33, 34, 35, 36, 37, 38, 39] rfl rfl rfl rfl rfl ⟨(Nat.le_of_ble_eq_true rfl), (Nat.le_of_ble_eq_true rfl), (Nat.le_of_ble_eq_true rfl), (Nat.le_of_ble_eq_true rfl)⟩ (Nat.le_of_ble_eq_true rfl) (by decide +kernel) (fun v21 w22 h23 => ?_)
  obtain ⟨rfl, b24, h25, rfl⟩ := h23
  clear h25
  show mp_W E X 1 53 [(0, .ref h0)] [.ref q20, .ref h0] [(h0, .inr (9, [.ref q1, .ref q7, .ref q13, .ref q14, .null, .null, .null, .null, .null])), (q1, .inr (3, [.ref (b5 1), .int 0, .ref (b5 2), .int 0, .int (-1), .int 0, .int 0, .int 0, .int 0, .int 0])), ((b5 1), .inl (E.2.2 1, 1600, .inl (fun _ => 0))), ((b5 2), .inr (7, [.int 0, .int 0, .int 0, .int 0, .int 0, .int 0, .ref (b5 3), .ref (b5 4), .ref (b5 5), .ref (b5 6), .ref (b5 7), .ref (b5 8), .ref (b5 9), .ref (b5 10), .ref (b5 11), .ref (b5 12), .ref (b5 13), .ref (b5 14)])), ((b5 3), .inl (E.2.2 0, 36, .inl (fun _ => 0))), ((b5 4), .inl (E.2.2 2, 12, .inr (.inl (fun _ => 0)))), ((b5 5), .inl (E.2.2 0, 6, .inl (fun _ => 0))), ((b5 6), .inl (E.2.2 0, 6, .inl (fun _ => 0))), ((b5 7), .inl (E.2.2 0, 6, .inl (fun _ => 0))), ((b5 8), .inl (E.2.2 0, 10, .inl (fun _ => 0))), ((b5 9), .inl (E.2.2 0, 10, .inl (fun _ => 0))), ((b5 10), .inl (E.2.2 0, 10, .inl (fun _ => 0))), ((b5 11), .inl (E.2.2 0, 10, .inl (fun _ => 0))), ((b5 12), .inl (E.2.2 0, 10, .inl (fun _ => 0))), ((b5 13), .inl (E.2.2 0, 10, .inl (fun _ => 0))), ((b5 14), .inl (E.2.2 0, 60, .inl (fun _ => 0))), (q7, .inr (0, [.ref (b11 1), .int 0, .ref (b11 14), .ref (b11 15), .ref (b11 16), .ref (b11 17), .ref (b11 18), .ref (b11 19)])), ((b11 1), .inr (7, [.int 0, .int 0, .int 0, .int 0, .int 0, .int 0, .ref (b11 2), .ref (b11 3), .ref (b11 4), .ref (b11 5), .ref (b11 6), .ref (b11 7), .ref (b11 8), .ref (b11 9), .ref (b11 10), .ref (b11 11), .ref (b11 12), .ref (b11 13)])), ((b11 2), .inl (E.2.2 0, 36, .inl (fun _ => 0))), ((b11 3), .inl (E.2.2 2, 12, .inr (.inl (fun _ => 0)))), ((b11 4), .inl (E.2.2 0, 6, .inl (fun _ => 0))), ((b11 5), .inl (E.2.2 0, 6, .inl (fun _ => 0))), ((b11 6), .inl (E.2.2 0, 6, .inl (fun _ => 0))), ((b11 7), .inl (E.2.2 0, 10, .inl (fun _ => 0))), ((b11 8), .inl (E.2.2 0, 10, .inl (fun _ => 0))), ((b11 9), .inl (E.2.2 0, 10, .inl (fun _ => 0))), ((b11 10), .inl (E.2.2 0, 10, .inl (fun _ => 0))), ((b11 11), .inl (E.2.2 0, 10, .inl (fun _ => 0))), ((b11 12), .inl (E.2.2 0, 10, .inl (fun _ => 0))), ((b11 13), .inl (E.2.2 0, 60, .inl (fun _ => 0))), ((b11 14), .inl (E.2.2 0, 6, .inl (fun _ => 0))), ((b11 15), .inl (E.2.2 0, 6, .inl (fun _ => 0))), ((b11 16), .inl (E.2.2 0, 6, .inl (fun _ => 0))), ((b11 17), .inl (E.2.2 2, 20, .inr (.inl (fun _ => 0)))), ((b11 18), .inl (E.2.2 0, 10, .inl (fun _ => 0))), ((b11 19), .inl (E.2.2 0, 10, .inl (fun _ => 0))), (q13, .inl (E.2.2 4, 3, .inr (.inr (.inr (.inr (fun _ => none)))))), (q14, .inr (1, [.ref (b18 1), .int 0, .int 0, .ref (b18 2)])), ((b18 1), .inl (E.2.2 0, 36, .inl (fun _ => 0))), ((b18 2), .inl (E.2.2 0, 3, .inl (fun _ => 0))), (q20, .inr (2, [.int 0, .int 0, .int 0, .int 0, .ref (b24 1), .ref (b24 2), .ref (b24 3), .ref (b24 4), .ref (b24 5), .int 0, .int 0])), ((b24 1), .inl (E.2.2 0, 432, .inl (fun _ => 0))), ((b24 2), .inl (E.2.2 0, 432, .inl (fun _ => 0))), ((b24 3), .inl (E.2.2 0, 72, .inl (fun _ => 0))), ((b24 4), .inl (E.2.2 0, 78, .inl (fun _ => 0))), ((b24 5), .inl (E.2.2 2, 78, .inr (.inl (fun _ => 0))))] 45 3233
  refine mp_run hF mp_tabX9_ok [mp_h (.putfield 39) [40, 0]] (by decide +kernel) ?_
  refine And.intro rfl (And.intro rfl (And.intro rfl (And.intro rfl (And.intro (Nat.le_of_ble_eq_true rfl) ?_))))
  show mp_W E X 1 56 [(0, .ref h0)] [] [(h0, .inr (9, [.ref q1, .ref q7, .ref q13, .ref q14, .ref q20, .null, .null, .null, .null])), (q1, .inr (3, [.ref (b5 1), .int 0, .ref (b5 2), .int 0, .int (-1), .int 0, .int 0, .int 0, .int 0, .int 0])), ((b5 1), .inl (E.2.2 1, 1600, .inl (fun _ => 0))), ((b5 2), .inr (7, [.int 0, .int 0, .int 0, .int 0, .int 0, .int 0, .ref (b5 3), .ref (b5 4), .ref (b5 5), .ref (b5 6), .ref (b5 7), .ref (b5 8), .ref (b5 9), .ref (b5 10), .ref (b5 11), .ref (b5 12), .ref (b5 13), .ref (b5 14)])), ((b5 3), .inl (E.2.2 0, 36, .inl (fun _ => 0))), ((b5 4), .inl (E.2.2 2, 12, .inr (.inl (fun _ => 0)))), ((b5 5), .inl (E.2.2 0, 6, .inl (fun _ => 0))), ((b5 6), .inl (E.2.2 0, 6, .inl (fun _ => 0))), ((b5 7), .inl (E.2.2 0, 6, .inl (fun _ => 0))), ((b5 8), .inl (E.2.2 0, 10, .inl (fun _ => 0))), ((b5 9), .inl (E.2.2 0, 10, .inl (fun _ => 0))), ((b5 10), .inl (E.2.2 0, 10, .inl (fun _ => 0))), ((b5 11), .inl (E.2.2 0, 10, .inl (fun _ => 0))), ((b5 12), .inl (E.2.2 0, 10, .inl (fun _ => 0))), ((b5 13), .inl (E.2.2 0, 10, .inl (fun _ => 0))), ((b5 14), .inl (E.2.2 0, 60, .inl (fun _ => 0))), (q7, .inr (0, [.ref (b11 1), .int 0, .ref (b11 14), .ref (b11 15), .ref (b11 16), .ref (b11 17), .ref (b11 18), .ref (b11 19)])), ((b11 1), .inr (7, [.int 0, .int 0, .int 0, .int 0, .int 0, .int 0, .ref (b11 2), .ref (b11 3), .ref (b11 4), .ref (b11 5), .ref (b11 6), .ref (b11 7), .ref (b11 8), .ref (b11 9), .ref (b11 10), .ref (b11 11), .ref (b11 12), .ref (b11 13)])), ((b11 2), .inl (E.2.2 0, 36, .inl (fun _ => 0))), ((b11 3), .inl (E.2.2 2, 12, .inr (.inl (fun _ => 0)))), ((b11 4), .inl (E.2.2 0, 6, .inl (fun _ => 0))), ((b11 5), .inl (E.2.2 0, 6, .inl (fun _ => 0))), ((b11 6), .inl (E.2.2 0, 6, .inl (fun _ => 0))), ((b11 7), .inl (E.2.2 0, 10, .inl (fun _ => 0))), ((b11 8), .inl (E.2.2 0, 10, .inl (fun _ => 0))), ((b11 9), .inl (E.2.2 0, 10, .inl (fun _ => 0))), ((b11 10), .inl (E.2.2 0, 10, .inl (fun _ => 0))), ((b11 11), .inl (E.2.2 0, 10, .inl (fun _ => 0))), ((b11 12), .inl (E.2.2 0, 10, .inl (fun _ => 0))), ((b11 13), .inl (E.2.2 0, 60, .inl (fun _ => 0))), ((b11 14), .inl (E.2.2 0, 6, .inl (fun _ => 0))), ((b11 15), .inl (E.2.2 0, 6, .inl (fun _ => 0))), ((b11 16), .inl (E.2.2 0, 6, .inl (fun _ => 0))), ((b11 17), .inl (E.2.2 2, 20, .inr (.inl (fun _ => 0)))), ((b11 18), .inl (E.2.2 0, 10, .inl (fun _ => 0))), ((b11 19), .inl (E.2.2 0, 10, .inl (fun _ => 0))), (q13, .inl (E.2.2 4, 3, .inr (.inr (.inr (.inr (fun _ => none)))))), (q14, .inr (1, [.ref (b18 1), .int 0, .int 0, .ref (b18 2)])), ((b18 1), .inl (E.2.2 0, 36, .inl (fun _ => 0))), ((b18 2), .inl (E.2.2 0, 3, .inl (fun _ => 0))), (q20, .inr (2, [.int 0, .int 0, .int 0, .int 0, .ref (b24 1), .ref (b24 2), .ref (b24 3), .ref (b24 4), .ref (b24 5), .int 0, .int 0])), ((b24 1), .inl (E.2.2 0, 432, .inl (fun _ => 0))), ((b24 2), .inl (E.2.2 0, 432, .inl (fun _ => 0))), ((b24 3), .inl (E.2.2 0, 72, .inl (fun _ => 0))), ((b24 4), .inl (E.2.2 0, 78, .inl (fun _ => 0))), ((b24 5), .inl (E.2.2 2, 78, .inr (.inl (fun _ => 0))))] 45 3233
  refine mp_run hF mp_tabX9_ok [mp_i (.aload_n 0)] (by decide +kernel) ?_
  show mp_W E X 1 57 [(0, .ref h0)] [.ref h0] [(h0, .inr (9, [.ref q1, .ref q7, .ref q13, .ref q14, .ref q20, .null, .null, .null, .null])), (q1, .inr (3, [.ref (b5 1), .int 0, .ref (b5 2), .int 0, .int (-1), .int 0, .int 0, .int 0, .int 0, .int 0])), ((b5 1), .inl (E.2.2 1, 1600, .inl (fun _ => 0))), ((b5 2), .inr (7, [.int 0, .int 0, .int 0, .int 0, .int 0, .int 0, .ref (b5 3), .ref (b5 4), .ref (b5 5), .ref (b5 6), .ref (b5 7), .ref (b5 8), .ref (b5 9), .ref (b5 10), .ref (b5 11), .ref (b5 12), .ref (b5 13), .ref (b5 14)])), ((b5 3), .inl (E.2.2 0, 36, .inl (fun _ => 0))), ((b5 4), .inl (E.2.2 2, 12, .inr (.inl (fun _ => 0)))), ((b5 5), .inl (E.2.2 0, 6, .inl (fun _ => 0))), ((b5 6), .inl (E.2.2 0, 6, .inl (fun _ => 0))), ((b5 7), .inl (E.2.2 0, 6, .inl (fun _ => 0))), ((b5 8), .inl (E.2.2 0, 10, .inl (fun _ => 0))), ((b5 9), .inl (E.2.2 0, 10, .inl (fun _ => 0))), ((b5 10), .inl (E.2.2 0, 10, .inl (fun _ => 0))), ((b5 11), .inl (E.2.2 0, 10, .inl (fun _ => 0))), ((b5 12), .inl (E.2.2 0, 10, .inl (fun _ => 0))), ((b5 13), .inl (E.2.2 0, 10, .inl (fun _ => 0))), ((b5 14), .inl (E.2.2 0, 60, .inl (fun _ => 0))), (q7, .inr (0, [.ref (b11 1), .int 0, .ref (b11 14), .ref (b11 15), .ref (b11 16), .ref (b11 17), .ref (b11 18), .ref (b11 19)])), ((b11 1), .inr (7, [.int 0, .int 0, .int 0, .int 0, .int 0, .int 0, .ref (b11 2), .ref (b11 3), .ref (b11 4), .ref (b11 5), .ref (b11 6), .ref (b11 7), .ref (b11 8), .ref (b11 9), .ref (b11 10), .ref (b11 11), .ref (b11 12), .ref (b11 13)])), ((b11 2), .inl (E.2.2 0, 36, .inl (fun _ => 0))), ((b11 3), .inl (E.2.2 2, 12, .inr (.inl (fun _ => 0)))), ((b11 4), .inl (E.2.2 0, 6, .inl (fun _ => 0))), ((b11 5), .inl (E.2.2 0, 6, .inl (fun _ => 0))), ((b11 6), .inl (E.2.2 0, 6, .inl (fun _ => 0))), ((b11 7), .inl (E.2.2 0, 10, .inl (fun _ => 0))), ((b11 8), .inl (E.2.2 0, 10, .inl (fun _ => 0))), ((b11 9), .inl (E.2.2 0, 10, .inl (fun _ => 0))), ((b11 10), .inl (E.2.2 0, 10, .inl (fun _ => 0))), ((b11 11), .inl (E.2.2 0, 10, .inl (fun _ => 0))), ((b11 12), .inl (E.2.2 0, 10, .inl (fun _ => 0))), ((b11 13), .inl (E.2.2 0, 60, .inl (fun _ => 0))), ((b11 14), .inl (E.2.2 0, 6, .inl (fun _ => 0))), ((b11 15), .inl (E.2.2 0, 6, .inl (fun _ => 0))), ((b11 16), .inl (E.2.2 0, 6, .inl (fun _ => 0))), ((b11 17), .inl (E.2.2 2, 20, .inr (.inl (fun _ => 0)))), ((b11 18), .inl (E.2.2 0, 10, .inl (fun _ => 0))), ((b11 19), .inl (E.2.2 0, 10, .inl (fun _ => 0))), (q13, .inl (E.2.2 4, 3, .inr (.inr (.inr (.inr (fun _ => none)))))), (q14, .inr (1, [.ref (b18 1), .int 0, .int 0, .ref (b18 2)])), ((b18 1), .inl (E.2.2 0, 36, .inl (fun _ => 0))), ((b18 2), .inl (E.2.2 0, 3, .inl (fun _ => 0))), (q20, .inr (2, [.int 0, .int 0, .int 0, .int 0, .ref (b24 1), .ref (b24 2), .ref (b24 3), .ref (b24 4), .ref (b24 5), .int 0, .int 0])), ((b24 1), .inl (E.2.2 0, 432, .inl (fun _ => 0))), ((b24 2), .inl (E.2.2 0, 432, .inl (fun _ => 0))), ((b24 3), .inl (E.2.2 0, 72, .inl (fun _ => 0))), ((b24 4), .inl (E.2.2 0, 78, .inl (fun _ => 0))), ((b24 5), .inl (E.2.2 2, 78, .inr (.inl (fun _ => 0))))] 45 3233
  refine mp_new hF (mp_lnX9_43) ⟨(Nat.le_of_ble_eq_true rfl), (Nat.le_of_ble_eq_true rfl)⟩ (by decide +kernel) (fun q26 => ?_)
  show mp_W E X 1 60 [(0, .ref h0)] [.ref q26, .ref h0] [(h0, .inr (9, [.ref q1, .ref q7, .ref q13, .ref q14, .ref q20, .null, .null, .null, .null])), (q1, .inr (3, [.ref (b5 1), .int 0, .ref (b5 2), .int 0, .int (-1), .int 0, .int 0, .int 0, .int 0, .int 0])), ((b5 1), .inl (E.2.2 1, 1600, .inl (fun _ => 0))), ((b5 2), .inr (7, [.int 0, .int 0, .int 0, .int 0, .int 0, .int 0, .ref (b5 3), .ref (b5 4), .ref (b5 5), .ref (b5 6), .ref (b5 7), .ref (b5 8), .ref (b5 9), .ref (b5 10), .ref (b5 11), .ref (b5 12), .ref (b5 13), .ref (b5 14)])), ((b5 3), .inl (E.2.2 0, 36, .inl (fun _ => 0))), ((b5 4), .inl (E.2.2 2, 12, .inr (.inl (fun _ => 0)))), ((b5 5), .inl (E.2.2 0, 6, .inl (fun _ => 0))), ((b5 6), .inl (E.2.2 0, 6, .inl (fun _ => 0))), ((b5 7), .inl (E.2.2 0, 6, .inl (fun _ => 0))), ((b5 8), .inl (E.2.2 0, 10, .inl (fun _ => 0))), ((b5 9), .inl (E.2.2 0, 10, .inl (fun _ => 0))), ((b5 10), .inl (E.2.2 0, 10, .inl (fun _ => 0))), ((b5 11), .inl (E.2.2 0, 10, .inl (fun _ => 0))), ((b5 12), .inl (E.2.2 0, 10, .inl (fun _ => 0))), ((b5 13), .inl (E.2.2 0, 10, .inl (fun _ => 0))), ((b5 14), .inl (E.2.2 0, 60, .inl (fun _ => 0))), (q7, .inr (0, [.ref (b11 1), .int 0, .ref (b11 14), .ref (b11 15), .ref (b11 16), .ref (b11 17), .ref (b11 18), .ref (b11 19)])), ((b11 1), .inr (7, [.int 0, .int 0, .int 0, .int 0, .int 0, .int 0, .ref (b11 2), .ref (b11 3), .ref (b11 4), .ref (b11 5), .ref (b11 6), .ref (b11 7), .ref (b11 8), .ref (b11 9), .ref (b11 10), .ref (b11 11), .ref (b11 12), .ref (b11 13)])), ((b11 2), .inl (E.2.2 0, 36, .inl (fun _ => 0))), ((b11 3), .inl (E.2.2 2, 12, .inr (.inl (fun _ => 0)))), ((b11 4), .inl (E.2.2 0, 6, .inl (fun _ => 0))), ((b11 5), .inl (E.2.2 0, 6, .inl (fun _ => 0))), ((b11 6), .inl (E.2.2 0, 6, .inl (fun _ => 0))), ((b11 7), .inl (E.2.2 0, 10, .inl (fun _ => 0))), ((b11 8), .inl (E.2.2 0, 10, .inl (fun _ => 0))), ((b11 9), .inl (E.2.2 0, 10, .inl (fun _ => 0))), ((b11 10), .inl (E.2.2 0, 10, .inl (fun _ => 0))), ((b11 11), .inl (E.2.2 0, 10, .inl (fun _ => 0))), ((b11 12), .inl (E.2.2 0, 10, .inl (fun _ => 0))), ((b11 13), .inl (E.2.2 0, 60, .inl (fun _ => 0))), ((b11 14), .inl (E.2.2 0, 6, .inl (fun _ => 0))), ((b11 15), .inl (E.2.2 0, 6, .inl (fun _ => 0))), ((b11 16), .inl (E.2.2 0, 6, .inl (fun _ => 0))), ((b11 17), .inl (E.2.2 2, 20, .inr (.inl (fun _ => 0)))), ((b11 18), .inl (E.2.2 0, 10, .inl (fun _ => 0))), ((b11 19), .inl (E.2.2 0, 10, .inl (fun _ => 0))), (q13, .inl (E.2.2 4, 3, .inr (.inr (.inr (.inr (fun _ => none)))))), (q14, .inr (1, [.ref (b18 1), .int 0, .int 0, .ref (b18 2)])), ((b18 1), .inl (E.2.2 0, 36, .inl (fun _ => 0))), ((b18 2), .inl (E.2.2 0, 3, .inl (fun _ => 0))), (q20, .inr (2, [.int 0, .int 0, .int 0, .int 0, .ref (b24 1), .ref (b24 2), .ref (b24 3), .ref (b24 4), .ref (b24 5), .int 0, .int 0])), ((b24 1), .inl (E.2.2 0, 432, .inl (fun _ => 0))), ((b24 2), .inl (E.2.2 0, 432, .inl (fun _ => 0))), ((b24 3), .inl (E.2.2 0, 72, .inl (fun _ => 0))), ((b24 4), .inl (E.2.2 0, 78, .inl (fun _ => 0))), ((b24 5), .inl (E.2.2 2, 78, .inr (.inl (fun _ => 0)))), (q26, .inr (4, [.int 0, .int 0, .int 0, .null, .int 0, .int 0, .int 0, .int 0, .int 0, .null]))] 46 3243
  refine mp_run hF mp_tabX9_ok [mp_i .dup] (by decide +kernel) ?_
  refine And.intro rfl ?_
  show mp_W E X 1 61 [(0, .ref h0)] [.ref q26, .ref q26, .ref h0] [(h0, .inr (9, [.ref q1, .ref q7, .ref q13, .ref q14, .ref q20, .null, .null, .null, .null])), (q1, .inr (3, [.ref (b5 1), .int 0, .ref (b5 2), .int 0, .int (-1), .int 0, .int 0, .int 0, .int 0, .int 0])), ((b5 1), .inl (E.2.2 1, 1600, .inl (fun _ => 0))), ((b5 2), .inr (7, [.int 0, .int 0, .int 0, .int 0, .int 0, .int 0, .ref (b5 3), .ref (b5 4), .ref (b5 5), .ref (b5 6), .ref (b5 7), .ref (b5 8), .ref (b5 9), .ref (b5 10), .ref (b5 11), .ref (b5 12), .ref (b5 13), .ref (b5 14)])), ((b5 3), .inl (E.2.2 0, 36, .inl (fun _ => 0))), ((b5 4), .inl (E.2.2 2, 12, .inr (.inl (fun _ => 0)))), ((b5 5), .inl (E.2.2 0, 6, .inl (fun _ => 0))), ((b5 6), .inl (E.2.2 0, 6, .inl (fun _ => 0))), ((b5 7), .inl (E.2.2 0, 6, .inl (fun _ => 0))), ((b5 8), .inl (E.2.2 0, 10, .inl (fun _ => 0))), ((b5 9), .inl (E.2.2 0, 10, .inl (fun _ => 0))), ((b5 10), .inl (E.2.2 0, 10, .inl (fun _ => 0))), ((b5 11), .inl (E.2.2 0, 10, .inl (fun _ => 0))), ((b5 12), .inl (E.2.2 0, 10, .inl (fun _ => 0))), ((b5 13), .inl (E.2.2 0, 10, .inl (fun _ => 0))), ((b5 14), .inl (E.2.2 0, 60, .inl (fun _ => 0))), (q7, .inr (0, [.ref (b11 1), .int 0, .ref (b11 14), .ref (b11 15), .ref (b11 16), .ref (b11 17), .ref (b11 18), .ref (b11 19)])), ((b11 1), .inr (7, [.int 0, .int 0, .int 0, .int 0, .int 0, .int 0, .ref (b11 2), .ref (b11 3), .ref (b11 4), .ref (b11 5), .ref (b11 6), .ref (b11 7), .ref (b11 8), .ref (b11 9), .ref (b11 10), .ref (b11 11), .ref (b11 12), .ref (b11 13)])), ((b11 2), .inl (E.2.2 0, 36, .inl (fun _ => 0))), ((b11 3), .inl (E.2.2 2, 12, .inr (.inl (fun _ => 0)))), ((b11 4), .inl (E.2.2 0, 6, .inl (fun _ => 0))), ((b11 5), .inl (E.2.2 0, 6, .inl (fun _ => 0))), ((b11 6), .inl (E.2.2 0, 6, .inl (fun _ => 0))), ((b11 7), .inl (E.2.2 0, 10, .inl (fun _ => 0))), ((b11 8), .inl (E.2.2 0, 10, .inl (fun _ => 0))), ((b11 9), .inl (E.2.2 0, 10, .inl (fun _ => 0))), ((b11 10), .inl (E.2.2 0, 10, .inl (fun _ => 0))), ((b11 11), .inl (E.2.2 0, 10, .inl (fun _ => 0))), ((b11 12), .inl (E.2.2 0, 10, .inl (fun _ => 0))), ((b11 13), .inl (E.2.2 0, 60, .inl (fun _ => 0))), ((b11 14), .inl (E.2.2 0, 6, .inl (fun _ => 0))), ((b11 15), .inl (E.2.2 0, 6, .inl (fun _ => 0))), ((b11 16), .inl (E.2.2 0, 6, .inl (fun _ => 0))), ((b11 17), .inl (E.2.2 2, 20, .inr (.inl (fun _ => 0)))), ((b11 18), .inl (E.2.2 0, 10, .inl (fun _ => 0))), ((b11 19), .inl (E.2.2 0, 10, .inl (fun _ => 0))), (q13, .inl (E.2.2 4, 3, .inr (.inr (.inr (.inr (fun _ => none)))))), (q14, .inr (1, [.ref (b18 1), .int 0, .int 0, .ref (b18 2)])), ((b18 1), .inl (E.2.2 0, 36, .inl (fun _ => 0))), ((b18 2), .inl (E.2.2 0, 3, .inl (fun _ => 0))), (q20, .inr (2, [.int 0, .int 0, .int 0, .int 0, .ref (b24 1), .ref (b24 2), .ref (b24 3), .ref (b24 4), .ref (b24 5), .int 0, .int 0])), ((b24 1), .inl (E.2.2 0, 432, .inl (fun _ => 0))), ((b24 2), .inl (E.2.2 0, 432, .inl (fun _ => 0))), ((b24 3), .inl (E.2.2 0, 72, .inl (fun _ => 0))), ((b24 4), .inl (E.2.2 0, 78, .inl (fun _ => 0))), ((b24 5), .inl (E.2.2 2, 78, .inr (.inl (fun _ => 0)))), (q26, .inr (4, [.int 0, .int 0, .int 0, .null, .int 0, .int 0, .int 0, .int 0, .int 0, .null]))] 46 3243
  refine mp_callIN hF (As := []) (rest := [.ref q26, .ref h0]) (wr := [(h0, .inr (9, [.ref q1, .ref q7, .ref q13, .ref q14, .ref q20, .null, .null, .null, .null])), (q1, .inr (3, [.ref (b5 1), .int 0, .ref (b5 2), .int 0, .int (-1), .int 0, .int 0, .int 0, .int 0, .int 0])), ((b5 1), .inl (E.2.2 1, 1600, .inl (fun _ => 0))), ((b5 2), .inr (7, [.int 0, .int 0, .int 0, .int 0, .int 0, .int 0, .ref (b5 3), .ref (b5 4), .ref (b5 5), .ref (b5 6), .ref (b5 7), .ref (b5 8), .ref (b5 9), .ref (b5 10), .ref (b5 11), .ref (b5 12), .ref (b5 13), .ref (b5 14)])), ((b5 3), .inl (E.2.2 0, 36, .inl (fun _ => 0))), ((b5 4), .inl (E.2.2 2, 12, .inr (.inl (fun _ => 0)))), ((b5 5), .inl (E.2.2 0, 6, .inl (fun _ => 0))), ((b5 6), .inl (E.2.2 0, 6, .inl (fun _ => 0))), ((b5 7), .inl (E.2.2 0, 6, .inl (fun _ => 0))), ((b5 8), .inl (E.2.2 0, 10, .inl (fun _ => 0))), ((b5 9), .inl (E.2.2 0, 10, .inl (fun _ => 0))), ((b5 10), .inl (E.2.2 0, 10, .inl (fun _ => 0))), ((b5 11), .inl (E.2.2 0, 10, .inl (fun _ => 0))), ((b5 12), .inl (E.2.2 0, 10, .inl (fun _ => 0))), ((b5 13), .inl (E.2.2 0, 10, .inl (fun _ => 0))), ((b5 14), .inl (E.2.2 0, 60, .inl (fun _ => 0))), (q7, .inr (0, [.ref (b11 1), .int 0, .ref (b11 14), .ref (b11 15), .ref (b11 16), .ref (b11 17), .ref (b11 18), .ref (b11 19)])), ((b11 1), .inr (7, [.int 0, .int 0, .int 0, .int 0, .int 0, .int 0, .ref (b11 2), .ref (b11 3), .ref (b11 4), .ref (b11 5), .ref (b11 6), .ref (b11 7), .ref (b11 8), .ref (b11 9), .ref (b11 10), .ref (b11 11), .ref (b11 12), .ref (b11 13)])), ((b11 2), .inl (E.2.2 0, 36, .inl (fun _ => 0))), ((b11 3), .inl (E.2.2 2, 12, .inr (.inl (fun _ => 0)))), ((b11 4), .inl (E.2.2 0, 6, .inl (fun _ => 0))), ((b11 5), .inl (E.2.2 0, 6, .inl (fun _ => 0))), ((b11 6), .inl (E.2.2 0, 6, .inl (fun _ => 0))), ((b11 7), .inl (E.2.2 0, 10, .inl (fun _ => 0))), ((b11 8), .inl (E.2.2 0, 10, .inl (fun _ => 0))), ((b11 9), .inl (E.2.2 0, 10, .inl (fun _ => 0))), ((b11 10), .inl (E.2.2 0, 10, .inl (fun _ => 0))), ((b11 11), .inl (E.2.2 0, 10, .inl (fun _ => 0))), ((b11 12), .inl (E.2.2 0, 10, .inl (fun _ => 0))), ((b11 13), .inl (E.2.2 0, 60, .inl (fun _ => 0))), ((b11 14), .inl (E.2.2 0, 6, .inl (fun _ => 0))), ((b11 15), .inl (E.2.2 0, 6, .inl (fun _ => 0))), ((b11 16), .inl (E.2.2 0, 6, .inl (fun _ => 0))), ((b11 17), .inl (E.2.2 2, 20, .inr (.inl (fun _ => 0)))), ((b11 18), .inl (E.2.2 0, 10, .inl (fun _ => 0))), ((b11 19), .inl (E.2.2 0, 10, .inl (fun _ => 0))), (q13, .inl (E.2.2 4, 3, .inr (.inr (.inr (.inr (fun _ => none)))))), (q14, .inr (1, [.ref (b18 1), .int 0, .int 0, .ref (b18 2)])), ((b18 1), .inl (E.2.2 0, 36, .inl (fun _ => 0))), ((b18 2), .inl (E.2.2 0, 3, .inl (fun _ => 0))), (q20, .inr (2, [.int 0, .int 0, .int 0, .int 0, .ref (b24 1), .ref (b24 2), .ref (b24 3), .ref (b24 4), .ref (b24 5), .int 0, .int 0])), ((b24 1), .inl (E.2.2 0, 432, .inl (fun _ => 0))), ((b24 2), .inl (E.2.2 0, 432, .inl (fun _ => 0))), ((b24 3), .inl (E.2.2 0, 72, .inl (fun _ => 0))), ((b24 4), .inl (E.2.2 0, 78, .inl (fun _ => 0))), ((b24 5), .inl (E.2.2 2, 78, .inr (.inl (fun _ => 0))))]) (k_Scales E q26) rfl (mp_gm (j := 2055) (by decide +kernel)) mp_lkX9_45 [46] [0, 1, 2, 3, 4, 5, 6, 7, 8, 9, 10, 11, 12, 13, 14, 15, 16, 17, 18, 19, 20, 21, 22, 23, 24, 25, 26, 27, 28, 29, 30, 31, 32, 33, 34, 35, 36, 37, 38, 39, 40, 41, 42, 43, 44, 45] rfl rfl rfl rfl rfl ⟨(Nat.le_of_ble_eq_true rfl), (Nat.le_of_ble_eq_true rfl), (Nat.le_of_ble_eq_true rfl), (Nat.le_of_ble_eq_true rfl)⟩ (Nat.le_of_ble_eq_true rfl) (by decide +kernel) (fun v27 w28 h29 => ?_)
  obtain ⟨rfl, b30, h31, rfl⟩ := h29
  clear h31
  show mp_W E X 1 64 [(0, .ref h0)] [.ref q26, .ref h0] [(h0, .inr (9, [.ref q1, .ref q7, .ref q13, .ref q14, .ref q20, .null, .null, .null, .null])), (q1, .inr (3, [.ref (b5 1), .int 0, .ref (b5 2), .int 0, .int (-1), .int 0, .int 0, .int 0, .int 0, .int 0])), ((b5 1), .inl (E.2.2 1, 1600, .inl (fun _ => 0))), ((b5 2), .inr (7, [.int 0, .int 0, .int 0, .int 0, .int 0, .int 0, .ref (b5 3), .ref (b5 4), .ref (b5 5), .ref (b5 6), .ref (b5 7), .ref (b5 8), .ref (b5 9), .ref (b5 10), .ref (b5 11), .ref (b5 12), .ref (b5 13), .ref (b5 14)])), ((b5 3), .inl (E.2.2 0, 36, .inl (fun _ => 0))), ((b5 4), .inl (E.2.2 2, 12, .inr (.inl (fun _ => 0)))), ((b5 5), .inl (E.2.2 0, 6, .inl (fun _ => 0))), ((b5 6), .inl (E.2.2 0, 6, .inl (fun _ => 0))), ((b5 7), .inl (E.2.2 0, 6, .inl (fun _ => 0))), ((b5 8), .inl (E.2.2 0, 10, .inl (fun _ => 0))), ((b5 9), .inl (E.2.2 0, 10, .inl (fun _ => 0))), ((b5 10), .inl (E.2.2 0, 10, .inl (fun _ => 0))), ((b5 11), .inl (E.2.2 0, 10, .inl (fun _ => 0))), ((b5 12), .inl (E.2.2 0, 10, .inl (fun _ => 0))), ((b5 13), .inl (E.2.2 0, 10, .inl (fun _ => 0))), ((b5 14), .inl (E.2.2 0, 60, .inl (fun _ => 0))), (q7, .inr (0, [.ref (b11 1), .int 0, .ref (b11 14), .ref (b11 15), .ref (b11 16), .ref (b11 17), .ref (b11 18), .ref (b11 19)])), ((b11 1), .inr (7, [.int 0, .int 0, .int 0, .int 0, .int 0, .int 0, .ref (b11 2), .ref (b11 3), .ref (b11 4), .ref (b11 5), .ref (b11 6), .ref (b11 7), .ref (b11 8), .ref (b11 9), .ref (b11 10), .ref (b11 11), .ref (b11 12), .ref (b11 13)])), ((b11 2), .inl (E.2.2 0, 36, .inl (fun _ => 0))), ((b11 3), .inl (E.2.2 2, 12, .inr (.inl (fun _ => 0)))), ((b11 4), .inl (E.2.2 0, 6, .inl (fun _ => 0))), ((b11 5), .inl (E.2.2 0, 6, .inl (fun _ => 0))), ((b11 6), .inl (E.2.2 0, 6, .inl (fun _ => 0))), ((b11 7), .inl (E.2.2 0, 10, .inl (fun _ => 0))), ((b11 8), .inl (E.2.2 0, 10, .inl (fun _ => 0))), ((b11 9), .inl (E.2.2 0, 10, .inl (fun _ => 0))), ((b11 10), .inl (E.2.2 0, 10, .inl (fun _ => 0))), ((b11 11), .inl (E.2.2 0, 10, .inl (fun _ => 0))), ((b11 12), .inl (E.2.2 0, 10, .inl (fun _ => 0))), ((b11 13), .inl (E.2.2 0, 60, .inl (fun _ => 0))), ((b11 14), .inl (E.2.2 0, 6, .inl (fun _ => 0))), ((b11 15), .inl (E.2.2 0, 6, .inl (fun _ => 0))), ((b11 16), .inl (E.2.2 0, 6, .inl (fun _ => 0))), ((b11 17), .inl (E.2.2 2, 20, .inr (.inl (fun _ => 0)))), ((b11 18), .inl (E.2.2 0, 10, .inl (fun _ => 0))), ((b11 19), .inl (E.2.2 0, 10, .inl (fun _ => 0))), (q13, .inl (E.2.2 4, 3, .inr (.inr (.inr (.inr (fun _ => none)))))), (q14, .inr (1, [.ref (b18 1), .int 0, .int 0, .ref (b18 2)])), ((b18 1), .inl (E.2.2 0, 36, .inl (fun _ => 0))), ((b18 2), .inl (E.2.2 0, 3, .inl (fun _ => 0))), (q20, .inr (2, [.int 0, .int 0, .int 0, .int 0, .ref (b24 1), .ref (b24 2), .ref (b24 3), .ref (b24 4), .ref (b24 5), .int 0, .int 0])), ((b24 1), .inl (E.2.2 0, 432, .inl (fun _ => 0))), ((b24 2), .inl (E.2.2 0, 432, .inl (fun _ => 0))), ((b24 3), .inl (E.2.2 0, 72, .inl (fun _ => 0))), ((b24 4), .inl (E.2.2 0, 78, .inl (fun _ => 0))), ((b24 5), .inl (E.2.2 2, 78, .inr (.inl (fun _ => 0)))), (q26, .inr (4, [.int 0, .int 0, .int 0, .ref (b30 1), .int 0, .int 0, .int 0, .int 0, .int 0, .ref (b30 2)])), ((b30 1), .inl (E.2.2 0, 11, .inl (fun _ => 0))), ((b30 2), .inl (E.2.2 0, 132, .inl (fun _ => 0)))] 48 3386
  refine mp_run hF mp_tabX9_ok [mp_h (.putfield 46) [41, 0]] (by decide +kernel) ?_
  refine And.intro rfl (And.intro rfl (And.intro rfl (And.intro rfl (And.intro (Nat.le_of_ble_eq_true rfl) ?_))))
  show mp_W E X 1 67 [(0, .ref h0)] [] [(h0, .inr (9, [.ref q1, .ref q7, .ref q13, .ref q14, .ref q20, .ref q26, .null, .null, .null])), (q1, .inr (3, [.ref (b5 1), .int 0, .ref (b5 2), .int 0, .int (-1), .int 0, .int 0, .int 0, .int 0, .int 0])), ((b5 1), .inl (E.2.2 1, 1600, .inl (fun _ => 0))), ((b5 2), .inr (7, [.int 0, .int 0, .int 0, .int 0, .int 0, .int 0, .ref (b5 3), .ref (b5 4), .ref (b5 5), .ref (b5 6), .ref (b5 7), .ref (b5 8), .ref (b5 9), .ref (b5 10), .ref (b5 11), .ref (b5 12), .ref (b5 13), .ref (b5 14)])), ((b5 3), .inl (E.2.2 0, 36, .inl (fun _ => 0))), ((b5 4), .inl (E.2.2 2, 12, .inr (.inl (fun _ => 0)))), ((b5 5), .inl (E.2.2 0, 6, .inl (fun _ => 0))), ((b5 6), .inl (E.2.2 0, 6, .inl (fun _ => 0))), ((b5 7), .inl (E.2.2 0, 6, .inl (fun _ => 0))), ((b5 8), .inl (E.2.2 0, 10, .inl (fun _ => 0))), ((b5 9), .inl (E.2.2 0, 10, .inl (fun _ => 0))), ((b5 10), .inl (E.2.2 0, 10, .inl (fun _ => 0))), ((b5 11), .inl (E.2.2 0, 10, .inl (fun _ => 0))), ((b5 12), .inl (E.2.2 0, 10, .inl (fun _ => 0))), ((b5 13), .inl (E.2.2 0, 10, .inl (fun _ => 0))), ((b5 14), .inl (E.2.2 0, 60, .inl (fun _ => 0))), (q7, .inr (0, [.ref (b11 1), .int 0, .ref (b11 14), .ref (b11 15), .ref (b11 16), .ref (b11 17), .ref (b11 18), .ref (b11 19)])), ((b11 1), .inr (7, [.int 0, .int 0, .int 0, .int 0, .int 0, .int 0, .ref (b11 2), .ref (b11 3), .ref (b11 4), .ref (b11 5), .ref (b11 6), .ref (b11 7), .ref (b11 8), .ref (b11 9), .ref (b11 10), .ref (b11 11), .ref (b11 12), .ref (b11 13)])), ((b11 2), .inl (E.2.2 0, 36, .inl (fun _ => 0))), ((b11 3), .inl (E.2.2 2, 12, .inr (.inl (fun _ => 0)))), ((b11 4), .inl (E.2.2 0, 6, .inl (fun _ => 0))), ((b11 5), .inl (E.2.2 0, 6, .inl (fun _ => 0))), ((b11 6), .inl (E.2.2 0, 6, .inl (fun _ => 0))), ((b11 7), .inl (E.2.2 0, 10, .inl (fun _ => 0))), ((b11 8), .inl (E.2.2 0, 10, .inl (fun _ => 0))), ((b11 9), .inl (E.2.2 0, 10, .inl (fun _ => 0))), ((b11 10), .inl (E.2.2 0, 10, .inl (fun _ => 0))), ((b11 11), .inl (E.2.2 0, 10, .inl (fun _ => 0))), ((b11 12), .inl (E.2.2 0, 10, .inl (fun _ => 0))), ((b11 13), .inl (E.2.2 0, 60, .inl (fun _ => 0))), ((b11 14), .inl (E.2.2 0, 6, .inl (fun _ => 0))), ((b11 15), .inl (E.2.2 0, 6, .inl (fun _ => 0))), ((b11 16), .inl (E.2.2 0, 6, .inl (fun _ => 0))), ((b11 17), .inl (E.2.2 2, 20, .inr (.inl (fun _ => 0)))), ((b11 18), .inl (E.2.2 0, 10, .inl (fun _ => 0))), ((b11 19), .inl (E.2.2 0, 10, .inl (fun _ => 0))), (q13, .inl (E.2.2 4, 3, .inr (.inr (.inr (.inr (fun _ => none)))))), (q14, .inr (1, [.ref (b18 1), .int 0, .int 0, .ref (b18 2)])), ((b18 1), .inl (E.2.2 0, 36, .inl (fun _ => 0))), ((b18 2), .inl (E.2.2 0, 3, .inl (fun _ => 0))), (q20, .inr (2, [.int 0, .int 0, .int 0, .int 0, .ref (b24 1), .ref (b24 2), .ref (b24 3), .ref (b24 4), .ref (b24 5), .int 0, .int 0])), ((b24 1), .inl (E.2.2 0, 432, .inl (fun _ => 0))), ((b24 2), .inl (E.2.2 0, 432, .inl (fun _ => 0))), ((b24 3), .inl (E.2.2 0, 72, .inl (fun _ => 0))), ((b24 4), .inl (E.2.2 0, 78, .inl (fun _ => 0))), ((b24 5), .inl (E.2.2 2, 78, .inr (.inl (fun _ => 0)))), (q26, .inr (4, [.int 0, .int 0, .int 0, .ref (b30 1), .int 0, .int 0, .int 0, .int 0, .int 0, .ref (b30 2)])), ((b30 1), .inl (E.2.2 0, 11, .inl (fun _ => 0))), ((b30 2), .inl (E.2.2 0, 132, .inl (fun _ => 0)))] 48 3386
  refine mp_run hF mp_tabX9_ok [mp_i (.aload_n 0)] (by decide +kernel) ?_
  show mp_W E X 1 68 [(0, .ref h0)] [.ref h0] [(h0, .inr (9, [.ref q1, .ref q7, .ref q13, .ref q14, .ref q20, .ref q26, .null, .null, .null])), (q1, .inr (3, [.ref (b5 1), .int 0, .ref (b5 2), .int 0, .int (-1), .int 0, .int 0, .int 0, .int 0, .int 0])), ((b5 1), .inl (E.2.2 1, 1600, .inl (fun _ => 0))), ((b5 2), .inr (7, [.int 0, .int 0, .int 0, .int 0, .int 0, .int 0, .ref (b5 3), .ref (b5 4), .ref (b5 5), .ref (b5 6), .ref (b5 7), .ref (b5 8), .ref (b5 9), .ref (b5 10), .ref (b5 11), .ref (b5 12), .ref (b5 13), .ref (b5 14)])), ((b5 3), .inl (E.2.2 0, 36, .inl (fun _ => 0))), ((b5 4), .inl (E.2.2 2, 12, .inr (.inl (fun _ => 0)))), ((b5 5), .inl (E.2.2 0, 6, .inl (fun _ => 0))), ((b5 6), .inl (E.2.2 0, 6, .inl (fun _ => 0))), ((b5 7), .inl (E.2.2 0, 6, .inl (fun _ => 0))), ((b5 8), .inl (E.2.2 0, 10, .inl (fun _ => 0))), ((b5 9), .inl (E.2.2 0, 10, .inl (fun _ => 0))), ((b5 10), .inl (E.2.2 0, 10, .inl (fun _ => 0))), ((b5 11), .inl (E.2.2 0, 10, .inl (fun _ => 0))), ((b5 12), .inl (E.2.2 0, 10, .inl (fun _ => 0))), ((b5 13), .inl (E.2.2 0, 10, .inl (fun _ => 0))), ((b5 14), .inl (E.2.2 0, 60, .inl (fun _ => 0))), (q7, .inr (0, [.ref (b11 1), .int 0, .ref (b11 14), .ref (b11 15), .ref (b11 16), .ref (b11 17), .ref (b11 18), .ref (b11 19)])), ((b11 1), .inr (7, [.int 0, .int 0, .int 0, .int 0, .int 0, .int 0, .ref (b11 2), .ref (b11 3), .ref (b11 4), .ref (b11 5), .ref (b11 6), .ref (b11 7), .ref (b11 8), .ref (b11 9), .ref (b11 10), .ref (b11 11), .ref (b11 12), .ref (b11 13)])), ((b11 2), .inl (E.2.2 0, 36, .inl (fun _ => 0))), ((b11 3), .inl (E.2.2 2, 12, .inr (.inl (fun _ => 0)))), ((b11 4), .inl (E.2.2 0, 6, .inl (fun _ => 0))), ((b11 5), .inl (E.2.2 0, 6, .inl (fun _ => 0))), ((b11 6), .inl (E.2.2 0, 6, .inl (fun _ => 0))), ((b11 7), .inl (E.2.2 0, 10, .inl (fun _ => 0))), ((b11 8), .inl (E.2.2 0, 10, .inl (fun _ => 0))), ((b11 9), .inl (E.2.2 0, 10, .inl (fun _ => 0))), ((b11 10), .inl (E.2.2 0, 10, .inl (fun _ => 0))), ((b11 11), .inl (E.2.2 0, 10, .inl (fun _ => 0))), ((b11 12), .inl (E.2.2 0, 10, .inl (fun _ => 0))), ((b11 13), .inl (E.2.2 0, 60, .inl (fun _ => 0))), ((b11 14), .inl (E.2.2 0, 6, .inl (fun _ => 0))), ((b11 15), .inl (E.2.2 0, 6, .inl (fun _ => 0))), ((b11 16), .inl (E.2.2 0, 6, .inl (fun _ => 0))), ((b11 17), .inl (E.2.2 2, 20, .inr (.inl (fun _ => 0)))), ((b11 18), .inl (E.2.2 0, 10, .inl (fun _ => 0))), ((b11 19), .inl (E.2.2 0, 10, .inl (fun _ => 0))), (q13, .inl (E.2.2 4, 3, .inr (.inr (.inr (.inr (fun _ => none)))))), (q14, .inr (1, [.ref (b18 1), .int 0, .int 0, .ref (b18 2)])), ((b18 1), .inl (E.2.2 0, 36, .inl (fun _ => 0))), ((b18 2), .inl (E.2.2 0, 3, .inl (fun _ => 0))), (q20, .inr (2, [.int 0, .int 0, .int 0, .int 0, .ref (b24 1), .ref (b24 2), .ref (b24 3), .ref (b24 4), .ref (b24 5), .int 0, .int 0])), ((b24 1), .inl (E.2.2 0, 432, .inl (fun _ => 0))), ((b24 2), .inl (E.2.2 0, 432, .inl (fun _ => 0))), ((b24 3), .inl (E.2.2 0, 72, .inl (fun _ => 0))), ((b24 4), .inl (E.2.2 0, 78, .inl (fun _ => 0))), ((b24 5), .inl (E.2.2 2, 78, .inr (.inl (fun _ => 0)))), (q26, .inr (4, [.int 0, .int 0, .int 0, .ref (b30 1), .int 0, .int 0, .int 0, .int 0, .int 0, .ref (b30 2)])), ((b30 1), .inl (E.2.2 0, 11, .inl (fun _ => 0))), ((b30 2), .inl (E.2.2 0, 132, .inl (fun _ => 0)))] 48 3386
  refine mp_new hF (mp_lnX9_50) ⟨(Nat.le_of_ble_eq_true rfl), (Nat.le_of_ble_eq_true rfl)⟩ (by decide +kernel) (fun q32 => ?_)
  show mp_W E X 1 71 [(0, .ref h0)] [.ref q32, .ref h0] [(h0, .inr (9, [.ref q1, .ref q7, .ref q13, .ref q14, .ref q20, .ref q26, .null, .null, .null])), (q1, .inr (3, [.ref (b5 1), .int 0, .ref (b5 2), .int 0, .int (-1), .int 0, .int 0, .int 0, .int 0, .int 0])), ((b5 1), .inl (E.2.2 1, 1600, .inl (fun _ => 0))), ((b5 2), .inr (7, [.int 0, .int 0, .int 0, .int 0, .int 0, .int 0, .ref (b5 3), .ref (b5 4), .ref (b5 5), .ref (b5 6), .ref (b5 7), .ref (b5 8), .ref (b5 9), .ref (b5 10), .ref (b5 11), .ref (b5 12), .ref (b5 13), .ref (b5 14)])), ((b5 3), .inl (E.2.2 0, 36, .inl (fun _ => 0))), ((b5 4), .inl (E.2.2 2, 12, .inr (.inl (fun _ => 0)))), ((b5 5), .inl (E.2.2 0, 6, .inl (fun _ => 0))), ((b5 6), .inl (E.2.2 0, 6, .inl (fun _ => 0))), ((b5 7), .inl (E.2.2 0, 6, .inl (fun _ => 0))), ((b5 8), .inl (E.2.2 0, 10, .inl (fun _ => 0))), ((b5 9), .inl (E.2.2 0, 10, .inl (fun _ => 0))), ((b5 10), .inl (E.2.2 0, 10, .inl (fun _ => 0))), ((b5 11), .inl (E.2.2 0, 10, .inl (fun _ => 0))), ((b5 12), .inl (E.2.2 0, 10, .inl (fun _ => 0))), ((b5 13), .inl (E.2.2 0, 10, .inl (fun _ => 0))), ((b5 14), .inl (E.2.2 0, 60, .inl (fun _ => 0))), (q7, .inr (0, [.ref (b11 1), .int 0, .ref (b11 14), .ref (b11 15), .ref (b11 16), .ref (b11 17), .ref (b11 18), .ref (b11 19)])), ((b11 1), .inr (7, [.int 0, .int 0, .int 0, .int 0, .int 0, .int 0, .ref (b11 2), .ref (b11 3), .ref (b11 4), .ref (b11 5), .ref (b11 6), .ref (b11 7), .ref (b11 8), .ref (b11 9), .ref (b11 10), .ref (b11 11), .ref (b11 12), .ref (b11 13)])), ((b11 2), .inl (E.2.2 0, 36, .inl (fun _ => 0))), ((b11 3), .inl (E.2.2 2, 12, .inr (.inl (fun _ => 0)))), ((b11 4), .inl (E.2.2 0, 6, .inl (fun _ => 0))), ((b11 5), .inl (E.2.2 0, 6, .inl (fun _ => 0))), ((b11 6), .inl (E.2.2 0, 6, .inl (fun _ => 0))), ((b11 7), .inl (E.2.2 0, 10, .inl (fun _ => 0))), ((b11 8), .inl (E.2.2 0, 10, .inl (fun _ => 0))), ((b11 9), .inl (E.2.2 0, 10, .inl (fun _ => 0))), ((b11 10), .inl (E.2.2 0, 10, .inl (fun _ => 0))), ((b11 11), .inl (E.2.2 0, 10, .inl (fun _ => 0))), ((b11 12), .inl (E.2.2 0, 10, .inl (fun _ => 0))), ((b11 13), .inl (E.2.2 0, 60, .inl (fun _ => 0))), ((b11 14), .inl (E.2.2 0, 6, .inl (fun _ => 0))), ((b11 15), .inl (E.2.2 0, 6, .inl (fun _ => 0))), ((b11 16), .inl (E.2.2 0, 6, .inl (fun _ => 0))), ((b11 17), .inl (E.2.2 2, 20, .inr (.inl (fun _ => 0)))), ((b11 18), .inl (E.2.2 0, 10, .inl (fun _ => 0))), ((b11 19), .inl (E.2.2 0, 10, .inl (fun _ => 0))), (q13, .inl (E.2.2 4, 3, .inr (.inr (.inr (.inr (fun _ => none)))))), (q14, .inr (1, [.ref (b18 1), .int 0, .int 0, .ref (b18 2)])), ((b18 1), .inl (E.2.2 0, 36, .inl (fun _ => 0))), ((b18 2), .inl (E.2.2 0, 3, .inl (fun _ => 0))), (q20, .inr (2, [.int 0, .int 0, .int 0, .int 0, .ref (b24 1), .ref (b24 2), .ref (b24 3), .ref (b24 4), .ref (b24 5), .int 0, .int 0])), ((b24 1), .inl (E.2.2 0, 432, .inl (fun _ => 0))), ((b24 2), .inl (E.2.2 0, 432, .inl (fun _ => 0))), ((b24 3), .inl (E.2.2 0, 72, .inl (fun _ => 0))), ((b24 4), .inl (E.2.2 0, 78, .inl (fun _ => 0))), ((b24 5), .inl (E.2.2 2, 78, .inr (.inl (fun _ => 0)))), (q26, .inr (4, [.int 0, .int 0, .int 0, .ref (b30 1), .int 0, .int 0, .int 0, .int 0, .int 0, .ref (b30 2)])), ((b30 1), .inl (E.2.2 0, 11, .inl (fun _ => 0))), ((b30 2), .inl (E.2.2 0, 132, .inl (fun _ => 0))), (q32, .inr (6, [.int 0, .null, .null]))] 49 3389
  refine mp_run hF mp_tabX9_ok [mp_i .dup] (by decide +kernel) ?_
  refine And.intro rfl ?_
  show mp_W E X 1 72 [(0, .ref h0)] [.ref q32, .ref q32, .ref h0] [(h0, .inr (9, [.ref q1, .ref q7, .ref q13, .ref q14, .ref q20, .ref q26, .null, .null, .null])), (q1, .inr (3, [.ref (b5 1), .int 0, .ref (b5 2), .int 0, .int (-1), .int 0, .int 0, .int 0, .int 0, .int 0])), ((b5 1), .inl (E.2.2 1, 1600, .inl (fun _ => 0))), ((b5 2), .inr (7, [.int 0, .int 0, .int 0, .int 0, .int 0, .int 0, .ref (b5 3), .ref (b5 4), .ref (b5 5), .ref (b5 6), .ref (b5 7), .ref (b5 8), .ref (b5 9), .ref (b5 10), .ref (b5 11), .ref (b5 12), .ref (b5 13), .ref (b5 14)])), ((b5 3), .inl (E.2.2 0, 36, .inl (fun _ => 0))), ((b5 4), .inl (E.2.2 2, 12, .inr (.inl (fun _ => 0)))), ((b5 5), .inl (E.2.2 0, 6, .inl (fun _ => 0))), ((b5 6), .inl (E.2.2 0, 6, .inl (fun _ => 0))), ((b5 7), .inl (E.2.2 0, 6, .inl (fun _ => 0))), ((b5 8), .inl (E.2.2 0, 10, .inl (fun _ => 0))), ((b5 9), .inl (E.2.2 0, 10, .inl (fun _ => 0))), ((b5 10), .inl (E.2.2 0, 10, .inl (fun _ => 0))), ((b5 11), .inl (E.2.2 0, 10, .inl (fun _ => 0))), ((b5 12), .inl (E.2.2 0, 10, .inl (fun _ => 0))), ((b5 13), .inl (E.2.2 0, 10, .inl (fun _ => 0))), ((b5 14), .inl (E.2.2 0, 60, .inl (fun _ => 0))), (q7, .inr (0, [.ref (b11 1), .int 0, .ref (b11 14), .ref (b11 15), .ref (b11 16), .ref (b11 17), .ref (b11 18), .ref (b11 19)])), ((b11 1), .inr (7, [.int 0, .int 0, .int 0, .int 0, .int 0, .int 0, .ref (b11 2), .ref (b11 3), .ref (b11 4), .ref (b11 5), .ref (b11 6), .ref (b11 7), .ref (b11 8), .ref (b11 9), .ref (b11 10), .ref (b11 11), .ref (b11 12), .ref (b11 13)])), ((b11 2), .inl (E.2.2 0, 36, .inl (fun _ => 0))), ((b11 3), .inl (E.2.2 2, 12, .inr (.inl (fun _ => 0)))), ((b11 4), .inl (E.2.2 0, 6, .inl (fun _ => 0))), ((b11 5), .inl (E.2.2 0, 6, .inl (fun _ => 0))), ((b11 6), .inl (E.2.2 0, 6, .inl (fun _ => 0))), ((b11 7), .inl (E.2.2 0, 10, .inl (fun _ => 0))), ((b11 8), .inl (E.2.2 0, 10, .inl (fun _ => 0))), ((b11 9), .inl (E.2.2 0, 10, .inl (fun _ => 0))), ((b11 10), .inl (E.2.2 0, 10, .inl (fun _ => 0))), ((b11 11), .inl (E.2.2 0, 10, .inl (fun _ => 0))), ((b11 12), .inl (E.2.2 0, 10, .inl (fun _ => 0))), ((b11 13), .inl (E.2.2 0, 60, .inl (fun _ => 0))), ((b11 14), .inl (E.2.2 0, 6, .inl (fun _ => 0))), ((b11 15), .inl (E.2.2 0, 6, .inl (fun _ => 0))), ((b11 16), .inl (E.2.2 0, 6, .inl (fun _ => 0))), ((b11 17), .inl (E.2.2 2, 20, .inr (.inl (fun _ => 0)))), ((b11 18), .inl (E.2.2 0, 10, .inl (fun _ => 0))), ((b11 19), .inl (E.2.2 0, 10, .inl (fun _ => 0))), (q13, .inl (E.2.2 4, 3, .inr (.inr (.inr (.inr (fun _ => none)))))), (q14, .inr (1, [.ref (b18 1), .int 0, .int 0, .ref (b18 2)])), ((b18 1), .inl (E.2.2 0, 36, .inl (fun _ => 0))), ((b18 2), .inl (E.2.2 0, 3, .inl (fun _ => 0))), (q20, .inr (2, [.int 0, .int 0, .int 0, .int 0, .ref (b24 1), .ref (b24 2), .ref (b24 3), .ref (b24 4), .ref (b24 5), .int 0, .int 0])), ((b24 1), .inl (E.2.2 0, 432, .inl (fun _ => 0))), ((b24 2), .inl (E.2.2 0, 432, .inl (fun _ => 0))), ((b24 3), .inl (E.2.2 0, 72, .inl (fun _ => 0))), ((b24 4), .inl (E.2.2 0, 78, .inl (fun _ => 0))), ((b24 5), .inl (E.2.2 2, 78, .inr (.inl (fun _ => 0)))), (q26, .inr (4, [.int 0, .int 0, .int 0, .ref (b30 1), .int 0, .int 0, .int 0, .int 0, .int 0, .ref (b30 2)])), ((b30 1), .inl (E.2.2 0, 11, .inl (fun _ => 0))), ((b30 2), .inl (E.2.2 0, 132, .inl (fun _ => 0))), (q32, .inr (6, [.int 0, .null, .null]))] 49 3389
  refine mp_callI hF (As := []) (rest := [.ref q32, .ref h0]) (wr := [(h0, .inr (9, [.ref q1, .ref q7, .ref q13, .ref q14, .ref q20, .ref q26, .null, .null, .null])), (q1, .inr (3, [.ref (b5 1), .int 0, .ref (b5 2), .int 0, .int (-1), .int 0, .int 0, .int 0, .int 0, .int 0])), ((b5 1), .inl (E.2.2 1, 1600, .inl (fun _ => 0))), ((b5 2), .inr (7, [.int 0, .int 0, .int 0, .int 0, .int 0, .int 0, .ref (b5 3), .ref (b5 4), .ref (b5 5), .ref (b5 6), .ref (b5 7), .ref (b5 8), .ref (b5 9), .ref (b5 10), .ref (b5 11), .ref (b5 12), .ref (b5 13), .ref (b5 14)])), ((b5 3), .inl (E.2.2 0, 36, .inl (fun _ => 0))), ((b5 4), .inl (E.2.2 2, 12, .inr (.inl (fun _ => 0)))), ((b5 5), .inl (E.2.2 0, 6, .inl (fun _ => 0))), ((b5 6), .inl (E.2.2 0, 6, .inl (fun _ => 0))), ((b5 7), .inl (E.2.2 0, 6, .inl (fun _ => 0))), ((b5 8), .inl (E.2.2 0, 10, .inl (fun _ => 0))), ((b5 9), .inl (E.2.2 0, 10, .inl (fun _ => 0))), ((b5 10), .inl (E.2.2 0, 10, .inl (fun _ => 0))), ((b5 11), .inl (E.2.2 0, 10, .inl (fun _ => 0))), ((b5 12), .inl (E.2.2 0, 10, .inl (fun _ => 0))), ((b5 13), .inl (E.2.2 0, 10, .inl (fun _ => 0))), ((b5 14), .inl (E.2.2 0, 60, .inl (fun _ => 0))), (q7, .inr (0, [.ref (b11 1), .int 0, .ref (b11 14), .ref (b11 15), .ref (b11 16), .ref (b11 17), .ref (b11 18), .ref (b11 19)])), ((b11 1), .inr (7, [.int 0, .int 0, .int 0, .int 0, .int 0, .int 0, .ref (b11 2), .ref (b11 3), .ref (b11 4), .ref (b11 5), .ref (b11 6), .ref (b11 7), .ref (b11 8), .ref (b11 9), .ref (b11 10), .ref (b11 11), .ref (b11 12), .ref (b11 13)])), ((b11 2), .inl (E.2.2 0, 36, .inl (fun _ => 0))), ((b11 3), .inl (E.2.2 2, 12, .inr (.inl (fun _ => 0)))), ((b11 4), .inl (E.2.2 0, 6, .inl (fun _ => 0))), ((b11 5), .inl (E.2.2 0, 6, .inl (fun _ => 0))), ((b11 6), .inl (E.2.2 0, 6, .inl (fun _ => 0))), ((b11 7), .inl (E.2.2 0, 10, .inl (fun _ => 0))), ((b11 8), .inl (E.2.2 0, 10, .inl (fun _ => 0))), ((b11 9), .inl (E.2.2 0, 10, .inl (fun _ => 0))), ((b11 10), .inl (E.2.2 0, 10, .inl (fun _ => 0))), ((b11 11), .inl (E.2.2 0, 10, .inl (fun _ => 0))), ((b11 12), .inl (E.2.2 0, 10, .inl (fun _ => 0))), ((b11 13), .inl (E.2.2 0, 60, .inl (fun _ => 0))), ((b11 14), .inl (E.2.2 0, 6, .inl (fun _ => 0))), ((b11 15), .inl (E.2.2 0, 6, .inl (fun _ => 0))), ((b11 16), .inl (E.2.2 0, 6, .inl (fun _ => 0))), ((b11 17), .inl (E.2.2 2, 20, .inr (.inl (fun _ => 0)))), ((b11 18), .inl (E.2.2 0, 10, .inl (fun _ => 0))), ((b11 19), .inl (E.2.2 0, 10, .inl (fun _ => 0))), (q13, .inl (E.2.2 4, 3, .inr (.inr (.inr (.inr (fun _ => none)))))), (q14, .inr (1, [.ref (b18 1), .int 0, .int 0, .ref (b18 2)])), ((b18 1), .inl (E.2.2 0, 36, .inl (fun _ => 0))), ((b18 2), .inl (E.2.2 0, 3, .inl (fun _ => 0))), (q20, .inr (2, [.int 0, .int 0, .int 0, .int 0, .ref (b24 1), .ref (b24 2), .ref (b24 3), .ref (b24 4), .ref (b24 5), .int 0, .int 0])), ((b24 1), .inl (E.2.2 0, 432, .inl (fun _ => 0))), ((b24 2), .inl (E.2.2 0, 432, .inl (fun _ => 0))), ((b24 3), .inl (E.2.2 0, 72, .inl (fun _ => 0))), ((b24 4), .inl (E.2.2 0, 78, .inl (fun _ => 0))), ((b24 5), .inl (E.2.2 2, 78, .inr (.inl (fun _ => 0)))), (q26, .inr (4, [.int 0, .int 0, .int 0, .ref (b30 1), .int 0, .int 0, .int 0, .int 0, .int 0, .ref (b30 2)])), ((b30 1), .inl (E.2.2 0, 11, .inl (fun _ => 0))), ((b30 2), .inl (E.2.2 0, 132, .inl (fun _ => 0)))]) (k_Threat E q32) mp_lkX9_52 [49] [0, 1, 2, 3, 4, 5, 6, 7, 8, 9, 10, 11, 12, 13, 14, 15, 16, 17, 18, 19, 20, 21, 22, 23, 24, 25, 26, 27, 28, 29, 30, 31, 32, 33, 34, 35, 36, 37, 38, 39, 40, 41, 42, 43, 44, 45, 46, 47, 48] rfl rfl rfl rfl rfl ⟨(Nat.le_of_ble_eq_true rfl), (Nat.le_of_ble_eq_true rfl), (Nat.le_of_ble_eq_true rfl), (Nat.le_of_ble_eq_true rfl)⟩ (Nat.le_of_ble_eq_true rfl) (by decide +kernel) (fun v33 w34 h35 => ?_)
  obtain ⟨rfl, b36, g37, h38, rfl⟩ := h35
  clear h38
  show mp_W E X 1 75 [(0, .ref h0)] [.ref q32, .ref h0] [(h0, .inr (9, [.ref q1, .ref q7, .ref q13, .ref q14, .ref q20, .ref q26, .null, .null, .null])), (q1, .inr (3, [.ref (b5 1), .int 0, .ref (b5 2), .int 0, .int (-1), .int 0, .int 0, .int 0, .int 0, .int 0])), ((b5 1), .inl (E.2.2 1, 1600, .inl (fun _ => 0))), ((b5 2), .inr (7, [.int 0, .int 0, .int 0, .int 0, .int 0, .int 0, .ref (b5 3), .ref (b5 4), .ref (b5 5), .ref (b5 6), .ref (b5 7), .ref (b5 8), .ref (b5 9), .ref (b5 10), .ref (b5 11), .ref (b5 12), .ref (b5 13), .ref (b5 14)])), ((b5 3), .inl (E.2.2 0, 36, .inl (fun _ => 0))), ((b5 4), .inl (E.2.2 2, 12, .inr (.inl (fun _ => 0)))), ((b5 5), .inl (E.2.2 0, 6, .inl (fun _ => 0))), ((b5 6), .inl (E.2.2 0, 6, .inl (fun _ => 0))), ((b5 7), .inl (E.2.2 0, 6, .inl (fun _ => 0))), ((b5 8), .inl (E.2.2 0, 10, .inl (fun _ => 0))), ((b5 9), .inl (E.2.2 0, 10, .inl (fun _ => 0))), ((b5 10), .inl (E.2.2 0, 10, .inl (fun _ => 0))), ((b5 11), .inl (E.2.2 0, 10, .inl (fun _ => 0))), ((b5 12), .inl (E.2.2 0, 10, .inl (fun _ => 0))), ((b5 13), .inl (E.2.2 0, 10, .inl (fun _ => 0))), ((b5 14), .inl (E.2.2 0, 60, .inl (fun _ => 0))), (q7, .inr (0, [.ref (b11 1), .int 0, .ref (b11 14), .ref (b11 15), .ref (b11 16), .ref (b11 17), .ref (b11 18), .ref (b11 19)])), ((b11 1), .inr (7, [.int 0, .int 0, .int 0, .int 0, .int 0, .int 0, .ref (b11 2), .ref (b11 3), .ref (b11 4), .ref (b11 5), .ref (b11 6), .ref (b11 7), .ref (b11 8), .ref (b11 9), .ref (b11 10), .ref (b11 11), .ref (b11 12), .ref (b11 13)])), ((b11 2), .inl (E.2.2 0, 36, .inl (fun _ => 0))), ((b11 3), .inl (E.2.2 2, 12, .inr (.inl (fun _ => 0)))), ((b11 4), .inl (E.2.2 0, 6, .inl (fun _ => 0))), ((b11 5), .inl (E.2.2 0, 6, .inl (fun _ => 0))), ((b11 6), .inl (E.2.2 0, 6, .inl (fun _ => 0))), ((b11 7), .inl (E.2.2 0, 10, .inl (fun _ => 0))), ((b11 8), .inl (E.2.2 0, 10, .inl (fun _ => 0))), ((b11 9), .inl (E.2.2 0, 10, .inl (fun _ => 0))), ((b11 10), .inl (E.2.2 0, 10, .inl (fun _ => 0))), ((b11 11), .inl (E.2.2 0, 10, .inl (fun _ => 0))), ((b11 12), .inl (E.2.2 0, 10, .inl (fun _ => 0))), ((b11 13), .inl (E.2.2 0, 60, .inl (fun _ => 0))), ((b11 14), .inl (E.2.2 0, 6, .inl (fun _ => 0))), ((b11 15), .inl (E.2.2 0, 6, .inl (fun _ => 0))), ((b11 16), .inl (E.2.2 0, 6, .inl (fun _ => 0))), ((b11 17), .inl (E.2.2 2, 20, .inr (.inl (fun _ => 0)))), ((b11 18), .inl (E.2.2 0, 10, .inl (fun _ => 0))), ((b11 19), .inl (E.2.2 0, 10, .inl (fun _ => 0))), (q13, .inl (E.2.2 4, 3, .inr (.inr (.inr (.inr (fun _ => none)))))), (q14, .inr (1, [.ref (b18 1), .int 0, .int 0, .ref (b18 2)])), ((b18 1), .inl (E.2.2 0, 36, .inl (fun _ => 0))), ((b18 2), .inl (E.2.2 0, 3, .inl (fun _ => 0))), (q20, .inr (2, [.int 0, .int 0, .int 0, .int 0, .ref (b24 1), .ref (b24 2), .ref (b24 3), .ref (b24 4), .ref (b24 5), .int 0, .int 0])), ((b24 1), .inl (E.2.2 0, 432, .inl (fun _ => 0))), ((b24 2), .inl (E.2.2 0, 432, .inl (fun _ => 0))), ((b24 3), .inl (E.2.2 0, 72, .inl (fun _ => 0))), ((b24 4), .inl (E.2.2 0, 78, .inl (fun _ => 0))), ((b24 5), .inl (E.2.2 2, 78, .inr (.inl (fun _ => 0)))), (q26, .inr (4, [.int 0, .int 0, .int 0, .ref (b30 1), .int 0, .int 0, .int 0, .int 0, .int 0, .ref (b30 2)])), ((b30 1), .inl (E.2.2 0, 11, .inl (fun _ => 0))), ((b30 2), .inl (E.2.2 0, 132, .inl (fun _ => 0))), (q32, .inr (6, [.int 0, .ref (b36 1), .ref (b36 2)])), ((b36 1), .inl (E.2.2 0, 8, .inl (fun _ => 0))), ((b36 2), .inl (E.2.2 0, 100, .inl g37))] 51 3497
  refine mp_run hF mp_tabX9_ok [mp_h (.putfield 53) [42, 0]] (by decide +kernel) ?_
  refine And.intro rfl (And.intro rfl (And.intro rfl (And.intro rfl (And.intro (Nat.le_of_ble_eq_true rfl) ?_))))
  show mp_W E X 1 78 [(0, .ref h0)] [] [(h0, .inr (9, [.ref q1, .ref q7, .ref q13, .ref q14, .ref q20, .ref q26, .ref q32, .null, .null])), (q1, .inr (3, [.ref (b5 1), .int 0, .ref (b5 2), .int 0, .int (-1), .int 0, .int 0, .int 0, .int 0, .int 0])), ((b5 1), .inl (E.2.2 1, 1600, .inl (fun _ => 0))), ((b5 2), .inr (7, [.int 0, .int 0, .int 0, .int 0, .int 0, .int 0, .ref (b5 3), .ref (b5 4), .ref (b5 5), .ref (b5 6), .ref (b5 7), .ref (b5 8), .ref (b5 9), .ref (b5 10), .ref (b5 11), .ref (b5 12), .ref (b5 13), .ref (b5 14)])), ((b5 3), .inl (E.2.2 0, 36, .inl (fun _ => 0))), ((b5 4), .inl (E.2.2 2, 12, .inr (.inl (fun _ => 0)))), ((b5 5), .inl (E.2.2 0, 6, .inl (fun _ => 0))), ((b5 6), .inl (E.2.2 0, 6, .inl (fun _ => 0))), ((b5 7), .inl (E.2.2 0, 6, .inl (fun _ => 0))), ((b5 8), .inl (E.2.2 0, 10, .inl (fun _ => 0))), ((b5 9), .inl (E.2.2 0, 10, .inl (fun _ => 0))), ((b5 10), .inl (E.2.2 0, 10, .inl (fun _ => 0))), ((b5 11), .inl (E.2.2 0, 10, .inl (fun _ => 0))), ((b5 12), .inl (E.2.2 0, 10, .inl (fun _ => 0))), ((b5 13), .inl (E.2.2 0, 10, .inl (fun _ => 0))), ((b5 14), .inl (E.2.2 0, 60, .inl (fun _ => 0))), (q7, .inr (0, [.ref (b11 1), .int 0, .ref (b11 14), .ref (b11 15), .ref (b11 16), .ref (b11 17), .ref (b11 18), .ref (b11 19)])), ((b11 1), .inr (7, [.int 0, .int 0, .int 0, .int 0, .int 0, .int 0, .ref (b11 2), .ref (b11 3), .ref (b11 4), .ref (b11 5), .ref (b11 6), .ref (b11 7), .ref (b11 8), .ref (b11 9), .ref (b11 10), .ref (b11 11), .ref (b11 12), .ref (b11 13)])), ((b11 2), .inl (E.2.2 0, 36, .inl (fun _ => 0))), ((b11 3), .inl (E.2.2 2, 12, .inr (.inl (fun _ => 0)))), ((b11 4), .inl (E.2.2 0, 6, .inl (fun _ => 0))), ((b11 5), .inl (E.2.2 0, 6, .inl (fun _ => 0))), ((b11 6), .inl (E.2.2 0, 6, .inl (fun _ => 0))), ((b11 7), .inl (E.2.2 0, 10, .inl (fun _ => 0))), ((b11 8), .inl (E.2.2 0, 10, .inl (fun _ => 0))), ((b11 9), .inl (E.2.2 0, 10, .inl (fun _ => 0))), ((b11 10), .inl (E.2.2 0, 10, .inl (fun _ => 0))), ((b11 11), .inl (E.2.2 0, 10, .inl (fun _ => 0))), ((b11 12), .inl (E.2.2 0, 10, .inl (fun _ => 0))), ((b11 13), .inl (E.2.2 0, 60, .inl (fun _ => 0))), ((b11 14), .inl (E.2.2 0, 6, .inl (fun _ => 0))), ((b11 15), .inl (E.2.2 0, 6, .inl (fun _ => 0))), ((b11 16), .inl (E.2.2 0, 6, .inl (fun _ => 0))), ((b11 17), .inl (E.2.2 2, 20, .inr (.inl (fun _ => 0)))), ((b11 18), .inl (E.2.2 0, 10, .inl (fun _ => 0))), ((b11 19), .inl (E.2.2 0, 10, .inl (fun _ => 0))), (q13, .inl (E.2.2 4, 3, .inr (.inr (.inr (.inr (fun _ => none)))))), (q14, .inr (1, [.ref (b18 1), .int 0, .int 0, .ref (b18 2)])), ((b18 1), .inl (E.2.2 0, 36, .inl (fun _ => 0))), ((b18 2), .inl (E.2.2 0, 3, .inl (fun _ => 0))), (q20, .inr (2, [.int 0, .int 0, .int 0, .int 0, .ref (b24 1), .ref (b24 2), .ref (b24 3), .ref (b24 4), .ref (b24 5), .int 0, .int 0])), ((b24 1), .inl (E.2.2 0, 432, .inl (fun _ => 0))), ((b24 2), .inl (E.2.2 0, 432, .inl (fun _ => 0))), ((b24 3), .inl (E.2.2 0, 72, .inl (fun _ => 0))), ((b24 4), .inl (E.2.2 0, 78, .inl (fun _ => 0))), ((b24 5), .inl (E.2.2 2, 78, .inr (.inl (fun _ => 0)))), (q26, .inr (4, [.int 0, .int 0, .int 0, .ref (b30 1), .int 0, .int 0, .int 0, .int 0, .int 0, .ref (b30 2)])), ((b30 1), .inl (E.2.2 0, 11, .inl (fun _ => 0))), ((b30 2), .inl (E.2.2 0, 132, .inl (fun _ => 0))), (q32, .inr (6, [.int 0, .ref (b36 1), .ref (b36 2)])), ((b36 1), .inl (E.2.2 0, 8, .inl (fun _ => 0))), ((b36 2), .inl (E.2.2 0, 100, .inl g37))] 51 3497
  refine mp_run hF mp_tabX9_ok [mp_i (.aload_n 0)] (by decide +kernel) ?_
  show mp_W E X 1 79 [(0, .ref h0)] [.ref h0] [(h0, .inr (9, [.ref q1, .ref q7, .ref q13, .ref q14, .ref q20, .ref q26, .ref q32, .null, .null])), (q1, .inr (3, [.ref (b5 1), .int 0, .ref (b5 2), .int 0, .int (-1), .int 0, .int 0, .int 0, .int 0, .int 0])), ((b5 1), .inl (E.2.2 1, 1600, .inl (fun _ => 0))), ((b5 2), .inr (7, [.int 0, .int 0, .int 0, .int 0, .int 0, .int 0, .ref (b5 3), .ref (b5 4), .ref (b5 5), .ref (b5 6), .ref (b5 7), .ref (b5 8), .ref (b5 9), .ref (b5 10), .ref (b5 11), .ref (b5 12), .ref (b5 13), .ref (b5 14)])), ((b5 3), .inl (E.2.2 0, 36, .inl (fun _ => 0))), ((b5 4), .inl (E.2.2 2, 12, .inr (.inl (fun _ => 0)))), ((b5 5), .inl (E.2.2 0, 6, .inl (fun _ => 0))), ((b5 6), .inl (E.2.2 0, 6, .inl (fun _ => 0))), ((b5 7), .inl (E.2.2 0, 6, .inl (fun _ => 0))), ((b5 8), .inl (E.2.2 0, 10, .inl (fun _ => 0))), ((b5 9), .inl (E.2.2 0, 10, .inl (fun _ => 0))), ((b5 10), .inl (E.2.2 0, 10, .inl (fun _ => 0))), ((b5 11), .inl (E.2.2 0, 10, .inl (fun _ => 0))), ((b5 12), .inl (E.2.2 0, 10, .inl (fun _ => 0))), ((b5 13), .inl (E.2.2 0, 10, .inl (fun _ => 0))), ((b5 14), .inl (E.2.2 0, 60, .inl (fun _ => 0))), (q7, .inr (0, [.ref (b11 1), .int 0, .ref (b11 14), .ref (b11 15), .ref (b11 16), .ref (b11 17), .ref (b11 18), .ref (b11 19)])), ((b11 1), .inr (7, [.int 0, .int 0, .int 0, .int 0, .int 0, .int 0, .ref (b11 2), .ref (b11 3), .ref (b11 4), .ref (b11 5), .ref (b11 6), .ref (b11 7), .ref (b11 8), .ref (b11 9), .ref (b11 10), .ref (b11 11), .ref (b11 12), .ref (b11 13)])), ((b11 2), .inl (E.2.2 0, 36, .inl (fun _ => 0))), ((b11 3), .inl (E.2.2 2, 12, .inr (.inl (fun _ => 0)))), ((b11 4), .inl (E.2.2 0, 6, .inl (fun _ => 0))), ((b11 5), .inl (E.2.2 0, 6, .inl (fun _ => 0))), ((b11 6), .inl (E.2.2 0, 6, .inl (fun _ => 0))), ((b11 7), .inl (E.2.2 0, 10, .inl (fun _ => 0))), ((b11 8), .inl (E.2.2 0, 10, .inl (fun _ => 0))), ((b11 9), .inl (E.2.2 0, 10, .inl (fun _ => 0))), ((b11 10), .inl (E.2.2 0, 10, .inl (fun _ => 0))), ((b11 11), .inl (E.2.2 0, 10, .inl (fun _ => 0))), ((b11 12), .inl (E.2.2 0, 10, .inl (fun _ => 0))), ((b11 13), .inl (E.2.2 0, 60, .inl (fun _ => 0))), ((b11 14), .inl (E.2.2 0, 6, .inl (fun _ => 0))), ((b11 15), .inl (E.2.2 0, 6, .inl (fun _ => 0))), ((b11 16), .inl (E.2.2 0, 6, .inl (fun _ => 0))), ((b11 17), .inl (E.2.2 2, 20, .inr (.inl (fun _ => 0)))), ((b11 18), .inl (E.2.2 0, 10, .inl (fun _ => 0))), ((b11 19), .inl (E.2.2 0, 10, .inl (fun _ => 0))), (q13, .inl (E.2.2 4, 3, .inr (.inr (.inr (.inr (fun _ => none)))))), (q14, .inr (1, [.ref (b18 1), .int 0, .int 0, .ref (b18 2)])), ((b18 1), .inl (E.2.2 0, 36, .inl (fun _ => 0))), ((b18 2), .inl (E.2.2 0, 3, .inl (fun _ => 0))), (q20, .inr (2, [.int 0, .int 0, .int 0, .int 0, .ref (b24 1), .ref (b24 2), .ref (b24 3), .ref (b24 4), .ref (b24 5), .int 0, .int 0])), ((b24 1), .inl (E.2.2 0, 432, .inl (fun _ => 0))), ((b24 2), .inl (E.2.2 0, 432, .inl (fun _ => 0))), ((b24 3), .inl (E.2.2 0, 72, .inl (fun _ => 0))), ((b24 4), .inl (E.2.2 0, 78, .inl (fun _ => 0))), ((b24 5), .inl (E.2.2 2, 78, .inr (.inl (fun _ => 0)))), (q26, .inr (4, [.int 0, .int 0, .int 0, .ref (b30 1), .int 0, .int 0, .int 0, .int 0, .int 0, .ref (b30 2)])), ((b30 1), .inl (E.2.2 0, 11, .inl (fun _ => 0))), ((b30 2), .inl (E.2.2 0, 132, .inl (fun _ => 0))), (q32, .inr (6, [.int 0, .ref (b36 1), .ref (b36 2)])), ((b36 1), .inl (E.2.2 0, 8, .inl (fun _ => 0))), ((b36 2), .inl (E.2.2 0, 100, .inl g37))] 51 3497
  refine mp_new hF (mp_lnX9_57) ⟨(Nat.le_of_ble_eq_true rfl), (Nat.le_of_ble_eq_true rfl)⟩ (by decide +kernel) (fun q39 => ?_)
  show mp_W E X 1 82 [(0, .ref h0)] [.ref q39, .ref h0] [(h0, .inr (9, [.ref q1, .ref q7, .ref q13, .ref q14, .ref q20, .ref q26, .ref q32, .null, .null])), (q1, .inr (3, [.ref (b5 1), .int 0, .ref (b5 2), .int 0, .int (-1), .int 0, .int 0, .int 0, .int 0, .int 0])), ((b5 1), .inl (E.2.2 1, 1600, .inl (fun _ => 0))), ((b5 2), .inr (7, [.int 0, .int 0, .int 0, .int 0, .int 0, .int 0, .ref (b5 3), .ref (b5 4), .ref (b5 5), .ref (b5 6), .ref (b5 7), .ref (b5 8), .ref (b5 9), .ref (b5 10), .ref (b5 11), .ref (b5 12), .ref (b5 13), .ref (b5 14)])), ((b5 3), .inl (E.2.2 0, 36, .inl (fun _ => 0))), ((b5 4), .inl (E.2.2 2, 12, .inr (.inl (fun _ => 0)))), ((b5 5), .inl (E.2.2 0, 6, .inl (fun _ => 0))), ((b5 6), .inl (E.2.2 0, 6, .inl (fun _ => 0))), ((b5 7), .inl (E.2.2 0, 6, .inl (fun _ => 0))), ((b5 8), .inl (E.2.2 0, 10, .inl (fun _ => 0))), ((b5 9), .inl (E.2.2 0, 10, .inl (fun _ => 0))), ((b5 10), .inl (E.2.2 0, 10, .inl (fun _ => 0))), ((b5 11), .inl (E.2.2 0, 10, .inl (fun _ => 0))), ((b5 12), .inl (E.2.2 0, 10, .inl (fun _ => 0))), ((b5 13), .inl (E.2.2 0, 10, .inl (fun _ => 0))), ((b5 14), .inl (E.2.2 0, 60, .inl (fun _ => 0))), (q7, .inr (0, [.ref (b11 1), .int 0, .ref (b11 14), .ref (b11 15), .ref (b11 16), .ref (b11 17), .ref (b11 18), .ref (b11 19)])), ((b11 1), .inr (7, [.int 0, .int 0, .int 0, .int 0, .int 0, .int 0, .ref (b11 2), .ref (b11 3), .ref (b11 4), .ref (b11 5), .ref (b11 6), .ref (b11 7), .ref (b11 8), .ref (b11 9), .ref (b11 10), .ref (b11 11), .ref (b11 12), .ref (b11 13)])), ((b11 2), .inl (E.2.2 0, 36, .inl (fun _ => 0))), ((b11 3), .inl (E.2.2 2, 12, .inr (.inl (fun _ => 0)))), ((b11 4), .inl (E.2.2 0, 6, .inl (fun _ => 0))), ((b11 5), .inl (E.2.2 0, 6, .inl (fun _ => 0))), ((b11 6), .inl (E.2.2 0, 6, .inl (fun _ => 0))), ((b11 7), .inl (E.2.2 0, 10, .inl (fun _ => 0))), ((b11 8), .inl (E.2.2 0, 10, .inl (fun _ => 0))), ((b11 9), .inl (E.2.2 0, 10, .inl (fun _ => 0))), ((b11 10), .inl (E.2.2 0, 10, .inl (fun _ => 0))), ((b11 11), .inl (E.2.2 0, 10, .inl (fun _ => 0))), ((b11 12), .inl (E.2.2 0, 10, .inl (fun _ => 0))), ((b11 13), .inl (E.2.2 0, 60, .inl (fun _ => 0))), ((b11 14), .inl (E.2.2 0, 6, .inl (fun _ => 0))), ((b11 15), .inl (E.2.2 0, 6, .inl (fun _ => 0))), ((b11 16), .inl (E.2.2 0, 6, .inl (fun _ => 0))), ((b11 17), .inl (E.2.2 2, 20, .inr (.inl (fun _ => 0)))), ((b11 18), .inl (E.2.2 0, 10, .inl (fun _ => 0))), ((b11 19), .inl (E.2.2 0, 10, .inl (fun _ => 0))), (q13, .inl (E.2.2 4, 3, .inr (.inr (.inr (.inr (fun _ => none)))))), (q14, .inr (1, [.ref (b18 1), .int 0, .int 0, .ref (b18 2)])), ((b18 1), .inl (E.2.2 0, 36, .inl (fun _ => 0))), ((b18 2), .inl (E.2.2 0, 3, .inl (fun _ => 0))), (q20, .inr (2, [.int 0, .int 0, .int 0, .int 0, .ref (b24 1), .ref (b24 2), .ref (b24 3), .ref (b24 4), .ref (b24 5), .int 0, .int 0])), ((b24 1), .inl (E.2.2 0, 432, .inl (fun _ => 0))), ((b24 2), .inl (E.2.2 0, 432, .inl (fun _ => 0))), ((b24 3), .inl (E.2.2 0, 72, .inl (fun _ => 0))), ((b24 4), .inl (E.2.2 0, 78, .inl (fun _ => 0))), ((b24 5), .inl (E.2.2 2, 78, .inr (.inl (fun _ => 0)))), (q26, .inr (4, [.int 0, .int 0, .int 0, .ref (b30 1), .int 0, .int 0, .int 0, .int 0, .int 0, .ref (b30 2)])), ((b30 1), .inl (E.2.2 0, 11, .inl (fun _ => 0))), ((b30 2), .inl (E.2.2 0, 132, .inl (fun _ => 0))), (q32, .inr (6, [.int 0, .ref (b36 1), .ref (b36 2)])), ((b36 1), .inl (E.2.2 0, 8, .inl (fun _ => 0))), ((b36 2), .inl (E.2.2 0, 100, .inl g37)), (q39, .inr (8, [.null, .int 0, .int 0]))] 52 3500
  refine mp_run hF mp_tabX9_ok [mp_i .dup] (by decide +kernel) ?_
  refine And.intro rfl ?_
  show mp_W E X 1 83 [(0, .ref h0)] [.ref q39, .ref q39, .ref h0] [(h0, .inr (9, [.ref q1, .ref q7, .ref q13, .ref q14, .ref q20, .ref q26, .ref q32, .null, .null])), (q1, .inr (3, [.ref (b5 1), .int 0, .ref (b5 2), .int 0, .int (-1), .int 0, .int 0, .int 0, .int 0, .int 0])), ((b5 1), .inl (E.2.2 1, 1600, .inl (fun _ => 0))), ((b5 2), .inr (7, [.int 0, .int 0, .int 0, .int 0, .int 0, .int 0, .ref (b5 3), .ref (b5 4), .ref (b5 5), .ref (b5 6), .ref (b5 7), .ref (b5 8), .ref (b5 9), .ref (b5 10), .ref (b5 11), .ref (b5 12), .ref (b5 13), .ref (b5 14)])), ((b5 3), .inl (E.2.2 0, 36, .inl (fun _ => 0))), ((b5 4), .inl (E.2.2 2, 12, .inr (.inl (fun _ => 0)))), ((b5 5), .inl (E.2.2 0, 6, .inl (fun _ => 0))), ((b5 6), .inl (E.2.2 0, 6, .inl (fun _ => 0))), ((b5 7), .inl (E.2.2 0, 6, .inl (fun _ => 0))), ((b5 8), .inl (E.2.2 0, 10, .inl (fun _ => 0))), ((b5 9), .inl (E.2.2 0, 10, .inl (fun _ => 0))), ((b5 10), .inl (E.2.2 0, 10, .inl (fun _ => 0))), ((b5 11), .inl (E.2.2 0, 10, .inl (fun _ => 0))), ((b5 12), .inl (E.2.2 0, 10, .inl (fun _ => 0))), ((b5 13), .inl (E.2.2 0, 10, .inl (fun _ => 0))), ((b5 14), .inl (E.2.2 0, 60, .inl (fun _ => 0))), (q7, .inr (0, [.ref (b11 1), .int 0, .ref (b11 14), .ref (b11 15), .ref (b11 16), .ref (b11 17), .ref (b11 18), .ref (b11 19)])), ((b11 1), .inr (7, [.int 0, .int 0, .int 0, .int 0, .int 0, .int 0, .ref (b11 2), .ref (b11 3), .ref (b11 4), .ref (b11 5), .ref (b11 6), .ref (b11 7), .ref (b11 8), .ref (b11 9), .ref (b11 10), .ref (b11 11), .ref (b11 12), .ref (b11 13)])), ((b11 2), .inl (E.2.2 0, 36, .inl (fun _ => 0))), ((b11 3), .inl (E.2.2 2, 12, .inr (.inl (fun _ => 0)))), ((b11 4), .inl (E.2.2 0, 6, .inl (fun _ => 0))), ((b11 5), .inl (E.2.2 0, 6, .inl (fun _ => 0))), ((b11 6), .inl (E.2.2 0, 6, .inl (fun _ => 0))), ((b11 7), .inl (E.2.2 0, 10, .inl (fun _ => 0))), ((b11 8), .inl (E.2.2 0, 10, .inl (fun _ => 0))), ((b11 9), .inl (E.2.2 0, 10, .inl (fun _ => 0))), ((b11 10), .inl (E.2.2 0, 10, .inl (fun _ => 0))), ((b11 11), .inl (E.2.2 0, 10, .inl (fun _ => 0))), ((b11 12), .inl (E.2.2 0, 10, .inl (fun _ => 0))), ((b11 13), .inl (E.2.2 0, 60, .inl (fun _ => 0))), ((b11 14), .inl (E.2.2 0, 6, .inl (fun _ => 0))), ((b11 15), .inl (E.2.2 0, 6, .inl (fun _ => 0))), ((b11 16), .inl (E.2.2 0, 6, .inl (fun _ => 0))), ((b11 17), .inl (E.2.2 2, 20, .inr (.inl (fun _ => 0)))), ((b11 18), .inl (E.2.2 0, 10, .inl (fun _ => 0))), ((b11 19), .inl (E.2.2 0, 10, .inl (fun _ => 0))), (q13, .inl (E.2.2 4, 3, .inr (.inr (.inr (.inr (fun _ => none)))))), (q14, .inr (1, [.ref (b18 1), .int 0, .int 0, .ref (b18 2)])), ((b18 1), .inl (E.2.2 0, 36, .inl (fun _ => 0))), ((b18 2), .inl (E.2.2 0, 3, .inl (fun _ => 0))), (q20, .inr (2, [.int 0, .int 0, .int 0, .int 0, .ref (b24 1), .ref (b24 2), .ref (b24 3), .ref (b24 4), .ref (b24 5), .int 0, .int 0])), ((b24 1), .inl (E.2.2 0, 432, .inl (fun _ => 0))), ((b24 2), .inl (E.2.2 0, 432, .inl (fun _ => 0))), ((b24 3), .inl (E.2.2 0, 72, .inl (fun _ => 0))), ((b24 4), .inl (E.2.2 0, 78, .inl (fun _ => 0))), ((b24 5), .inl (E.2.2 2, 78, .inr (.inl (fun _ => 0)))), (q26, .inr (4, [.int 0, .int 0, .int 0, .ref (b30 1), .int 0, .int 0, .int 0, .int 0, .int 0, .ref (b30 2)])), ((b30 1), .inl (E.2.2 0, 11, .inl (fun _ => 0))), ((b30 2), .inl (E.2.2 0, 132, .inl (fun _ => 0))), (q32, .inr (6, [.int 0, .ref (b36 1), .ref (b36 2)])), ((b36 1), .inl (E.2.2 0, 8, .inl (fun _ => 0))), ((b36 2), .inl (E.2.2 0, 100, .inl g37)), (q39, .inr (8, [.null, .int 0, .int 0]))] 52 3500
  refine mp_callIN hF (As := []) (rest := [.ref q39, .ref h0]) (wr := [(h0, .inr (9, [.ref q1, .ref q7, .ref q13, .ref q14, .ref q20, .ref q26, .ref q32, .null, .null])), (q1, .inr (3, [.ref (b5 1), .int 0, .ref (b5 2), .int 0, .int (-1), .int 0, .int 0, .int 0, .int 0, .int 0])), ((b5 1), .inl (E.2.2 1, 1600, .inl (fun _ => 0))), ((b5 2), .inr (7, [.int 0, .int 0, .int 0, .int 0, .int 0, .int 0, .ref (b5 3), .ref (b5 4), .ref (b5 5), .ref (b5 6), .ref (b5 7), .ref (b5 8), .ref (b5 9), .ref (b5 10), .ref (b5 11), .ref (b5 12), .ref (b5 13), .ref (b5 14)])), ((b5 3), .inl (E.2.2 0, 36, .inl (fun _ => 0))), ((b5 4), .inl (E.2.2 2, 12, .inr (.inl (fun _ => 0)))), ((b5 5), .inl (E.2.2 0, 6, .inl (fun _ => 0))), ((b5 6), .inl (E.2.2 0, 6, .inl (fun _ => 0))), ((b5 7), .inl (E.2.2 0, 6, .inl (fun _ => 0))), ((b5 8), .inl (E.2.2 0, 10, .inl (fun _ => 0))), ((b5 9), .inl (E.2.2 0, 10, .inl (fun _ => 0))), ((b5 10), .inl (E.2.2 0, 10, .inl (fun _ => 0))), ((b5 11), .inl (E.2.2 0, 10, .inl (fun _ => 0))), ((b5 12), .inl (E.2.2 0, 10, .inl (fun _ => 0))), ((b5 13), .inl (E.2.2 0, 10, .inl (fun _ => 0))), ((b5 14), .inl (E.2.2 0, 60, .inl (fun _ => 0))), (q7, .inr (0, [.ref (b11 1), .int 0, .ref (b11 14), .ref (b11 15), .ref (b11 16), .ref (b11 17), .ref (b11 18), .ref (b11 19)])), ((b11 1), .inr (7, [.int 0, .int 0, .int 0, .int 0, .int 0, .int 0, .ref (b11 2), .ref (b11 3), .ref (b11 4), .ref (b11 5), .ref (b11 6), .ref (b11 7), .ref (b11 8), .ref (b11 9), .ref (b11 10), .ref (b11 11), .ref (b11 12), .ref (b11 13)])), ((b11 2), .inl (E.2.2 0, 36, .inl (fun _ => 0))), ((b11 3), .inl (E.2.2 2, 12, .inr (.inl (fun _ => 0)))), ((b11 4), .inl (E.2.2 0, 6, .inl (fun _ => 0))), ((b11 5), .inl (E.2.2 0, 6, .inl (fun _ => 0))), ((b11 6), .inl (E.2.2 0, 6, .inl (fun _ => 0))), ((b11 7), .inl (E.2.2 0, 10, .inl (fun _ => 0))), ((b11 8), .inl (E.2.2 0, 10, .inl (fun _ => 0))), ((b11 9), .inl (E.2.2 0, 10, .inl (fun _ => 0))), ((b11 10), .inl (E.2.2 0, 10, .inl (fun _ => 0))), ((b11 11), .inl (E.2.2 0, 10, .inl (fun _ => 0))), ((b11 12), .inl (E.2.2 0, 10, .inl (fun _ => 0))), ((b11 13), .inl (E.2.2 0, 60, .inl (fun _ => 0))), ((b11 14), .inl (E.2.2 0, 6, .inl (fun _ => 0))), ((b11 15), .inl (E.2.2 0, 6, .inl (fun _ => 0))), ((b11 16), .inl (E.2.2 0, 6, .inl (fun _ => 0))), ((b11 17), .inl (E.2.2 2, 20, .inr (.inl (fun _ => 0)))), ((b11 18), .inl (E.2.2 0, 10, .inl (fun _ => 0))), ((b11 19), .inl (E.2.2 0, 10, .inl (fun _ => 0))), (q13, .inl (E.2.2 4, 3, .inr (.inr (.inr (.inr (fun _ => none)))))), (q14, .inr (1, [.ref (b18 1), .int 0, .int 0, .ref (b18 2)])), ((b18 1), .inl (E.2.2 0, 36, .inl (fun _ => 0))), ((b18 2), .inl (E.2.2 0, 3, .inl (fun _ => 0))), (q20, .inr (2, [.int 0, .int 0, .int 0, .int 0, .ref (b24 1), .ref (b24 2), .ref (b24 3), .ref (b24 4), .ref (b24 5), .int 0, .int 0])), ((b24 1), .inl (E.2.2 0, 432, .inl (fun _ => 0))), ((b24 2), .inl (E.2.2 0, 432, .inl (fun _ => 0))), ((b24 3), .inl (E.2.2 0, 72, .inl (fun _ => 0))), ((b24 4), .inl (E.2.2 0, 78, .inl (fun _ => 0))), ((b24 5), .inl (E.2.2 2, 78, .inr (.inl (fun _ => 0)))), (q26, .inr (4, [.int 0, .int 0, .int 0, .ref (b30 1), .int 0, .int 0, .int 0, .int 0, .int 0, .ref (b30 2)])), ((b30 1), .inl (E.2.2 0, 11, .inl (fun _ => 0))), ((b30 2), .inl (E.2.2 0, 132, .inl (fun _ => 0))), (q32, .inr (6, [.int 0, .ref (b36 1), .ref (b36 2)])), ((b36 1), .inl (E.2.2 0, 8, .inl (fun _ => 0))), ((b36 2), .inl (E.2.2 0, 100, .inl g37))]) (k_Years E q39) rfl (mp_gm (j := 2112) (by decide +kernel)) mp_lkX9_59 [52] [0, 1, 2, 3, 4, 5, 6, 7, 8, 9, 10, 11, 12, 13, 14, 15, 16, 17, 18, 19, 20, 21, 22, 23, 24, 25, 26, 27, 28, 29, 30, 31, 32, 33, 34, 35, 36, 37, 38, 39, 40, 41, 42, 43, 44, 45, 46, 47, 48, 49, 50, 51] rfl rfl rfl rfl rfl ⟨(Nat.le_of_ble_eq_true rfl), (Nat.le_of_ble_eq_true rfl), (Nat.le_of_ble_eq_true rfl), (Nat.le_of_ble_eq_true rfl)⟩ (Nat.le_of_ble_eq_true rfl) (by decide +kernel) (fun v40 w41 h42 => ?_)
  obtain ⟨rfl, b43, h44, rfl⟩ := h42
  clear h44
  show mp_W E X 1 86 [(0, .ref h0)] [.ref q39, .ref h0] [(h0, .inr (9, [.ref q1, .ref q7, .ref q13, .ref q14, .ref q20, .ref q26, .ref q32, .null, .null])), (q1, .inr (3, [.ref (b5 1), .int 0, .ref (b5 2), .int 0, .int (-1), .int 0, .int 0, .int 0, .int 0, .int 0])), ((b5 1), .inl (E.2.2 1, 1600, .inl (fun _ => 0))), ((b5 2), .inr (7, [.int 0, .int 0, .int 0, .int 0, .int 0, .int 0, .ref (b5 3), .ref (b5 4), .ref (b5 5), .ref (b5 6), .ref (b5 7), .ref (b5 8), .ref (b5 9), .ref (b5 10), .ref (b5 11), .ref (b5 12), .ref (b5 13), .ref (b5 14)])), ((b5 3), .inl (E.2.2 0, 36, .inl (fun _ => 0))), ((b5 4), .inl (E.2.2 2, 12, .inr (.inl (fun _ => 0)))), ((b5 5), .inl (E.2.2 0, 6, .inl (fun _ => 0))), ((b5 6), .inl (E.2.2 0, 6, .inl (fun _ => 0))), ((b5 7), .inl (E.2.2 0, 6, .inl (fun _ => 0))), ((b5 8), .inl (E.2.2 0, 10, .inl (fun _ => 0))), ((b5 9), .inl (E.2.2 0, 10, .inl (fun _ => 0))), ((b5 10), .inl (E.2.2 0, 10, .inl (fun _ => 0))), ((b5 11), .inl (E.2.2 0, 10, .inl (fun _ => 0))), ((b5 12), .inl (E.2.2 0, 10, .inl (fun _ => 0))), ((b5 13), .inl (E.2.2 0, 10, .inl (fun _ => 0))), ((b5 14), .inl (E.2.2 0, 60, .inl (fun _ => 0))), (q7, .inr (0, [.ref (b11 1), .int 0, .ref (b11 14), .ref (b11 15), .ref (b11 16), .ref (b11 17), .ref (b11 18), .ref (b11 19)])), ((b11 1), .inr (7, [.int 0, .int 0, .int 0, .int 0, .int 0, .int 0, .ref (b11 2), .ref (b11 3), .ref (b11 4), .ref (b11 5), .ref (b11 6), .ref (b11 7), .ref (b11 8), .ref (b11 9), .ref (b11 10), .ref (b11 11), .ref (b11 12), .ref (b11 13)])), ((b11 2), .inl (E.2.2 0, 36, .inl (fun _ => 0))), ((b11 3), .inl (E.2.2 2, 12, .inr (.inl (fun _ => 0)))), ((b11 4), .inl (E.2.2 0, 6, .inl (fun _ => 0))), ((b11 5), .inl (E.2.2 0, 6, .inl (fun _ => 0))), ((b11 6), .inl (E.2.2 0, 6, .inl (fun _ => 0))), ((b11 7), .inl (E.2.2 0, 10, .inl (fun _ => 0))), ((b11 8), .inl (E.2.2 0, 10, .inl (fun _ => 0))), ((b11 9), .inl (E.2.2 0, 10, .inl (fun _ => 0))), ((b11 10), .inl (E.2.2 0, 10, .inl (fun _ => 0))), ((b11 11), .inl (E.2.2 0, 10, .inl (fun _ => 0))), ((b11 12), .inl (E.2.2 0, 10, .inl (fun _ => 0))), ((b11 13), .inl (E.2.2 0, 60, .inl (fun _ => 0))), ((b11 14), .inl (E.2.2 0, 6, .inl (fun _ => 0))), ((b11 15), .inl (E.2.2 0, 6, .inl (fun _ => 0))), ((b11 16), .inl (E.2.2 0, 6, .inl (fun _ => 0))), ((b11 17), .inl (E.2.2 2, 20, .inr (.inl (fun _ => 0)))), ((b11 18), .inl (E.2.2 0, 10, .inl (fun _ => 0))), ((b11 19), .inl (E.2.2 0, 10, .inl (fun _ => 0))), (q13, .inl (E.2.2 4, 3, .inr (.inr (.inr (.inr (fun _ => none)))))), (q14, .inr (1, [.ref (b18 1), .int 0, .int 0, .ref (b18 2)])), ((b18 1), .inl (E.2.2 0, 36, .inl (fun _ => 0))), ((b18 2), .inl (E.2.2 0, 3, .inl (fun _ => 0))), (q20, .inr (2, [.int 0, .int 0, .int 0, .int 0, .ref (b24 1), .ref (b24 2), .ref (b24 3), .ref (b24 4), .ref (b24 5), .int 0, .int 0])), ((b24 1), .inl (E.2.2 0, 432, .inl (fun _ => 0))), ((b24 2), .inl (E.2.2 0, 432, .inl (fun _ => 0))), ((b24 3), .inl (E.2.2 0, 72, .inl (fun _ => 0))), ((b24 4), .inl (E.2.2 0, 78, .inl (fun _ => 0))), ((b24 5), .inl (E.2.2 2, 78, .inr (.inl (fun _ => 0)))), (q26, .inr (4, [.int 0, .int 0, .int 0, .ref (b30 1), .int 0, .int 0, .int 0, .int 0, .int 0, .ref (b30 2)])), ((b30 1), .inl (E.2.2 0, 11, .inl (fun _ => 0))), ((b30 2), .inl (E.2.2 0, 132, .inl (fun _ => 0))), (q32, .inr (6, [.int 0, .ref (b36 1), .ref (b36 2)])), ((b36 1), .inl (E.2.2 0, 8, .inl (fun _ => 0))), ((b36 2), .inl (E.2.2 0, 100, .inl g37)), (q39, .inr (8, [.ref (b43 1), .int 0, .int 0])), ((b43 1), .inl (E.2.2 0, 10, .inl (fun _ => 0)))] 53 3510
  refine mp_run hF mp_tabX9_ok [mp_h (.putfield 60) [43, 0]] (by decide +kernel) ?_
  refine And.intro rfl (And.intro rfl (And.intro rfl (And.intro rfl (And.intro (Nat.le_of_ble_eq_true rfl) ?_))))
  show mp_W E X 1 89 [(0, .ref h0)] [] [(h0, .inr (9, [.ref q1, .ref q7, .ref q13, .ref q14, .ref q20, .ref q26, .ref q32, .ref q39, .null])), (q1, .inr (3, [.ref (b5 1), .int 0, .ref (b5 2), .int 0, .int (-1), .int 0, .int 0, .int 0, .int 0, .int 0])), ((b5 1), .inl (E.2.2 1, 1600, .inl (fun _ => 0))), ((b5 2), .inr (7, [.int 0, .int 0, .int 0, .int 0, .int 0, .int 0, .ref (b5 3), .ref (b5 4), .ref (b5 5), .ref (b5 6), .ref (b5 7), .ref (b5 8), .ref (b5 9), .ref (b5 10), .ref (b5 11), .ref (b5 12), .ref (b5 13), .ref (b5 14)])), ((b5 3), .inl (E.2.2 0, 36, .inl (fun _ => 0))), ((b5 4), .inl (E.2.2 2, 12, .inr (.inl (fun _ => 0)))), ((b5 5), .inl (E.2.2 0, 6, .inl (fun _ => 0))), ((b5 6), .inl (E.2.2 0, 6, .inl (fun _ => 0))), ((b5 7), .inl (E.2.2 0, 6, .inl (fun _ => 0))), ((b5 8), .inl (E.2.2 0, 10, .inl (fun _ => 0))), ((b5 9), .inl (E.2.2 0, 10, .inl (fun _ => 0))), ((b5 10), .inl (E.2.2 0, 10, .inl (fun _ => 0))), ((b5 11), .inl (E.2.2 0, 10, .inl (fun _ => 0))), ((b5 12), .inl (E.2.2 0, 10, .inl (fun _ => 0))), ((b5 13), .inl (E.2.2 0, 10, .inl (fun _ => 0))), ((b5 14), .inl (E.2.2 0, 60, .inl (fun _ => 0))), (q7, .inr (0, [.ref (b11 1), .int 0, .ref (b11 14), .ref (b11 15), .ref (b11 16), .ref (b11 17), .ref (b11 18), .ref (b11 19)])), ((b11 1), .inr (7, [.int 0, .int 0, .int 0, .int 0, .int 0, .int 0, .ref (b11 2), .ref (b11 3), .ref (b11 4), .ref (b11 5), .ref (b11 6), .ref (b11 7), .ref (b11 8), .ref (b11 9), .ref (b11 10), .ref (b11 11), .ref (b11 12), .ref (b11 13)])), ((b11 2), .inl (E.2.2 0, 36, .inl (fun _ => 0))), ((b11 3), .inl (E.2.2 2, 12, .inr (.inl (fun _ => 0)))), ((b11 4), .inl (E.2.2 0, 6, .inl (fun _ => 0))), ((b11 5), .inl (E.2.2 0, 6, .inl (fun _ => 0))), ((b11 6), .inl (E.2.2 0, 6, .inl (fun _ => 0))), ((b11 7), .inl (E.2.2 0, 10, .inl (fun _ => 0))), ((b11 8), .inl (E.2.2 0, 10, .inl (fun _ => 0))), ((b11 9), .inl (E.2.2 0, 10, .inl (fun _ => 0))), ((b11 10), .inl (E.2.2 0, 10, .inl (fun _ => 0))), ((b11 11), .inl (E.2.2 0, 10, .inl (fun _ => 0))), ((b11 12), .inl (E.2.2 0, 10, .inl (fun _ => 0))), ((b11 13), .inl (E.2.2 0, 60, .inl (fun _ => 0))), ((b11 14), .inl (E.2.2 0, 6, .inl (fun _ => 0))), ((b11 15), .inl (E.2.2 0, 6, .inl (fun _ => 0))), ((b11 16), .inl (E.2.2 0, 6, .inl (fun _ => 0))), ((b11 17), .inl (E.2.2 2, 20, .inr (.inl (fun _ => 0)))), ((b11 18), .inl (E.2.2 0, 10, .inl (fun _ => 0))), ((b11 19), .inl (E.2.2 0, 10, .inl (fun _ => 0))), (q13, .inl (E.2.2 4, 3, .inr (.inr (.inr (.inr (fun _ => none)))))), (q14, .inr (1, [.ref (b18 1), .int 0, .int 0, .ref (b18 2)])), ((b18 1), .inl (E.2.2 0, 36, .inl (fun _ => 0))), ((b18 2), .inl (E.2.2 0, 3, .inl (fun _ => 0))), (q20, .inr (2, [.int 0, .int 0, .int 0, .int 0, .ref (b24 1), .ref (b24 2), .ref (b24 3), .ref (b24 4), .ref (b24 5), .int 0, .int 0])), ((b24 1), .inl (E.2.2 0, 432, .inl (fun _ => 0))), ((b24 2), .inl (E.2.2 0, 432, .inl (fun _ => 0))), ((b24 3), .inl (E.2.2 0, 72, .inl (fun _ => 0))), ((b24 4), .inl (E.2.2 0, 78, .inl (fun _ => 0))), ((b24 5), .inl (E.2.2 2, 78, .inr (.inl (fun _ => 0)))), (q26, .inr (4, [.int 0, .int 0, .int 0, .ref (b30 1), .int 0, .int 0, .int 0, .int 0, .int 0, .ref (b30 2)])), ((b30 1), .inl (E.2.2 0, 11, .inl (fun _ => 0))), ((b30 2), .inl (E.2.2 0, 132, .inl (fun _ => 0))), (q32, .inr (6, [.int 0, .ref (b36 1), .ref (b36 2)])), ((b36 1), .inl (E.2.2 0, 8, .inl (fun _ => 0))), ((b36 2), .inl (E.2.2 0, 100, .inl g37)), (q39, .inr (8, [.ref (b43 1), .int 0, .int 0])), ((b43 1), .inl (E.2.2 0, 10, .inl (fun _ => 0)))] 53 3510
  refine mp_run hF mp_tabX9_ok [mp_i (.aload_n 0)] (by decide +kernel) ?_
  show mp_W E X 1 90 [(0, .ref h0)] [.ref h0] [(h0, .inr (9, [.ref q1, .ref q7, .ref q13, .ref q14, .ref q20, .ref q26, .ref q32, .ref q39, .null])), (q1, .inr (3, [.ref (b5 1), .int 0, .ref (b5 2), .int 0, .int (-1), .int 0, .int 0, .int 0, .int 0, .int 0])), ((b5 1), .inl (E.2.2 1, 1600, .inl (fun _ => 0))), ((b5 2), .inr (7, [.int 0, .int 0, .int 0, .int 0, .int 0, .int 0, .ref (b5 3), .ref (b5 4), .ref (b5 5), .ref (b5 6), .ref (b5 7), .ref (b5 8), .ref (b5 9), .ref (b5 10), .ref (b5 11), .ref (b5 12), .ref (b5 13), .ref (b5 14)])), ((b5 3), .inl (E.2.2 0, 36, .inl (fun _ => 0))), ((b5 4), .inl (E.2.2 2, 12, .inr (.inl (fun _ => 0)))), ((b5 5), .inl (E.2.2 0, 6, .inl (fun _ => 0))), ((b5 6), .inl (E.2.2 0, 6, .inl (fun _ => 0))), ((b5 7), .inl (E.2.2 0, 6, .inl (fun _ => 0))), ((b5 8), .inl (E.2.2 0, 10, .inl (fun _ => 0))), ((b5 9), .inl (E.2.2 0, 10, .inl (fun _ => 0))), ((b5 10), .inl (E.2.2 0, 10, .inl (fun _ => 0))), ((b5 11), .inl (E.2.2 0, 10, .inl (fun _ => 0))), ((b5 12), .inl (E.2.2 0, 10, .inl (fun _ => 0))), ((b5 13), .inl (E.2.2 0, 10, .inl (fun _ => 0))), ((b5 14), .inl (E.2.2 0, 60, .inl (fun _ => 0))), (q7, .inr (0, [.ref (b11 1), .int 0, .ref (b11 14), .ref (b11 15), .ref (b11 16), .ref (b11 17), .ref (b11 18), .ref (b11 19)])), ((b11 1), .inr (7, [.int 0, .int 0, .int 0, .int 0, .int 0, .int 0, .ref (b11 2), .ref (b11 3), .ref (b11 4), .ref (b11 5), .ref (b11 6), .ref (b11 7), .ref (b11 8), .ref (b11 9), .ref (b11 10), .ref (b11 11), .ref (b11 12), .ref (b11 13)])), ((b11 2), .inl (E.2.2 0, 36, .inl (fun _ => 0))), ((b11 3), .inl (E.2.2 2, 12, .inr (.inl (fun _ => 0)))), ((b11 4), .inl (E.2.2 0, 6, .inl (fun _ => 0))), ((b11 5), .inl (E.2.2 0, 6, .inl (fun _ => 0))), ((b11 6), .inl (E.2.2 0, 6, .inl (fun _ => 0))), ((b11 7), .inl (E.2.2 0, 10, .inl (fun _ => 0))), ((b11 8), .inl (E.2.2 0, 10, .inl (fun _ => 0))), ((b11 9), .inl (E.2.2 0, 10, .inl (fun _ => 0))), ((b11 10), .inl (E.2.2 0, 10, .inl (fun _ => 0))), ((b11 11), .inl (E.2.2 0, 10, .inl (fun _ => 0))), ((b11 12), .inl (E.2.2 0, 10, .inl (fun _ => 0))), ((b11 13), .inl (E.2.2 0, 60, .inl (fun _ => 0))), ((b11 14), .inl (E.2.2 0, 6, .inl (fun _ => 0))), ((b11 15), .inl (E.2.2 0, 6, .inl (fun _ => 0))), ((b11 16), .inl (E.2.2 0, 6, .inl (fun _ => 0))), ((b11 17), .inl (E.2.2 2, 20, .inr (.inl (fun _ => 0)))), ((b11 18), .inl (E.2.2 0, 10, .inl (fun _ => 0))), ((b11 19), .inl (E.2.2 0, 10, .inl (fun _ => 0))), (q13, .inl (E.2.2 4, 3, .inr (.inr (.inr (.inr (fun _ => none)))))), (q14, .inr (1, [.ref (b18 1), .int 0, .int 0, .ref (b18 2)])), ((b18 1), .inl (E.2.2 0, 36, .inl (fun _ => 0))), ((b18 2), .inl (E.2.2 0, 3, .inl (fun _ => 0))), (q20, .inr (2, [.int 0, .int 0, .int 0, .int 0, .ref (b24 1), .ref (b24 2), .ref (b24 3), .ref (b24 4), .ref (b24 5), .int 0, .int 0])), ((b24 1), .inl (E.2.2 0, 432, .inl (fun _ => 0))), ((b24 2), .inl (E.2.2 0, 432, .inl (fun _ => 0))), ((b24 3), .inl (E.2.2 0, 72, .inl (fun _ => 0))), ((b24 4), .inl (E.2.2 0, 78, .inl (fun _ => 0))), ((b24 5), .inl (E.2.2 2, 78, .inr (.inl (fun _ => 0)))), (q26, .inr (4, [.int 0, .int 0, .int 0, .ref (b30 1), .int 0, .int 0, .int 0, .int 0, .int 0, .ref (b30 2)])), ((b30 1), .inl (E.2.2 0, 11, .inl (fun _ => 0))), ((b30 2), .inl (E.2.2 0, 132, .inl (fun _ => 0))), (q32, .inr (6, [.int 0, .ref (b36 1), .ref (b36 2)])), ((b36 1), .inl (E.2.2 0, 8, .inl (fun _ => 0))), ((b36 2), .inl (E.2.2 0, 100, .inl g37)), (q39, .inr (8, [.ref (b43 1), .int 0, .int 0])), ((b43 1), .inl (E.2.2 0, 10, .inl (fun _ => 0)))] 53 3510
  refine mp_new hF (mp_lnX9_64) ⟨(Nat.le_of_ble_eq_true rfl), (Nat.le_of_ble_eq_true rfl)⟩ (by decide +kernel) (fun q45 => ?_)
  show mp_W E X 1 93 [(0, .ref h0)] [.ref q45, .ref h0] [(h0, .inr (9, [.ref q1, .ref q7, .ref q13, .ref q14, .ref q20, .ref q26, .ref q32, .ref q39, .null])), (q1, .inr (3, [.ref (b5 1), .int 0, .ref (b5 2), .int 0, .int (-1), .int 0, .int 0, .int 0, .int 0, .int 0])), ((b5 1), .inl (E.2.2 1, 1600, .inl (fun _ => 0))), ((b5 2), .inr (7, [.int 0, .int 0, .int 0, .int 0, .int 0, .int 0, .ref (b5 3), .ref (b5 4), .ref (b5 5), .ref (b5 6), .ref (b5 7), .ref (b5 8), .ref (b5 9), .ref (b5 10), .ref (b5 11), .ref (b5 12), .ref (b5 13), .ref (b5 14)])), ((b5 3), .inl (E.2.2 0, 36, .inl (fun _ => 0))), ((b5 4), .inl (E.2.2 2, 12, .inr (.inl (fun _ => 0)))), ((b5 5), .inl (E.2.2 0, 6, .inl (fun _ => 0))), ((b5 6), .inl (E.2.2 0, 6, .inl (fun _ => 0))), ((b5 7), .inl (E.2.2 0, 6, .inl (fun _ => 0))), ((b5 8), .inl (E.2.2 0, 10, .inl (fun _ => 0))), ((b5 9), .inl (E.2.2 0, 10, .inl (fun _ => 0))), ((b5 10), .inl (E.2.2 0, 10, .inl (fun _ => 0))), ((b5 11), .inl (E.2.2 0, 10, .inl (fun _ => 0))), ((b5 12), .inl (E.2.2 0, 10, .inl (fun _ => 0))), ((b5 13), .inl (E.2.2 0, 10, .inl (fun _ => 0))), ((b5 14), .inl (E.2.2 0, 60, .inl (fun _ => 0))), (q7, .inr (0, [.ref (b11 1), .int 0, .ref (b11 14), .ref (b11 15), .ref (b11 16), .ref (b11 17), .ref (b11 18), .ref (b11 19)])), ((b11 1), .inr (7, [.int 0, .int 0, .int 0, .int 0, .int 0, .int 0, .ref (b11 2), .ref (b11 3), .ref (b11 4), .ref (b11 5), .ref (b11 6), .ref (b11 7), .ref (b11 8), .ref (b11 9), .ref (b11 10), .ref (b11 11), .ref (b11 12), .ref (b11 13)])), ((b11 2), .inl (E.2.2 0, 36, .inl (fun _ => 0))), ((b11 3), .inl (E.2.2 2, 12, .inr (.inl (fun _ => 0)))), ((b11 4), .inl (E.2.2 0, 6, .inl (fun _ => 0))), ((b11 5), .inl (E.2.2 0, 6, .inl (fun _ => 0))), ((b11 6), .inl (E.2.2 0, 6, .inl (fun _ => 0))), ((b11 7), .inl (E.2.2 0, 10, .inl (fun _ => 0))), ((b11 8), .inl (E.2.2 0, 10, .inl (fun _ => 0))), ((b11 9), .inl (E.2.2 0, 10, .inl (fun _ => 0))), ((b11 10), .inl (E.2.2 0, 10, .inl (fun _ => 0))), ((b11 11), .inl (E.2.2 0, 10, .inl (fun _ => 0))), ((b11 12), .inl (E.2.2 0, 10, .inl (fun _ => 0))), ((b11 13), .inl (E.2.2 0, 60, .inl (fun _ => 0))), ((b11 14), .inl (E.2.2 0, 6, .inl (fun _ => 0))), ((b11 15), .inl (E.2.2 0, 6, .inl (fun _ => 0))), ((b11 16), .inl (E.2.2 0, 6, .inl (fun _ => 0))), ((b11 17), .inl (E.2.2 2, 20, .inr (.inl (fun _ => 0)))), ((b11 18), .inl (E.2.2 0, 10, .inl (fun _ => 0))), ((b11 19), .inl (E.2.2 0, 10, .inl (fun _ => 0))), (q13, .inl (E.2.2 4, 3, .inr (.inr (.inr (.inr (fun _ => none)))))), (q14, .inr (1, [.ref (b18 1), .int 0, .int 0, .ref (b18 2)])), ((b18 1), .inl (E.2.2 0, 36, .inl (fun _ => 0))), ((b18 2), .inl (E.2.2 0, 3, .inl (fun _ => 0))), (q20, .inr (2, [.int 0, .int 0, .int 0, .int 0, .ref (b24 1), .ref (b24 2), .ref (b24 3), .ref (b24 4), .ref (b24 5), .int 0, .int 0])), ((b24 1), .inl (E.2.2 0, 432, .inl (fun _ => 0))), ((b24 2), .inl (E.2.2 0, 432, .inl (fun _ => 0))), ((b24 3), .inl (E.2.2 0, 72, .inl (fun _ => 0))), ((b24 4), .inl (E.2.2 0, 78, .inl (fun _ => 0))), ((b24 5), .inl (E.2.2 2, 78, .inr (.inl (fun _ => 0)))), (q26, .inr (4, [.int 0, .int 0, .int 0, .ref (b30 1), .int 0, .int 0, .int 0, .int 0, .int 0, .ref (b30 2)])), ((b30 1), .inl (E.2.2 0, 11, .inl (fun _ => 0))), ((b30 2), .inl (E.2.2 0, 132, .inl (fun _ => 0))), (q32, .inr (6, [.int 0, .ref (b36 1), .ref (b36 2)])), ((b36 1), .inl (E.2.2 0, 8, .inl (fun _ => 0))), ((b36 2), .inl (E.2.2 0, 100, .inl g37)), (q39, .inr (8, [.ref (b43 1), .int 0, .int 0])), ((b43 1), .inl (E.2.2 0, 10, .inl (fun _ => 0))), (q45, .inr (5, [.null, .null, .null]))] 54 3513
  refine mp_run hF mp_tabX9_ok [mp_i .dup] (by decide +kernel) ?_
  refine And.intro rfl ?_
  show mp_W E X 1 94 [(0, .ref h0)] [.ref q45, .ref q45, .ref h0] [(h0, .inr (9, [.ref q1, .ref q7, .ref q13, .ref q14, .ref q20, .ref q26, .ref q32, .ref q39, .null])), (q1, .inr (3, [.ref (b5 1), .int 0, .ref (b5 2), .int 0, .int (-1), .int 0, .int 0, .int 0, .int 0, .int 0])), ((b5 1), .inl (E.2.2 1, 1600, .inl (fun _ => 0))), ((b5 2), .inr (7, [.int 0, .int 0, .int 0, .int 0, .int 0, .int 0, .ref (b5 3), .ref (b5 4), .ref (b5 5), .ref (b5 6), .ref (b5 7), .ref (b5 8), .ref (b5 9), .ref (b5 10), .ref (b5 11), .ref (b5 12), .ref (b5 13), .ref (b5 14)])), ((b5 3), .inl (E.2.2 0, 36, .inl (fun _ => 0))), ((b5 4), .inl (E.2.2 2, 12, .inr (.inl (fun _ => 0)))), ((b5 5), .inl (E.2.2 0, 6, .inl (fun _ => 0))), ((b5 6), .inl (E.2.2 0, 6, .inl (fun _ => 0))), ((b5 7), .inl (E.2.2 0, 6, .inl (fun _ => 0))), ((b5 8), .inl (E.2.2 0, 10, .inl (fun _ => 0))), ((b5 9), .inl (E.2.2 0, 10, .inl (fun _ => 0))), ((b5 10), .inl (E.2.2 0, 10, .inl (fun _ => 0))), ((b5 11), .inl (E.2.2 0, 10, .inl (fun _ => 0))), ((b5 12), .inl (E.2.2 0, 10, .inl (fun _ => 0))), ((b5 13), .inl (E.2.2 0, 10, .inl (fun _ => 0))), ((b5 14), .inl (E.2.2 0, 60, .inl (fun _ => 0))), (q7, .inr (0, [.ref (b11 1), .int 0, .ref (b11 14), .ref (b11 15), .ref (b11 16), .ref (b11 17), .ref (b11 18), .ref (b11 19)])), ((b11 1), .inr (7, [.int 0, .int 0, .int 0, .int 0, .int 0, .int 0, .ref (b11 2), .ref (b11 3), .ref (b11 4), .ref (b11 5), .ref (b11 6), .ref (b11 7), .ref (b11 8), .ref (b11 9), .ref (b11 10), .ref (b11 11), .ref (b11 12), .ref (b11 13)])), ((b11 2), .inl (E.2.2 0, 36, .inl (fun _ => 0))), ((b11 3), .inl (E.2.2 2, 12, .inr (.inl (fun _ => 0)))), ((b11 4), .inl (E.2.2 0, 6, .inl (fun _ => 0))), ((b11 5), .inl (E.2.2 0, 6, .inl (fun _ => 0))), ((b11 6), .inl (E.2.2 0, 6, .inl (fun _ => 0))), ((b11 7), .inl (E.2.2 0, 10, .inl (fun _ => 0))), ((b11 8), .inl (E.2.2 0, 10, .inl (fun _ => 0))), ((b11 9), .inl (E.2.2 0, 10, .inl (fun _ => 0))), ((b11 10), .inl (E.2.2 0, 10, .inl (fun _ => 0))), ((b11 11), .inl (E.2.2 0, 10, .inl (fun _ => 0))), ((b11 12), .inl (E.2.2 0, 10, .inl (fun _ => 0))), ((b11 13), .inl (E.2.2 0, 60, .inl (fun _ => 0))), ((b11 14), .inl (E.2.2 0, 6, .inl (fun _ => 0))), ((b11 15), .inl (E.2.2 0, 6, .inl (fun _ => 0))), ((b11 16), .inl (E.2.2 0, 6, .inl (fun _ => 0))), ((b11 17), .inl (E.2.2 2, 20, .inr (.inl (fun _ => 0)))), ((b11 18), .inl (E.2.2 0, 10, .inl (fun _ => 0))), ((b11 19), .inl (E.2.2 0, 10, .inl (fun _ => 0))), (q13, .inl (E.2.2 4, 3, .inr (.inr (.inr (.inr (fun _ => none)))))), (q14, .inr (1, [.ref (b18 1), .int 0, .int 0, .ref (b18 2)])), ((b18 1), .inl (E.2.2 0, 36, .inl (fun _ => 0))), ((b18 2), .inl (E.2.2 0, 3, .inl (fun _ => 0))), (q20, .inr (2, [.int 0, .int 0, .int 0, .int 0, .ref (b24 1), .ref (b24 2), .ref (b24 3), .ref (b24 4), .ref (b24 5), .int 0, .int 0])), ((b24 1), .inl (E.2.2 0, 432, .inl (fun _ => 0))), ((b24 2), .inl (E.2.2 0, 432, .inl (fun _ => 0))), ((b24 3), .inl (E.2.2 0, 72, .inl (fun _ => 0))), ((b24 4), .inl (E.2.2 0, 78, .inl (fun _ => 0))), ((b24 5), .inl (E.2.2 2, 78, .inr (.inl (fun _ => 0)))), (q26, .inr (4, [.int 0, .int 0, .int 0, .ref (b30 1), .int 0, .int 0, .int 0, .int 0, .int 0, .ref (b30 2)])), ((b30 1), .inl (E.2.2 0, 11, .inl (fun _ => 0))), ((b30 2), .inl (E.2.2 0, 132, .inl (fun _ => 0))), (q32, .inr (6, [.int 0, .ref (b36 1), .ref (b36 2)])), ((b36 1), .inl (E.2.2 0, 8, .inl (fun _ => 0))), ((b36 2), .inl (E.2.2 0, 100, .inl g37)), (q39, .inr (8, [.ref (b43 1), .int 0, .int 0])), ((b43 1), .inl (E.2.2 0, 10, .inl (fun _ => 0))), (q45, .inr (5, [.null, .null, .null]))] 54 3513
  refine mp_callI hF (As := []) (rest := [.ref q45, .ref h0]) (wr := [(h0, .inr (9, [.ref q1, .ref q7, .ref q13, .ref q14, .ref q20, .ref q26, .ref q32, .ref q39, .null])), (q1, .inr (3, [.ref (b5 1), .int 0, .ref (b5 2), .int 0, .int (-1), .int 0, .int 0, .int 0, .int 0, .int 0])), ((b5 1), .inl (E.2.2 1, 1600, .inl (fun _ => 0))), ((b5 2), .inr (7, [.int 0, .int 0, .int 0, .int 0, .int 0, .int 0, .ref (b5 3), .ref (b5 4), .ref (b5 5), .ref (b5 6), .ref (b5 7), .ref (b5 8), .ref (b5 9), .ref (b5 10), .ref (b5 11), .ref (b5 12), .ref (b5 13), .ref (b5 14)])), ((b5 3), .inl (E.2.2 0, 36, .inl (fun _ => 0))), ((b5 4), .inl (E.2.2 2, 12, .inr (.inl (fun _ => 0)))), ((b5 5), .inl (E.2.2 0, 6, .inl (fun _ => 0))), ((b5 6), .inl (E.2.2 0, 6, .inl (fun _ => 0))), ((b5 7), .inl (E.2.2 0, 6, .inl (fun _ => 0))), ((b5 8), .inl (E.2.2 0, 10, .inl (fun _ => 0))), ((b5 9), .inl (E.2.2 0, 10, .inl (fun _ => 0))), ((b5 10), .inl (E.2.2 0, 10, .inl (fun _ => 0))), ((b5 11), .inl (E.2.2 0, 10, .inl (fun _ => 0))), ((b5 12), .inl (E.2.2 0, 10, .inl (fun _ => 0))), ((b5 13), .inl (E.2.2 0, 10, .inl (fun _ => 0))), ((b5 14), .inl (E.2.2 0, 60, .inl (fun _ => 0))), (q7, .inr (0, [.ref (b11 1), .int 0, .ref (b11 14), .ref (b11 15), .ref (b11 16), .ref (b11 17), .ref (b11 18), .ref (b11 19)])), ((b11 1), .inr (7, [.int 0, .int 0, .int 0, .int 0, .int 0, .int 0, .ref (b11 2), .ref (b11 3), .ref (b11 4), .ref (b11 5), .ref (b11 6), .ref (b11 7), .ref (b11 8), .ref (b11 9), .ref (b11 10), .ref (b11 11), .ref (b11 12), .ref (b11 13)])), ((b11 2), .inl (E.2.2 0, 36, .inl (fun _ => 0))), ((b11 3), .inl (E.2.2 2, 12, .inr (.inl (fun _ => 0)))), ((b11 4), .inl (E.2.2 0, 6, .inl (fun _ => 0))), ((b11 5), .inl (E.2.2 0, 6, .inl (fun _ => 0))), ((b11 6), .inl (E.2.2 0, 6, .inl (fun _ => 0))), ((b11 7), .inl (E.2.2 0, 10, .inl (fun _ => 0))), ((b11 8), .inl (E.2.2 0, 10, .inl (fun _ => 0))), ((b11 9), .inl (E.2.2 0, 10, .inl (fun _ => 0))), ((b11 10), .inl (E.2.2 0, 10, .inl (fun _ => 0))), ((b11 11), .inl (E.2.2 0, 10, .inl (fun _ => 0))), ((b11 12), .inl (E.2.2 0, 10, .inl (fun _ => 0))), ((b11 13), .inl (E.2.2 0, 60, .inl (fun _ => 0))), ((b11 14), .inl (E.2.2 0, 6, .inl (fun _ => 0))), ((b11 15), .inl (E.2.2 0, 6, .inl (fun _ => 0))), ((b11 16), .inl (E.2.2 0, 6, .inl (fun _ => 0))), ((b11 17), .inl (E.2.2 2, 20, .inr (.inl (fun _ => 0)))), ((b11 18), .inl (E.2.2 0, 10, .inl (fun _ => 0))), ((b11 19), .inl (E.2.2 0, 10, .inl (fun _ => 0))), (q13, .inl (E.2.2 4, 3, .inr (.inr (.inr (.inr (fun _ => none)))))), (q14, .inr (1, [.ref (b18 1), .int 0, .int 0, .ref (b18 2)])), ((b18 1), .inl (E.2.2 0, 36, .inl (fun _ => 0))), ((b18 2), .inl (E.2.2 0, 3, .inl (fun _ => 0))), (q20, .inr (2, [.int 0, .int 0, .int 0, .int 0, .ref (b24 1), .ref (b24 2), .ref (b24 3), .ref (b24 4), .ref (b24 5), .int 0, .int 0])), ((b24 1), .inl (E.2.2 0, 432, .inl (fun _ => 0))), ((b24 2), .inl (E.2.2 0, 432, .inl (fun _ => 0))), ((b24 3), .inl (E.2.2 0, 72, .inl (fun _ => 0))), ((b24 4), .inl (E.2.2 0, 78, .inl (fun _ => 0))), ((b24 5), .inl (E.2.2 2, 78, .inr (.inl (fun _ => 0)))), (q26, .inr (4, [.int 0, .int 0, .int 0, .ref (b30 1), .int 0, .int 0, .int 0, .int 0, .int 0, .ref (b30 2)])), ((b30 1), .inl (E.2.2 0, 11, .inl (fun _ => 0))), ((b30 2), .inl (E.2.2 0, 132, .inl (fun _ => 0))), (q32, .inr (6, [.int 0, .ref (b36 1), .ref (b36 2)])), ((b36 1), .inl (E.2.2 0, 8, .inl (fun _ => 0))), ((b36 2), .inl (E.2.2 0, 100, .inl g37)), (q39, .inr (8, [.ref (b43 1), .int 0, .int 0])), ((b43 1), .inl (E.2.2 0, 10, .inl (fun _ => 0)))]) (k_Slots E q45) mp_lkX9_66 [54] [0, 1, 2, 3, 4, 5, 6, 7, 8, 9, 10, 11, 12, 13, 14, 15, 16, 17, 18, 19, 20, 21, 22, 23, 24, 25, 26, 27, 28, 29, 30, 31, 32, 33, 34, 35, 36, 37, 38, 39, 40, 41, 42, 43, 44, 45, 46, 47, 48, 49, 50, 51, 52, 53] rfl rfl rfl rfl rfl ⟨(Nat.le_of_ble_eq_true rfl), (Nat.le_of_ble_eq_true rfl), (Nat.le_of_ble_eq_true rfl), (Nat.le_of_ble_eq_true rfl)⟩ (Nat.le_of_ble_eq_true rfl) (by decide +kernel) (fun v46 w47 h48 => ?_)
  obtain ⟨rfl, b49, g50, h52, f51, rfl⟩ := h48
  clear h52
  show mp_W E X 1 97 [(0, .ref h0)] [.ref q45, .ref h0] [(h0, .inr (9, [.ref q1, .ref q7, .ref q13, .ref q14, .ref q20, .ref q26, .ref q32, .ref q39, .null])), (q1, .inr (3, [.ref (b5 1), .int 0, .ref (b5 2), .int 0, .int (-1), .int 0, .int 0, .int 0, .int 0, .int 0])), ((b5 1), .inl (E.2.2 1, 1600, .inl (fun _ => 0))), ((b5 2), .inr (7, [.int 0, .int 0, .int 0, .int 0, .int 0, .int 0, .ref (b5 3), .ref (b5 4), .ref (b5 5), .ref (b5 6), .ref (b5 7), .ref (b5 8), .ref (b5 9), .ref (b5 10), .ref (b5 11), .ref (b5 12), .ref (b5 13), .ref (b5 14)])), ((b5 3), .inl (E.2.2 0, 36, .inl (fun _ => 0))), ((b5 4), .inl (E.2.2 2, 12, .inr (.inl (fun _ => 0)))), ((b5 5), .inl (E.2.2 0, 6, .inl (fun _ => 0))), ((b5 6), .inl (E.2.2 0, 6, .inl (fun _ => 0))), ((b5 7), .inl (E.2.2 0, 6, .inl (fun _ => 0))), ((b5 8), .inl (E.2.2 0, 10, .inl (fun _ => 0))), ((b5 9), .inl (E.2.2 0, 10, .inl (fun _ => 0))), ((b5 10), .inl (E.2.2 0, 10, .inl (fun _ => 0))), ((b5 11), .inl (E.2.2 0, 10, .inl (fun _ => 0))), ((b5 12), .inl (E.2.2 0, 10, .inl (fun _ => 0))), ((b5 13), .inl (E.2.2 0, 10, .inl (fun _ => 0))), ((b5 14), .inl (E.2.2 0, 60, .inl (fun _ => 0))), (q7, .inr (0, [.ref (b11 1), .int 0, .ref (b11 14), .ref (b11 15), .ref (b11 16), .ref (b11 17), .ref (b11 18), .ref (b11 19)])), ((b11 1), .inr (7, [.int 0, .int 0, .int 0, .int 0, .int 0, .int 0, .ref (b11 2), .ref (b11 3), .ref (b11 4), .ref (b11 5), .ref (b11 6), .ref (b11 7), .ref (b11 8), .ref (b11 9), .ref (b11 10), .ref (b11 11), .ref (b11 12), .ref (b11 13)])), ((b11 2), .inl (E.2.2 0, 36, .inl (fun _ => 0))), ((b11 3), .inl (E.2.2 2, 12, .inr (.inl (fun _ => 0)))), ((b11 4), .inl (E.2.2 0, 6, .inl (fun _ => 0))), ((b11 5), .inl (E.2.2 0, 6, .inl (fun _ => 0))), ((b11 6), .inl (E.2.2 0, 6, .inl (fun _ => 0))), ((b11 7), .inl (E.2.2 0, 10, .inl (fun _ => 0))), ((b11 8), .inl (E.2.2 0, 10, .inl (fun _ => 0))), ((b11 9), .inl (E.2.2 0, 10, .inl (fun _ => 0))), ((b11 10), .inl (E.2.2 0, 10, .inl (fun _ => 0))), ((b11 11), .inl (E.2.2 0, 10, .inl (fun _ => 0))), ((b11 12), .inl (E.2.2 0, 10, .inl (fun _ => 0))), ((b11 13), .inl (E.2.2 0, 60, .inl (fun _ => 0))), ((b11 14), .inl (E.2.2 0, 6, .inl (fun _ => 0))), ((b11 15), .inl (E.2.2 0, 6, .inl (fun _ => 0))), ((b11 16), .inl (E.2.2 0, 6, .inl (fun _ => 0))), ((b11 17), .inl (E.2.2 2, 20, .inr (.inl (fun _ => 0)))), ((b11 18), .inl (E.2.2 0, 10, .inl (fun _ => 0))), ((b11 19), .inl (E.2.2 0, 10, .inl (fun _ => 0))), (q13, .inl (E.2.2 4, 3, .inr (.inr (.inr (.inr (fun _ => none)))))), (q14, .inr (1, [.ref (b18 1), .int 0, .int 0, .ref (b18 2)])), ((b18 1), .inl (E.2.2 0, 36, .inl (fun _ => 0))), ((b18 2), .inl (E.2.2 0, 3, .inl (fun _ => 0))), (q20, .inr (2, [.int 0, .int 0, .int 0, .int 0, .ref (b24 1), .ref (b24 2), .ref (b24 3), .ref (b24 4), .ref (b24 5), .int 0, .int 0])), ((b24 1), .inl (E.2.2 0, 432, .inl (fun _ => 0))), ((b24 2), .inl (E.2.2 0, 432, .inl (fun _ => 0))), ((b24 3), .inl (E.2.2 0, 72, .inl (fun _ => 0))), ((b24 4), .inl (E.2.2 0, 78, .inl (fun _ => 0))), ((b24 5), .inl (E.2.2 2, 78, .inr (.inl (fun _ => 0)))), (q26, .inr (4, [.int 0, .int 0, .int 0, .ref (b30 1), .int 0, .int 0, .int 0, .int 0, .int 0, .ref (b30 2)])), ((b30 1), .inl (E.2.2 0, 11, .inl (fun _ => 0))), ((b30 2), .inl (E.2.2 0, 132, .inl (fun _ => 0))), (q32, .inr (6, [.int 0, .ref (b36 1), .ref (b36 2)])), ((b36 1), .inl (E.2.2 0, 8, .inl (fun _ => 0))), ((b36 2), .inl (E.2.2 0, 100, .inl g37)), (q39, .inr (8, [.ref (b43 1), .int 0, .int 0])), ((b43 1), .inl (E.2.2 0, 10, .inl (fun _ => 0))), (q45, .inr (5, [.ref (b49 1), .ref (b49 2), .ref (b49 3)])), ((b49 1), .inl (E.2.2 2, 240, .inr (.inl (fun _ => 0)))), ((b49 2), .inl (E.2.2 0, 4, .inl (fun _ => 0))), ((b49 3), .inl (E.2.2 0, 4, .inl g50))] 57 3761
  refine mp_run hF mp_tabX9_ok [mp_h (.putfield 67) [44, 0]] (by decide +kernel) ?_
  refine And.intro rfl (And.intro rfl (And.intro rfl (And.intro rfl (And.intro (Nat.le_of_ble_eq_true rfl) ?_))))
  show mp_W E X 1 100 [(0, .ref h0)] [] [(h0, .inr (9, [.ref q1, .ref q7, .ref q13, .ref q14, .ref q20, .ref q26, .ref q32, .ref q39, .ref q45])), (q1, .inr (3, [.ref (b5 1), .int 0, .ref (b5 2), .int 0, .int (-1), .int 0, .int 0, .int 0, .int 0, .int 0])), ((b5 1), .inl (E.2.2 1, 1600, .inl (fun _ => 0))), ((b5 2), .inr (7, [.int 0, .int 0, .int 0, .int 0, .int 0, .int 0, .ref (b5 3), .ref (b5 4), .ref (b5 5), .ref (b5 6), .ref (b5 7), .ref (b5 8), .ref (b5 9), .ref (b5 10), .ref (b5 11), .ref (b5 12), .ref (b5 13), .ref (b5 14)])), ((b5 3), .inl (E.2.2 0, 36, .inl (fun _ => 0))), ((b5 4), .inl (E.2.2 2, 12, .inr (.inl (fun _ => 0)))), ((b5 5), .inl (E.2.2 0, 6, .inl (fun _ => 0))), ((b5 6), .inl (E.2.2 0, 6, .inl (fun _ => 0))), ((b5 7), .inl (E.2.2 0, 6, .inl (fun _ => 0))), ((b5 8), .inl (E.2.2 0, 10, .inl (fun _ => 0))), ((b5 9), .inl (E.2.2 0, 10, .inl (fun _ => 0))), ((b5 10), .inl (E.2.2 0, 10, .inl (fun _ => 0))), ((b5 11), .inl (E.2.2 0, 10, .inl (fun _ => 0))), ((b5 12), .inl (E.2.2 0, 10, .inl (fun _ => 0))), ((b5 13), .inl (E.2.2 0, 10, .inl (fun _ => 0))), ((b5 14), .inl (E.2.2 0, 60, .inl (fun _ => 0))), (q7, .inr (0, [.ref (b11 1), .int 0, .ref (b11 14), .ref (b11 15), .ref (b11 16), .ref (b11 17), .ref (b11 18), .ref (b11 19)])), ((b11 1), .inr (7, [.int 0, .int 0, .int 0, .int 0, .int 0, .int 0, .ref (b11 2), .ref (b11 3), .ref (b11 4), .ref (b11 5), .ref (b11 6), .ref (b11 7), .ref (b11 8), .ref (b11 9), .ref (b11 10), .ref (b11 11), .ref (b11 12), .ref (b11 13)])), ((b11 2), .inl (E.2.2 0, 36, .inl (fun _ => 0))), ((b11 3), .inl (E.2.2 2, 12, .inr (.inl (fun _ => 0)))), ((b11 4), .inl (E.2.2 0, 6, .inl (fun _ => 0))), ((b11 5), .inl (E.2.2 0, 6, .inl (fun _ => 0))), ((b11 6), .inl (E.2.2 0, 6, .inl (fun _ => 0))), ((b11 7), .inl (E.2.2 0, 10, .inl (fun _ => 0))), ((b11 8), .inl (E.2.2 0, 10, .inl (fun _ => 0))), ((b11 9), .inl (E.2.2 0, 10, .inl (fun _ => 0))), ((b11 10), .inl (E.2.2 0, 10, .inl (fun _ => 0))), ((b11 11), .inl (E.2.2 0, 10, .inl (fun _ => 0))), ((b11 12), .inl (E.2.2 0, 10, .inl (fun _ => 0))), ((b11 13), .inl (E.2.2 0, 60, .inl (fun _ => 0))), ((b11 14), .inl (E.2.2 0, 6, .inl (fun _ => 0))), ((b11 15), .inl (E.2.2 0, 6, .inl (fun _ => 0))), ((b11 16), .inl (E.2.2 0, 6, .inl (fun _ => 0))), ((b11 17), .inl (E.2.2 2, 20, .inr (.inl (fun _ => 0)))), ((b11 18), .inl (E.2.2 0, 10, .inl (fun _ => 0))), ((b11 19), .inl (E.2.2 0, 10, .inl (fun _ => 0))), (q13, .inl (E.2.2 4, 3, .inr (.inr (.inr (.inr (fun _ => none)))))), (q14, .inr (1, [.ref (b18 1), .int 0, .int 0, .ref (b18 2)])), ((b18 1), .inl (E.2.2 0, 36, .inl (fun _ => 0))), ((b18 2), .inl (E.2.2 0, 3, .inl (fun _ => 0))), (q20, .inr (2, [.int 0, .int 0, .int 0, .int 0, .ref (b24 1), .ref (b24 2), .ref (b24 3), .ref (b24 4), .ref (b24 5), .int 0, .int 0])), ((b24 1), .inl (E.2.2 0, 432, .inl (fun _ => 0))), ((b24 2), .inl (E.2.2 0, 432, .inl (fun _ => 0))), ((b24 3), .inl (E.2.2 0, 72, .inl (fun _ => 0))), ((b24 4), .inl (E.2.2 0, 78, .inl (fun _ => 0))), ((b24 5), .inl (E.2.2 2, 78, .inr (.inl (fun _ => 0)))), (q26, .inr (4, [.int 0, .int 0, .int 0, .ref (b30 1), .int 0, .int 0, .int 0, .int 0, .int 0, .ref (b30 2)])), ((b30 1), .inl (E.2.2 0, 11, .inl (fun _ => 0))), ((b30 2), .inl (E.2.2 0, 132, .inl (fun _ => 0))), (q32, .inr (6, [.int 0, .ref (b36 1), .ref (b36 2)])), ((b36 1), .inl (E.2.2 0, 8, .inl (fun _ => 0))), ((b36 2), .inl (E.2.2 0, 100, .inl g37)), (q39, .inr (8, [.ref (b43 1), .int 0, .int 0])), ((b43 1), .inl (E.2.2 0, 10, .inl (fun _ => 0))), (q45, .inr (5, [.ref (b49 1), .ref (b49 2), .ref (b49 3)])), ((b49 1), .inl (E.2.2 2, 240, .inr (.inl (fun _ => 0)))), ((b49 2), .inl (E.2.2 0, 4, .inl (fun _ => 0))), ((b49 3), .inl (E.2.2 0, 4, .inl g50))] 57 3761
  exact mp_vret hF hQ rfl (Nat.le_of_ble_eq_true rfl) (Nat.le_of_ble_eq_true rfl) [0, 1, 2, 3, 4, 5, 6, 7, 8, 9, 10, 11, 12, 13, 14, 15, 16, 17, 18, 19, 20, 21, 22, 23, 24, 25, 26, 27, 28, 29, 30, 31, 32, 33, 34, 35, 36, 37, 38, 39, 40, 41, 42, 43, 44, 45, 46, 47, 48, 49, 50, 51, 52, 53, 54, 55, 56, 57] (w' := [(h0, .inr (9, [.ref q1, .ref q7, .ref q13, .ref q14, .ref q20, .ref q26, .ref q32, .ref q39, .ref q45])), (q1, .inr (3, [.ref (b5 1), .int 0, .ref (b5 2), .int 0, .int (-1), .int 0, .int 0, .int 0, .int 0, .int 0])), ((b5 1), .inl (E.2.2 1, 1600, .inl (fun _ => 0))), ((b5 2), .inr (7, [.int 0, .int 0, .int 0, .int 0, .int 0, .int 0, .ref (b5 3), .ref (b5 4), .ref (b5 5), .ref (b5 6), .ref (b5 7), .ref (b5 8), .ref (b5 9), .ref (b5 10), .ref (b5 11), .ref (b5 12), .ref (b5 13), .ref (b5 14)])), ((b5 3), .inl (E.2.2 0, 36, .inl (fun _ => 0))), ((b5 4), .inl (E.2.2 2, 12, .inr (.inl (fun _ => 0)))), ((b5 5), .inl (E.2.2 0, 6, .inl (fun _ => 0))), ((b5 6), .inl (E.2.2 0, 6, .inl (fun _ => 0))), ((b5 7), .inl (E.2.2 0, 6, .inl (fun _ => 0))), ((b5 8), .inl (E.2.2 0, 10, .inl (fun _ => 0))), ((b5 9), .inl (E.2.2 0, 10, .inl (fun _ => 0))), ((b5 10), .inl (E.2.2 0, 10, .inl (fun _ => 0))), ((b5 11), .inl (E.2.2 0, 10, .inl (fun _ => 0))), ((b5 12), .inl (E.2.2 0, 10, .inl (fun _ => 0))), ((b5 13), .inl (E.2.2 0, 10, .inl (fun _ => 0))), ((b5 14), .inl (E.2.2 0, 60, .inl (fun _ => 0))), (q7, .inr (0, [.ref (b11 1), .int 0, .ref (b11 14), .ref (b11 15), .ref (b11 16), .ref (b11 17), .ref (b11 18), .ref (b11 19)])), ((b11 1), .inr (7, [.int 0, .int 0, .int 0, .int 0, .int 0, .int 0, .ref (b11 2), .ref (b11 3), .ref (b11 4), .ref (b11 5), .ref (b11 6), .ref (b11 7), .ref (b11 8), .ref (b11 9), .ref (b11 10), .ref (b11 11), .ref (b11 12), .ref (b11 13)])), ((b11 2), .inl (E.2.2 0, 36, .inl (fun _ => 0))), ((b11 3), .inl (E.2.2 2, 12, .inr (.inl (fun _ => 0)))), ((b11 4), .inl (E.2.2 0, 6, .inl (fun _ => 0))), ((b11 5), .inl (E.2.2 0, 6, .inl (fun _ => 0))), ((b11 6), .inl (E.2.2 0, 6, .inl (fun _ => 0))), ((b11 7), .inl (E.2.2 0, 10, .inl (fun _ => 0))), ((b11 8), .inl (E.2.2 0, 10, .inl (fun _ => 0))), ((b11 9), .inl (E.2.2 0, 10, .inl (fun _ => 0))), ((b11 10), .inl (E.2.2 0, 10, .inl (fun _ => 0))), ((b11 11), .inl (E.2.2 0, 10, .inl (fun _ => 0))), ((b11 12), .inl (E.2.2 0, 10, .inl (fun _ => 0))), ((b11 13), .inl (E.2.2 0, 60, .inl (fun _ => 0))), ((b11 14), .inl (E.2.2 0, 6, .inl (fun _ => 0))), ((b11 15), .inl (E.2.2 0, 6, .inl (fun _ => 0))), ((b11 16), .inl (E.2.2 0, 6, .inl (fun _ => 0))), ((b11 17), .inl (E.2.2 2, 20, .inr (.inl (fun _ => 0)))), ((b11 18), .inl (E.2.2 0, 10, .inl (fun _ => 0))), ((b11 19), .inl (E.2.2 0, 10, .inl (fun _ => 0))), (q13, .inl (E.2.2 4, 3, .inr (.inr (.inr (.inr (fun _ => none)))))), (q14, .inr (1, [.ref (b18 1), .int 0, .int 0, .ref (b18 2)])), ((b18 1), .inl (E.2.2 0, 36, .inl (fun _ => 0))), ((b18 2), .inl (E.2.2 0, 3, .inl (fun _ => 0))), (q20, .inr (2, [.int 0, .int 0, .int 0, .int 0, .ref (b24 1), .ref (b24 2), .ref (b24 3), .ref (b24 4), .ref (b24 5), .int 0, .int 0])), ((b24 1), .inl (E.2.2 0, 432, .inl (fun _ => 0))), ((b24 2), .inl (E.2.2 0, 432, .inl (fun _ => 0))), ((b24 3), .inl (E.2.2 0, 72, .inl (fun _ => 0))), ((b24 4), .inl (E.2.2 0, 78, .inl (fun _ => 0))), ((b24 5), .inl (E.2.2 2, 78, .inr (.inl (fun _ => 0)))), (q26, .inr (4, [.int 0, .int 0, .int 0, .ref (b30 1), .int 0, .int 0, .int 0, .int 0, .int 0, .ref (b30 2)])), ((b30 1), .inl (E.2.2 0, 11, .inl (fun _ => 0))), ((b30 2), .inl (E.2.2 0, 132, .inl (fun _ => 0))), (q32, .inr (6, [.int 0, .ref (b36 1), .ref (b36 2)])), ((b36 1), .inl (E.2.2 0, 8, .inl (fun _ => 0))), ((b36 2), .inl (E.2.2 0, 100, .inl g37)), (q39, .inr (8, [.ref (b43 1), .int 0, .int 0])), ((b43 1), .inl (E.2.2 0, 10, .inl (fun _ => 0))), (q45, .inr (5, [.ref (b49 1), .ref (b49 2), .ref (b49 3)])), ((b49 1), .inl (E.2.2 2, 240, .inr (.inl (fun _ => 0)))), ((b49 2), .inl (E.2.2 0, 4, .inl (fun _ => 0))), ((b49 3), .inl (E.2.2 0, 4, .inl g50))]) rfl rfl ⟨rfl, fun k => ([h0, q1, (b5 1), (b5 2), (b5 3), (b5 4), (b5 5), (b5 6), (b5 7), (b5 8), (b5 9), (b5 10), (b5 11), (b5 12), (b5 13), (b5 14), q7, (b11 1), (b11 2), (b11 3), (b11 4), (b11 5), (b11 6), (b11 7), (b11 8), (b11 9), (b11 10), (b11 11), (b11 12), (b11 13), (b11 14), (b11 15), (b11 16), (b11 17), (b11 18), (b11 19), q13, q14, (b18 1), (b18 2), q20, (b24 1), (b24 2), (b24 3), (b24 4), (b24 5), q26, (b30 1), (b30 2), q32, (b36 1), (b36 2), q39, (b43 1), q45, (b49 1), (b49 2), (b49 3)] : List Nat).getD k 0, g37, g50, rfl, f51, rfl⟩ (by decide +kernel)
end
section
theorem mp_zz : True := trivial
end
