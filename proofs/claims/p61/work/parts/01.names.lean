theorem lw_in1 {w : Cond} (h : w ∈ tables_1_1) : w ∈ tables_1 := List.mem_append.mpr (Or.inl h)
theorem lw_in2 {w : Cond} (h : w ∈ tables_1_2) : w ∈ tables_1 := List.mem_append.mpr (Or.inr (List.mem_append.mpr (Or.inl h)))
theorem lw_in3 {w : Cond} (h : w ∈ tables_1_3) : w ∈ tables_1 := List.mem_append.mpr (Or.inr (List.mem_append.mpr (Or.inr (List.mem_append.mpr (Or.inl h)))))
theorem lw_in4 {w : Cond} (h : w ∈ tables_1_4) : w ∈ tables_1 := List.mem_append.mpr (Or.inr (List.mem_append.mpr (Or.inr (List.mem_append.mpr (Or.inr (List.mem_append.mpr (Or.inl h)))))))
theorem lw_in5 {w : Cond} (h : w ∈ tables_1_5) : w ∈ tables_1 := List.mem_append.mpr (Or.inr (List.mem_append.mpr (Or.inr (List.mem_append.mpr (Or.inr (List.mem_append.mpr (Or.inr (List.mem_append.mpr (Or.inl h)))))))))
theorem lw_in6 {w : Cond} (h : w ∈ tables_1_6) : w ∈ tables_1 := List.mem_append.mpr (Or.inr (List.mem_append.mpr (Or.inr (List.mem_append.mpr (Or.inr (List.mem_append.mpr (Or.inr (List.mem_append.mpr (Or.inr (List.mem_append.mpr (Or.inl h)))))))))))
theorem lw_in7 {w : Cond} (h : w ∈ tables_1_7) : w ∈ tables_1 := List.mem_append.mpr (Or.inr (List.mem_append.mpr (Or.inr (List.mem_append.mpr (Or.inr (List.mem_append.mpr (Or.inr (List.mem_append.mpr (Or.inr (List.mem_append.mpr (Or.inr (List.mem_append.mpr (Or.inl h)))))))))))))
theorem lw_in8 {w : Cond} (h : w ∈ tables_1_8) : w ∈ tables_1 := List.mem_append.mpr (Or.inr (List.mem_append.mpr (Or.inr (List.mem_append.mpr (Or.inr (List.mem_append.mpr (Or.inr (List.mem_append.mpr (Or.inr (List.mem_append.mpr (Or.inr (List.mem_append.mpr (Or.inr (List.mem_append.mpr (Or.inl h)))))))))))))))
theorem lw_in9 {w : Cond} (h : w ∈ tables_1_9) : w ∈ tables_1 := List.mem_append.mpr (Or.inr (List.mem_append.mpr (Or.inr (List.mem_append.mpr (Or.inr (List.mem_append.mpr (Or.inr (List.mem_append.mpr (Or.inr (List.mem_append.mpr (Or.inr (List.mem_append.mpr (Or.inr (List.mem_append.mpr (Or.inr (h))))))))))))))))
-- ===== PART A: goes FIRST, ahead of the names: the tables' words, and 'selects' of the private methods out of them =====
/-- a private method of a class that the tables say can be made, by its rows of tables_1 -/
def lw_okq (q : MethodName × Nat) : Prop := (q.1.cls ≠ "java/lang/invoke/MethodHandle" ∧ q.1.cls ≠ "java/lang/invoke/VarHandle") ∧ Cond.instantiable q.1.cls q.2 ∈ tables_1 ∧ Cond.privateMethod q.1 ∈ tables_1 ∧ Cond.instanceMethod q.1 ∈ tables_1
theorem lw_c0 : ("MoonPromises$Reader" ≠ "java/lang/invoke/MethodHandle" ∧ "MoonPromises$Reader" ≠ "java/lang/invoke/VarHandle") ∧ Cond.instantiable "MoonPromises$Reader" 10 ∈ tables_1 := ⟨⟨by decide +kernel, by decide +kernel⟩, lw_in1 (List.mem_of_getElem? (i := 30) rfl)⟩
theorem lw_p0 : lw_okq (⟨"MoonPromises$Reader", "step", "()V"⟩, 10) := ⟨lw_c0.1, lw_c0.2, lw_in2 (List.mem_of_getElem? (i := 206) rfl), lw_in2 (List.mem_of_getElem? (i := 207) rfl)⟩
theorem lw_p1 : lw_okq (⟨"MoonPromises$Reader", "isLetter", "(I)Z"⟩, 10) := ⟨lw_c0.1, lw_c0.2, lw_in2 (List.mem_of_getElem? (i := 210) rfl), lw_in2 (List.mem_of_getElem? (i := 211) rfl)⟩
theorem lw_p2 : lw_okq (⟨"MoonPromises$Reader", "isDigit", "(I)Z"⟩, 10) := ⟨lw_c0.1, lw_c0.2, lw_in2 (List.mem_of_getElem? (i := 214) rfl), lw_in2 (List.mem_of_getElem? (i := 215) rfl)⟩
theorem lw_p3 : lw_okq (⟨"MoonPromises$Reader", "takeLine", "()Z"⟩, 10) := ⟨lw_c0.1, lw_c0.2, lw_in2 (List.mem_of_getElem? (i := 222) rfl), lw_in2 (List.mem_of_getElem? (i := 223) rfl)⟩
theorem lw_p4 : lw_okq (⟨"MoonPromises$Reader", "isWord", "(Ljava/lang/String;)Z"⟩, 10) := ⟨lw_c0.1, lw_c0.2, lw_in2 (List.mem_of_getElem? (i := 227) rfl), lw_in2 (List.mem_of_getElem? (i := 228) rfl)⟩
theorem lw_p5 : lw_okq (⟨"MoonPromises$Reader", "fail", "(I)Z"⟩, 10) := ⟨lw_c0.1, lw_c0.2, lw_in3 (List.mem_of_getElem? (i := 39) rfl), lw_in3 (List.mem_of_getElem? (i := 40) rfl)⟩
theorem lw_p6 : lw_okq (⟨"MoonPromises$Reader", "takeIsles", "()Z"⟩, 10) := ⟨lw_c0.1, lw_c0.2, lw_in3 (List.mem_of_getElem? (i := 43) rfl), lw_in3 (List.mem_of_getElem? (i := 44) rfl)⟩
theorem lw_p7 : lw_okq (⟨"MoonPromises$Reader", "takeNumber", "(III)Z"⟩, 10) := ⟨lw_c0.1, lw_c0.2, lw_in3 (List.mem_of_getElem? (i := 47) rfl), lw_in3 (List.mem_of_getElem? (i := 48) rfl)⟩
theorem lw_p8 : lw_okq (⟨"MoonPromises$Reader", "takeWord", "(Ljava/lang/String;)Z"⟩, 10) := ⟨lw_c0.1, lw_c0.2, lw_in3 (List.mem_of_getElem? (i := 52) rfl), lw_in3 (List.mem_of_getElem? (i := 53) rfl)⟩
theorem lw_p9 : lw_okq (⟨"MoonPromises$Reader", "takeSea", "()Z"⟩, 10) := ⟨lw_c0.1, lw_c0.2, lw_in3 (List.mem_of_getElem? (i := 57) rfl), lw_in3 (List.mem_of_getElem? (i := 58) rfl)⟩
theorem lw_p10 : lw_okq (⟨"MoonPromises$Reader", "takePerson", "()Z"⟩, 10) := ⟨lw_c0.1, lw_c0.2, lw_in3 (List.mem_of_getElem? (i := 67) rfl), lw_in3 (List.mem_of_getElem? (i := 68) rfl)⟩
theorem lw_p11 : lw_okq (⟨"MoonPromises$Reader", "takePromise", "()Z"⟩, 10) := ⟨lw_c0.1, lw_c0.2, lw_in3 (List.mem_of_getElem? (i := 79) rfl), lw_in3 (List.mem_of_getElem? (i := 80) rfl)⟩
theorem lw_p12 : lw_okq (⟨"MoonPromises$Reader", "takePromiseMarks", "(I)Z"⟩, 10) := ⟨lw_c0.1, lw_c0.2, lw_in3 (List.mem_of_getElem? (i := 91) rfl), lw_in3 (List.mem_of_getElem? (i := 92) rfl)⟩
theorem lw_p13 : lw_okq (⟨"MoonPromises$Reader", "takeShut", "()Z"⟩, 10) := ⟨lw_c0.1, lw_c0.2, lw_in3 (List.mem_of_getElem? (i := 96) rfl), lw_in3 (List.mem_of_getElem? (i := 97) rfl)⟩
theorem lw_p14 : lw_okq (⟨"MoonPromises$Reader", "takeSign", "()Z"⟩, 10) := ⟨lw_c0.1, lw_c0.2, lw_in3 (List.mem_of_getElem? (i := 106) rfl), lw_in3 (List.mem_of_getElem? (i := 107) rfl)⟩
theorem lw_c1 : ("MoonPromises$Course" ≠ "java/lang/invoke/MethodHandle" ∧ "MoonPromises$Course" ≠ "java/lang/invoke/VarHandle") ∧ Cond.instantiable "MoonPromises$Course" 8 ∈ tables_1 := ⟨⟨by decide +kernel, by decide +kernel⟩, lw_in1 (List.mem_of_getElem? (i := 185) rfl)⟩
theorem lw_p15 : lw_okq (⟨"MoonPromises$Course", "apply", "(I)V"⟩, 8) := ⟨lw_c1.1, lw_c1.2, lw_in3 (List.mem_of_getElem? (i := 122) rfl), lw_in3 (List.mem_of_getElem? (i := 123) rfl)⟩
def lw_privs_1 : List (MethodName × Nat) := [(⟨"MoonPromises$Reader", "step", "()V"⟩, 10), (⟨"MoonPromises$Reader", "isLetter", "(I)Z"⟩, 10), (⟨"MoonPromises$Reader", "isDigit", "(I)Z"⟩, 10), (⟨"MoonPromises$Reader", "takeLine", "()Z"⟩, 10), (⟨"MoonPromises$Reader", "isWord", "(Ljava/lang/String;)Z"⟩, 10), (⟨"MoonPromises$Reader", "fail", "(I)Z"⟩, 10), (⟨"MoonPromises$Reader", "takeIsles", "()Z"⟩, 10), (⟨"MoonPromises$Reader", "takeNumber", "(III)Z"⟩, 10), (⟨"MoonPromises$Reader", "takeWord", "(Ljava/lang/String;)Z"⟩, 10), (⟨"MoonPromises$Reader", "takeSea", "()Z"⟩, 10), (⟨"MoonPromises$Reader", "takePerson", "()Z"⟩, 10), (⟨"MoonPromises$Reader", "takePromise", "()Z"⟩, 10), (⟨"MoonPromises$Reader", "takePromiseMarks", "(I)Z"⟩, 10), (⟨"MoonPromises$Reader", "takeShut", "()Z"⟩, 10), (⟨"MoonPromises$Reader", "takeSign", "()Z"⟩, 10), (⟨"MoonPromises$Course", "apply", "(I)V"⟩, 8)]
theorem lw_r1 : ∀ q ∈ lw_privs_1, lw_okq q := List.forall_mem_cons.mpr ⟨lw_p0, List.forall_mem_cons.mpr ⟨lw_p1, List.forall_mem_cons.mpr ⟨lw_p2, List.forall_mem_cons.mpr ⟨lw_p3, List.forall_mem_cons.mpr ⟨lw_p4, List.forall_mem_cons.mpr ⟨lw_p5, List.forall_mem_cons.mpr ⟨lw_p6, List.forall_mem_cons.mpr ⟨lw_p7, List.forall_mem_cons.mpr ⟨lw_p8, List.forall_mem_cons.mpr ⟨lw_p9, List.forall_mem_cons.mpr ⟨lw_p10, List.forall_mem_cons.mpr ⟨lw_p11, List.forall_mem_cons.mpr ⟨lw_p12, List.forall_mem_cons.mpr ⟨lw_p13, List.forall_mem_cons.mpr ⟨lw_p14, List.forall_mem_cons.mpr ⟨lw_p15, fun _ h => absurd h List.not_mem_nil⟩⟩⟩⟩⟩⟩⟩⟩⟩⟩⟩⟩⟩⟩⟩⟩
theorem lw_p16 : lw_okq (⟨"MoonPromises$Course", "lastSaid", "(II)I"⟩, 8) := ⟨lw_c1.1, lw_c1.2, lw_in3 (List.mem_of_getElem? (i := 178) rfl), lw_in3 (List.mem_of_getElem? (i := 179) rfl)⟩
theorem lw_c2 : ("MoonPromises" ≠ "java/lang/invoke/MethodHandle" ∧ "MoonPromises" ≠ "java/lang/invoke/VarHandle") ∧ Cond.instantiable "MoonPromises" 9 ∈ tables_1 := ⟨⟨by decide +kernel, by decide +kernel⟩, lw_in1 (List.mem_of_getElem? (i := 22) rfl)⟩
theorem lw_p17 : lw_okq (⟨"MoonPromises", "arePair", "(II)Z"⟩, 9) := ⟨lw_c2.1, lw_c2.2, lw_in3 (List.mem_of_getElem? (i := 211) rfl), lw_in3 (List.mem_of_getElem? (i := 212) rfl)⟩
theorem lw_p18 : lw_okq (⟨"MoonPromises", "isToldMoon", "(I)Z"⟩, 9) := ⟨lw_c2.1, lw_c2.2, lw_in4 (List.mem_of_getElem? (i := 8) rfl), lw_in4 (List.mem_of_getElem? (i := 9) rfl)⟩
theorem lw_p19 : lw_okq (⟨"MoonPromises", "canPlan", "(II)Z"⟩, 9) := ⟨lw_c2.1, lw_c2.2, lw_in4 (List.mem_of_getElem? (i := 105) rfl), lw_in4 (List.mem_of_getElem? (i := 106) rfl)⟩
theorem lw_c3 : ("MoonPromises$Planner" ≠ "java/lang/invoke/MethodHandle" ∧ "MoonPromises$Planner" ≠ "java/lang/invoke/VarHandle") ∧ Cond.instantiable "MoonPromises$Planner" 11 ∈ tables_1 := ⟨⟨by decide +kernel, by decide +kernel⟩, lw_in2 (List.mem_of_getElem? (i := 11) rfl)⟩
theorem lw_p20 : lw_okq (⟨"MoonPromises$Planner", "layLegs", "(LMoonPromises$Course;II)V"⟩, 11) := ⟨lw_c3.1, lw_c3.2, lw_in4 (List.mem_of_getElem? (i := 113) rfl), lw_in4 (List.mem_of_getElem? (i := 114) rfl)⟩
theorem lw_p21 : lw_okq (⟨"MoonPromises$Planner", "laySpoken", "(LMoonPromises$Course;I)V"⟩, 11) := ⟨lw_c3.1, lw_c3.2, lw_in4 (List.mem_of_getElem? (i := 121) rfl), lw_in4 (List.mem_of_getElem? (i := 122) rfl)⟩
theorem lw_p22 : lw_okq (⟨"MoonPromises$Planner", "layMissed", "(LMoonPromises$Course;I)V"⟩, 11) := ⟨lw_c3.1, lw_c3.2, lw_in4 (List.mem_of_getElem? (i := 127) rfl), lw_in4 (List.mem_of_getElem? (i := 128) rfl)⟩
theorem lw_p23 : lw_okq (⟨"MoonPromises$Planner", "leastFrom", "(II)I"⟩, 11) := ⟨lw_c3.1, lw_c3.2, lw_in4 (List.mem_of_getElem? (i := 137) rfl), lw_in4 (List.mem_of_getElem? (i := 138) rfl)⟩
theorem lw_p24 : lw_okq (⟨"MoonPromises$Planner", "oarsBy", "(III)I"⟩, 11) := ⟨lw_c3.1, lw_c3.2, lw_in4 (List.mem_of_getElem? (i := 141) rfl), lw_in4 (List.mem_of_getElem? (i := 142) rfl)⟩
theorem lw_p25 : lw_okq (⟨"MoonPromises$Planner", "isKeeping", "(I)Z"⟩, 11) := ⟨lw_c3.1, lw_c3.2, lw_in4 (List.mem_of_getElem? (i := 145) rfl), lw_in4 (List.mem_of_getElem? (i := 146) rfl)⟩
theorem lw_p26 : lw_okq (⟨"MoonPromises$Planner", "canKeep", "(I)Z"⟩, 11) := ⟨lw_c3.1, lw_c3.2, lw_in4 (List.mem_of_getElem? (i := 171) rfl), lw_in4 (List.mem_of_getElem? (i := 172) rfl)⟩
theorem lw_p27 : lw_okq (⟨"MoonPromises$Planner", "reached", "(III)I"⟩, 11) := ⟨lw_c3.1, lw_c3.2, lw_in4 (List.mem_of_getElem? (i := 175) rfl), lw_in4 (List.mem_of_getElem? (i := 176) rfl)⟩
theorem lw_p28 : lw_okq (⟨"MoonPromises", "canLove", "(III)Z"⟩, 9) := ⟨lw_c2.1, lw_c2.2, lw_in4 (List.mem_of_getElem? (i := 197) rfl), lw_in4 (List.mem_of_getElem? (i := 198) rfl)⟩
theorem lw_p29 : lw_okq (⟨"MoonPromises$Planner", "layReach", "()V"⟩, 11) := ⟨lw_c3.1, lw_c3.2, lw_in4 (List.mem_of_getElem? (i := 206) rfl), lw_in4 (List.mem_of_getElem? (i := 207) rfl)⟩
theorem lw_p30 : lw_okq (⟨"MoonPromises$Planner", "leastTo", "(II)I"⟩, 11) := ⟨lw_c3.1, lw_c3.2, lw_in4 (List.mem_of_getElem? (i := 210) rfl), lw_in4 (List.mem_of_getElem? (i := 211) rfl)⟩
theorem lw_p31 : lw_okq (⟨"MoonPromises$Course", "standsAlone", "(I)Z"⟩, 8) := ⟨lw_c1.1, lw_c1.2, lw_in4 (List.mem_of_getElem? (i := 226) rfl), lw_in4 (List.mem_of_getElem? (i := 227) rfl)⟩
def lw_privs_2 : List (MethodName × Nat) := [(⟨"MoonPromises$Course", "lastSaid", "(II)I"⟩, 8), (⟨"MoonPromises", "arePair", "(II)Z"⟩, 9), (⟨"MoonPromises", "isToldMoon", "(I)Z"⟩, 9), (⟨"MoonPromises", "canPlan", "(II)Z"⟩, 9), (⟨"MoonPromises$Planner", "layLegs", "(LMoonPromises$Course;II)V"⟩, 11), (⟨"MoonPromises$Planner", "laySpoken", "(LMoonPromises$Course;I)V"⟩, 11), (⟨"MoonPromises$Planner", "layMissed", "(LMoonPromises$Course;I)V"⟩, 11), (⟨"MoonPromises$Planner", "leastFrom", "(II)I"⟩, 11), (⟨"MoonPromises$Planner", "oarsBy", "(III)I"⟩, 11), (⟨"MoonPromises$Planner", "isKeeping", "(I)Z"⟩, 11), (⟨"MoonPromises$Planner", "canKeep", "(I)Z"⟩, 11), (⟨"MoonPromises$Planner", "reached", "(III)I"⟩, 11), (⟨"MoonPromises", "canLove", "(III)Z"⟩, 9), (⟨"MoonPromises$Planner", "layReach", "()V"⟩, 11), (⟨"MoonPromises$Planner", "leastTo", "(II)I"⟩, 11), (⟨"MoonPromises$Course", "standsAlone", "(I)Z"⟩, 8)]
theorem lw_r2 : ∀ q ∈ lw_privs_2, lw_okq q := List.forall_mem_cons.mpr ⟨lw_p16, List.forall_mem_cons.mpr ⟨lw_p17, List.forall_mem_cons.mpr ⟨lw_p18, List.forall_mem_cons.mpr ⟨lw_p19, List.forall_mem_cons.mpr ⟨lw_p20, List.forall_mem_cons.mpr ⟨lw_p21, List.forall_mem_cons.mpr ⟨lw_p22, List.forall_mem_cons.mpr ⟨lw_p23, List.forall_mem_cons.mpr ⟨lw_p24, List.forall_mem_cons.mpr ⟨lw_p25, List.forall_mem_cons.mpr ⟨lw_p26, List.forall_mem_cons.mpr ⟨lw_p27, List.forall_mem_cons.mpr ⟨lw_p28, List.forall_mem_cons.mpr ⟨lw_p29, List.forall_mem_cons.mpr ⟨lw_p30, List.forall_mem_cons.mpr ⟨lw_p31, fun _ h => absurd h List.not_mem_nil⟩⟩⟩⟩⟩⟩⟩⟩⟩⟩⟩⟩⟩⟩⟩⟩
theorem lw_p32 : lw_okq (⟨"MoonPromises", "putOnScales", "(II)I"⟩, 9) := ⟨lw_c2.1, lw_c2.2, lw_in5 (List.mem_of_getElem? (i := 22) rfl), lw_in5 (List.mem_of_getElem? (i := 23) rfl)⟩
theorem lw_c4 : ("MoonPromises$Scales" ≠ "java/lang/invoke/MethodHandle" ∧ "MoonPromises$Scales" ≠ "java/lang/invoke/VarHandle") ∧ Cond.instantiable "MoonPromises$Scales" 10 ∈ tables_1 := ⟨⟨by decide +kernel, by decide +kernel⟩, lw_in2 (List.mem_of_getElem? (i := 53) rfl)⟩
theorem lw_p33 : lw_okq (⟨"MoonPromises$Scales", "fits", "(I)Z"⟩, 10) := ⟨lw_c4.1, lw_c4.2, lw_in5 (List.mem_of_getElem? (i := 48) rfl), lw_in5 (List.mem_of_getElem? (i := 49) rfl)⟩
theorem lw_p34 : lw_okq (⟨"MoonPromises$Scales", "addToTally", "(I)V"⟩, 10) := ⟨lw_c4.1, lw_c4.2, lw_in5 (List.mem_of_getElem? (i := 58) rfl), lw_in5 (List.mem_of_getElem? (i := 59) rfl)⟩
theorem lw_p35 : lw_okq (⟨"MoonPromises$Scales", "worstLeft", "(I)I"⟩, 10) := ⟨lw_c4.1, lw_c4.2, lw_in5 (List.mem_of_getElem? (i := 78) rfl), lw_in5 (List.mem_of_getElem? (i := 79) rfl)⟩
theorem lw_p36 : lw_okq (⟨"MoonPromises$Scales", "fitsFirst", "(I)Z"⟩, 10) := ⟨lw_c4.1, lw_c4.2, lw_in5 (List.mem_of_getElem? (i := 93) rfl), lw_in5 (List.mem_of_getElem? (i := 94) rfl)⟩
theorem lw_p37 : lw_okq (⟨"MoonPromises", "putInThreat", "(I)I"⟩, 9) := ⟨lw_c2.1, lw_c2.2, lw_in5 (List.mem_of_getElem? (i := 115) rfl), lw_in5 (List.mem_of_getElem? (i := 116) rfl)⟩
theorem lw_p38 : lw_okq (⟨"MoonPromises", "canDraw", "(III)Z"⟩, 9) := ⟨lw_c2.1, lw_c2.2, lw_in5 (List.mem_of_getElem? (i := 142) rfl), lw_in5 (List.mem_of_getElem? (i := 143) rfl)⟩
theorem lw_c5 : ("MoonPromisesModel" ≠ "java/lang/invoke/MethodHandle" ∧ "MoonPromisesModel" ≠ "java/lang/invoke/VarHandle") ∧ Cond.instantiable "MoonPromisesModel" 47 ∈ tables_1 := ⟨⟨by decide +kernel, by decide +kernel⟩, lw_in6 (List.mem_of_getElem? (i := 6) rfl)⟩
theorem lw_p39 : lw_okq (⟨"MoonPromisesModel", "four", "(I)V"⟩, 47) := ⟨lw_c5.1, lw_c5.2, lw_in6 (List.mem_of_getElem? (i := 181) rfl), lw_in6 (List.mem_of_getElem? (i := 182) rfl)⟩
theorem lw_p40 : lw_okq (⟨"MoonPromisesModel", "clears", "()V"⟩, 47) := ⟨lw_c5.1, lw_c5.2, lw_in6 (List.mem_of_getElem? (i := 197) rfl), lw_in6 (List.mem_of_getElem? (i := 198) rfl)⟩
theorem lw_p41 : lw_okq (⟨"MoonPromisesModel", "begins", "()V"⟩, 47) := ⟨lw_c5.1, lw_c5.2, lw_in6 (List.mem_of_getElem? (i := 201) rfl), lw_in6 (List.mem_of_getElem? (i := 202) rfl)⟩
theorem lw_p42 : lw_okq (⟨"MoonPromisesModel", "next", "()V"⟩, 47) := ⟨lw_c5.1, lw_c5.2, lw_in6 (List.mem_of_getElem? (i := 205) rfl), lw_in6 (List.mem_of_getElem? (i := 206) rfl)⟩
theorem lw_p43 : lw_okq (⟨"MoonPromisesModel", "isByte", "(III)Z"⟩, 47) := ⟨lw_c5.1, lw_c5.2, lw_in6 (List.mem_of_getElem? (i := 209) rfl), lw_in6 (List.mem_of_getElem? (i := 210) rfl)⟩
theorem lw_p44 : lw_okq (⟨"MoonPromisesModel", "isGood", "()Z"⟩, 47) := ⟨lw_c5.1, lw_c5.2, lw_in6 (List.mem_of_getElem? (i := 218) rfl), lw_in6 (List.mem_of_getElem? (i := 219) rfl)⟩
theorem lw_p45 : lw_okq (⟨"MoonPromisesModel", "asks", "(J)V"⟩, 47) := ⟨lw_c5.1, lw_c5.2, lw_in6 (List.mem_of_getElem? (i := 223) rfl), lw_in6 (List.mem_of_getElem? (i := 224) rfl)⟩
theorem lw_p46 : lw_okq (⟨"MoonPromisesModel", "takes", "(J)Z"⟩, 47) := ⟨lw_c5.1, lw_c5.2, lw_in6 (List.mem_of_getElem? (i := 227) rfl), lw_in6 (List.mem_of_getElem? (i := 228) rfl)⟩
theorem lw_p47 : lw_okq (⟨"MoonPromisesModel", "is", "(J)Z"⟩, 47) := ⟨lw_c5.1, lw_c5.2, lw_in6 (List.mem_of_getElem? (i := 231) rfl), lw_in6 (List.mem_of_getElem? (i := 232) rfl)⟩
def lw_privs_3 : List (MethodName × Nat) := [(⟨"MoonPromises", "putOnScales", "(II)I"⟩, 9), (⟨"MoonPromises$Scales", "fits", "(I)Z"⟩, 10), (⟨"MoonPromises$Scales", "addToTally", "(I)V"⟩, 10), (⟨"MoonPromises$Scales", "worstLeft", "(I)I"⟩, 10), (⟨"MoonPromises$Scales", "fitsFirst", "(I)Z"⟩, 10), (⟨"MoonPromises", "putInThreat", "(I)I"⟩, 9), (⟨"MoonPromises", "canDraw", "(III)Z"⟩, 9), (⟨"MoonPromisesModel", "four", "(I)V"⟩, 47), (⟨"MoonPromisesModel", "clears", "()V"⟩, 47), (⟨"MoonPromisesModel", "begins", "()V"⟩, 47), (⟨"MoonPromisesModel", "next", "()V"⟩, 47), (⟨"MoonPromisesModel", "isByte", "(III)Z"⟩, 47), (⟨"MoonPromisesModel", "isGood", "()Z"⟩, 47), (⟨"MoonPromisesModel", "asks", "(J)V"⟩, 47), (⟨"MoonPromisesModel", "takes", "(J)Z"⟩, 47), (⟨"MoonPromisesModel", "is", "(J)Z"⟩, 47)]
theorem lw_r3 : ∀ q ∈ lw_privs_3, lw_okq q := List.forall_mem_cons.mpr ⟨lw_p32, List.forall_mem_cons.mpr ⟨lw_p33, List.forall_mem_cons.mpr ⟨lw_p34, List.forall_mem_cons.mpr ⟨lw_p35, List.forall_mem_cons.mpr ⟨lw_p36, List.forall_mem_cons.mpr ⟨lw_p37, List.forall_mem_cons.mpr ⟨lw_p38, List.forall_mem_cons.mpr ⟨lw_p39, List.forall_mem_cons.mpr ⟨lw_p40, List.forall_mem_cons.mpr ⟨lw_p41, List.forall_mem_cons.mpr ⟨lw_p42, List.forall_mem_cons.mpr ⟨lw_p43, List.forall_mem_cons.mpr ⟨lw_p44, List.forall_mem_cons.mpr ⟨lw_p45, List.forall_mem_cons.mpr ⟨lw_p46, List.forall_mem_cons.mpr ⟨lw_p47, fun _ h => absurd h List.not_mem_nil⟩⟩⟩⟩⟩⟩⟩⟩⟩⟩⟩⟩⟩⟩⟩⟩
theorem lw_p48 : lw_okq (⟨"MoonPromisesModel", "fails", "(I)V"⟩, 47) := ⟨lw_c5.1, lw_c5.2, lw_in6 (List.mem_of_getElem? (i := 235) rfl), lw_in6 (List.mem_of_getElem? (i := 236) rfl)⟩
theorem lw_p49 : lw_okq (⟨"MoonPromisesModel", "number", "(II)I"⟩, 47) := ⟨lw_c5.1, lw_c5.2, lw_in6 (List.mem_of_getElem? (i := 239) rfl), lw_in7 (List.mem_of_getElem? (i := 0) rfl)⟩
theorem lw_p50 : lw_okq (⟨"MoonPromisesModel", "moonHere", "()I"⟩, 47) := ⟨lw_c5.1, lw_c5.2, lw_in7 (List.mem_of_getElem? (i := 4) rfl), lw_in7 (List.mem_of_getElem? (i := 5) rfl)⟩
theorem lw_p51 : lw_okq (⟨"MoonPromisesModel", "line", "()V"⟩, 47) := ⟨lw_c5.1, lw_c5.2, lw_in7 (List.mem_of_getElem? (i := 8) rfl), lw_in7 (List.mem_of_getElem? (i := 9) rfl)⟩
theorem lw_p52 : lw_okq (⟨"MoonPromisesModel", "hasRead", "(I)I"⟩, 47) := ⟨lw_c5.1, lw_c5.2, lw_in7 (List.mem_of_getElem? (i := 14) rfl), lw_in7 (List.mem_of_getElem? (i := 15) rfl)⟩
theorem lw_p53 : lw_okq (⟨"MoonPromisesModel", "personLine", "()V"⟩, 47) := ⟨lw_c5.1, lw_c5.2, lw_in7 (List.mem_of_getElem? (i := 18) rfl), lw_in7 (List.mem_of_getElem? (i := 19) rfl)⟩
theorem lw_p54 : lw_okq (⟨"MoonPromisesModel", "isleHere", "()I"⟩, 47) := ⟨lw_c5.1, lw_c5.2, lw_in7 (List.mem_of_getElem? (i := 23) rfl), lw_in7 (List.mem_of_getElem? (i := 24) rfl)⟩
theorem lw_p55 : lw_okq (⟨"MoonPromisesModel", "promiseLine", "()V"⟩, 47) := ⟨lw_c5.1, lw_c5.2, lw_in7 (List.mem_of_getElem? (i := 29) rfl), lw_in7 (List.mem_of_getElem? (i := 30) rfl)⟩
theorem lw_p56 : lw_okq (⟨"MoonPromisesModel", "personHere", "()I"⟩, 47) := ⟨lw_c5.1, lw_c5.2, lw_in7 (List.mem_of_getElem? (i := 33) rfl), lw_in7 (List.mem_of_getElem? (i := 34) rfl)⟩
theorem lw_p57 : lw_okq (⟨"MoonPromisesModel", "number", "(JII)I"⟩, 47) := ⟨lw_c5.1, lw_c5.2, lw_in7 (List.mem_of_getElem? (i := 39) rfl), lw_in7 (List.mem_of_getElem? (i := 40) rfl)⟩
theorem lw_p58 : lw_okq (⟨"MoonPromisesModel", "seaLine", "()V"⟩, 47) := ⟨lw_c5.1, lw_c5.2, lw_in7 (List.mem_of_getElem? (i := 46) rfl), lw_in7 (List.mem_of_getElem? (i := 47) rfl)⟩
theorem lw_p59 : lw_okq (⟨"MoonPromisesModel", "ends", "()V"⟩, 47) := ⟨lw_c5.1, lw_c5.2, lw_in7 (List.mem_of_getElem? (i := 52) rfl), lw_in7 (List.mem_of_getElem? (i := 53) rfl)⟩
theorem lw_p60 : lw_okq (⟨"MoonPromisesModel", "isOver", "()V"⟩, 47) := ⟨lw_c5.1, lw_c5.2, lw_in7 (List.mem_of_getElem? (i := 56) rfl), lw_in7 (List.mem_of_getElem? (i := 57) rfl)⟩
theorem lw_p61 : lw_okq (⟨"MoonPromisesModel", "copyIsles", "(II)V"⟩, 47) := ⟨lw_c5.1, lw_c5.2, lw_in7 (List.mem_of_getElem? (i := 60) rfl), lw_in7 (List.mem_of_getElem? (i := 61) rfl)⟩
theorem lw_p62 : lw_okq (⟨"MoonPromisesModel", "isPerson", "(I)Z"⟩, 47) := ⟨lw_c5.1, lw_c5.2, lw_in7 (List.mem_of_getElem? (i := 71) rfl), lw_in7 (List.mem_of_getElem? (i := 72) rfl)⟩
theorem lw_p63 : lw_okq (⟨"MoonPromisesModel", "isPromise", "(I)Z"⟩, 47) := ⟨lw_c5.1, lw_c5.2, lw_in7 (List.mem_of_getElem? (i := 80) rfl), lw_in7 (List.mem_of_getElem? (i := 81) rfl)⟩
def lw_privs_4 : List (MethodName × Nat) := [(⟨"MoonPromisesModel", "fails", "(I)V"⟩, 47), (⟨"MoonPromisesModel", "number", "(II)I"⟩, 47), (⟨"MoonPromisesModel", "moonHere", "()I"⟩, 47), (⟨"MoonPromisesModel", "line", "()V"⟩, 47), (⟨"MoonPromisesModel", "hasRead", "(I)I"⟩, 47), (⟨"MoonPromisesModel", "personLine", "()V"⟩, 47), (⟨"MoonPromisesModel", "isleHere", "()I"⟩, 47), (⟨"MoonPromisesModel", "promiseLine", "()V"⟩, 47), (⟨"MoonPromisesModel", "personHere", "()I"⟩, 47), (⟨"MoonPromisesModel", "number", "(JII)I"⟩, 47), (⟨"MoonPromisesModel", "seaLine", "()V"⟩, 47), (⟨"MoonPromisesModel", "ends", "()V"⟩, 47), (⟨"MoonPromisesModel", "isOver", "()V"⟩, 47), (⟨"MoonPromisesModel", "copyIsles", "(II)V"⟩, 47), (⟨"MoonPromisesModel", "isPerson", "(I)Z"⟩, 47), (⟨"MoonPromisesModel", "isPromise", "(I)Z"⟩, 47)]
theorem lw_r4 : ∀ q ∈ lw_privs_4, lw_okq q := List.forall_mem_cons.mpr ⟨lw_p48, List.forall_mem_cons.mpr ⟨lw_p49, List.forall_mem_cons.mpr ⟨lw_p50, List.forall_mem_cons.mpr ⟨lw_p51, List.forall_mem_cons.mpr ⟨lw_p52, List.forall_mem_cons.mpr ⟨lw_p53, List.forall_mem_cons.mpr ⟨lw_p54, List.forall_mem_cons.mpr ⟨lw_p55, List.forall_mem_cons.mpr ⟨lw_p56, List.forall_mem_cons.mpr ⟨lw_p57, List.forall_mem_cons.mpr ⟨lw_p58, List.forall_mem_cons.mpr ⟨lw_p59, List.forall_mem_cons.mpr ⟨lw_p60, List.forall_mem_cons.mpr ⟨lw_p61, List.forall_mem_cons.mpr ⟨lw_p62, List.forall_mem_cons.mpr ⟨lw_p63, fun _ h => absurd h List.not_mem_nil⟩⟩⟩⟩⟩⟩⟩⟩⟩⟩⟩⟩⟩⟩⟩⟩
theorem lw_p64 : lw_okq (⟨"MoonPromisesModel", "of", "(II)I"⟩, 47) := ⟨lw_c5.1, lw_c5.2, lw_in7 (List.mem_of_getElem? (i := 85) rfl), lw_in7 (List.mem_of_getElem? (i := 86) rfl)⟩
theorem lw_p65 : lw_okq (⟨"MoonPromisesModel", "isIsle", "(I)Z"⟩, 47) := ⟨lw_c5.1, lw_c5.2, lw_in7 (List.mem_of_getElem? (i := 93) rfl), lw_in7 (List.mem_of_getElem? (i := 94) rfl)⟩
theorem lw_p66 : lw_okq (⟨"MoonPromisesModel", "lays", "()V"⟩, 47) := ⟨lw_c5.1, lw_c5.2, lw_in7 (List.mem_of_getElem? (i := 109) rfl), lw_in7 (List.mem_of_getElem? (i := 110) rfl)⟩
theorem lw_p67 : lw_okq (⟨"MoonPromisesModel", "halvedOf", "(II)I"⟩, 47) := ⟨lw_c5.1, lw_c5.2, lw_in7 (List.mem_of_getElem? (i := 113) rfl), lw_in7 (List.mem_of_getElem? (i := 114) rfl)⟩
theorem lw_p68 : lw_okq (⟨"MoonPromisesModel", "ownOf", "(II)I"⟩, 47) := ⟨lw_c5.1, lw_c5.2, lw_in7 (List.mem_of_getElem? (i := 117) rfl), lw_in7 (List.mem_of_getElem? (i := 118) rfl)⟩
theorem lw_p69 : lw_okq (⟨"MoonPromisesModel", "worthOf", "(II)I"⟩, 47) := ⟨lw_c5.1, lw_c5.2, lw_in7 (List.mem_of_getElem? (i := 125) rfl), lw_in7 (List.mem_of_getElem? (i := 126) rfl)⟩
theorem lw_p70 : lw_okq (⟨"MoonPromisesModel", "areTwo", "(II)Z"⟩, 47) := ⟨lw_c5.1, lw_c5.2, lw_in7 (List.mem_of_getElem? (i := 140) rfl), lw_in7 (List.mem_of_getElem? (i := 141) rfl)⟩
theorem lw_p71 : lw_okq (⟨"MoonPromisesModel", "owedOf", "(III)I"⟩, 47) := ⟨lw_c5.1, lw_c5.2, lw_in7 (List.mem_of_getElem? (i := 144) rfl), lw_in7 (List.mem_of_getElem? (i := 145) rfl)⟩
theorem lw_p72 : lw_okq (⟨"MoonPromisesModel", "sumOf", "(III)I"⟩, 47) := ⟨lw_c5.1, lw_c5.2, lw_in7 (List.mem_of_getElem? (i := 153) rfl), lw_in7 (List.mem_of_getElem? (i := 154) rfl)⟩
theorem lw_p73 : lw_okq (⟨"MoonPromisesModel", "areIsles", "()Z"⟩, 47) := ⟨lw_c5.1, lw_c5.2, lw_in7 (List.mem_of_getElem? (i := 161) rfl), lw_in7 (List.mem_of_getElem? (i := 162) rfl)⟩
theorem lw_p74 : lw_okq (⟨"MoonPromisesModel", "rootOf", "(I)I"⟩, 47) := ⟨lw_c5.1, lw_c5.2, lw_in7 (List.mem_of_getElem? (i := 173) rfl), lw_in7 (List.mem_of_getElem? (i := 174) rfl)⟩
theorem lw_p75 : lw_okq (⟨"MoonPromisesModel", "maySail", "(II)Z"⟩, 47) := ⟨lw_c5.1, lw_c5.2, lw_in7 (List.mem_of_getElem? (i := 200) rfl), lw_in7 (List.mem_of_getElem? (i := 201) rfl)⟩
theorem lw_p76 : lw_okq (⟨"MoonPromisesModel", "isSea", "(IIII)Z"⟩, 47) := ⟨lw_c5.1, lw_c5.2, lw_in7 (List.mem_of_getElem? (i := 204) rfl), lw_in7 (List.mem_of_getElem? (i := 205) rfl)⟩
theorem lw_p77 : lw_okq (⟨"MoonPromisesModel", "isDead", "(II)Z"⟩, 47) := ⟨lw_c5.1, lw_c5.2, lw_in7 (List.mem_of_getElem? (i := 208) rfl), lw_in7 (List.mem_of_getElem? (i := 209) rfl)⟩
theorem lw_p78 : lw_okq (⟨"MoonPromisesModel", "isFull", "()Z"⟩, 47) := ⟨lw_c5.1, lw_c5.2, lw_in7 (List.mem_of_getElem? (i := 212) rfl), lw_in7 (List.mem_of_getElem? (i := 213) rfl)⟩
theorem lw_p79 : lw_okq (⟨"MoonPromisesModel", "acts", "(I)V"⟩, 47) := ⟨lw_c5.1, lw_c5.2, lw_in7 (List.mem_of_getElem? (i := 216) rfl), lw_in7 (List.mem_of_getElem? (i := 217) rfl)⟩
def lw_privs_5 : List (MethodName × Nat) := [(⟨"MoonPromisesModel", "of", "(II)I"⟩, 47), (⟨"MoonPromisesModel", "isIsle", "(I)Z"⟩, 47), (⟨"MoonPromisesModel", "lays", "()V"⟩, 47), (⟨"MoonPromisesModel", "halvedOf", "(II)I"⟩, 47), (⟨"MoonPromisesModel", "ownOf", "(II)I"⟩, 47), (⟨"MoonPromisesModel", "worthOf", "(II)I"⟩, 47), (⟨"MoonPromisesModel", "areTwo", "(II)Z"⟩, 47), (⟨"MoonPromisesModel", "owedOf", "(III)I"⟩, 47), (⟨"MoonPromisesModel", "sumOf", "(III)I"⟩, 47), (⟨"MoonPromisesModel", "areIsles", "()Z"⟩, 47), (⟨"MoonPromisesModel", "rootOf", "(I)I"⟩, 47), (⟨"MoonPromisesModel", "maySail", "(II)Z"⟩, 47), (⟨"MoonPromisesModel", "isSea", "(IIII)Z"⟩, 47), (⟨"MoonPromisesModel", "isDead", "(II)Z"⟩, 47), (⟨"MoonPromisesModel", "isFull", "()Z"⟩, 47), (⟨"MoonPromisesModel", "acts", "(I)V"⟩, 47)]
theorem lw_r5 : ∀ q ∈ lw_privs_5, lw_okq q := List.forall_mem_cons.mpr ⟨lw_p64, List.forall_mem_cons.mpr ⟨lw_p65, List.forall_mem_cons.mpr ⟨lw_p66, List.forall_mem_cons.mpr ⟨lw_p67, List.forall_mem_cons.mpr ⟨lw_p68, List.forall_mem_cons.mpr ⟨lw_p69, List.forall_mem_cons.mpr ⟨lw_p70, List.forall_mem_cons.mpr ⟨lw_p71, List.forall_mem_cons.mpr ⟨lw_p72, List.forall_mem_cons.mpr ⟨lw_p73, List.forall_mem_cons.mpr ⟨lw_p74, List.forall_mem_cons.mpr ⟨lw_p75, List.forall_mem_cons.mpr ⟨lw_p76, List.forall_mem_cons.mpr ⟨lw_p77, List.forall_mem_cons.mpr ⟨lw_p78, List.forall_mem_cons.mpr ⟨lw_p79, fun _ h => absurd h List.not_mem_nil⟩⟩⟩⟩⟩⟩⟩⟩⟩⟩⟩⟩⟩⟩⟩⟩
theorem lw_p80 : lw_okq (⟨"MoonPromisesModel", "maySay", "(I)Z"⟩, 47) := ⟨lw_c5.1, lw_c5.2, lw_in7 (List.mem_of_getElem? (i := 224) rfl), lw_in7 (List.mem_of_getElem? (i := 225) rfl)⟩
theorem lw_p81 : lw_okq (⟨"MoonPromisesModel", "isPlan", "(II)Z"⟩, 47) := ⟨lw_c5.1, lw_c5.2, lw_in8 (List.mem_of_getElem? (i := 16) rfl), lw_in8 (List.mem_of_getElem? (i := 17) rfl)⟩
theorem lw_p82 : lw_okq (⟨"MoonPromisesModel", "keptNow", "(I)I"⟩, 47) := ⟨lw_c5.1, lw_c5.2, lw_in8 (List.mem_of_getElem? (i := 21) rfl), lw_in8 (List.mem_of_getElem? (i := 22) rfl)⟩
theorem lw_p83 : lw_okq (⟨"MoonPromisesModel", "plansFor", "(III)I"⟩, 47) := ⟨lw_c5.1, lw_c5.2, lw_in8 (List.mem_of_getElem? (i := 25) rfl), lw_in8 (List.mem_of_getElem? (i := 26) rfl)⟩
theorem lw_p84 : lw_okq (⟨"MoonPromisesModel", "onceNow", "()I"⟩, 47) := ⟨lw_c5.1, lw_c5.2, lw_in8 (List.mem_of_getElem? (i := 29) rfl), lw_in8 (List.mem_of_getElem? (i := 30) rfl)⟩
theorem lw_p85 : lw_okq (⟨"MoonPromisesModel", "goesOn", "(III)V"⟩, 47) := ⟨lw_c5.1, lw_c5.2, lw_in8 (List.mem_of_getElem? (i := 33) rfl), lw_in8 (List.mem_of_getElem? (i := 34) rfl)⟩
theorem lw_p86 : lw_okq (⟨"MoonPromisesModel", "oarsBy", "(III)I"⟩, 47) := ⟨lw_c5.1, lw_c5.2, lw_in8 (List.mem_of_getElem? (i := 37) rfl), lw_in8 (List.mem_of_getElem? (i := 38) rfl)⟩
theorem lw_p87 : lw_okq (⟨"MoonPromisesModel", "onceBehind", "(III)I"⟩, 47) := ⟨lw_c5.1, lw_c5.2, lw_in8 (List.mem_of_getElem? (i := 41) rfl), lw_in8 (List.mem_of_getElem? (i := 42) rfl)⟩
theorem lw_p88 : lw_okq (⟨"MoonPromisesModel", "saidOn", "(II)I"⟩, 47) := ⟨lw_c5.1, lw_c5.2, lw_in8 (List.mem_of_getElem? (i := 45) rfl), lw_in8 (List.mem_of_getElem? (i := 46) rfl)⟩
theorem lw_p89 : lw_okq (⟨"MoonPromisesModel", "isStep", "(IIII)Z"⟩, 47) := ⟨lw_c5.1, lw_c5.2, lw_in8 (List.mem_of_getElem? (i := 53) rfl), lw_in8 (List.mem_of_getElem? (i := 54) rfl)⟩
theorem lw_p90 : lw_okq (⟨"MoonPromisesModel", "fallenOf", "(II)I"⟩, 47) := ⟨lw_c5.1, lw_c5.2, lw_in8 (List.mem_of_getElem? (i := 61) rfl), lw_in8 (List.mem_of_getElem? (i := 62) rfl)⟩
theorem lw_p91 : lw_okq (⟨"MoonPromisesModel", "isLove", "(III)Z"⟩, 47) := ⟨lw_c5.1, lw_c5.2, lw_in8 (List.mem_of_getElem? (i := 81) rfl), lw_in8 (List.mem_of_getElem? (i := 82) rfl)⟩
theorem lw_p92 : lw_okq (⟨"MoonPromisesModel", "loves", "(III)V"⟩, 47) := ⟨lw_c5.1, lw_c5.2, lw_in8 (List.mem_of_getElem? (i := 85) rfl), lw_in8 (List.mem_of_getElem? (i := 86) rfl)⟩
theorem lw_p93 : lw_okq (⟨"MoonPromisesModel", "worthSaid", "(III)I"⟩, 47) := ⟨lw_c5.1, lw_c5.2, lw_in8 (List.mem_of_getElem? (i := 89) rfl), lw_in8 (List.mem_of_getElem? (i := 90) rfl)⟩
theorem lw_p94 : lw_okq (⟨"MoonPromisesModel", "joinOf", "(II)I"⟩, 47) := ⟨lw_c5.1, lw_c5.2, lw_in8 (List.mem_of_getElem? (i := 101) rfl), lw_in8 (List.mem_of_getElem? (i := 102) rfl)⟩
theorem lw_p95 : lw_okq (⟨"MoonPromisesModel", "isUnder", "(I)Z"⟩, 47) := ⟨lw_c5.1, lw_c5.2, lw_in8 (List.mem_of_getElem? (i := 105) rfl), lw_in8 (List.mem_of_getElem? (i := 106) rfl)⟩
def lw_privs_6 : List (MethodName × Nat) := [(⟨"MoonPromisesModel", "maySay", "(I)Z"⟩, 47), (⟨"MoonPromisesModel", "isPlan", "(II)Z"⟩, 47), (⟨"MoonPromisesModel", "keptNow", "(I)I"⟩, 47), (⟨"MoonPromisesModel", "plansFor", "(III)I"⟩, 47), (⟨"MoonPromisesModel", "onceNow", "()I"⟩, 47), (⟨"MoonPromisesModel", "goesOn", "(III)V"⟩, 47), (⟨"MoonPromisesModel", "oarsBy", "(III)I"⟩, 47), (⟨"MoonPromisesModel", "onceBehind", "(III)I"⟩, 47), (⟨"MoonPromisesModel", "saidOn", "(II)I"⟩, 47), (⟨"MoonPromisesModel", "isStep", "(IIII)Z"⟩, 47), (⟨"MoonPromisesModel", "fallenOf", "(II)I"⟩, 47), (⟨"MoonPromisesModel", "isLove", "(III)Z"⟩, 47), (⟨"MoonPromisesModel", "loves", "(III)V"⟩, 47), (⟨"MoonPromisesModel", "worthSaid", "(III)I"⟩, 47), (⟨"MoonPromisesModel", "joinOf", "(II)I"⟩, 47), (⟨"MoonPromisesModel", "isUnder", "(I)Z"⟩, 47)]
theorem lw_r6 : ∀ q ∈ lw_privs_6, lw_okq q := List.forall_mem_cons.mpr ⟨lw_p80, List.forall_mem_cons.mpr ⟨lw_p81, List.forall_mem_cons.mpr ⟨lw_p82, List.forall_mem_cons.mpr ⟨lw_p83, List.forall_mem_cons.mpr ⟨lw_p84, List.forall_mem_cons.mpr ⟨lw_p85, List.forall_mem_cons.mpr ⟨lw_p86, List.forall_mem_cons.mpr ⟨lw_p87, List.forall_mem_cons.mpr ⟨lw_p88, List.forall_mem_cons.mpr ⟨lw_p89, List.forall_mem_cons.mpr ⟨lw_p90, List.forall_mem_cons.mpr ⟨lw_p91, List.forall_mem_cons.mpr ⟨lw_p92, List.forall_mem_cons.mpr ⟨lw_p93, List.forall_mem_cons.mpr ⟨lw_p94, List.forall_mem_cons.mpr ⟨lw_p95, fun _ h => absurd h List.not_mem_nil⟩⟩⟩⟩⟩⟩⟩⟩⟩⟩⟩⟩⟩⟩⟩⟩
theorem lw_p96 : lw_okq (⟨"MoonPromisesModel", "ringOf", "(I)I"⟩, 47) := ⟨lw_c5.1, lw_c5.2, lw_in8 (List.mem_of_getElem? (i := 119) rfl), lw_in8 (List.mem_of_getElem? (i := 120) rfl)⟩
theorem lw_p97 : lw_okq (⟨"MoonPromisesModel", "struckOf", "(IIII)I"⟩, 47) := ⟨lw_c5.1, lw_c5.2, lw_in8 (List.mem_of_getElem? (i := 123) rfl), lw_in8 (List.mem_of_getElem? (i := 124) rfl)⟩
theorem lw_p98 : lw_okq (⟨"MoonPromisesModel", "whyNot", "(II)I"⟩, 47) := ⟨lw_c5.1, lw_c5.2, lw_in8 (List.mem_of_getElem? (i := 139) rfl), lw_in8 (List.mem_of_getElem? (i := 140) rfl)⟩
theorem lw_p99 : lw_okq (⟨"MoonPromisesModel", "laysWays", "(II)V"⟩, 47) := ⟨lw_c5.1, lw_c5.2, lw_in8 (List.mem_of_getElem? (i := 144) rfl), lw_in8 (List.mem_of_getElem? (i := 145) rfl)⟩
theorem lw_p100 : lw_okq (⟨"MoonPromisesModel", "isWay", "(III)Z"⟩, 47) := ⟨lw_c5.1, lw_c5.2, lw_in8 (List.mem_of_getElem? (i := 148) rfl), lw_in8 (List.mem_of_getElem? (i := 149) rfl)⟩
theorem lw_p101 : lw_okq (⟨"MoonPromisesModel", "worthBy", "(III)I"⟩, 47) := ⟨lw_c5.1, lw_c5.2, lw_in8 (List.mem_of_getElem? (i := 152) rfl), lw_in8 (List.mem_of_getElem? (i := 153) rfl)⟩
theorem lw_p102 : lw_okq (⟨"MoonPromisesModel", "worstOf", "(III)I"⟩, 47) := ⟨lw_c5.1, lw_c5.2, lw_in8 (List.mem_of_getElem? (i := 168) rfl), lw_in8 (List.mem_of_getElem? (i := 169) rfl)⟩
theorem lw_p103 : lw_okq (⟨"MoonPromisesModel", "whyNoThreat", "(I)I"⟩, 47) := ⟨lw_c5.1, lw_c5.2, lw_in8 (List.mem_of_getElem? (i := 184) rfl), lw_in8 (List.mem_of_getElem? (i := 185) rfl)⟩
theorem lw_p104 : lw_okq (⟨"MoonPromisesModel", "xorOf", "(I)I"⟩, 47) := ⟨lw_c5.1, lw_c5.2, lw_in8 (List.mem_of_getElem? (i := 188) rfl), lw_in8 (List.mem_of_getElem? (i := 189) rfl)⟩
theorem lw_p105 : lw_okq (⟨"MoonPromisesModel", "laysNimbers", "()V"⟩, 47) := ⟨lw_c5.1, lw_c5.2, lw_in8 (List.mem_of_getElem? (i := 192) rfl), lw_in8 (List.mem_of_getElem? (i := 193) rfl)⟩
theorem lw_p106 : lw_okq (⟨"MoonPromisesModel", "isDraw", "(III)Z"⟩, 47) := ⟨lw_c5.1, lw_c5.2, lw_in8 (List.mem_of_getElem? (i := 204) rfl), lw_in8 (List.mem_of_getElem? (i := 205) rfl)⟩
theorem lw_p107 : lw_okq (⟨"MoonPromisesModel", "draws", "(JII)I"⟩, 47) := ⟨lw_c5.1, lw_c5.2, lw_in8 (List.mem_of_getElem? (i := 210) rfl), lw_in8 (List.mem_of_getElem? (i := 211) rfl)⟩
def lw_privs_7 : List (MethodName × Nat) := [(⟨"MoonPromisesModel", "ringOf", "(I)I"⟩, 47), (⟨"MoonPromisesModel", "struckOf", "(IIII)I"⟩, 47), (⟨"MoonPromisesModel", "whyNot", "(II)I"⟩, 47), (⟨"MoonPromisesModel", "laysWays", "(II)V"⟩, 47), (⟨"MoonPromisesModel", "isWay", "(III)Z"⟩, 47), (⟨"MoonPromisesModel", "worthBy", "(III)I"⟩, 47), (⟨"MoonPromisesModel", "worstOf", "(III)I"⟩, 47), (⟨"MoonPromisesModel", "whyNoThreat", "(I)I"⟩, 47), (⟨"MoonPromisesModel", "xorOf", "(I)I"⟩, 47), (⟨"MoonPromisesModel", "laysNimbers", "()V"⟩, 47), (⟨"MoonPromisesModel", "isDraw", "(III)Z"⟩, 47), (⟨"MoonPromisesModel", "draws", "(JII)I"⟩, 47)]
theorem lw_r7 : ∀ q ∈ lw_privs_7, lw_okq q := List.forall_mem_cons.mpr ⟨lw_p96, List.forall_mem_cons.mpr ⟨lw_p97, List.forall_mem_cons.mpr ⟨lw_p98, List.forall_mem_cons.mpr ⟨lw_p99, List.forall_mem_cons.mpr ⟨lw_p100, List.forall_mem_cons.mpr ⟨lw_p101, List.forall_mem_cons.mpr ⟨lw_p102, List.forall_mem_cons.mpr ⟨lw_p103, List.forall_mem_cons.mpr ⟨lw_p104, List.forall_mem_cons.mpr ⟨lw_p105, List.forall_mem_cons.mpr ⟨lw_p106, List.forall_mem_cons.mpr ⟨lw_p107, fun _ h => absurd h List.not_mem_nil⟩⟩⟩⟩⟩⟩⟩⟩⟩⟩⟩⟩
def lw_privs : List (MethodName × Nat) := lw_privs_1 ++ (lw_privs_2 ++ (lw_privs_3 ++ (lw_privs_4 ++ (lw_privs_5 ++ (lw_privs_6 ++ (lw_privs_7))))))
def lw_tbl : List Cond := k2_sels lw_privs ++ tables_1
theorem lw_privs_ok : ∀ q ∈ lw_privs, lw_okq q := by
  show ∀ q ∈ lw_privs_1 ++ (lw_privs_2 ++ (lw_privs_3 ++ (lw_privs_4 ++ (lw_privs_5 ++ (lw_privs_6 ++ (lw_privs_7)))))), lw_okq q
  exact List.forall_mem_append.mpr ⟨lw_r1, List.forall_mem_append.mpr ⟨lw_r2, List.forall_mem_append.mpr ⟨lw_r3, List.forall_mem_append.mpr ⟨lw_r4, List.forall_mem_append.mpr ⟨lw_r5, List.forall_mem_append.mpr ⟨lw_r6, lw_r7⟩⟩⟩⟩⟩⟩
-- ===== end of PART A; then your names; then what follows =====
def RX0 : String := "MoonPromises$Course"
def TX0 : u_T := fun k => match k with
  | 0 => ("MoonPromises$Course", "told", "LMoonPromises$Told;", true)
  | 1 => ("MoonPromises$Course", "moon", "I", false)
  | 2 => ("MoonPromises$Course", "place", "[I", true)
  | 3 => ("MoonPromises$Course", "oars", "[I", true)
  | 4 => ("MoonPromises$Course", "rowedIn", "[I", true)
  | 5 => ("MoonPromises$Course", "heard", "[J", true)
  | 6 => ("MoonPromises$Course", "lasts", "[I", true)
  | _ => ("MoonPromises$Course", "worths", "[I", true)
def tyX0 : Nat → FieldType := fun k => match k with
  | 0 => .object "MoonPromises$Told"
  | 1 => .int
  | 2 => .array .int
  | 3 => .array .int
  | 4 => .array .int
  | 5 => .array .long
  | 6 => .array .int
  | _ => .array .int
abbrev wsX00 : List Cond := u_ws RX0 TX0 8
theorem nmX0 : ∀ a, a < 8 → ∀ b, b < 8 → a ≠ b → (TX0 a).2.1 ≠ (TX0 b).2.1 := by decide +kernel
theorem tyX0_ok : ∀ k, k < 8 → parseFieldDescriptor (TX0 k).2.2.1 = some (tyX0 k) := by decide +kernel
abbrev cX0_init : ByteArray := prog_2_method_1_code
def yX0_init : MethodName := ⟨RX0, "<init>", "()V"⟩
abbrev cX0_replay : ByteArray := prog_2_method_2_code
def yX0_replay : MethodName := ⟨RX0, "replay", "()V"⟩
abbrev cX0_addAct : ByteArray := prog_2_method_3_code
def yX0_addAct : MethodName := ⟨RX0, "addAct", "(I)Z"⟩
abbrev cX0_apply : ByteArray := prog_2_method_4_code
def yX0_apply : MethodName := ⟨RX0, "apply", "(I)V"⟩
abbrev cX0_canRow : ByteArray := prog_2_method_5_code
def yX0_canRow : MethodName := ⟨RX0, "canRow", "(II)Z"⟩
abbrev cX0_canSay : ByteArray := prog_2_method_6_code
def yX0_canSay : MethodName := ⟨RX0, "canSay", "(I)Z"⟩
abbrev cX0_lastsAt : ByteArray := prog_2_method_7_code
def yX0_lastsAt : MethodName := ⟨RX0, "lastsAt", "(I)[I"⟩
abbrev cX0_lastSaid : ByteArray := prog_2_method_8_code
def yX0_lastSaid : MethodName := ⟨RX0, "lastSaid", "(II)I"⟩
abbrev cX0_worthsAt : ByteArray := prog_2_method_9_code
def yX0_worthsAt : MethodName := ⟨RX0, "worthsAt", "(I)[I"⟩
abbrev cX0_gainByJoin : ByteArray := prog_2_method_10_code
def yX0_gainByJoin : MethodName := ⟨RX0, "gainByJoin", "(II)I"⟩
abbrev cX0_standsAlone : ByteArray := prog_2_method_11_code
def yX0_standsAlone : MethodName := ⟨RX0, "standsAlone", "(I)Z"⟩
def RX1 : String := "MoonPromises$Ledger"
def TX1 : u_T := fun k => match k with
  | 0 => ("MoonPromises$Ledger", "debts", "[I", true)
  | 1 => ("MoonPromises$Ledger", "people", "I", false)
  | 2 => ("MoonPromises$Ledger", "ringWorth", "I", false)
  | _ => ("MoonPromises$Ledger", "ringPeople", "[I", true)
def tyX1 : Nat → FieldType := fun k => match k with
  | 0 => .array .int
  | 1 => .int
  | 2 => .int
  | _ => .array .int
abbrev wsX10 : List Cond := u_ws RX1 TX1 4
theorem nmX1 : ∀ a, a < 4 → ∀ b, b < 4 → a ≠ b → (TX1 a).2.1 ≠ (TX1 b).2.1 := by decide +kernel
theorem tyX1_ok : ∀ k, k < 4 → parseFieldDescriptor (TX1 k).2.2.1 = some (tyX1 k) := by decide +kernel
abbrev cX1_init : ByteArray := prog_3_method_1_code
def yX1_init : MethodName := ⟨RX1, "<init>", "()V"⟩
abbrev cX1_fill : ByteArray := prog_3_method_2_code
def yX1_fill : MethodName := ⟨RX1, "fill", "(LMoonPromises$Course;I)V"⟩
abbrev cX1_debt : ByteArray := prog_3_method_3_code
def yX1_debt : MethodName := ⟨RX1, "debt", "(II)I"⟩
abbrev cX1_owing : ByteArray := prog_3_method_4_code
def yX1_owing : MethodName := ⟨RX1, "owing", "(I)I"⟩
abbrev cX1_due : ByteArray := prog_3_method_5_code
def yX1_due : MethodName := ⟨RX1, "due", "(I)I"⟩
abbrev cX1_first : ByteArray := prog_3_method_6_code
def yX1_first : MethodName := ⟨RX1, "first", "()I"⟩
abbrev cX1_ringOf : ByteArray := prog_3_method_7_code
def yX1_ringOf : MethodName := ⟨RX1, "ringOf", "(III)I"⟩
abbrev cX1_seekRing : ByteArray := prog_3_method_8_code
def yX1_seekRing : MethodName := ⟨RX1, "seekRing", "()V"⟩
def RX2 : String := "MoonPromises$Planner"
def TX2 : u_T := fun k => match k with
  | 0 => ("MoonPromises$Planner", "isles", "I", false)
  | 1 => ("MoonPromises$Planner", "length", "I", false)
  | 2 => ("MoonPromises$Planner", "start", "I", false)
  | 3 => ("MoonPromises$Planner", "asked", "I", false)
  | 4 => ("MoonPromises$Planner", "legs", "[I", true)
  | 5 => ("MoonPromises$Planner", "missed", "[I", true)
  | 6 => ("MoonPromises$Planner", "spoken", "[I", true)
  | 7 => ("MoonPromises$Planner", "least", "[I", true)
  | 8 => ("MoonPromises$Planner", "ways", "[J", true)
  | 9 => ("MoonPromises$Planner", "loveOars", "I", false)
  | _ => ("MoonPromises$Planner", "loveMoon", "I", false)
def tyX2 : Nat → FieldType := fun k => match k with
  | 0 => .int
  | 1 => .int
  | 2 => .int
  | 3 => .int
  | 4 => .array .int
  | 5 => .array .int
  | 6 => .array .int
  | 7 => .array .int
  | 8 => .array .long
  | 9 => .int
  | _ => .int
abbrev wsX20 : List Cond := u_ws RX2 TX2 11
theorem nmX2 : ∀ a, a < 11 → ∀ b, b < 11 → a ≠ b → (TX2 a).2.1 ≠ (TX2 b).2.1 := by decide +kernel
theorem tyX2_ok : ∀ k, k < 11 → parseFieldDescriptor (TX2 k).2.2.1 = some (tyX2 k) := by decide +kernel
abbrev cX2_init : ByteArray := prog_4_method_1_code
def yX2_init : MethodName := ⟨RX2, "<init>", "()V"⟩
abbrev cX2_prepare : ByteArray := prog_4_method_2_code
def yX2_prepare : MethodName := ⟨RX2, "prepare", "(LMoonPromises$Course;II)V"⟩
abbrev cX2_layLegs : ByteArray := prog_4_method_3_code
def yX2_layLegs : MethodName := ⟨RX2, "layLegs", "(LMoonPromises$Course;II)V"⟩
abbrev cX2_laySpoken : ByteArray := prog_4_method_4_code
def yX2_laySpoken : MethodName := ⟨RX2, "laySpoken", "(LMoonPromises$Course;I)V"⟩
abbrev cX2_layMissed : ByteArray := prog_4_method_5_code
def yX2_layMissed : MethodName := ⟨RX2, "layMissed", "(LMoonPromises$Course;I)V"⟩
abbrev cX2_leg : ByteArray := prog_4_method_6_code
def yX2_leg : MethodName := ⟨RX2, "leg", "(III)I"⟩
abbrev cX2_isKeeping : ByteArray := prog_4_method_7_code
def yX2_isKeeping : MethodName := ⟨RX2, "isKeeping", "(I)Z"⟩
abbrev cX2_leastOars : ByteArray := prog_4_method_8_code
def yX2_leastOars : MethodName := ⟨RX2, "leastOars", "()I"⟩
abbrev cX2_leastFrom : ByteArray := prog_4_method_9_code
def yX2_leastFrom : MethodName := ⟨RX2, "leastFrom", "(II)I"⟩
abbrev cX2_oarsBy : ByteArray := prog_4_method_10_code
def yX2_oarsBy : MethodName := ⟨RX2, "oarsBy", "(III)I"⟩
abbrev cX2_isleOfFirst : ByteArray := prog_4_method_11_code
def yX2_isleOfFirst : MethodName := ⟨RX2, "isleOfFirst", "(I)I"⟩
abbrev cX2_countPlans : ByteArray := prog_4_method_12_code
def yX2_countPlans : MethodName := ⟨RX2, "countPlans", "()J"⟩
abbrev cX2_leastFallen : ByteArray := prog_4_method_13_code
def yX2_leastFallen : MethodName := ⟨RX2, "leastFallen", "()I"⟩
abbrev cX2_canKeep : ByteArray := prog_4_method_14_code
def yX2_canKeep : MethodName := ⟨RX2, "canKeep", "(I)Z"⟩
abbrev cX2_reached : ByteArray := prog_4_method_15_code
def yX2_reached : MethodName := ⟨RX2, "reached", "(III)I"⟩
abbrev cX2_seekLove : ByteArray := prog_4_method_16_code
def yX2_seekLove : MethodName := ⟨RX2, "seekLove", "(LMoonPromises$Course;III)V"⟩
abbrev cX2_layReach : ByteArray := prog_4_method_17_code
def yX2_layReach : MethodName := ⟨RX2, "layReach", "()V"⟩
abbrev cX2_leastTo : ByteArray := prog_4_method_18_code
def yX2_leastTo : MethodName := ⟨RX2, "leastTo", "(II)I"⟩
def RX3 : String := "MoonPromises$Reader"
def TX3 : u_T := fun k => match k with
  | 0 => ("MoonPromises$Reader", "tape", "[B", true)
  | 1 => ("MoonPromises$Reader", "length", "I", false)
  | 2 => ("MoonPromises$Reader", "draft", "LMoonPromises$Told;", true)
  | 3 => ("MoonPromises$Reader", "fault", "I", false)
  | 4 => ("MoonPromises$Reader", "faultPlace", "I", false)
  | 5 => ("MoonPromises$Reader", "kind", "I", false)
  | 6 => ("MoonPromises$Reader", "start", "I", false)
  | 7 => ("MoonPromises$Reader", "stop", "I", false)
  | 8 => ("MoonPromises$Reader", "value", "I", false)
  | _ => ("MoonPromises$Reader", "taken", "I", false)
def tyX3 : Nat → FieldType := fun k => match k with
  | 0 => .array .byte
  | 1 => .int
  | 2 => .object "MoonPromises$Told"
  | 3 => .int
  | 4 => .int
  | 5 => .int
  | 6 => .int
  | 7 => .int
  | 8 => .int
  | _ => .int
abbrev wsX30 : List Cond := u_ws RX3 TX3 10
theorem nmX3 : ∀ a, a < 10 → ∀ b, b < 10 → a ≠ b → (TX3 a).2.1 ≠ (TX3 b).2.1 := by decide +kernel
theorem tyX3_ok : ∀ k, k < 10 → parseFieldDescriptor (TX3 k).2.2.1 = some (tyX3 k) := by decide +kernel
abbrev cX3_init : ByteArray := prog_5_method_1_code
def yX3_init : MethodName := ⟨RX3, "<init>", "()V"⟩
abbrev cX3_addFour : ByteArray := prog_5_method_2_code
def yX3_addFour : MethodName := ⟨RX3, "addFour", "(I)V"⟩
abbrev cX3_readAll : ByteArray := prog_5_method_3_code
def yX3_readAll : MethodName := ⟨RX3, "readAll", "()Z"⟩
abbrev cX3_takeLine : ByteArray := prog_5_method_4_code
def yX3_takeLine : MethodName := ⟨RX3, "takeLine", "()Z"⟩
abbrev cX3_takeIsles : ByteArray := prog_5_method_5_code
def yX3_takeIsles : MethodName := ⟨RX3, "takeIsles", "()Z"⟩
abbrev cX3_takeSea : ByteArray := prog_5_method_6_code
def yX3_takeSea : MethodName := ⟨RX3, "takeSea", "()Z"⟩
abbrev cX3_takePerson : ByteArray := prog_5_method_7_code
def yX3_takePerson : MethodName := ⟨RX3, "takePerson", "()Z"⟩
abbrev cX3_takePromise : ByteArray := prog_5_method_8_code
def yX3_takePromise : MethodName := ⟨RX3, "takePromise", "()Z"⟩
abbrev cX3_takePromiseMarks : ByteArray := prog_5_method_9_code
def yX3_takePromiseMarks : MethodName := ⟨RX3, "takePromiseMarks", "(I)Z"⟩
abbrev cX3_takeShut : ByteArray := prog_5_method_10_code
def yX3_takeShut : MethodName := ⟨RX3, "takeShut", "()Z"⟩
abbrev cX3_takeWord : ByteArray := prog_5_method_11_code
def yX3_takeWord : MethodName := ⟨RX3, "takeWord", "(Ljava/lang/String;)Z"⟩
abbrev cX3_takeNumber : ByteArray := prog_5_method_12_code
def yX3_takeNumber : MethodName := ⟨RX3, "takeNumber", "(III)Z"⟩
abbrev cX3_takeSign : ByteArray := prog_5_method_13_code
def yX3_takeSign : MethodName := ⟨RX3, "takeSign", "()Z"⟩
abbrev cX3_fail : ByteArray := prog_5_method_14_code
def yX3_fail : MethodName := ⟨RX3, "fail", "(I)Z"⟩
abbrev cX3_isWord : ByteArray := prog_5_method_15_code
def yX3_isWord : MethodName := ⟨RX3, "isWord", "(Ljava/lang/String;)Z"⟩
abbrev cX3_step : ByteArray := prog_5_method_16_code
def yX3_step : MethodName := ⟨RX3, "step", "()V"⟩
abbrev cX3_isLetter : ByteArray := prog_5_method_17_code
def yX3_isLetter : MethodName := ⟨RX3, "isLetter", "(I)Z"⟩
abbrev cX3_isDigit : ByteArray := prog_5_method_18_code
def yX3_isDigit : MethodName := ⟨RX3, "isDigit", "(I)Z"⟩
def RX4 : String := "MoonPromises$Scales"
def TX4 : u_T := fun k => match k with
  | 0 => ("MoonPromises$Scales", "full", "I", false)
  | 1 => ("MoonPromises$Scales", "first", "I", false)
  | 2 => ("MoonPromises$Scales", "drunk", "I", false)
  | 3 => ("MoonPromises$Scales", "weights", "[I", true)
  | 4 => ("MoonPromises$Scales", "clashing", "Z", false)
  | 5 => ("MoonPromises$Scales", "ways", "I", false)
  | 6 => ("MoonPromises$Scales", "inAll", "I", false)
  | 7 => ("MoonPromises$Scales", "inSome", "I", false)
  | 8 => ("MoonPromises$Scales", "fewest", "I", false)
  | _ => ("MoonPromises$Scales", "tally", "[I", true)
def tyX4 : Nat → FieldType := fun k => match k with
  | 0 => .int
  | 1 => .int
  | 2 => .int
  | 3 => .array .int
  | 4 => .boolean
  | 5 => .int
  | 6 => .int
  | 7 => .int
  | 8 => .int
  | _ => .array .int
abbrev wsX40 : List Cond := u_ws RX4 TX4 10
theorem nmX4 : ∀ a, a < 10 → ∀ b, b < 10 → a ≠ b → (TX4 a).2.1 ≠ (TX4 b).2.1 := by decide +kernel
theorem tyX4_ok : ∀ k, k < 10 → parseFieldDescriptor (TX4 k).2.2.1 = some (tyX4 k) := by decide +kernel
abbrev cX4_init : ByteArray := prog_6_method_1_code
def yX4_init : MethodName := ⟨RX4, "<init>", "()V"⟩
abbrev cX4_load : ByteArray := prog_6_method_2_code
def yX4_load : MethodName := ⟨RX4, "load", "(LMoonPromises$Told;ILMoonPromises$Slots;I)Z"⟩
abbrev cX4_survey : ByteArray := prog_6_method_3_code
def yX4_survey : MethodName := ⟨RX4, "survey", "()V"⟩
abbrev cX4_fits : ByteArray := prog_6_method_4_code
def yX4_fits : MethodName := ⟨RX4, "fits", "(I)Z"⟩
abbrev cX4_halvingsIn : ByteArray := prog_6_method_5_code
def yX4_halvingsIn : MethodName := ⟨RX4, "halvingsIn", "(III)I"⟩
abbrev cX4_addToTally : ByteArray := prog_6_method_6_code
def yX4_addToTally : MethodName := ⟨RX4, "addToTally", "(I)V"⟩
abbrev cX4_bestMoon : ByteArray := prog_6_method_7_code
def yX4_bestMoon : MethodName := ⟨RX4, "bestMoon", "()I"⟩
abbrev cX4_worstLeft : ByteArray := prog_6_method_8_code
def yX4_worstLeft : MethodName := ⟨RX4, "worstLeft", "(I)I"⟩
abbrev cX4_firstMoons : ByteArray := prog_6_method_9_code
def yX4_firstMoons : MethodName := ⟨RX4, "firstMoons", "()I"⟩
abbrev cX4_fitsFirst : ByteArray := prog_6_method_10_code
def yX4_fitsFirst : MethodName := ⟨RX4, "fitsFirst", "(I)Z"⟩
abbrev cX4_fullBound : ByteArray := prog_6_method_11_code
def yX4_fullBound : MethodName := ⟨RX4, "fullBound", "(I)I"⟩
def RX5 : String := "MoonPromises$Slots"
def TX5 : u_T := fun k => match k with
  | 0 => ("MoonPromises$Slots", "numbers", "[J", true)
  | 1 => ("MoonPromises$Slots", "widths", "[I", true)
  | _ => ("MoonPromises$Slots", "lengths", "[I", true)
def tyX5 : Nat → FieldType := fun k => match k with
  | 0 => .array .long
  | 1 => .array .int
  | _ => .array .int
abbrev wsX50 : List Cond := u_ws RX5 TX5 3
theorem nmX5 : ∀ a, a < 3 → ∀ b, b < 3 → a ≠ b → (TX5 a).2.1 ≠ (TX5 b).2.1 := by decide +kernel
theorem tyX5_ok : ∀ k, k < 3 → parseFieldDescriptor (TX5 k).2.2.1 = some (tyX5 k) := by decide +kernel
abbrev cX5_init : ByteArray := prog_7_method_1_code
def yX5_init : MethodName := ⟨RX5, "<init>", "()V"⟩
abbrev cX5_isSlot : ByteArray := prog_7_method_2_code
def yX5_isSlot : MethodName := ⟨RX5, "isSlot", "(I)Z"⟩
abbrev cX5_isTaken : ByteArray := prog_7_method_3_code
def yX5_isTaken : MethodName := ⟨RX5, "isTaken", "(I)Z"⟩
abbrev cX5_countTaken : ByteArray := prog_7_method_4_code
def yX5_countTaken : MethodName := ⟨RX5, "countTaken", "()I"⟩
abbrev cX5_lay : ByteArray := prog_7_method_5_code
def yX5_lay : MethodName := ⟨RX5, "lay", "(III)V"⟩
abbrev cX5_at : ByteArray := prog_7_method_6_code
def yX5_at : MethodName := ⟨RX5, "at", "(II)J"⟩
abbrev cX5_put : ByteArray := prog_7_method_7_code
def yX5_put : MethodName := ⟨RX5, "put", "(IIJ)V"⟩
abbrev cX5_cut : ByteArray := prog_7_method_8_code
def yX5_cut : MethodName := ⟨RX5, "cut", "(JI)J"⟩
abbrev cX5_holds : ByteArray := prog_7_method_9_code
def yX5_holds : MethodName := ⟨RX5, "holds", "(III)Z"⟩
abbrev cX5_move : ByteArray := prog_7_method_10_code
def yX5_move : MethodName := ⟨RX5, "move", "(IIIII)V"⟩
def RX6 : String := "MoonPromises$Threat"
def TX6 : u_T := fun k => match k with
  | 0 => ("MoonPromises$Threat", "heaps", "I", false)
  | 1 => ("MoonPromises$Threat", "heap", "[I", true)
  | _ => ("MoonPromises$Threat", "values", "[I", true)
def tyX6 : Nat → FieldType := fun k => match k with
  | 0 => .int
  | 1 => .array .int
  | _ => .array .int
abbrev wsX60 : List Cond := u_ws RX6 TX6 3
theorem nmX6 : ∀ a, a < 3 → ∀ b, b < 3 → a ≠ b → (TX6 a).2.1 ≠ (TX6 b).2.1 := by decide +kernel
theorem tyX6_ok : ∀ k, k < 3 → parseFieldDescriptor (TX6 k).2.2.1 = some (tyX6 k) := by decide +kernel
abbrev cX6_init : ByteArray := prog_8_method_1_code
def yX6_init : MethodName := ⟨RX6, "<init>", "()V"⟩
abbrev cX6_load : ByteArray := prog_8_method_2_code
def yX6_load : MethodName := ⟨RX6, "load", "(LMoonPromises$Slots;I)Z"⟩
abbrev cX6_total : ByteArray := prog_8_method_3_code
def yX6_total : MethodName := ⟨RX6, "total", "()I"⟩
abbrev cX6_winningTurn : ByteArray := prog_8_method_4_code
def yX6_winningTurn : MethodName := ⟨RX6, "winningTurn", "()I"⟩
def RX7 : String := "MoonPromises$Told"
def TX7 : u_T := fun k => match k with
  | 0 => ("MoonPromises$Told", "lines", "I", false)
  | 1 => ("MoonPromises$Told", "isles", "I", false)
  | 2 => ("MoonPromises$Told", "moon", "I", false)
  | 3 => ("MoonPromises$Told", "people", "I", false)
  | 4 => ("MoonPromises$Told", "promises", "I", false)
  | 5 => ("MoonPromises$Told", "actCount", "I", false)
  | 6 => ("MoonPromises$Told", "seas", "[I", true)
  | 7 => ("MoonPromises$Told", "shut", "[J", true)
  | 8 => ("MoonPromises$Told", "home", "[I", true)
  | 9 => ("MoonPromises$Told", "death", "[I", true)
  | 10 => ("MoonPromises$Told", "tending", "[I", true)
  | 11 => ("MoonPromises$Told", "ower", "[I", true)
  | 12 => ("MoonPromises$Told", "owee", "[I", true)
  | 13 => ("MoonPromises$Told", "full", "[I", true)
  | 14 => ("MoonPromises$Told", "first", "[I", true)
  | 15 => ("MoonPromises$Told", "drunk", "[I", true)
  | 16 => ("MoonPromises$Told", "base", "[I", true)
  | _ => ("MoonPromises$Told", "acts", "[I", true)
def tyX7 : Nat → FieldType := fun k => match k with
  | 0 => .int
  | 1 => .int
  | 2 => .int
  | 3 => .int
  | 4 => .int
  | 5 => .int
  | 6 => .array .int
  | 7 => .array .long
  | 8 => .array .int
  | 9 => .array .int
  | 10 => .array .int
  | 11 => .array .int
  | 12 => .array .int
  | 13 => .array .int
  | 14 => .array .int
  | 15 => .array .int
  | 16 => .array .int
  | _ => .array .int
abbrev wsX70 : List Cond := u_ws RX7 TX7 18
theorem nmX7 : ∀ a, a < 18 → ∀ b, b < 18 → a ≠ b → (TX7 a).2.1 ≠ (TX7 b).2.1 := by decide +kernel
theorem tyX7_ok : ∀ k, k < 18 → parseFieldDescriptor (TX7 k).2.2.1 = some (tyX7 k) := by decide +kernel
abbrev cX7_init : ByteArray := prog_9_method_1_code
def yX7_init : MethodName := ⟨RX7, "<init>", "()V"⟩
abbrev cX7_clear : ByteArray := prog_9_method_2_code
def yX7_clear : MethodName := ⟨RX7, "clear", "()V"⟩
abbrev cX7_copyFrom : ByteArray := prog_9_method_3_code
def yX7_copyFrom : MethodName := ⟨RX7, "copyFrom", "(LMoonPromises$Told;)V"⟩
abbrev cX7_isIsle : ByteArray := prog_9_method_4_code
def yX7_isIsle : MethodName := ⟨RX7, "isIsle", "(I)Z"⟩
abbrev cX7_isPerson : ByteArray := prog_9_method_5_code
def yX7_isPerson : MethodName := ⟨RX7, "isPerson", "(I)Z"⟩
abbrev cX7_isPromise : ByteArray := prog_9_method_6_code
def yX7_isPromise : MethodName := ⟨RX7, "isPromise", "(I)Z"⟩
abbrev cX7_addPerson : ByteArray := prog_9_method_7_code
def yX7_addPerson : MethodName := ⟨RX7, "addPerson", "(I)V"⟩
abbrev cX7_addPromise : ByteArray := prog_9_method_8_code
def yX7_addPromise : MethodName := ⟨RX7, "addPromise", "(IIII)V"⟩
abbrev cX7_laySea : ByteArray := prog_9_method_9_code
def yX7_laySea : MethodName := ⟨RX7, "laySea", "(III)V"⟩
abbrev cX7_oarsBetween : ByteArray := prog_9_method_10_code
def yX7_oarsBetween : MethodName := ⟨RX7, "oarsBetween", "(II)I"⟩
abbrev cX7_countSeas : ByteArray := prog_9_method_11_code
def yX7_countSeas : MethodName := ⟨RX7, "countSeas", "()I"⟩
abbrev cX7_isShut : ByteArray := prog_9_method_12_code
def yX7_isShut : MethodName := ⟨RX7, "isShut", "(II)Z"⟩
abbrev cX7_setShut : ByteArray := prog_9_method_13_code
def yX7_setShut : MethodName := ⟨RX7, "setShut", "(IIZ)V"⟩
abbrev cX7_countShut : ByteArray := prog_9_method_14_code
def yX7_countShut : MethodName := ⟨RX7, "countShut", "()I"⟩
abbrev cX7_lives : ByteArray := prog_9_method_15_code
def yX7_lives : MethodName := ⟨RX7, "lives", "(II)Z"⟩
abbrev cX7_bothLive : ByteArray := prog_9_method_16_code
def yX7_bothLive : MethodName := ⟨RX7, "bothLive", "(II)Z"⟩
abbrev cX7_oarsOfLeg : ByteArray := prog_9_method_17_code
def yX7_oarsOfLeg : MethodName := ⟨RX7, "oarsOfLeg", "(IIII)I"⟩
abbrev cX7_ownHalvings : ByteArray := prog_9_method_18_code
def yX7_ownHalvings : MethodName := ⟨RX7, "ownHalvings", "(III)I"⟩
abbrev cX7_halvingsBy : ByteArray := prog_9_method_19_code
def yX7_halvingsBy : MethodName := ⟨RX7, "halvingsBy", "([III)I"⟩
abbrev cX7_worthBy : ByteArray := prog_9_method_20_code
def yX7_worthBy : MethodName := ⟨RX7, "worthBy", "([III)I"⟩
def RX8 : String := "MoonPromises$Years"
def TX8 : u_T := fun k => match k with
  | 0 => ("MoonPromises$Years", "lasts", "[I", true)
  | 1 => ("MoonPromises$Years", "worthAtLast", "I", false)
  | _ => ("MoonPromises$Years", "sayings", "I", false)
def tyX8 : Nat → FieldType := fun k => match k with
  | 0 => .array .int
  | 1 => .int
  | _ => .int
abbrev wsX80 : List Cond := u_ws RX8 TX8 3
theorem nmX8 : ∀ a, a < 3 → ∀ b, b < 3 → a ≠ b → (TX8 a).2.1 ≠ (TX8 b).2.1 := by decide +kernel
theorem tyX8_ok : ∀ k, k < 3 → parseFieldDescriptor (TX8 k).2.2.1 = some (tyX8 k) := by decide +kernel
abbrev cX8_init : ByteArray := prog_10_method_1_code
def yX8_init : MethodName := ⟨RX8, "<init>", "()V"⟩
abbrev cX8_pass : ByteArray := prog_10_method_2_code
def yX8_pass : MethodName := ⟨RX8, "pass", "(LMoonPromises$Course;III)V"⟩
def RX9 : String := "MoonPromises"
def TX9 : u_T := fun k => match k with
  | 0 => ("MoonPromises", "reader", "LMoonPromises$Reader;", true)
  | 1 => ("MoonPromises", "course", "LMoonPromises$Course;", true)
  | 2 => ("MoonPromises", "images", "[LMoonPromises$Told;", true)
  | 3 => ("MoonPromises", "ledger", "LMoonPromises$Ledger;", true)
  | 4 => ("MoonPromises", "planner", "LMoonPromises$Planner;", true)
  | 5 => ("MoonPromises", "scales", "LMoonPromises$Scales;", true)
  | 6 => ("MoonPromises", "threat", "LMoonPromises$Threat;", true)
  | 7 => ("MoonPromises", "years", "LMoonPromises$Years;", true)
  | _ => ("MoonPromises", "slots", "LMoonPromises$Slots;", true)
def tyX9 : Nat → FieldType := fun k => match k with
  | 0 => .object "MoonPromises$Reader"
  | 1 => .object "MoonPromises$Course"
  | 2 => .array (.object "MoonPromises$Told")
  | 3 => .object "MoonPromises$Ledger"
  | 4 => .object "MoonPromises$Planner"
  | 5 => .object "MoonPromises$Scales"
  | 6 => .object "MoonPromises$Threat"
  | 7 => .object "MoonPromises$Years"
  | _ => .object "MoonPromises$Slots"
abbrev wsX90 : List Cond := u_ws RX9 TX9 9
theorem nmX9 : ∀ a, a < 9 → ∀ b, b < 9 → a ≠ b → (TX9 a).2.1 ≠ (TX9 b).2.1 := by decide +kernel
theorem tyX9_ok : ∀ k, k < 9 → parseFieldDescriptor (TX9 k).2.2.1 = some (tyX9 k) := by decide +kernel
abbrev cX9_init : ByteArray := prog_1_method_1_code
def yX9_init : MethodName := ⟨RX9, "<init>", "()V"⟩
abbrev cX9_feed : ByteArray := prog_1_method_2_code
def yX9_feed : MethodName := ⟨RX9, "feed", "(IIIII)I"⟩
abbrev cX9_end : ByteArray := prog_1_method_3_code
def yX9_end : MethodName := ⟨RX9, "end", "(I)I"⟩
abbrev cX9_isles : ByteArray := prog_1_method_4_code
def yX9_isles : MethodName := ⟨RX9, "isles", "()I"⟩
abbrev cX9_fault : ByteArray := prog_1_method_5_code
def yX9_fault : MethodName := ⟨RX9, "fault", "(I)I"⟩
abbrev cX9_person : ByteArray := prog_1_method_6_code
def yX9_person : MethodName := ⟨RX9, "person", "(II)I"⟩
abbrev cX9_promise : ByteArray := prog_1_method_7_code
def yX9_promise : MethodName := ⟨RX9, "promise", "(II)I"⟩
abbrev cX9_sea : ByteArray := prog_1_method_8_code
def yX9_sea : MethodName := ⟨RX9, "sea", "(II)I"⟩
abbrev cX9_open : ByteArray := prog_1_method_9_code
def yX9_open : MethodName := ⟨RX9, "open", "(II)I"⟩
abbrev cX9_halvings : ByteArray := prog_1_method_10_code
def yX9_halvings : MethodName := ⟨RX9, "halvings", "(II)I"⟩
abbrev cX9_worth : ByteArray := prog_1_method_11_code
def yX9_worth : MethodName := ⟨RX9, "worth", "(II)I"⟩
abbrev cX9_falls : ByteArray := prog_1_method_12_code
def yX9_falls : MethodName := ⟨RX9, "falls", "(II)I"⟩
abbrev cX9_owed : ByteArray := prog_1_method_13_code
def yX9_owed : MethodName := ⟨RX9, "owed", "(III)I"⟩
abbrev cX9_sum : ByteArray := prog_1_method_14_code
def yX9_sum : MethodName := ⟨RX9, "sum", "(III)I"⟩
abbrev cX9_richest : ByteArray := prog_1_method_15_code
def yX9_richest : MethodName := ⟨RX9, "richest", "(I)I"⟩
abbrev cX9_greatest : ByteArray := prog_1_method_16_code
def yX9_greatest : MethodName := ⟨RX9, "greatest", "(I)I"⟩
abbrev cX9_root : ByteArray := prog_1_method_17_code
def yX9_root : MethodName := ⟨RX9, "root", "(I)I"⟩
abbrev cX9_upon : ByteArray := prog_1_method_18_code
def yX9_upon : MethodName := ⟨RX9, "upon", "(I)I"⟩
abbrev cX9_now : ByteArray := prog_1_method_19_code
def yX9_now : MethodName := ⟨RX9, "now", "()I"⟩
abbrev cX9_where : ByteArray := prog_1_method_20_code
def yX9_where : MethodName := ⟨RX9, "where", "(I)I"⟩
abbrev cX9_rowed : ByteArray := prog_1_method_21_code
def yX9_rowed : MethodName := ⟨RX9, "rowed", "(I)I"⟩
abbrev cX9_rows : ByteArray := prog_1_method_22_code
def yX9_rows : MethodName := ⟨RX9, "rows", "(II)I"⟩
abbrev cX9_says : ByteArray := prog_1_method_23_code
def yX9_says : MethodName := ⟨RX9, "says", "(I)I"⟩
abbrev cX9_passes : ByteArray := prog_1_method_24_code
def yX9_passes : MethodName := ⟨RX9, "passes", "()I"⟩
abbrev cX9_undo : ByteArray := prog_1_method_25_code
def yX9_undo : MethodName := ⟨RX9, "undo", "()I"⟩
abbrev cX9_anew : ByteArray := prog_1_method_26_code
def yX9_anew : MethodName := ⟨RX9, "anew", "()I"⟩
abbrev cX9_act : ByteArray := prog_1_method_27_code
def yX9_act : MethodName := ⟨RX9, "act", "(I)I"⟩
abbrev cX9_can : ByteArray := prog_1_method_28_code
def yX9_can : MethodName := ⟨RX9, "can", "()I"⟩
abbrev cX9_sails : ByteArray := prog_1_method_29_code
def yX9_sails : MethodName := ⟨RX9, "sails", "(I)I"⟩
abbrev cX9_keeps : ByteArray := prog_1_method_30_code
def yX9_keeps : MethodName := ⟨RX9, "keeps", "(II)I"⟩
abbrev cX9_plan : ByteArray := prog_1_method_31_code
def yX9_plan : MethodName := ⟨RX9, "plan", "(III)I"⟩
abbrev cX9_lets : ByteArray := prog_1_method_32_code
def yX9_lets : MethodName := ⟨RX9, "lets", "(II)I"⟩
abbrev cX9_fallen : ByteArray := prog_1_method_33_code
def yX9_fallen : MethodName := ⟨RX9, "fallen", "(II)I"⟩
abbrev cX9_plans : ByteArray := prog_1_method_34_code
def yX9_plans : MethodName := ⟨RX9, "plans", "(II)J"⟩
abbrev cX9_love : ByteArray := prog_1_method_35_code
def yX9_love : MethodName := ⟨RX9, "love", "(III)I"⟩
abbrev cX9_when : ByteArray := prog_1_method_36_code
def yX9_when : MethodName := ⟨RX9, "when", "(III)I"⟩
abbrev cX9_joins : ByteArray := prog_1_method_37_code
def yX9_joins : MethodName := ⟨RX9, "joins", "(II)I"⟩
abbrev cX9_joined : ByteArray := prog_1_method_38_code
def yX9_joined : MethodName := ⟨RX9, "joined", "()I"⟩
abbrev cX9_ring : ByteArray := prog_1_method_39_code
def yX9_ring : MethodName := ⟨RX9, "ring", "(I)I"⟩
abbrev cX9_ringed : ByteArray := prog_1_method_40_code
def yX9_ringed : MethodName := ⟨RX9, "ringed", "(II)I"⟩
abbrev cX9_strikes : ByteArray := prog_1_method_41_code
def yX9_strikes : MethodName := ⟨RX9, "strikes", "(IIII)I"⟩
abbrev cX9_weighed : ByteArray := prog_1_method_42_code
def yX9_weighed : MethodName := ⟨RX9, "weighed", "(II)I"⟩
abbrev cX9_must : ByteArray := prog_1_method_43_code
def yX9_must : MethodName := ⟨RX9, "must", "(III)I"⟩
abbrev cX9_times : ByteArray := prog_1_method_44_code
def yX9_times : MethodName := ⟨RX9, "times", "(II)I"⟩
abbrev cX9_weigh : ByteArray := prog_1_method_45_code
def yX9_weigh : MethodName := ⟨RX9, "weigh", "(II)I"⟩
abbrev cX9_said : ByteArray := prog_1_method_46_code
def yX9_said : MethodName := ⟨RX9, "said", "(II)I"⟩
abbrev cX9_span : ByteArray := prog_1_method_47_code
def yX9_span : MethodName := ⟨RX9, "span", "(III)I"⟩
abbrev cX9_wins : ByteArray := prog_1_method_48_code
def yX9_wins : MethodName := ⟨RX9, "wins", "(I)I"⟩
abbrev cX9_turn : ByteArray := prog_1_method_49_code
def yX9_turn : MethodName := ⟨RX9, "turn", "(I)I"⟩
abbrev cX9_drawn : ByteArray := prog_1_method_50_code
def yX9_drawn : MethodName := ⟨RX9, "drawn", "(III)I"⟩
abbrev cX9_often : ByteArray := prog_1_method_51_code
def yX9_often : MethodName := ⟨RX9, "often", "(III)I"⟩
abbrev cX9_lucky : ByteArray := prog_1_method_52_code
def yX9_lucky : MethodName := ⟨RX9, "lucky", "(IIII)I"⟩
abbrev cX9_promises : ByteArray := prog_1_method_53_code
def yX9_promises : MethodName := ⟨RX9, "promises", "(III)I"⟩
abbrev cX9_shuts : ByteArray := prog_1_method_54_code
def yX9_shuts : MethodName := ⟨RX9, "shuts", "(III)I"⟩
abbrev cX9_tends : ByteArray := prog_1_method_55_code
def yX9_tends : MethodName := ⟨RX9, "tends", "(II)I"⟩
abbrev cX9_count : ByteArray := prog_1_method_56_code
def yX9_count : MethodName := ⟨RX9, "count", "(I)I"⟩
abbrev cX9_image : ByteArray := prog_1_method_57_code
def yX9_image : MethodName := ⟨RX9, "image", "(I)I"⟩
abbrev cX9_back : ByteArray := prog_1_method_58_code
def yX9_back : MethodName := ⟨RX9, "back", "(I)I"⟩
abbrev cX9_row : ByteArray := prog_1_method_59_code
def yX9_row : MethodName := ⟨RX9, "row", "(III)I"⟩
abbrev cX9_write : ByteArray := prog_1_method_60_code
def yX9_write : MethodName := ⟨RX9, "write", "(IIJ)I"⟩
abbrev cX9_paste : ByteArray := prog_1_method_61_code
def yX9_paste : MethodName := ⟨RX9, "paste", "(IIIII)I"⟩
abbrev cX9_isMoon : ByteArray := prog_1_method_62_code
def yX9_isMoon : MethodName := ⟨RX9, "isMoon", "(I)Z"⟩
abbrev cX9_isToldMoon : ByteArray := prog_1_method_63_code
def yX9_isToldMoon : MethodName := ⟨RX9, "isToldMoon", "(I)Z"⟩
abbrev cX9_arePair : ByteArray := prog_1_method_64_code
def yX9_arePair : MethodName := ⟨RX9, "arePair", "(II)Z"⟩
abbrev cX9_canPlan : ByteArray := prog_1_method_65_code
def yX9_canPlan : MethodName := ⟨RX9, "canPlan", "(II)Z"⟩
abbrev cX9_canLove : ByteArray := prog_1_method_66_code
def yX9_canLove : MethodName := ⟨RX9, "canLove", "(III)Z"⟩
abbrev cX9_canDraw : ByteArray := prog_1_method_67_code
def yX9_canDraw : MethodName := ⟨RX9, "canDraw", "(III)Z"⟩
abbrev cX9_putOnScales : ByteArray := prog_1_method_68_code
def yX9_putOnScales : MethodName := ⟨RX9, "putOnScales", "(II)I"⟩
abbrev cX9_putInThreat : ByteArray := prog_1_method_69_code
def yX9_putInThreat : MethodName := ⟨RX9, "putInThreat", "(I)I"⟩
abbrev cX9_halved : ByteArray := prog_1_method_70_code
def yX9_halved : MethodName := ⟨RX9, "halved", "(II)I"⟩
def RX10 : String := "MoonPromisesModel"
def TX10 : u_T := fun k => match k with
  | 0 => ("MoonPromisesModel", "thrown", "I", false)
  | 1 => ("MoonPromisesModel", "width", "[I", true)
  | 2 => ("MoonPromisesModel", "many", "[I", true)
  | 3 => ("MoonPromisesModel", "cells", "[J", true)
  | 4 => ("MoonPromisesModel", "moved", "[J", true)
  | 5 => ("MoonPromisesModel", "tape", "[B", true)
  | 6 => ("MoonPromisesModel", "taped", "I", false)
  | 7 => ("MoonPromisesModel", "at", "I", false)
  | 8 => ("MoonPromisesModel", "token", "I", false)
  | 9 => ("MoonPromisesModel", "place", "I", false)
  | 10 => ("MoonPromisesModel", "value", "I", false)
  | 11 => ("MoonPromisesModel", "word", "J", false)
  | 12 => ("MoonPromisesModel", "bad", "I", false)
  | 13 => ("MoonPromisesModel", "badPlace", "I", false)
  | 14 => ("MoonPromisesModel", "fault", "I", false)
  | 15 => ("MoonPromisesModel", "faultPlace", "I", false)
  | 16 => ("MoonPromisesModel", "lines", "[I", true)
  | 17 => ("MoonPromisesModel", "has", "[I", true)
  | 18 => ("MoonPromisesModel", "sea", "[I", true)
  | 19 => ("MoonPromisesModel", "isShut", "[Z", true)
  | 20 => ("MoonPromisesModel", "person", "[I", true)
  | 21 => ("MoonPromisesModel", "promise", "[I", true)
  | 22 => ("MoonPromisesModel", "act", "[I", true)
  | 23 => ("MoonPromisesModel", "isKept", "[Z", true)
  | 24 => ("MoonPromisesModel", "moon", "I", false)
  | 25 => ("MoonPromisesModel", "where", "[I", true)
  | 26 => ("MoonPromisesModel", "rowed", "[I", true)
  | 27 => ("MoonPromisesModel", "lastRow", "[I", true)
  | 28 => ("MoonPromisesModel", "again", "[Z", true)
  | 29 => ("MoonPromisesModel", "planner", "I", false)
  | 30 => ("MoonPromisesModel", "planMoons", "I", false)
  | 31 => ("MoonPromisesModel", "tracked", "I", false)
  | 32 => ("MoonPromisesModel", "least", "[I", true)
  | 33 => ("MoonPromisesModel", "ways", "[J", true)
  | 34 => ("MoonPromisesModel", "loveOars", "I", false)
  | 35 => ("MoonPromisesModel", "loveMoon", "I", false)
  | 36 => ("MoonPromisesModel", "reach", "[I", true)
  | 37 => ("MoonPromisesModel", "reachThen", "[I", true)
  | 38 => ("MoonPromisesModel", "ring", "[I", true)
  | 39 => ("MoonPromisesModel", "wayMany", "I", false)
  | 40 => ("MoonPromisesModel", "wayAll", "I", false)
  | 41 => ("MoonPromisesModel", "waySome", "I", false)
  | 42 => ("MoonPromisesModel", "wayFewest", "I", false)
  | 43 => ("MoonPromisesModel", "byWorth", "[I", true)
  | 44 => ("MoonPromisesModel", "worthIs", "[I", true)
  | 45 => ("MoonPromisesModel", "nimber", "[I", true)
  | _ => ("MoonPromisesModel", "saidOften", "I", false)
def tyX10 : Nat → FieldType := fun k => match k with
  | 0 => .int
  | 1 => .array .int
  | 2 => .array .int
  | 3 => .array .long
  | 4 => .array .long
  | 5 => .array .byte
  | 6 => .int
  | 7 => .int
  | 8 => .int
  | 9 => .int
  | 10 => .int
  | 11 => .long
  | 12 => .int
  | 13 => .int
  | 14 => .int
  | 15 => .int
  | 16 => .array .int
  | 17 => .array .int
  | 18 => .array .int
  | 19 => .array .boolean
  | 20 => .array .int
  | 21 => .array .int
  | 22 => .array .int
  | 23 => .array .boolean
  | 24 => .int
  | 25 => .array .int
  | 26 => .array .int
  | 27 => .array .int
  | 28 => .array .boolean
  | 29 => .int
  | 30 => .int
  | 31 => .int
  | 32 => .array .int
  | 33 => .array .long
  | 34 => .int
  | 35 => .int
  | 36 => .array .int
  | 37 => .array .int
  | 38 => .array .int
  | 39 => .int
  | 40 => .int
  | 41 => .int
  | 42 => .int
  | 43 => .array .int
  | 44 => .array .int
  | 45 => .array .int
  | _ => .int
abbrev wsX100 : List Cond := u_ws RX10 TX10 47
theorem nmX10 : ∀ a, a < 47 → ∀ b, b < 47 → a ≠ b → (TX10 a).2.1 ≠ (TX10 b).2.1 := by decide +kernel
theorem tyX10_ok : ∀ k, k < 47 → parseFieldDescriptor (TX10 k).2.2.1 = some (tyX10 k) := by decide +kernel
abbrev cX10_init : ByteArray := prog_12_method_1_code
def yX10_init : MethodName := ⟨RX10, "<init>", "()V"⟩
abbrev cX10_in : ByteArray := prog_12_method_3_code
def yX10_in : MethodName := ⟨RX10, "in", "(JJJ)Z"⟩
abbrev cX10_isSlot : ByteArray := prog_12_method_4_code
def yX10_isSlot : MethodName := ⟨RX10, "isSlot", "(I)Z"⟩
abbrev cX10_row : ByteArray := prog_12_method_5_code
def yX10_row : MethodName := ⟨RX10, "row", "(III)I"⟩
abbrev cX10_cut : ByteArray := prog_12_method_6_code
def yX10_cut : MethodName := ⟨RX10, "cut", "(JI)J"⟩
abbrev cX10_write : ByteArray := prog_12_method_7_code
def yX10_write : MethodName := ⟨RX10, "write", "(IIJ)I"⟩
abbrev cX10_paste : ByteArray := prog_12_method_8_code
def yX10_paste : MethodName := ⟨RX10, "paste", "(IIIII)I"⟩
abbrev cX10_feed : ByteArray := prog_12_method_9_code
def yX10_feed : MethodName := ⟨RX10, "feed", "(IIIII)I"⟩
abbrev cX10_four : ByteArray := prog_12_method_10_code
def yX10_four : MethodName := ⟨RX10, "four", "(I)V"⟩
abbrev cX10_end : ByteArray := prog_12_method_11_code
def yX10_end : MethodName := ⟨RX10, "end", "(I)I"⟩
abbrev cX10_isByte : ByteArray := prog_12_method_12_code
def yX10_isByte : MethodName := ⟨RX10, "isByte", "(III)Z"⟩
abbrev cX10_next : ByteArray := prog_12_method_13_code
def yX10_next : MethodName := ⟨RX10, "next", "()V"⟩
abbrev cX10_isGood : ByteArray := prog_12_method_14_code
def yX10_isGood : MethodName := ⟨RX10, "isGood", "()Z"⟩
abbrev cX10_fails : ByteArray := prog_12_method_15_code
def yX10_fails : MethodName := ⟨RX10, "fails", "(I)V"⟩
abbrev cX10_is : ByteArray := prog_12_method_16_code
def yX10_is : MethodName := ⟨RX10, "is", "(J)Z"⟩
abbrev cX10_takes : ByteArray := prog_12_method_17_code
def yX10_takes : MethodName := ⟨RX10, "takes", "(J)Z"⟩
abbrev cX10_asks : ByteArray := prog_12_method_18_code
def yX10_asks : MethodName := ⟨RX10, "asks", "(J)V"⟩
abbrev cX10_number : ByteArray := prog_12_method_19_code
def yX10_number : MethodName := ⟨RX10, "number", "(II)I"⟩
abbrev cX10_number_ : ByteArray := prog_12_method_20_code
def yX10_number_ : MethodName := ⟨RX10, "number", "(JII)I"⟩
abbrev cX10_ends : ByteArray := prog_12_method_21_code
def yX10_ends : MethodName := ⟨RX10, "ends", "()V"⟩
abbrev cX10_begins : ByteArray := prog_12_method_22_code
def yX10_begins : MethodName := ⟨RX10, "begins", "()V"⟩
abbrev cX10_isOver : ByteArray := prog_12_method_23_code
def yX10_isOver : MethodName := ⟨RX10, "isOver", "()V"⟩
abbrev cX10_fault : ByteArray := prog_12_method_24_code
def yX10_fault : MethodName := ⟨RX10, "fault", "(I)I"⟩
abbrev cX10_hasRead : ByteArray := prog_12_method_25_code
def yX10_hasRead : MethodName := ⟨RX10, "hasRead", "(I)I"⟩
abbrev cX10_isleHere : ByteArray := prog_12_method_26_code
def yX10_isleHere : MethodName := ⟨RX10, "isleHere", "()I"⟩
abbrev cX10_personHere : ByteArray := prog_12_method_27_code
def yX10_personHere : MethodName := ⟨RX10, "personHere", "()I"⟩
abbrev cX10_moonHere : ByteArray := prog_12_method_28_code
def yX10_moonHere : MethodName := ⟨RX10, "moonHere", "()I"⟩
abbrev cX10_seaLine : ByteArray := prog_12_method_29_code
def yX10_seaLine : MethodName := ⟨RX10, "seaLine", "()V"⟩
abbrev cX10_personLine : ByteArray := prog_12_method_30_code
def yX10_personLine : MethodName := ⟨RX10, "personLine", "()V"⟩
abbrev cX10_promiseLine : ByteArray := prog_12_method_31_code
def yX10_promiseLine : MethodName := ⟨RX10, "promiseLine", "()V"⟩
abbrev cX10_line : ByteArray := prog_12_method_32_code
def yX10_line : MethodName := ⟨RX10, "line", "()V"⟩
abbrev cX10_clears : ByteArray := prog_12_method_33_code
def yX10_clears : MethodName := ⟨RX10, "clears", "()V"⟩
abbrev cX10_isles : ByteArray := prog_12_method_34_code
def yX10_isles : MethodName := ⟨RX10, "isles", "()I"⟩
abbrev cX10_copyRow : ByteArray := prog_12_method_35_code
def yX10_copyRow : MethodName := ⟨RX10, "copyRow", "([IIII)V"⟩
abbrev cX10_copyIsles : ByteArray := prog_12_method_36_code
def yX10_copyIsles : MethodName := ⟨RX10, "copyIsles", "(II)V"⟩
abbrev cX10_areIsles : ByteArray := prog_12_method_37_code
def yX10_areIsles : MethodName := ⟨RX10, "areIsles", "()Z"⟩
abbrev cX10_isIsle : ByteArray := prog_12_method_38_code
def yX10_isIsle : MethodName := ⟨RX10, "isIsle", "(I)Z"⟩
abbrev cX10_isPerson : ByteArray := prog_12_method_39_code
def yX10_isPerson : MethodName := ⟨RX10, "isPerson", "(I)Z"⟩
abbrev cX10_isPromise : ByteArray := prog_12_method_40_code
def yX10_isPromise : MethodName := ⟨RX10, "isPromise", "(I)Z"⟩
abbrev cX10_areTwo : ByteArray := prog_12_method_41_code
def yX10_areTwo : MethodName := ⟨RX10, "areTwo", "(II)Z"⟩
abbrev cX10_isMoon : ByteArray := prog_12_method_42_code
def yX10_isMoon : MethodName := ⟨RX10, "isMoon", "(I)Z"⟩
abbrev cX10_isBit : ByteArray := prog_12_method_43_code
def yX10_isBit : MethodName := ⟨RX10, "isBit", "(II)Z"⟩
abbrev cX10_sizeOf : ByteArray := prog_12_method_44_code
def yX10_sizeOf : MethodName := ⟨RX10, "sizeOf", "(I)I"⟩
abbrev cX10_of : ByteArray := prog_12_method_45_code
def yX10_of : MethodName := ⟨RX10, "of", "(II)I"⟩
abbrev cX10_person : ByteArray := prog_12_method_46_code
def yX10_person : MethodName := ⟨RX10, "person", "(II)I"⟩
abbrev cX10_promise : ByteArray := prog_12_method_47_code
def yX10_promise : MethodName := ⟨RX10, "promise", "(II)I"⟩
abbrev cX10_sea : ByteArray := prog_12_method_48_code
def yX10_sea : MethodName := ⟨RX10, "sea", "(II)I"⟩
abbrev cX10_open : ByteArray := prog_12_method_49_code
def yX10_open : MethodName := ⟨RX10, "open", "(II)I"⟩
abbrev cX10_isDead : ByteArray := prog_12_method_50_code
def yX10_isDead : MethodName := ⟨RX10, "isDead", "(II)Z"⟩
abbrev cX10_lays : ByteArray := prog_12_method_51_code
def yX10_lays : MethodName := ⟨RX10, "lays", "()V"⟩
abbrev cX10_ownOf : ByteArray := prog_12_method_52_code
def yX10_ownOf : MethodName := ⟨RX10, "ownOf", "(II)I"⟩
abbrev cX10_halvedOf : ByteArray := prog_12_method_53_code
def yX10_halvedOf : MethodName := ⟨RX10, "halvedOf", "(II)I"⟩
abbrev cX10_halved : ByteArray := prog_12_method_54_code
def yX10_halved : MethodName := ⟨RX10, "halved", "(II)I"⟩
abbrev cX10_worthOf : ByteArray := prog_12_method_55_code
def yX10_worthOf : MethodName := ⟨RX10, "worthOf", "(II)I"⟩
abbrev cX10_halvings : ByteArray := prog_12_method_56_code
def yX10_halvings : MethodName := ⟨RX10, "halvings", "(II)I"⟩
abbrev cX10_worth : ByteArray := prog_12_method_57_code
def yX10_worth : MethodName := ⟨RX10, "worth", "(II)I"⟩
abbrev cX10_falls : ByteArray := prog_12_method_58_code
def yX10_falls : MethodName := ⟨RX10, "falls", "(II)I"⟩
abbrev cX10_owedOf : ByteArray := prog_12_method_59_code
def yX10_owedOf : MethodName := ⟨RX10, "owedOf", "(III)I"⟩
abbrev cX10_owed : ByteArray := prog_12_method_60_code
def yX10_owed : MethodName := ⟨RX10, "owed", "(III)I"⟩
abbrev cX10_sumOf : ByteArray := prog_12_method_61_code
def yX10_sumOf : MethodName := ⟨RX10, "sumOf", "(III)I"⟩
abbrev cX10_sum : ByteArray := prog_12_method_62_code
def yX10_sum : MethodName := ⟨RX10, "sum", "(III)I"⟩
abbrev cX10_richest : ByteArray := prog_12_method_63_code
def yX10_richest : MethodName := ⟨RX10, "richest", "(I)I"⟩
abbrev cX10_greatest : ByteArray := prog_12_method_64_code
def yX10_greatest : MethodName := ⟨RX10, "greatest", "(I)I"⟩
abbrev cX10_rootOf : ByteArray := prog_12_method_65_code
def yX10_rootOf : MethodName := ⟨RX10, "rootOf", "(I)I"⟩
abbrev cX10_root : ByteArray := prog_12_method_66_code
def yX10_root : MethodName := ⟨RX10, "root", "(I)I"⟩
abbrev cX10_upon : ByteArray := prog_12_method_67_code
def yX10_upon : MethodName := ⟨RX10, "upon", "(I)I"⟩
abbrev cX10_now : ByteArray := prog_12_method_68_code
def yX10_now : MethodName := ⟨RX10, "now", "()I"⟩
abbrev cX10_where : ByteArray := prog_12_method_69_code
def yX10_where : MethodName := ⟨RX10, "where", "(I)I"⟩
abbrev cX10_rowed : ByteArray := prog_12_method_70_code
def yX10_rowed : MethodName := ⟨RX10, "rowed", "(I)I"⟩
abbrev cX10_isSea : ByteArray := prog_12_method_71_code
def yX10_isSea : MethodName := ⟨RX10, "isSea", "(IIII)Z"⟩
abbrev cX10_maySail : ByteArray := prog_12_method_72_code
def yX10_maySail : MethodName := ⟨RX10, "maySail", "(II)Z"⟩
abbrev cX10_maySay : ByteArray := prog_12_method_73_code
def yX10_maySay : MethodName := ⟨RX10, "maySay", "(I)Z"⟩
abbrev cX10_acts : ByteArray := prog_12_method_74_code
def yX10_acts : MethodName := ⟨RX10, "acts", "(I)V"⟩
abbrev cX10_isFull : ByteArray := prog_12_method_75_code
def yX10_isFull : MethodName := ⟨RX10, "isFull", "()Z"⟩
abbrev cX10_rows : ByteArray := prog_12_method_76_code
def yX10_rows : MethodName := ⟨RX10, "rows", "(II)I"⟩
abbrev cX10_says : ByteArray := prog_12_method_77_code
def yX10_says : MethodName := ⟨RX10, "says", "(I)I"⟩
abbrev cX10_passes : ByteArray := prog_12_method_78_code
def yX10_passes : MethodName := ⟨RX10, "passes", "()I"⟩
abbrev cX10_undo : ByteArray := prog_12_method_79_code
def yX10_undo : MethodName := ⟨RX10, "undo", "()I"⟩
abbrev cX10_anew : ByteArray := prog_12_method_80_code
def yX10_anew : MethodName := ⟨RX10, "anew", "()I"⟩
abbrev cX10_act : ByteArray := prog_12_method_81_code
def yX10_act : MethodName := ⟨RX10, "act", "(I)I"⟩
abbrev cX10_can : ByteArray := prog_12_method_82_code
def yX10_can : MethodName := ⟨RX10, "can", "()I"⟩
abbrev cX10_sails : ByteArray := prog_12_method_83_code
def yX10_sails : MethodName := ⟨RX10, "sails", "(I)I"⟩
abbrev cX10_saidOn : ByteArray := prog_12_method_84_code
def yX10_saidOn : MethodName := ⟨RX10, "saidOn", "(II)I"⟩
abbrev cX10_onceBehind : ByteArray := prog_12_method_85_code
def yX10_onceBehind : MethodName := ⟨RX10, "onceBehind", "(III)I"⟩
abbrev cX10_goesOn : ByteArray := prog_12_method_86_code
def yX10_goesOn : MethodName := ⟨RX10, "goesOn", "(III)V"⟩
abbrev cX10_oarsBy : ByteArray := prog_12_method_87_code
def yX10_oarsBy : MethodName := ⟨RX10, "oarsBy", "(III)I"⟩
abbrev cX10_onceNow : ByteArray := prog_12_method_88_code
def yX10_onceNow : MethodName := ⟨RX10, "onceNow", "()I"⟩
abbrev cX10_keptNow : ByteArray := prog_12_method_89_code
def yX10_keptNow : MethodName := ⟨RX10, "keptNow", "(I)I"⟩
abbrev cX10_plansFor : ByteArray := prog_12_method_90_code
def yX10_plansFor : MethodName := ⟨RX10, "plansFor", "(III)I"⟩
abbrev cX10_isPlan : ByteArray := prog_12_method_91_code
def yX10_isPlan : MethodName := ⟨RX10, "isPlan", "(II)Z"⟩
abbrev cX10_keeps : ByteArray := prog_12_method_92_code
def yX10_keeps : MethodName := ⟨RX10, "keeps", "(II)I"⟩
abbrev cX10_plan : ByteArray := prog_12_method_93_code
def yX10_plan : MethodName := ⟨RX10, "plan", "(III)I"⟩
abbrev cX10_isStep : ByteArray := prog_12_method_94_code
def yX10_isStep : MethodName := ⟨RX10, "isStep", "(IIII)Z"⟩
abbrev cX10_fallenOf : ByteArray := prog_12_method_95_code
def yX10_fallenOf : MethodName := ⟨RX10, "fallenOf", "(II)I"⟩
abbrev cX10_lets : ByteArray := prog_12_method_96_code
def yX10_lets : MethodName := ⟨RX10, "lets", "(II)I"⟩
abbrev cX10_fallen : ByteArray := prog_12_method_97_code
def yX10_fallen : MethodName := ⟨RX10, "fallen", "(II)I"⟩
abbrev cX10_plans : ByteArray := prog_12_method_98_code
def yX10_plans : MethodName := ⟨RX10, "plans", "(II)J"⟩
abbrev cX10_worthSaid : ByteArray := prog_12_method_99_code
def yX10_worthSaid : MethodName := ⟨RX10, "worthSaid", "(III)I"⟩
abbrev cX10_loves : ByteArray := prog_12_method_100_code
def yX10_loves : MethodName := ⟨RX10, "loves", "(III)V"⟩
abbrev cX10_isLove : ByteArray := prog_12_method_101_code
def yX10_isLove : MethodName := ⟨RX10, "isLove", "(III)Z"⟩
abbrev cX10_love : ByteArray := prog_12_method_102_code
def yX10_love : MethodName := ⟨RX10, "love", "(III)I"⟩
abbrev cX10_when : ByteArray := prog_12_method_103_code
def yX10_when : MethodName := ⟨RX10, "when", "(III)I"⟩
abbrev cX10_isUnder : ByteArray := prog_12_method_104_code
def yX10_isUnder : MethodName := ⟨RX10, "isUnder", "(I)Z"⟩
abbrev cX10_joinOf : ByteArray := prog_12_method_105_code
def yX10_joinOf : MethodName := ⟨RX10, "joinOf", "(II)I"⟩
abbrev cX10_joins : ByteArray := prog_12_method_106_code
def yX10_joins : MethodName := ⟨RX10, "joins", "(II)I"⟩
abbrev cX10_joined : ByteArray := prog_12_method_107_code
def yX10_joined : MethodName := ⟨RX10, "joined", "()I"⟩
abbrev cX10_struckOf : ByteArray := prog_12_method_108_code
def yX10_struckOf : MethodName := ⟨RX10, "struckOf", "(IIII)I"⟩
abbrev cX10_ringOf : ByteArray := prog_12_method_109_code
def yX10_ringOf : MethodName := ⟨RX10, "ringOf", "(I)I"⟩
abbrev cX10_ring : ByteArray := prog_12_method_110_code
def yX10_ring : MethodName := ⟨RX10, "ring", "(I)I"⟩
abbrev cX10_ringed : ByteArray := prog_12_method_111_code
def yX10_ringed : MethodName := ⟨RX10, "ringed", "(II)I"⟩
abbrev cX10_strikes : ByteArray := prog_12_method_112_code
def yX10_strikes : MethodName := ⟨RX10, "strikes", "(IIII)I"⟩
abbrev cX10_whyNot : ByteArray := prog_12_method_113_code
def yX10_whyNot : MethodName := ⟨RX10, "whyNot", "(II)I"⟩
abbrev cX10_worthBy : ByteArray := prog_12_method_114_code
def yX10_worthBy : MethodName := ⟨RX10, "worthBy", "(III)I"⟩
abbrev cX10_isWay : ByteArray := prog_12_method_115_code
def yX10_isWay : MethodName := ⟨RX10, "isWay", "(III)Z"⟩
abbrev cX10_laysWays : ByteArray := prog_12_method_116_code
def yX10_laysWays : MethodName := ⟨RX10, "laysWays", "(II)V"⟩
abbrev cX10_weighed : ByteArray := prog_12_method_117_code
def yX10_weighed : MethodName := ⟨RX10, "weighed", "(II)I"⟩
abbrev cX10_must : ByteArray := prog_12_method_118_code
def yX10_must : MethodName := ⟨RX10, "must", "(III)I"⟩
abbrev cX10_times : ByteArray := prog_12_method_119_code
def yX10_times : MethodName := ⟨RX10, "times", "(II)I"⟩
abbrev cX10_worstOf : ByteArray := prog_12_method_120_code
def yX10_worstOf : MethodName := ⟨RX10, "worstOf", "(III)I"⟩
abbrev cX10_weigh : ByteArray := prog_12_method_121_code
def yX10_weigh : MethodName := ⟨RX10, "weigh", "(II)I"⟩
abbrev cX10_said : ByteArray := prog_12_method_122_code
def yX10_said : MethodName := ⟨RX10, "said", "(II)I"⟩
abbrev cX10_span : ByteArray := prog_12_method_123_code
def yX10_span : MethodName := ⟨RX10, "span", "(III)I"⟩
abbrev cX10_laysNimbers : ByteArray := prog_12_method_124_code
def yX10_laysNimbers : MethodName := ⟨RX10, "laysNimbers", "()V"⟩
abbrev cX10_whyNoThreat : ByteArray := prog_12_method_125_code
def yX10_whyNoThreat : MethodName := ⟨RX10, "whyNoThreat", "(I)I"⟩
abbrev cX10_xorOf : ByteArray := prog_12_method_126_code
def yX10_xorOf : MethodName := ⟨RX10, "xorOf", "(I)I"⟩
abbrev cX10_wins : ByteArray := prog_12_method_127_code
def yX10_wins : MethodName := ⟨RX10, "wins", "(I)I"⟩
abbrev cX10_turn : ByteArray := prog_12_method_128_code
def yX10_turn : MethodName := ⟨RX10, "turn", "(I)I"⟩
abbrev cX10_draws : ByteArray := prog_12_method_129_code
def yX10_draws : MethodName := ⟨RX10, "draws", "(JII)I"⟩
abbrev cX10_isDraw : ByteArray := prog_12_method_130_code
def yX10_isDraw : MethodName := ⟨RX10, "isDraw", "(III)Z"⟩
abbrev cX10_drawn : ByteArray := prog_12_method_131_code
def yX10_drawn : MethodName := ⟨RX10, "drawn", "(III)I"⟩
abbrev cX10_often : ByteArray := prog_12_method_132_code
def yX10_often : MethodName := ⟨RX10, "often", "(III)I"⟩
abbrev cX10_lucky : ByteArray := prog_12_method_133_code
def yX10_lucky : MethodName := ⟨RX10, "lucky", "(IIII)I"⟩
abbrev cX10_promises : ByteArray := prog_12_method_134_code
def yX10_promises : MethodName := ⟨RX10, "promises", "(III)I"⟩
abbrev cX10_shuts : ByteArray := prog_12_method_135_code
def yX10_shuts : MethodName := ⟨RX10, "shuts", "(III)I"⟩
abbrev cX10_tends : ByteArray := prog_12_method_136_code
def yX10_tends : MethodName := ⟨RX10, "tends", "(II)I"⟩
abbrev cX10_count : ByteArray := prog_12_method_137_code
def yX10_count : MethodName := ⟨RX10, "count", "(I)I"⟩
abbrev cX10_image : ByteArray := prog_12_method_138_code
def yX10_image : MethodName := ⟨RX10, "image", "(I)I"⟩
abbrev cX10_back : ByteArray := prog_12_method_139_code
def yX10_back : MethodName := ⟨RX10, "back", "(I)I"⟩
def RJx145de : String := "java/io/Serializable"
def TJx145de : u_T := fun k => match k with
  | _ => ("", "", "", false)
def RJx9f9b0 : String := "java/lang/CharSequence"
def TJx9f9b0 : u_T := fun k => match k with
  | _ => ("", "", "", false)
def RJxb160c : String := "java/lang/Comparable"
def TJxb160c : u_T := fun k => match k with
  | _ => ("", "", "", false)
def RJ6 : String := "java/lang/Integer"
def TJ6 : u_T := fun k => match k with
  | _ => ("", "", "", false)
abbrev cJ6_bitCount_0f7a4 : ByteArray := prog_13_method_49_code
def yJ6_bitCount_0f7a4 : MethodName := ⟨RJ6, "bitCount", "(I)I"⟩
def RJ13 : String := "java/lang/Long"
def TJ13 : u_T := fun k => match k with
  | _ => ("", "", "", false)
abbrev cJ13_bitCount_95d88 : ByteArray := prog_14_method_50_code
def yJ13_bitCount_95d88 : MethodName := ⟨RJ13, "bitCount", "(J)I"⟩
def RJ9 : String := "java/lang/Math"
def TJ9 : u_T := fun k => match k with
  | _ => ("", "", "", false)
abbrev cJ9_max_7cf53 : ByteArray := prog_15_method_65_code
def yJ9_max_7cf53 : MethodName := ⟨RJ9, "max", "(II)I"⟩
abbrev cJ9_max_f86c9 : ByteArray := prog_15_method_66_code
def yJ9_max_f86c9 : MethodName := ⟨RJ9, "max", "(JJ)J"⟩
abbrev cJ9_min_7cf53 : ByteArray := prog_15_method_69_code
def yJ9_min_7cf53 : MethodName := ⟨RJ9, "min", "(II)I"⟩
abbrev cJ9_min_f86c9 : ByteArray := prog_15_method_70_code
def yJ9_min_f86c9 : MethodName := ⟨RJ9, "min", "(JJ)J"⟩
def RJ0 : String := "java/lang/String"
def TJ0 : u_T := fun k => match k with
  | _ => ("", "", "", false)
abbrev cJ0_length_8abf5 : ByteArray := prog_16_method_54_code
def yJ0_length_8abf5 : MethodName := ⟨RJ0, "length", "()I"⟩
abbrev cJ0_charAt_5068e : ByteArray := prog_16_method_56_code
def yJ0_charAt_5068e : MethodName := ⟨RJ0, "charAt", "(I)C"⟩
abbrev cJ0_coder_7d493 : ByteArray := prog_16_method_152_code
def yJ0_coder_7d493 : MethodName := ⟨RJ0, "coder", "()B"⟩
abbrev cJ0_isLatin1_aae02 : ByteArray := prog_16_method_154_code
def yJ0_isLatin1_aae02 : MethodName := ⟨RJ0, "isLatin1", "()Z"⟩
abbrev cJ0_checkIndex_df160 : ByteArray := prog_16_method_155_code
def yJ0_checkIndex_df160 : MethodName := ⟨RJ0, "checkIndex", "(II)V"⟩
def RJ1 : String := "java/lang/StringLatin1"
def TJ1 : u_T := fun k => match k with
  | _ => ("", "", "", false)
abbrev cJ1_charAt_3b067 : ByteArray := prog_17_method_2_code
def yJ1_charAt_3b067 : MethodName := ⟨RJ1, "charAt", "([BI)C"⟩
def RJ2 : String := "java/lang/StringUTF16"
def TJ2 : u_T := fun k => match k with
  | _ => ("", "", "", false)
abbrev cJ2_getChar_3b067 : ByteArray := prog_18_method_5_code
def yJ2_getChar_3b067 : MethodName := ⟨RJ2, "getChar", "([BI)C"⟩
abbrev cJ2_length_9d52b : ByteArray := prog_18_method_6_code
def yJ2_length_9d52b : MethodName := ⟨RJ2, "length", "([B)I"⟩
abbrev cJ2_charAt_3b067 : ByteArray := prog_18_method_83_code
def yJ2_charAt_3b067 : MethodName := ⟨RJ2, "charAt", "([BI)C"⟩
abbrev cJ2_checkIndex_2214a : ByteArray := prog_18_method_91_code
def yJ2_checkIndex_2214a : MethodName := ⟨RJ2, "checkIndex", "(I[B)V"⟩
def RJ10 : String := "java/lang/System"
def TJ10 : u_T := fun k => match k with
  | _ => ("", "", "", false)
def RJxfd54e : String := "java/lang/constant/Constable"
def TJxfd54e : u_T := fun k => match k with
  | _ => ("", "", "", false)
def RJx3cf43 : String := "java/lang/constant/ConstantDesc"
def TJx3cf43 : u_T := fun k => match k with
  | _ => ("", "", "", false)
def RJ7 : String := "java/util/Arrays"
def TJ7 : u_T := fun k => match k with
  | _ => ("", "", "", false)
abbrev cJ7_fill_d0a16 : ByteArray := prog_20_method_101_code
def yJ7_fill_d0a16 : MethodName := ⟨RJ7, "fill", "([JJ)V"⟩
abbrev cJ7_fill_53178 : ByteArray := prog_20_method_103_code
def yJ7_fill_53178 : MethodName := ⟨RJ7, "fill", "([II)V"⟩
def RJ3 : String := "jdk/internal/util/Preconditions"
def TJ3 : u_T := fun k => match k with
  | _ => ("", "", "", false)
abbrev cJ3_checkIndex_8e157 : ByteArray := prog_21_method_11_code
def yJ3_checkIndex_8e157 : MethodName := ⟨RJ3, "checkIndex", "(IILjava/util/function/BiFunction;)I"⟩
def RL : String := "MoonPromisesLaw"
def yL_law : MethodName := ⟨RL, "law", "([I)Z"⟩
abbrev vwCl : List vw_C := [(RX0, TX0, 8), (RX1, TX1, 4), (RX2, TX2, 11), (RX3, TX3, 10), (RX4, TX4, 10), (RX5, TX5, 3), (RX6, TX6, 3), (RX7, TX7, 18), (RX8, TX8, 3), (RX9, TX9, 9), (RX10, TX10, 47)]
def mp_kind : Jvm.Cond → Bool
  | .methodLink _ _ _ => true
  | .code _ _ _ _ => true
  | .instanceMethod _ => true
  | .selects _ _ _ => true
  | .fieldLink _ _ _ _ _ => true
  | .laysFinal _ _ _ _ => true
  | .lays _ _ _ _ => true
  | .constantLong _ _ _ => true
  | .constant _ _ _ => true
  | .static _ => true
  | .initialized _ => true
  | .classLink _ _ _ => true
  | .instantiable _ _ => true
  | .arrayClass _ => true
  | .native _ => true
  | _ => false
def mp_UT : List Jvm.Cond := lw_tbl.filter mp_kind
set_option maxRecDepth 100000 in
theorem mp_utAll : mp_UT.all goodWord = true := by decide +kernel
theorem mp_utGood : ∀ w ∈ mp_UT, (w.onTables && w.keeps) = true ∨ ∃ ty, w = .arrayClass ty := fun w h => good_of_word (List.all_eq_true.mp mp_utAll w h)
theorem mp_utIn : ∀ w ∈ mp_UT, w ∈ lw_tbl := fun _ h => (List.mem_filter.mp h).1
def mp_g (j : Nat) : Option Jvm.Cond := (match j / 1000 with
  | 0 => k2_sels lw_privs
  | 1 => tables_1_1
  | 2 => tables_1_2
  | 3 => tables_1_3
  | 4 => tables_1_4
  | 5 => tables_1_5
  | 6 => tables_1_6
  | 7 => tables_1_7
  | 8 => tables_1_8
  | 9 => tables_1_9
  | _ => [])[j % 1000]?
def mp_gB (j : Nat) (w : Jvm.Cond) : Bool := decide (mp_g j = some w)
theorem mp_gl {j : Nat} {w : Jvm.Cond} (h : mp_gB j w = true) : w ∈ lw_tbl := by
  have h : mp_g j = some w := of_decide_eq_true h
  unfold mp_g at h
  have h := List.mem_of_getElem? h
  show w ∈ k2_sels lw_privs ++ tables_1
  unfold tables_1
  split at h
  · exact List.mem_append.mpr (Or.inl h)
  · exact List.mem_append.mpr (Or.inr (List.mem_append.mpr (Or.inl h)))
  · exact List.mem_append.mpr (Or.inr (List.mem_append.mpr (Or.inr (List.mem_append.mpr (Or.inl h)))))
  · exact List.mem_append.mpr (Or.inr (List.mem_append.mpr (Or.inr (List.mem_append.mpr (Or.inr (List.mem_append.mpr (Or.inl h)))))))
  · exact List.mem_append.mpr (Or.inr (List.mem_append.mpr (Or.inr (List.mem_append.mpr (Or.inr (List.mem_append.mpr (Or.inr (List.mem_append.mpr (Or.inl h)))))))))
  · exact List.mem_append.mpr (Or.inr (List.mem_append.mpr (Or.inr (List.mem_append.mpr (Or.inr (List.mem_append.mpr (Or.inr (List.mem_append.mpr (Or.inr (List.mem_append.mpr (Or.inl h)))))))))))
  · exact List.mem_append.mpr (Or.inr (List.mem_append.mpr (Or.inr (List.mem_append.mpr (Or.inr (List.mem_append.mpr (Or.inr (List.mem_append.mpr (Or.inr (List.mem_append.mpr (Or.inr (List.mem_append.mpr (Or.inl h)))))))))))))
  · exact List.mem_append.mpr (Or.inr (List.mem_append.mpr (Or.inr (List.mem_append.mpr (Or.inr (List.mem_append.mpr (Or.inr (List.mem_append.mpr (Or.inr (List.mem_append.mpr (Or.inr (List.mem_append.mpr (Or.inr (List.mem_append.mpr (Or.inl h)))))))))))))))
  · exact List.mem_append.mpr (Or.inr (List.mem_append.mpr (Or.inr (List.mem_append.mpr (Or.inr (List.mem_append.mpr (Or.inr (List.mem_append.mpr (Or.inr (List.mem_append.mpr (Or.inr (List.mem_append.mpr (Or.inr (List.mem_append.mpr (Or.inr (List.mem_append.mpr (Or.inl h)))))))))))))))))
  · exact List.mem_append.mpr (Or.inr (List.mem_append.mpr (Or.inr (List.mem_append.mpr (Or.inr (List.mem_append.mpr (Or.inr (List.mem_append.mpr (Or.inr (List.mem_append.mpr (Or.inr (List.mem_append.mpr (Or.inr (List.mem_append.mpr (Or.inr (List.mem_append.mpr (Or.inr h)))))))))))))))))
  · exact absurd h List.not_mem_nil
def mp_gK (j : Nat) (w : Jvm.Cond) : Bool := mp_gB j w && mp_kind w
theorem mp_gm {j : Nat} {w : Jvm.Cond} (h : mp_gK j w = true) : w ∈ mp_UT := by
  have h := Bool.and_eq_true_iff.mp h
  exact List.mem_filter.mpr ⟨mp_gl h.1, h.2⟩
def mp_memB : List Jvm.Cond → List Nat → Bool
  | [], _ => true
  | w :: ws, p :: ps => mp_gK p w && mp_memB ws ps
  | _ :: _, [] => false
theorem mp_mems : ∀ {ws : List Jvm.Cond} {ps : List Nat}, mp_memB ws ps = true → ∀ w ∈ ws, w ∈ mp_UT
  | [], _, _, w, hw => absurd hw List.not_mem_nil
  | x :: ws, [], h, _, _ => absurd h (by simp [mp_memB])
  | x :: ws, p :: ps, h, w, hw => by
    simp only [mp_memB] at h
    have h := Bool.and_eq_true_iff.mp h
    rcases List.mem_cons.mp hw with rfl | hw
    · exact mp_gm h.1
    · exact mp_mems h.2 w hw
set_option maxRecDepth 100000 in
theorem inlX0 : ∀ w ∈ wsX00, w ∈ mp_UT := mp_mems (ps := [1210, 1212, 1214, 1216, 1218, 1220, 1222, 1224]) (by decide +kernel)
set_option maxRecDepth 100000 in
theorem inlX1 : ∀ w ∈ wsX10, w ∈ mp_UT := mp_mems (ps := [2001, 2003, 2005, 2007]) (by decide +kernel)
set_option maxRecDepth 100000 in
theorem inlX2 : ∀ w ∈ wsX20, w ∈ mp_UT := mp_mems (ps := [2029, 2031, 2033, 2035, 2037, 2039, 2041, 2043, 2045, 2047, 2049]) (by decide +kernel)
set_option maxRecDepth 100000 in
theorem inlX3 : ∀ w ∈ wsX30, w ∈ mp_UT := mp_mems (ps := [1163, 1165, 1167, 1169, 1171, 1173, 1175, 1177, 1179, 1181]) (by decide +kernel)
set_option maxRecDepth 100000 in
theorem inlX4 : ∀ w ∈ wsX40, w ∈ mp_UT := mp_mems (ps := [2072, 2074, 2076, 2078, 2080, 2082, 2084, 2086, 2088, 2090]) (by decide +kernel)
set_option maxRecDepth 100000 in
theorem inlX5 : ∀ w ∈ wsX50, w ∈ mp_UT := mp_mems (ps := [2140, 2142, 2144]) (by decide +kernel)
set_option maxRecDepth 100000 in
theorem inlX6 : ∀ w ∈ wsX60, w ∈ mp_UT := mp_mems (ps := [2102, 2104, 2106]) (by decide +kernel)
set_option maxRecDepth 100000 in
theorem inlX7 : ∀ w ∈ wsX70, w ∈ mp_UT := mp_mems (ps := [1109, 1111, 1113, 1115, 1117, 1119, 1121, 1123, 1125, 1127, 1129, 1131, 1133, 1135, 1137, 1139, 1141, 1143]) (by decide +kernel)
set_option maxRecDepth 100000 in
theorem inlX8 : ∀ w ∈ wsX80, w ∈ mp_UT := mp_mems (ps := [2120, 2122, 2124]) (by decide +kernel)
set_option maxRecDepth 100000 in
theorem inlX9 : ∀ w ∈ wsX90, w ∈ mp_UT := mp_mems (ps := [2156, 2158, 2160, 2162, 2164, 2166, 2168, 2170, 2172]) (by decide +kernel)
set_option maxRecDepth 100000 in
theorem inlX10 : ∀ w ∈ wsX100, w ∈ mp_UT := mp_mems (ps := [6058, 6060, 6062, 6064, 6066, 6068, 6070, 6072, 6074, 6076, 6078, 6080, 6082, 6084, 6086, 6088, 6090, 6092, 6094, 6096, 6098, 6100, 6102, 6104, 6106, 6108, 6110, 6112, 6114, 6116, 6118, 6120, 6122, 6124, 6126, 6128, 6130, 6132, 6134, 6136, 6138, 6140, 6142, 6144, 6146, 6148, 6150]) (by decide +kernel)
theorem mp_utArr (t0 : Nat) (ty : FieldType) (h : ([.int, .byte, .long, .boolean] : List FieldType)[t0]? = some ty) : Jvm.Cond.arrayClass ty ∈ mp_UT := by
  match t0, h with
  | 0, h => cases h; exact mp_gm (j := 1147) (by decide +kernel)
  | 1, h => cases h; exact mp_gm (j := 1146) (by decide +kernel)
  | 2, h => cases h; exact mp_gm (j := 1148) (by decide +kernel)
  | 3, h => cases h; exact mp_gm (j := 6153) (by decide +kernel)
  | k + 4, h => simp at h
theorem mp_oi1 : Jvm.Cond.instanceMethod objectInit ∈ mp_UT := mp_gm (j := 1027) (by decide +kernel)
theorem mp_oi2 : Jvm.Cond.code objectInit ⟨#[0xb1]⟩ 1 none ∈ mp_UT := mp_gm (j := 1028) (by decide +kernel)
theorem mp_ac1 : Jvm.Cond.native arraycopyName ∈ mp_UT := mp_gm (j := 3115) (by decide +kernel)
theorem mp_ac2 : Jvm.Cond.static arraycopyName ∈ mp_UT := mp_gm (j := 3114) (by decide +kernel)
theorem mp_ac3 : Jvm.Cond.initialized "java/lang/System" ∈ mp_UT := mp_gm (j := 1018) (by decide +kernel)
def mp_nst : List (String × Nat × MethodName × String) := [(RX9, 9, yX3_init, RX9), (RX3, 17, yX7_init, RX9), (RX9, 18, yX0_init, RX9), (RX0, 11, yX7_init, RX9), (RX9, 31, yX1_init, RX9), (RX9, 38, yX2_init, RX9), (RX9, 45, yX4_init, RX9), (RX9, 59, yX8_init, RX9), (RX7, 110, yX9_halved, RX9), (RX0, 115, yX9_halved, RX9), (RX4, 93, yX9_halved, RX9), (RX9, 350, yX7_init, RX9)]
def mp_N (U : State) : Prop := (∀ q ∈ mp_nst, va_Nw (.methodLinkNest q.1 q.2.1 q.2.2.1 q.2.2.2) U) ∧ va_AO RX7 U
theorem mp_N_same {u U : State} (h : u.vm = U.vm) (hN : mp_N u) : mp_N U := ⟨fun q hq => va_Nw.same rfl h (hN.1 q hq), va_AO.moved (by rw [h]; exact Vm.Alike.refl _) hN.2⟩
theorem mp_N_warm {s U : State} (hW : s.WarmedH U.vm) (hN : mp_N s) : mp_N U := ⟨fun q hq => va_Nw.warmM hW (hN.1 q hq), va_AO.moved hW.alike hN.2⟩
def mp_lB : List Jvm.Cond → List Nat → Bool
  | [], _ => true
  | w :: ws, p :: ps => mp_gB p w && mp_lB ws ps
  | _ :: _, [] => false
theorem mp_ll : ∀ {ws : List Jvm.Cond} {ps : List Nat}, mp_lB ws ps = true → ∀ w ∈ ws, w ∈ lw_tbl
  | [], _, _, w, hw => absurd hw List.not_mem_nil
  | x :: ws, [], h, _, _ => absurd h (by simp [mp_lB])
  | x :: ws, p :: ps, h, w, hw => by
    simp only [mp_lB] at h
    have h := Bool.and_eq_true_iff.mp h
    rcases List.mem_cons.mp hw with rfl | hw
    · exact mp_gl h.1
    · exact mp_ll h.2 w hw
def mp_nstW : List Jvm.Cond := mp_nst.map fun q => .methodLinkNest q.1 q.2.1 q.2.2.1 q.2.2.2
set_option maxRecDepth 100000 in
theorem mp_nstIn : ∀ w ∈ mp_nstW, w ∈ lw_tbl := mp_ll (ps := [1031, 1037, 1186, 1191, 1231, 2012, 2054, 2111, 3199, 4230, 5054, 5208]) (by decide +kernel)
theorem mp_N_start {args : Array Value} {s : State} (hts : ∀ w ∈ lw_tbl, w.before args s = true) : mp_N s := ⟨fun q hq => va_Nw.of rfl (hts _ (mp_nstIn _ (List.mem_map.mpr ⟨q, hq, rfl⟩))), va_AO.of (A := args) (hts _ (mp_gl (j := 1228) (by decide +kernel)))⟩
