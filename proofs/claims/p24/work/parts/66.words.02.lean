theorem mp_w3 : ∀ i : Nat, i < 14 → (Cond.arrayOf (.field (mp_tm i) "java/lang/String" "value" "[B") .byte) ∈ (flatC (Jvm.Cond.and given_1 narrow_1)) := by
  first
  | (have h : ∀ i : Nat, i < 14 → (flatC (Jvm.Cond.and given_1 narrow_1))[mp_sixa.getD i 0 + 2]? = some (Cond.arrayOf (.field (mp_tm i) "java/lang/String" "value" "[B") .byte) := by decide +kernel
     exact fun i hi => List.mem_of_getElem? (h i hi))
  | decide +kernel
