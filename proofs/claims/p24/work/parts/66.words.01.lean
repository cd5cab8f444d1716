theorem mp_w2 : ∀ i : Nat, i < 14 → (Cond.eq (.field (mp_tm i) "java/lang/String" "coder" "B") (.int 0)) ∈ (flatC (Jvm.Cond.and given_1 narrow_1)) := by
  first
  | (have h : ∀ i : Nat, i < 14 → (flatC (Jvm.Cond.and given_1 narrow_1))[mp_sixa.getD i 0 + 1]? = some (Cond.eq (.field (mp_tm i) "java/lang/String" "coder" "B") (.int 0)) := by decide +kernel
     exact fun i hi => List.mem_of_getElem? (h i hi))
  | decide +kernel
