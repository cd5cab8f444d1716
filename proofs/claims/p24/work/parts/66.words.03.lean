theorem mp_w4 : ∀ i : Nat, i < 14 → (Cond.eq (.length (.field (mp_tm i) "java/lang/String" "value" "[B")) (.int (Int32.ofNat (mp_sl.getD i 0)))) ∈ (flatC (Jvm.Cond.and given_1 narrow_1)) := by
  first
  | (have h : ∀ i : Nat, i < 14 → (flatC (Jvm.Cond.and given_1 narrow_1))[mp_sixa.getD i 0 + 3]? = some (Cond.eq (.length (.field (mp_tm i) "java/lang/String" "value" "[B")) (.int (Int32.ofNat (mp_sl.getD i 0)))) := by decide +kernel
     exact fun i hi => List.mem_of_getElem? (h i hi))
  | decide +kernel
