theorem mp_w5 : ∀ i : Nat, i < 14 → ∀ j : Nat, j < mp_sl.getD i 0 → (Cond.eq (.elem (.field (mp_tm i) "java/lang/String" "value" "[B") (.int (Int32.ofNat j))) (.int ((mp_sb.getD i []).getD j 0))) ∈ (flatC (Jvm.Cond.and given_1 narrow_1)) := by
  first
  | (have h : ∀ i : Nat, i < 14 → ∀ j : Nat, j < mp_sl.getD i 0 → (flatC (Jvm.Cond.and given_1 narrow_1))[mp_sixa.getD i 0 + 4 + j]? = some (Cond.eq (.elem (.field (mp_tm i) "java/lang/String" "value" "[B") (.int (Int32.ofNat j))) (.int ((mp_sb.getD i []).getD j 0))) := by decide +kernel
     exact fun i hi j hj => List.mem_of_getElem? (h i hi j hj))
  | decide +kernel
