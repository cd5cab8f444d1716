def mp_sixb : List Nat := [0, 24, 32, 42, 55, 65, 78, 93, 111, 125, 143, 161, 181, 201]
theorem mp_w6a : ∀ j : Nat, j < 14 → ∀ i : Nat, i < j → (flatC (Jvm.Cond.and given_1 narrow_1))[mp_sixb.getD j 0 + i]? = some (Cond.not (Cond.eq (mp_tm i) (mp_tm j))) := by decide +kernel
