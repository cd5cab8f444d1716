theorem mp_w6 : ∀ i : Nat, i < 14 → ∀ j : Nat, j < 14 → i ≠ j → (Cond.not (Cond.eq (mp_tm i) (mp_tm j))) ∈ (flatC (Jvm.Cond.and given_1 narrow_1)) ∨ (Cond.not (Cond.eq (mp_tm j) (mp_tm i))) ∈ (flatC (Jvm.Cond.and given_1 narrow_1)) := by
  intro i hi j hj hij
  by_cases h : i < j
  · exact Or.inl (List.mem_of_getElem? (mp_w6a j hj i h))
  · exact Or.inr (List.mem_of_getElem? (mp_w6a i hi j (by omega)))
