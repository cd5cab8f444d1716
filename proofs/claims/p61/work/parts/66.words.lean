def mp_six : List Nat := [54, 100, 67, 108, 72, 117, 123, 129, 77, 134, 136, 139, 148, 152]
def mp_tm (i : Nat) : Term := .string RX3 (mp_six.getD i 0)
def mp_sixa : List Nat := [9, 18, 25, 34, 45, 59, 70, 84, 100, 119, 134, 153, 172, 193]
theorem mp_w1 : ∀ i : Nat, i < 14 → (Cond.exactly (mp_tm i) "java/lang/String") ∈ (flatC (Jvm.Cond.and given_1 narrow_1)) := by
  first
  | (have h : ∀ i : Nat, i < 14 → (flatC (Jvm.Cond.and given_1 narrow_1))[mp_sixa.getD i 0 + 0]? = some (Cond.exactly (mp_tm i) "java/lang/String") := by decide +kernel
     exact fun i hi => List.mem_of_getElem? (h i hi))
  | decide +kernel
theorem mp_w2 : ∀ i : Nat, i < 14 → (Cond.eq (.field (mp_tm i) "java/lang/String" "coder" "B") (.int 0)) ∈ (flatC (Jvm.Cond.and given_1 narrow_1)) := by
  first
  | (have h : ∀ i : Nat, i < 14 → (flatC (Jvm.Cond.and given_1 narrow_1))[mp_sixa.getD i 0 + 1]? = some (Cond.eq (.field (mp_tm i) "java/lang/String" "coder" "B") (.int 0)) := by decide +kernel
     exact fun i hi => List.mem_of_getElem? (h i hi))
  | decide +kernel
theorem mp_w3 : ∀ i : Nat, i < 14 → (Cond.arrayOf (.field (mp_tm i) "java/lang/String" "value" "[B") .byte) ∈ (flatC (Jvm.Cond.and given_1 narrow_1)) := by
  first
  | (have h : ∀ i : Nat, i < 14 → (flatC (Jvm.Cond.and given_1 narrow_1))[mp_sixa.getD i 0 + 2]? = some (Cond.arrayOf (.field (mp_tm i) "java/lang/String" "value" "[B") .byte) := by decide +kernel
     exact fun i hi => List.mem_of_getElem? (h i hi))
  | decide +kernel
theorem mp_w4 : ∀ i : Nat, i < 14 → (Cond.eq (.length (.field (mp_tm i) "java/lang/String" "value" "[B")) (.int (Int32.ofNat (mp_sl.getD i 0)))) ∈ (flatC (Jvm.Cond.and given_1 narrow_1)) := by
  first
  | (have h : ∀ i : Nat, i < 14 → (flatC (Jvm.Cond.and given_1 narrow_1))[mp_sixa.getD i 0 + 3]? = some (Cond.eq (.length (.field (mp_tm i) "java/lang/String" "value" "[B")) (.int (Int32.ofNat (mp_sl.getD i 0)))) := by decide +kernel
     exact fun i hi => List.mem_of_getElem? (h i hi))
  | decide +kernel
theorem mp_w5 : ∀ i : Nat, i < 14 → ∀ j : Nat, j < mp_sl.getD i 0 → (Cond.eq (.elem (.field (mp_tm i) "java/lang/String" "value" "[B") (.int (Int32.ofNat j))) (.int ((mp_sb.getD i []).getD j 0))) ∈ (flatC (Jvm.Cond.and given_1 narrow_1)) := by
  first
  | (have h : ∀ i : Nat, i < 14 → ∀ j : Nat, j < mp_sl.getD i 0 → (flatC (Jvm.Cond.and given_1 narrow_1))[mp_sixa.getD i 0 + 4 + j]? = some (Cond.eq (.elem (.field (mp_tm i) "java/lang/String" "value" "[B") (.int (Int32.ofNat j))) (.int ((mp_sb.getD i []).getD j 0))) := by decide +kernel
     exact fun i hi j hj => List.mem_of_getElem? (h i hi j hj))
  | decide +kernel
def mp_sixb : List Nat := [0, 24, 32, 42, 55, 65, 78, 93, 111, 125, 143, 161, 181, 201]
theorem mp_w6a : ∀ j : Nat, j < 14 → ∀ i : Nat, i < j → (flatC (Jvm.Cond.and given_1 narrow_1))[mp_sixb.getD j 0 + i]? = some (Cond.not (Cond.eq (mp_tm i) (mp_tm j))) := by decide +kernel
theorem mp_w6 : ∀ i : Nat, i < 14 → ∀ j : Nat, j < 14 → i ≠ j → (Cond.not (Cond.eq (mp_tm i) (mp_tm j))) ∈ (flatC (Jvm.Cond.and given_1 narrow_1)) ∨ (Cond.not (Cond.eq (mp_tm j) (mp_tm i))) ∈ (flatC (Jvm.Cond.and given_1 narrow_1)) := by
  intro i hi j hj hij
  by_cases h : i < j
  · exact Or.inl (List.mem_of_getElem? (mp_w6a j hj i h))
  · exact Or.inr (List.mem_of_getElem? (mp_w6a i hi j (by omega)))
theorem mp_w7 : (Cond.eq (.static "java/lang/String" "COMPACT_STRINGS" "Z") (.int 1)) ∈ (flatC (Jvm.Cond.and given_1 narrow_1)) := by first | exact List.mem_of_getElem? (i := 4) (by decide +kernel) | decide +kernel
theorem mp_w8 : (Cond.isRef (.static "jdk/internal/util/Preconditions" "SIOOBE_FORMATTER" "Ljava/util/function/BiFunction;")) ∈ (flatC (Jvm.Cond.and given_1 narrow_1)) := by first | exact List.mem_of_getElem? (i := 5) (by decide +kernel) | decide +kernel
