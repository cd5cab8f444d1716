def mp_six : List Nat := [54, 100, 67, 108, 72, 117, 123, 129, 77, 134, 136, 139, 148, 152]
def mp_tm (i : Nat) : Term := .string RX3 (mp_six.getD i 0)
def mp_sixa : List Nat := [9, 18, 25, 34, 45, 59, 70, 84, 100, 119, 134, 153, 172, 193]
theorem mp_w1 : ∀ i : Nat, i < 14 → (Cond.exactly (mp_tm i) "java/lang/String") ∈ (flatC (Jvm.Cond.and given_1 narrow_1)) := by
  first
  | (have h : ∀ i : Nat, i < 14 → (flatC (Jvm.Cond.and given_1 narrow_1))[mp_sixa.getD i 0 + 0]? = some (Cond.exactly (mp_tm i) "java/lang/String") := by decide +kernel
     exact fun i hi => List.mem_of_getElem? (h i hi))
  | decide +kernel
