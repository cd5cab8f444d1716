theorem mp_o0 {a0 : Int} (h0 : 1600 ≤ a0) (h1 : a0 ≤ 1596) : False := by omega
theorem mp_o1 {a0 : Int} (h0 : 0 ≤ a0) (h1 : a0 ≤ 1596) : ((0 ≤ a0 ∧ a0 < ((1600 : Nat) : Int))) := by omega
theorem mp_o2 {a0 : Int} (h0 : 0 ≤ a0) : (-2147483648) ≤ (a0 + 1) := by omega
theorem mp_o3 {a0 : Int} (h0 : a0 ≤ 1596) : (a0 + 1) ≤ 2147483647 := by omega
theorem mp_o4 {a0 : Int} {a1 : Int} (h0 : 1600 ≤ a0) (h1 : a1 ≤ 1596) (h2 : a0 = (a1 + 1)) : False := by omega
theorem mp_o5 {a0 : Int} {a1 : Int} (h0 : 0 ≤ a1) (h1 : a0 = (a1 + 1)) (h2 : a1 ≤ 1596) : ((0 ≤ a0 ∧ a0 < ((1600 : Nat) : Int))) := by omega
theorem mp_o6 {a0 : Int} {a1 : Int} (h0 : 0 ≤ a1) (h1 : a0 = (a1 + 1)) : (-2147483648) ≤ (a0 + 1) := by omega
theorem mp_o7 {a0 : Int} {a1 : Int} (h0 : a1 ≤ 1596) (h1 : a0 = (a1 + 1)) : (a0 + 1) ≤ 2147483647 := by omega
theorem mp_o8 {a0 : Int} {a1 : Int} {a2 : Int} (h0 : 1600 ≤ a0) (h1 : a1 ≤ 1596) (h2 : a2 = (a1 + 1)) (h3 : a0 = (a2 + 1)) : False := by omega
theorem mp_o9 {a0 : Int} {a1 : Int} {a2 : Int} (h0 : 0 ≤ a1) (h1 : a1 ≤ 1596) (h2 : a2 = (a1 + 1)) (h3 : a0 = (a2 + 1)) : ((0 ≤ a0 ∧ a0 < ((1600 : Nat) : Int))) := by omega
theorem mp_o10 {a0 : Int} {a1 : Int} {a2 : Int} (h0 : 0 ≤ a1) (h1 : a2 = (a1 + 1)) (h2 : a0 = (a2 + 1)) : (-2147483648) ≤ (a0 + 1) := by omega
theorem mp_o11 {a0 : Int} {a1 : Int} {a2 : Int} (h0 : a1 ≤ 1596) (h1 : a2 = (a1 + 1)) (h2 : a0 = (a2 + 1)) : (a0 + 1) ≤ 2147483647 := by omega
theorem mp_o12 {a0 : Int} {a1 : Int} {a2 : Int} {a3 : Int} (h0 : 1600 ≤ a0) (h1 : a1 ≤ 1596) (h2 : a2 = (a1 + 1)) (h3 : a3 = (a2 + 1)) (h4 : a0 = (a3 + 1)) : False := by omega
theorem mp_o13 {a0 : Int} {a1 : Int} {a2 : Int} {a3 : Int} (h0 : 0 ≤ a1) (h1 : a1 ≤ 1596) (h2 : a2 = (a1 + 1)) (h3 : a3 = (a2 + 1)) (h4 : a0 = (a3 + 1)) : ((0 ≤ a0 ∧ a0 < ((1600 : Nat) : Int))) := by omega
theorem mp_o14 {a0 : Int} {a1 : Int} {a2 : Int} {a3 : Int} (h0 : 0 ≤ a1) (h1 : a2 = (a1 + 1)) (h2 : a3 = (a2 + 1)) (h3 : a0 = (a3 + 1)) : (-2147483648) ≤ (a0 + 1) := by omega
theorem mp_o15 {a0 : Int} {a1 : Int} {a2 : Int} {a3 : Int} (h0 : a1 ≤ 1596) (h1 : a2 = (a1 + 1)) (h2 : a3 = (a2 + 1)) (h3 : a0 = (a3 + 1)) : (a0 + 1) ≤ 2147483647 := by omega
theorem mp_o16 {a0 : Int} {a1 : Int} {a2 : Int} {a3 : Int} {a4 : Int} (h0 : 0 ≤ a1) (h1 : a2 = (a1 + 1)) (h2 : a3 = (a2 + 1)) (h3 : a4 = (a3 + 1)) (h4 : a0 = (a4 + 1)) : 4 ≤ a0 := by omega
theorem mp_o17 {a0 : Int} {a1 : Int} {a2 : Int} {a3 : Int} {a4 : Int} (h0 : a1 ≤ 1596) (h1 : a2 = (a1 + 1)) (h2 : a3 = (a2 + 1)) (h3 : a4 = (a3 + 1)) (h4 : a0 = (a4 + 1)) : a0 ≤ 1600 := by omega
theorem mp_o18 {a0 : Int} {a1 : Int} {a2 : Int} {a3 : Int} {a4 : Int} (h0 : a2 = (a1 + 1)) (h1 : a3 = (a2 + 1)) (h2 : a4 = (a3 + 1)) (h3 : a0 = (a4 + 1)) : a0 = (a1 + 4) := by omega
theorem mp_o19 {a0 : Int} : a0 = a0 := by omega
theorem mp_o20 {a0 : Int} {a1 : Int} {a2 : Int} (h0 : a2 = (a1 + 1)) (h1 : a0 = (a2 + 1)) : a0 = (a1 + 2) := by omega
theorem mp_o21 {a0 : Int} {a1 : Int} {a2 : Int} {a3 : Int} (h0 : 0 ≤ a1) (h1 : a2 = (a1 + 1)) (h2 : a3 = (a2 + 1)) (h3 : a0 = (a3 + 1)) : ((a0 = (a1 + 3) ∧ 0 ≤ a1)) := by omega
theorem mp_o22 {a0 : Int} (h0 : 0 ≤ a0) : (-2147483648) ≤ (a0 + 20) := by omega
theorem mp_o23 {a0 : Int} (h0 : a0 ≤ 1600) : (a0 + 20) ≤ 2147483647 := by omega
theorem mp_o24 {a0 : Int} {a1 : Int} (h0 : a1 = (a0 + 20)) (h1 : a1 ≤ 1600) : a0 ≤ 1596 := by omega
theorem mp_o25 {a0 : Int} {a1 : Int} (h0 : 0 ≤ a1) (h1 : a0 = (a1 + 4)) : 0 ≤ a0 := by omega
theorem mp_o26 {a0 : Int} {a1 : Int} {a2 : Int} (h0 : a1 ≤ 1600) (h1 : a0 = (a2 + 4)) (h2 : a1 = (a2 + 20)) : a0 ≤ 1596 := by omega
theorem mp_o27 {a0 : Int} {a1 : Int} {a2 : Int} (h0 : 0 ≤ a1) (h1 : a2 = (a1 + 4)) (h2 : a0 = (a2 + 4)) : 0 ≤ a0 := by omega
theorem mp_o28 {a0 : Int} {a1 : Int} {a2 : Int} {a3 : Int} (h0 : a1 ≤ 1600) (h1 : a0 = (a2 + 4)) (h2 : a1 = (a3 + 20)) (h3 : a2 = (a3 + 4)) : a0 ≤ 1596 := by omega
theorem mp_o29 {a0 : Int} {a1 : Int} {a2 : Int} {a3 : Int} (h0 : 0 ≤ a1) (h1 : a2 = (a1 + 4)) (h2 : a3 = (a2 + 4)) (h3 : a0 = (a3 + 4)) : 0 ≤ a0 := by omega
theorem mp_o30 {a0 : Int} {a1 : Int} {a2 : Int} {a3 : Int} {a4 : Int} (h0 : a1 ≤ 1600) (h1 : a0 = (a2 + 4)) (h2 : a1 = (a3 + 20)) (h3 : a4 = (a3 + 4)) (h4 : a2 = (a4 + 4)) : a0 ≤ 1596 := by omega
theorem mp_o31 {a0 : Int} {a1 : Int} {a2 : Int} {a3 : Int} {a4 : Int} (h0 : 0 ≤ a1) (h1 : a2 = (a1 + 4)) (h2 : a3 = (a2 + 4)) (h3 : a4 = (a3 + 4)) (h4 : a0 = (a4 + 4)) : 0 ≤ a0 := by omega
theorem mp_o32 {a0 : Int} {a1 : Int} {a2 : Int} {a3 : Int} {a4 : Int} {a5 : Int} (h0 : a1 ≤ 1600) (h1 : a0 = (a2 + 4)) (h2 : a1 = (a3 + 20)) (h3 : a4 = (a3 + 4)) (h4 : a5 = (a4 + 4)) (h5 : a2 = (a5 + 4)) : a0 ≤ 1596 := by omega
theorem mp_o33 {a0 : Int} {a1 : Int} {a2 : Int} {a3 : Int} {a4 : Int} {a5 : Int} (h0 : 0 ≤ a1) (h1 : a2 = (a1 + 4)) (h2 : a3 = (a2 + 4)) (h3 : a4 = (a3 + 4)) (h4 : a5 = (a4 + 4)) (h5 : a0 = (a5 + 4)) : (-1) ≤ a0 := by omega
theorem mp_o34 {a0 : Int} {a1 : Int} {a2 : Int} {a3 : Int} {a4 : Int} {a5 : Int} {a6 : Int} (h0 : a2 = (a0 + 20)) (h1 : a2 ≤ 1600) (h2 : a3 = (a0 + 4)) (h3 : a4 = (a3 + 4)) (h4 : a5 = (a4 + 4)) (h5 : a6 = (a5 + 4)) (h6 : a1 = (a6 + 4)) : (((1600 < (a0 + 20) ∧ (a1 = a0 ∧ a1 = (-1))) ∨ ((a0 + 20) ≤ 1600 ∧ (a1 = (a0 + 20) ∧ a1 = a1)))) := by omega
theorem mp_o35 {a0 : Int} {a1 : Int} (h0 : a1 = (a0 + 20)) (h1 : a1 ≤ 1600) : (a0 + 20) ≤ 1600 := by omega
theorem mp_o36 {a0 : Int} {a1 : Int} {a2 : Int} (h0 : a2 = (a1 + 4)) (h1 : a0 = (a2 + 4)) : a0 = (a1 + 8) := by omega
theorem mp_o37 {a0 : Int} {a1 : Int} {a2 : Int} {a3 : Int} (h0 : a2 = (a1 + 4)) (h1 : a3 = (a2 + 4)) (h2 : a0 = (a3 + 4)) : a0 = (a1 + 12) := by omega
theorem mp_o38 {a0 : Int} {a1 : Int} {a2 : Int} {a3 : Int} {a4 : Int} (h0 : 0 ≤ a1) (h1 : a2 = (a1 + 4)) (h2 : a3 = (a2 + 4)) (h3 : a4 = (a3 + 4)) (h4 : a0 = (a4 + 4)) : ((a0 = (a1 + 16) ∧ 0 ≤ a1)) := by omega
theorem mp_o39 {a0 : Int} {a1 : Int} (h0 : 1600 < a1) (h1 : a1 = (a0 + 20)) : 4 ≤ a0 := by omega
theorem mp_o40 {a0 : Int} {a1 : Int} {a2 : Int} (h0 : a1 = (-1)) (h1 : 1600 < a2) (h2 : a2 = (a0 + 20)) : (((1600 < (a0 + 20) ∧ (a0 = a0 ∧ a1 = (-1))) ∨ ((a0 + 20) ≤ 1600 ∧ (a0 = (a0 + 20) ∧ a1 = a0)))) := by omega
theorem mp_o41 {a0 : Int} {a1 : Int} (h0 : 1600 < a1) (h1 : a1 = (a0 + 20)) : 1600 < (a0 + 20) := by omega
theorem mp_o42 {a0 : Int} {a1 : Int} {a2 : Int} (h0 : a0 < 0) (h1 : a2 = (-1)) : (((0 ≤ a0 ∧ (a0 ≤ a1 ∧ (a2 = a0 ∧ a1 = a0))) ∨ (((a0 < 0 ∨ a1 < a0)) ∧ (a2 = (-1) ∧ a1 = a1)))) := by omega
theorem mp_o43 {a0 : Int} {a1 : Int} (h0 : a1 ≤ 1600) (h1 : a0 ≤ a1) : a0 ≤ 1600 := by omega
theorem mp_o44 {a0 : Int} (h0 : 0 ≤ a0) : (-1) ≤ a0 := by omega
theorem mp_o45 {a0 : Int} {a1 : Int} (h0 : 0 ≤ a0) (h1 : a0 ≤ a1) : (((0 ≤ a0 ∧ (a0 ≤ a1 ∧ (a0 = a0 ∧ a0 = a0))) ∨ (((a0 < 0 ∨ a1 < a0)) ∧ (a0 = (-1) ∧ a0 = a1)))) := by omega
theorem mp_o46 {a0 : Int} {a1 : Int} {a2 : Int} (h0 : a1 < a0) (h1 : a2 = (-1)) : (((0 ≤ a0 ∧ (a0 ≤ a1 ∧ (a2 = a0 ∧ a1 = a0))) ∨ (((a0 < 0 ∨ a1 < a0)) ∧ (a2 = (-1) ∧ a1 = a1)))) := by omega
theorem mp_o47 {a0 : Nat} {a1 : Int} (h0 : ((a0 : Nat) : Int) < 36) (h1 : 36 ≤ a1) : ((a0 : Nat) : Int) < a1 := by omega
theorem mp_o48 {a0 : Int} (h0 : 0 ≤ a0) (h1 : a0 < 36) : ((0 ≤ a0 ∧ a0 < ((36 : Nat) : Int))) := by omega
theorem mp_o49 {a0 : Int} (h0 : a0 < 36) : (a0 + 1) ≤ 2147483647 := by omega
theorem mp_o50 {a0 : Nat} {a1 : Int} (h0 : ((-a1) + 36) ≤ ((a0 : Nat) : Int)) (h1 : a1 < 36) : (a0 - 1) < a0 := by omega
theorem mp_o51 {a0 : Int} {a1 : Int} (h0 : 0 ≤ a1) (h1 : a0 = (a1 + 1)) : 0 ≤ a0 := by omega
theorem mp_o52 {a0 : Int} {a1 : Int} (h0 : a1 < 36) (h1 : a0 = (a1 + 1)) : a0 ≤ 36 := by omega
theorem mp_o53 {a0 : Int} {a1 : Int} (h0 : 0 ≤ a0) (h1 : a1 = (a0 + 1)) : ((0 ≤ a0 ∧ a1 = (a0 + 1))) := by omega
theorem mp_o54 {a0 : Int} {a1 : Nat} {a2 : Int} (h0 : ((-a2) + 36) ≤ ((a1 : Nat) : Int)) (h1 : a0 = (a2 + 1)) : ((-a0) + 36) ≤ ((((a1 - 1)) : Nat) : Int) := by omega
theorem mp_o55 {a0 : Nat} {a1 : Int} (h0 : ((a0 : Nat) : Int) < 12) (h1 : 12 ≤ a1) : ((a0 : Nat) : Int) < a1 := by omega
theorem mp_o56 {a0 : Int} (h0 : 0 ≤ a0) (h1 : a0 < 12) : ((0 ≤ a0 ∧ a0 < ((12 : Nat) : Int))) := by omega
theorem mp_o57 {a0 : Int} (h0 : a0 < 12) : (a0 + 1) ≤ 2147483647 := by omega
theorem mp_o58 {a0 : Nat} {a1 : Int} (h0 : ((-a1) + 12) ≤ ((a0 : Nat) : Int)) (h1 : a1 < 12) : (a0 - 1) < a0 := by omega
theorem mp_o59 {a0 : Int} {a1 : Int} (h0 : a1 < 12) (h1 : a0 = (a1 + 1)) : a0 ≤ 12 := by omega
theorem mp_o60 {a0 : Int} {a1 : Nat} {a2 : Int} (h0 : ((-a2) + 12) ≤ ((a1 : Nat) : Int)) (h1 : a0 = (a2 + 1)) : ((-a0) + 12) ≤ ((((a1 - 1)) : Nat) : Int) := by omega
theorem mp_o61 {a0 : Int} (h0 : 0 ≤ a0) (h1 : a0 ≤ 1599) : ((0 ≤ a0 ∧ a0 < ((1600 : Nat) : Int))) := by omega
theorem mp_o62 {a0 : Int} {a1 : Int} (h0 : a1 < 97) (h1 : a1 = a0) : ((a0 < 97 ∨ 122 < a0)) := by omega
theorem mp_o63 {a0 : Int} {a1 : Int} (h0 : 122 < a1) (h1 : a1 = a0) : ((a0 < 97 ∨ 122 < a0)) := by omega
theorem mp_o64 {a0 : Int} {a1 : Int} (h0 : 97 ≤ a1) (h1 : a1 = a0) (h2 : a1 ≤ 122) : ((97 ≤ a0 ∧ a0 ≤ 122)) := by omega
theorem mp_o65 {a0 : Int} {a1 : Int} (h0 : a1 < 48) (h1 : a1 = a0) : ((a0 < 48 ∨ 57 < a0)) := by omega
theorem mp_o66 {a0 : Int} {a1 : Int} (h0 : 57 < a1) (h1 : a1 = a0) : ((a0 < 48 ∨ 57 < a0)) := by omega
theorem mp_o67 {a0 : Int} {a1 : Int} (h0 : 48 ≤ a1) (h1 : a1 = a0) (h2 : a1 ≤ 57) : ((48 ≤ a0 ∧ a0 ≤ 57)) := by omega
theorem mp_o68 {a0 : Int} {a1 : Nat} (h0 : 0 ≤ a0) (h1 : a1 = (Int.toNat a0)) : a0 = ((a1 : Nat) : Int) := by omega
theorem mp_o69 {a0 : Int} {a1 : Nat} {a2 : Int} (h0 : 0 ≤ a0) (h1 : (a2 = 0 ∧ a1 = (Int.toNat a0))) : a0 = ((a1 : Nat) : Int) := by omega
theorem mp_o70 {a0 : Int} {a1 : Int} (h0 : 0 ≤ a0) (h1 : a1 ≤ 1600) (h2 : a0 < a1) : ((0 ≤ a0 ∧ a0 < ((1600 : Nat) : Int))) := by omega
theorem mp_o71 {a0 : Int} (h0 : a0 ≤ 1600) : (a0 + 1) ≤ 2147483647 := by omega
theorem mp_o72 {a0 : Nat} {a1 : Int} {a2 : Int} (h0 : (a1 - a2) ≤ ((a0 : Nat) : Int)) (h1 : a2 < a1) : (a0 - 1) < a0 := by omega
theorem mp_o73 {a0 : Int} {a1 : Int} {a2 : Int} (h0 : a1 ≤ 1600) (h1 : a2 < a1) (h2 : a0 = (a2 + 1)) : a0 ≤ 1600 := by omega
theorem mp_o74 {a0 : Int} {a1 : Int} (h0 : a1 = 32) (h1 : a1 = a0) : ((a0 = 32 ∨ a0 = 10)) := by omega
theorem mp_o75 {a0 : Int} {a1 : Int} {a2 : Int} (h0 : a0 ≤ a2) (h1 : a1 = (a2 + 1)) : a0 ≤ a1 := by omega
theorem mp_o76 {a0 : Int} {a1 : Int} {a2 : Int} {a3 : Int} (h0 : a3 < a1) (h1 : a0 = (a3 + 1)) : ((a0 ≤ a1 ∨ a0 = a2)) := by omega
theorem mp_o77 {a0 : Int} {a1 : Int} {a2 : Nat} {a3 : Int} (h0 : (a0 - a3) ≤ ((a2 : Nat) : Int)) (h1 : a1 = (a3 + 1)) : (a0 - a1) ≤ ((((a2 - 1)) : Nat) : Int) := by omega
theorem mp_o78 {a0 : Int} {a1 : Int} (h0 : a1 = a0) (h1 : a1 ≠ 10) (h2 : a1 ≠ 32) : ((a0 ≠ 32 ∧ a0 ≠ 10)) := by omega
theorem mp_o79 {a0 : Int} {a1 : Int} (h0 : a1 ≤ 1600) (h1 : a0 < a1) : a0 ≤ 1599 := by omega
theorem mp_o80 {a0 : Int} {a1 : Int} (h0 : 0 ≤ a0) (h1 : a0 < a1) : ((0 ≤ a0 ∧ a0 < a1)) := by omega
theorem mp_o81 {a0 : Int} {a1 : Int} (h0 : a1 = a0) (h1 : a1 ≠ 59) : (((a0 = 59 ∧ 4 = 3) ∨ (a0 ≠ 59 ∧ 4 = 4))) := by omega
theorem mp_o82 {a0 : Int} {a1 : Nat} {a2 : Int} {a3 : Int} (h0 : 0 ≤ a2) (h1 : a0 = (a2 + 1)) (h2 : (a3 = 4 ∧ a1 = (Int.toNat ((a2 + 1))))) : a0 = ((a1 : Nat) : Int) := by omega
theorem mp_o83 {a0 : Int} {a1 : Int} (h0 : a1 = 59) (h1 : a1 = a0) : (((a0 = 59 ∧ 3 = 3) ∨ (a0 ≠ 59 ∧ 3 = 4))) := by omega
theorem mp_o84 {a0 : Int} {a1 : Nat} {a2 : Int} {a3 : Int} (h0 : 0 ≤ a2) (h1 : a0 = (a2 + 1)) (h2 : (a3 = 3 ∧ a1 = (Int.toNat ((a2 + 1))))) : a0 = ((a1 : Nat) : Int) := by omega
theorem mp_o85 {a0 : Int} (h0 : (0 ≤ a0 ∧ a0 ≤ 100000000)) : 0 ≤ a0 := by omega
theorem mp_o86 {a0 : Int} {a1 : Int} {a2 : Int} (h0 : a0 ≤ a1) : ((a0 ≤ a1 ∨ a0 = a2)) := by omega
theorem mp_o87 {a0 : Int} {a1 : Nat} {a2 : Int} (h0 : 0 ≤ a0) (h1 : (a2 = 2 ∧ a1 = (Int.toNat a0))) : a0 = ((a1 : Nat) : Int) := by omega
theorem mp_o88 {a0 : Int} {a1 : Int} {a2 : Int} (h0 : 0 ≤ a0) (h1 : a2 ≤ a1) (h2 : a0 < a2) : ((0 ≤ a0 ∧ a0 ≤ a1)) := by omega
theorem mp_o89 {a0 : Int} {a1 : Int} {a2 : Int} (h0 : a0 < a1) : ((a0 ≤ a1 ∨ a0 = a2)) := by omega
theorem mp_o90 {a0 : Int} {a1 : Int} (h0 : 0 ≤ a0) (h1 : a0 ≤ a1) : ((0 ≤ a0 ∧ a0 ≤ a1)) := by omega
theorem mp_o91 {a0 : Int} (h0 : (0 ≤ a0 ∧ a0 ≤ 100000000)) : (-2147483648) ≤ (10 * a0) := by omega
theorem mp_o92 {a0 : Int} (h0 : a0 ≤ 100000000) : (10 * a0) ≤ 2147483647 := by omega
theorem mp_o93 {a0 : Int} {a1 : Int} {a2 : Int} {a3 : Int} (h0 : a0 = (10 * a2)) (h1 : (0 ≤ a2 ∧ a2 ≤ 100000000)) (h2 : a1 = a3) (h3 : (48 ≤ a3 ∧ a3 ≤ 57)) : (-2147483648) ≤ (a0 + a1) := by omega
theorem mp_o94 {a0 : Int} {a1 : Int} {a2 : Int} {a3 : Int} (h0 : a2 ≤ 100000000) (h1 : a0 = (10 * a2)) (h2 : a1 = a3) (h3 : (48 ≤ a3 ∧ a3 ≤ 57)) : (a0 + a1) ≤ 2147483647 := by omega
theorem mp_o95 {a0 : Int} {a1 : Int} {a2 : Int} {a3 : Int} {a4 : Int} (h0 : (0 ≤ a1 ∧ a1 ≤ 100000000)) (h1 : a2 = (10 * a1)) (h2 : a0 = (a2 + a3)) (h3 : a3 = a4) (h4 : (48 ≤ a4 ∧ a4 ≤ 57)) : (-2147483648) ≤ (a0 - 48) := by omega
theorem mp_o96 {a0 : Int} {a1 : Int} {a2 : Int} {a3 : Int} {a4 : Int} (h0 : a1 ≤ 100000000) (h1 : a2 = (10 * a1)) (h2 : a0 = (a2 + a3)) (h3 : a3 = a4) (h4 : (48 ≤ a4 ∧ a4 ≤ 57)) : (a0 - 48) ≤ 2147483647 := by omega
theorem mp_o97 {a0 : Int} {a1 : Int} {a2 : Int} (h0 : a2 < a1) (h1 : a0 = (a2 + 1)) : a0 ≤ a1 := by omega
theorem mp_o98 {a0 : Int} {a1 : Int} {a2 : Int} (h0 : 0 ≤ a0) (h1 : a0 ≤ a1) (h2 : a2 = (a1 + 1)) : ((0 ≤ a0 ∧ (a0 ≤ a1 ∧ a2 = (a1 + 1)))) := by omega
theorem mp_o99 {a0 : Int} (h0 : (48 ≤ a0 ∧ a0 ≤ 57)) : 0 ≤ (a0 - 48) := by omega
theorem mp_o100 {a0 : Int} {a1 : Int} {a2 : Int} {a3 : Int} {a4 : Int} {a5 : Int} {a6 : Int} (h0 : a0 ≤ 100000000) (h1 : (a0 = 100000000 ∨ a0 = a3)) (h2 : a0 ≤ a3) (h3 : a4 = (10 * a1)) (h4 : a5 = a2) (h5 : a6 = (a4 + a5)) (h6 : a3 = (a6 - 48)) : (((a0 = 100000000 ∧ 100000000 ≤ ((10 * a1) + ((a2 - 48)))) ∨ (a0 = ((10 * a1) + ((a2 - 48))) ∧ ((10 * a1) + ((a2 - 48))) ≤ 100000000))) := by omega
theorem mp_o101 {a0 : Int} {a1 : Int} {a2 : Int} {a3 : Int} {a4 : Int} {a5 : Int} {a6 : Int} (h0 : a0 ≤ 100000000) (h1 : (a0 = 100000000 ∨ a0 = a1)) (h2 : a1 = (a2 - 48)) (h3 : (0 ≤ a3 ∧ a3 ≤ 100000000)) (h4 : a4 = (10 * a3)) (h5 : a2 = (a4 + a5)) (h6 : a5 = a6) (h7 : (48 ≤ a6 ∧ a6 ≤ 57)) : ((0 ≤ a0 ∧ a0 ≤ 100000000)) := by omega
theorem mp_o102 {a0 : Int} : a0 ≤ a0 := by omega
theorem mp_o103 {a0 : Int} {a1 : Int} (h0 : a0 < a1) : a0 ≤ a1 := by omega
theorem mp_o104 {a0 : Int} : (Int.toNat ((a0 - a0))) = 0 := by omega
theorem mp_o105 {a0 : Int} {a1 : Nat} {a2 : Int} (h0 : 0 ≤ a0) (h1 : (a2 = 1 ∧ a1 = (Int.toNat a0))) : a0 = ((a1 : Nat) : Int) := by omega
theorem mp_o106 {a0 : Int} {a1 : Int} (h0 : a1 = 10) (h1 : a1 = a0) : ((a0 = 32 ∨ a0 = 10)) := by omega
theorem mp_o107 {a0 : Int} {a1 : Int} : ((a0 ≤ a1 ∨ a0 = a0)) := by omega
theorem mp_o108 {a0 : Int} {a1 : Int} (h0 : 0 ≤ a1) (h1 : a0 = a1) : 0 ≤ a0 := by omega
theorem mp_o109 {a0 : Int} {a1 : Int} (h0 : a1 ≤ 7) (h1 : a0 = a1) : a0 ≤ 7 := by omega
theorem mp_o110 {a0 : Int} (h0 : 0 ≤ a0) (h1 : a0 < 0) : False := by omega
theorem mp_o111 {a0 : Int} {a1 : Int} (h0 : a0 < a1) (h1 : a1 ≤ a0) : False := by omega
theorem mp_o112 {a0 : Int} {a1 : Int} (h0 : 0 ≤ a0) (h1 : a1 ≤ 1600) : (-2147483648) ≤ (a0 - a1) := by omega
theorem mp_o113 {a0 : Int} {a1 : Int} (h0 : 0 ≤ a1) (h1 : a0 ≤ 1600) : (a0 - a1) ≤ 2147483647 := by omega
theorem mp_o114 {a0 : Int} {a1 : Int} {a2 : Nat} {a3 : Int} {a4 : Int} (h0 : a3 = ((a2 : Nat) : Int)) (h1 : a4 = (a0 - a1)) (h2 : a4 = a3) : (a0 - a1) = ((a2 : Nat) : Int) := by omega
theorem mp_o115 {a0 : Nat} {a1 : Int} {a2 : Int} (h0 : a2 = ((a0 : Nat) : Int)) (h1 : a2 ≤ a1) : ((a0 : Nat) : Int) ≤ a1 := by omega
theorem mp_o116 {a0 : Int} {a1 : Int} (h0 : 0 ≤ a0) (h1 : 0 ≤ a1) : (-2147483648) ≤ (a0 + a1) := by omega
theorem mp_o117 {a0 : Int} {a1 : Int} (h0 : a0 ≤ 1600) (h1 : a1 ≤ 9) : (a0 + a1) ≤ 2147483647 := by omega
theorem mp_o118 {a0 : Int} {a1 : Int} {a2 : Int} {a3 : Int} {a4 : Int} {a5 : Int} {a6 : Int} {a7 : Nat} (h0 : 0 ≤ a1) (h1 : 0 ≤ a2) (h2 : a0 = (a1 + a2)) (h3 : a3 ≤ 1600) (h4 : a4 = (a3 - a1)) (h5 : a2 < a5) (h6 : a4 = a6) (h7 : a5 = ((a7 : Nat) : Int)) (h8 : a6 = ((a7 : Nat) : Int)) : ((0 ≤ a0 ∧ a0 < ((1600 : Nat) : Int))) := by omega
theorem mp_o119 {a0 : Int} {a1 : Int} (h0 : 0 ≤ a0) (h1 : 0 ≤ a1) : ((0 ≤ a0 ∧ 0 ≤ a1)) := by omega
theorem mp_o120 {a0 : Int} {a1 : Int} {a2 : Int} {a3 : Nat} (h0 : a1 ≤ 7) (h1 : a0 < a2) (h2 : a1 = ((a3 : Nat) : Int)) (h3 : a2 = ((a3 : Nat) : Int)) : a0 ≤ 6 := by omega
theorem mp_o121 {a0 : Int} (h0 : a0 ≤ 9) : (a0 + 1) ≤ 2147483647 := by omega
theorem mp_o122 {a0 : Nat} {a1 : Nat} {a2 : Int} {a3 : Int} (h0 : (((a1 : Nat) : Int) - a2) ≤ ((a0 : Nat) : Int)) (h1 : a3 = ((a1 : Nat) : Int)) (h2 : a2 < a3) : (a0 - 1) < a0 := by omega
theorem mp_o123 {a0 : Int} {a1 : Int} {a2 : Int} {a3 : Nat} {a4 : Int} (h0 : a1 ≤ 7) (h1 : a0 = (a2 + 1)) (h2 : a1 = ((a3 : Nat) : Int)) (h3 : a4 = ((a3 : Nat) : Int)) (h4 : a2 < a4) : a0 ≤ 9 := by omega
theorem mp_o124 {a0 : Nat} {a1 : Int} {a2 : Nat} {a3 : Int} (h0 : (((a0 : Nat) : Int) - a3) ≤ ((a2 : Nat) : Int)) (h1 : a1 = (a3 + 1)) : (((a0 : Nat) : Int) - a1) ≤ ((((a2 - 1)) : Nat) : Int) := by omega
theorem mp_o125 {a0 : Int} {a1 : Nat} {a2 : Int} (h0 : 0 ≤ a0) (h1 : a2 = ((a1 : Nat) : Int)) (h2 : a0 < a2) : (((Int.toNat a0) : Nat) : Int) < ((a1 : Nat) : Int) := by omega
theorem mp_o126 {a0 : Int} {a1 : Int} {a2 : Int} (h0 : a2 = a0) (h1 : a2 ≠ a1) : (a0 = a1) → False := by omega
theorem mp_o127 {a0 : Int} {a1 : Int} {a2 : Nat} {a3 : Int} {a4 : Int} (h0 : a3 = ((a2 : Nat) : Int)) (h1 : a4 = (a0 - a1)) (h2 : a4 ≠ a3) : ((a0 - a1) = ((a2 : Nat) : Int)) → False := by omega
theorem mp_o128 {a0 : Int} : ((1 = 1 ∧ a0 = a0)) := by omega
theorem mp_o129 {a0 : Int} {a1 : Int} {a2 : Int} (h0 : a2 ≤ a1) (h1 : a0 ≤ a2) : a0 ≤ a1 := by omega
theorem mp_o130 {a0 : Int} {a1 : Int} {a2 : Int} {a3 : Int} {a4 : Int} {a5 : Int} (h0 : a5 = 2) (h1 : a5 ≠ 2) : (((a0 ≠ 2 ∧ a1 = 1) ∨ (a0 = 2 ∧ (((a2 < 0 ∨ (a3 < a2 ∨ a2 = a4))) ∧ a1 = 2)))) := by omega
theorem mp_o131 {a0 : Int} {a1 : Int} {a2 : Int} {a3 : Int} {a4 : Int} {a5 : Int} {a6 : Int} (h0 : a1 = 2) (h1 : a5 < 0) (h2 : ((a5 = a2 ∧ a2 ≤ 100000000) ∨ (a5 = 100000000 ∧ 100000000 < a2))) (h3 : a6 = 2) (h4 : a6 = a0) : (((a0 ≠ 2 ∧ a1 = 1) ∨ (a0 = 2 ∧ (((a2 < 0 ∨ (a3 < a2 ∨ a2 = a4))) ∧ a1 = 2)))) := by omega
theorem mp_o132 {a0 : Int} {a1 : Int} {a2 : Int} {a3 : Int} {a4 : Int} {a5 : Int} {a6 : Int} (h0 : a1 = 2) (h1 : a5 = 2) (h2 : a5 = a0) (h3 : a3 < a6) (h4 : ((a6 = a2 ∧ a2 ≤ 100000000) ∨ (a6 = 100000000 ∧ 100000000 < a2))) : (((a0 ≠ 2 ∧ a1 = 1) ∨ (a0 = 2 ∧ (((a2 < 0 ∨ (a3 < a2 ∨ a2 = a4))) ∧ a1 = 2)))) := by omega
theorem mp_o133 {a0 : Int} {a1 : Int} {a2 : Int} {a3 : Int} {a4 : Int} (h0 : a4 = 2) (h1 : a4 ≠ 2) : ((a0 = 2 ∧ (0 ≤ a1 ∧ (a1 ≤ a2 ∧ a1 ≠ a3)))) := by omega
theorem mp_o134 {a0 : Int} {a1 : Int} {a2 : Int} {a3 : Int} {a4 : Int} {a5 : Int} (h0 : a2 ≤ 5) (h1 : 0 ≤ a4) (h2 : ((a4 = a1 ∧ a1 ≤ 100000000) ∨ (a4 = 100000000 ∧ 100000000 < a1))) (h3 : a4 ≠ a3) (h4 : a4 ≤ a2) (h5 : a5 = 2) (h6 : a5 = a0) : ((a0 = 2 ∧ (0 ≤ a1 ∧ (a1 ≤ a2 ∧ a1 ≠ a3)))) := by omega
theorem mp_o135 {a0 : Int} {a1 : Int} {a2 : Int} (h0 : a2 = 2) (h1 : a2 ≠ 2) : a0 = a1 := by omega
theorem mp_o136 {a0 : Int} {a1 : Int} {a2 : Int} (h0 : ((a0 = a1 ∧ a1 ≤ 100000000) ∨ (a0 = 100000000 ∧ 100000000 < a1))) (h1 : a2 ≤ 5) (h2 : a0 ≤ a2) : a0 = a1 := by omega
theorem mp_o137 {a0 : Int} {a1 : Int} {a2 : Int} {a3 : Int} {a4 : Int} {a5 : Int} {a6 : Int} (h0 : a1 = 2) (h1 : a4 ≤ 1000000) (h2 : a5 = 2) (h3 : a5 = a0) (h4 : a6 = a4) (h5 : ((a6 = a2 ∧ a2 ≤ 100000000) ∨ (a6 = 100000000 ∧ 100000000 < a2))) : (((a0 ≠ 2 ∧ a1 = 1) ∨ (a0 = 2 ∧ (((a2 < 0 ∨ (a3 < a2 ∨ a2 = a4))) ∧ a1 = 2)))) := by omega
theorem mp_o138 {a0 : Int} {a1 : Int} {a2 : Int} {a3 : Int} {a4 : Int} {a5 : Int} (h0 : a1 = 1) (h1 : a5 = a0) (h2 : a5 ≠ 2) : (((a0 ≠ 2 ∧ a1 = 1) ∨ (a0 = 2 ∧ (((a2 < 0 ∨ (a3 < a2 ∨ a2 = a4))) ∧ a1 = 2)))) := by omega
theorem mp_o139 {a0 : Int} {a1 : Int} {a2 : Int} {a3 : Int} {a4 : Int} (h0 : a4 = 2) (h1 : a4 ≠ 2) : (((a0 ≠ 2 ∧ a1 = 1) ∨ (a0 = 2 ∧ (((a2 < 0 ∨ (99 < a2 ∨ a2 = a3))) ∧ a1 = 2)))) := by omega
theorem mp_o140 {a0 : Int} {a1 : Int} {a2 : Int} {a3 : Int} {a4 : Int} {a5 : Int} (h0 : a1 = 2) (h1 : a4 < 0) (h2 : ((a4 = a2 ∧ a2 ≤ 100000000) ∨ (a4 = 100000000 ∧ 100000000 < a2))) (h3 : a5 = 2) (h4 : a5 = a0) : (((a0 ≠ 2 ∧ a1 = 1) ∨ (a0 = 2 ∧ (((a2 < 0 ∨ (99 < a2 ∨ a2 = a3))) ∧ a1 = 2)))) := by omega
theorem mp_o141 {a0 : Int} {a1 : Int} {a2 : Int} {a3 : Int} {a4 : Int} {a5 : Int} (h0 : a1 = 2) (h1 : 99 < a4) (h2 : ((a4 = a2 ∧ a2 ≤ 100000000) ∨ (a4 = 100000000 ∧ 100000000 < a2))) (h3 : a5 = 2) (h4 : a5 = a0) : (((a0 ≠ 2 ∧ a1 = 1) ∨ (a0 = 2 ∧ (((a2 < 0 ∨ (99 < a2 ∨ a2 = a3))) ∧ a1 = 2)))) := by omega
theorem mp_o142 {a0 : Int} {a1 : Int} {a2 : Int} {a3 : Int} (h0 : a3 = 2) (h1 : a3 ≠ 2) : ((a0 = 2 ∧ (0 ≤ a1 ∧ (a1 ≤ 99 ∧ a1 ≠ a2)))) := by omega
theorem mp_o143 {a0 : Int} {a1 : Int} {a2 : Int} {a3 : Int} {a4 : Int} (h0 : 0 ≤ a3) (h1 : ((a3 = a1 ∧ a1 ≤ 100000000) ∨ (a3 = 100000000 ∧ 100000000 < a1))) (h2 : a3 ≠ a2) (h3 : a3 ≤ 99) (h4 : a4 = 2) (h5 : a4 = a0) : ((a0 = 2 ∧ (0 ≤ a1 ∧ (a1 ≤ 99 ∧ a1 ≠ a2)))) := by omega
theorem mp_o144 {a0 : Int} {a1 : Int} (h0 : ((a0 = a1 ∧ a1 ≤ 100000000) ∨ (a0 = 100000000 ∧ 100000000 < a1))) (h1 : a0 ≤ 99) : a0 = a1 := by omega
theorem mp_o145 {a0 : Int} {a1 : Int} {a2 : Int} {a3 : Int} {a4 : Int} {a5 : Int} (h0 : a1 = 2) (h1 : a4 = 2) (h2 : a4 = a0) (h3 : a5 = a3) (h4 : ((a5 = a2 ∧ a2 ≤ 100000000) ∨ (a5 = 100000000 ∧ 100000000 < a2))) : (((a0 ≠ 2 ∧ a1 = 1) ∨ (a0 = 2 ∧ (((a2 < 0 ∨ (99 < a2 ∨ a2 = a3))) ∧ a1 = 2)))) := by omega
theorem mp_o146 {a0 : Int} {a1 : Int} {a2 : Int} {a3 : Int} {a4 : Int} (h0 : a1 = 1) (h1 : a4 = a0) (h2 : a4 ≠ 2) : (((a0 ≠ 2 ∧ a1 = 1) ∨ (a0 = 2 ∧ (((a2 < 0 ∨ (99 < a2 ∨ a2 = a3))) ∧ a1 = 2)))) := by omega
theorem mp_o147 {a0 : Int} (h0 : 0 ≤ a0) : (-2147483648) ≤ (2 * a0) := by omega
theorem mp_o148 {a0 : Int} (h0 : a0 ≤ 5) : (2 * a0) ≤ 2147483647 := by omega
theorem mp_o149 {a0 : Int} {a1 : Int} {a2 : Int} {a3 : Int} (h0 : 0 ≤ a2) (h1 : a0 = (2 * a2)) (h2 : 0 ≤ a3) (h3 : a1 = (a3 / 50)) : (-2147483648) ≤ (a0 + a1) := by omega
theorem mp_o150 {a0 : Int} {a1 : Int} {a2 : Int} {a3 : Int} (h0 : a2 ≤ 5) (h1 : a0 = (2 * a2)) (h2 : a3 ≤ 99) (h3 : a1 = (a3 / 50)) : (a0 + a1) ≤ 2147483647 := by omega
theorem mp_o151 {a0 : Int} {a1 : Int} {a2 : Int} {a3 : Int} {a4 : Int} (h0 : 0 ≤ a1) (h1 : a1 ≤ 5) (h2 : 0 ≤ a2) (h3 : a2 ≤ 99) (h4 : a3 = (2 * a1)) (h5 : a4 = (a2 / 50)) (h6 : a0 = (a3 + a4)) : ((0 ≤ a0 ∧ a0 < ((12 : Nat) : Int))) := by omega
theorem mp_o152 {a0 : Int} {a1 : Int} {a2 : Int} {a3 : Int} {a4 : Int} (h0 : 0 ≤ a1) (h1 : 0 ≤ a2) (h2 : a3 = (2 * a1)) (h3 : a4 = (a2 / 50)) (h4 : a0 = (a3 + a4)) : (((Int.toNat a0) : Nat) : Int) = ((2 * a1) + (a2 / 50)) := by omega
theorem mp_o153 {a0 : Int} : ((0 ≤ (a0 % 50) ∧ (a0 % 50) < 64)) := by omega
theorem mp_o154 {a0 : Int} (h0 : 0 ≤ a0) (h1 : a0 ≤ 99) : ((0 ≤ a0 ∧ a0 < 100)) := by omega
theorem mp_o155 {a0 : Int} (h0 : a0 = 1) : 1 = a0 := by omega
theorem mp_o156 {a0 : Int} (h0 : 0 ≤ a0) : (((Int.toNat a0) : Nat) : Int) = a0 := by omega
theorem mp_o157 {a0 : Int} (h0 : 0 ≤ a0) : (-2147483648) ≤ (a0 - 1) := by omega
theorem mp_o158 {a0 : Int} (h0 : a0 ≤ 6) : (a0 - 1) ≤ 2147483647 := by omega
theorem mp_o159 {a0 : Int} {a1 : Int} (h0 : 0 ≤ a1) (h1 : a0 = (a1 - 1)) : (-1) ≤ a0 := by omega
theorem mp_o160 {a0 : Int} {a1 : Int} (h0 : a1 ≤ 6) (h1 : a0 = (a1 - 1)) : a0 ≤ 5 := by omega
theorem mp_o161 {a0 : Int} {a1 : Int} (h0 : a1 ≤ 6) (h1 : a0 = (a1 - 1)) : a0 ≤ 1000000 := by omega
theorem mp_o162 {a0 : Int} (h0 : a0 = 2) : 2 = a0 := by omega
theorem mp_o163 : 99 ≤ 1000000 := by omega
theorem mp_o164 {a0 : Int} {a1 : Int} {a2 : Int} {a3 : Int} (h0 : (a0 = 2 ∧ (0 ≤ a1 ∧ (a1 ≤ a2 ∧ a1 ≠ a3)))) : a0 = 2 := by omega
theorem mp_o165 {a0 : Int} {a1 : Int} (h0 : (a0 < 0 ∨ (99 < a0 ∨ a0 = a1))) (h1 : a1 = (-1)) : ((a0 < 0 ∨ (99 < a0 ∨ a0 = (-1)))) := by omega
theorem mp_o166 {a0 : Int} {a1 : Int} {a2 : Int} {a3 : Int} {a4 : Int} {a5 : Int} (h0 : a1 ≤ 6) (h1 : a2 = (a1 - 1)) (h2 : a0 = a3) (h3 : (a4 = 2 ∧ (0 ≤ a3 ∧ (a3 ≤ a2 ∧ a3 ≠ a5)))) : a0 ≤ 5 := by omega
theorem mp_o167 {a0 : Int} {a1 : Int} {a2 : Int} (h0 : (a0 = 2 ∧ (0 ≤ a1 ∧ (a1 ≤ 99 ∧ a1 ≠ a2)))) : a0 = 2 := by omega
theorem mp_o168 {a0 : Int} {a1 : Int} {a2 : Int} (h0 : (a1 = 2 ∧ (0 ≤ a0 ∧ (a0 ≤ 99 ∧ a0 ≠ a2)))) : ((0 ≤ a0 ∧ (a0 ≤ 99 ∧ a0 ≠ (-1)))) := by omega
theorem mp_o169 {a0 : Int} : (Int.toNat a0) = (Int.toNat a0) := by omega
theorem mp_o170 {a0 : Int} {a1 : Int} {a2 : Int} {a3 : Int} (h0 : a2 ≤ a1) (h1 : a3 ≤ a2) (h2 : a0 ≤ a3) : a0 ≤ a1 := by omega
theorem mp_o171 {a0 : Int} {a1 : Int} {a2 : Int} {a3 : Int} {a4 : Int} (h0 : a4 = 2) (h1 : a4 ≠ 2) : (((a0 ≠ 2 ∧ a1 = 1) ∨ (a0 = 2 ∧ (((a2 < 1 ∨ (1000000 < a2 ∨ a2 = a3))) ∧ a1 = 2)))) := by omega
theorem mp_o172 {a0 : Int} {a1 : Int} {a2 : Int} {a3 : Int} {a4 : Int} {a5 : Int} (h0 : a1 = 2) (h1 : a4 < 1) (h2 : ((a4 = a2 ∧ a2 ≤ 100000000) ∨ (a4 = 100000000 ∧ 100000000 < a2))) (h3 : a5 = 2) (h4 : a5 = a0) : (((a0 ≠ 2 ∧ a1 = 1) ∨ (a0 = 2 ∧ (((a2 < 1 ∨ (1000000 < a2 ∨ a2 = a3))) ∧ a1 = 2)))) := by omega
theorem mp_o173 {a0 : Int} {a1 : Int} {a2 : Int} {a3 : Int} {a4 : Int} {a5 : Int} (h0 : a1 = 2) (h1 : 1000000 < a4) (h2 : ((a4 = a2 ∧ a2 ≤ 100000000) ∨ (a4 = 100000000 ∧ 100000000 < a2))) (h3 : a5 = 2) (h4 : a5 = a0) : (((a0 ≠ 2 ∧ a1 = 1) ∨ (a0 = 2 ∧ (((a2 < 1 ∨ (1000000 < a2 ∨ a2 = a3))) ∧ a1 = 2)))) := by omega
theorem mp_o174 {a0 : Int} {a1 : Int} {a2 : Int} {a3 : Int} (h0 : a3 = 2) (h1 : a3 ≠ 2) : ((a0 = 2 ∧ (1 ≤ a1 ∧ (a1 ≤ 1000000 ∧ a1 ≠ a2)))) := by omega
theorem mp_o175 {a0 : Int} {a1 : Int} {a2 : Int} {a3 : Int} {a4 : Int} (h0 : 1 ≤ a3) (h1 : ((a3 = a1 ∧ a1 ≤ 100000000) ∨ (a3 = 100000000 ∧ 100000000 < a1))) (h2 : a3 ≠ a2) (h3 : a3 ≤ 1000000) (h4 : a4 = 2) (h5 : a4 = a0) : ((a0 = 2 ∧ (1 ≤ a1 ∧ (a1 ≤ 1000000 ∧ a1 ≠ a2)))) := by omega
theorem mp_o176 {a0 : Int} {a1 : Int} (h0 : ((a0 = a1 ∧ a1 ≤ 100000000) ∨ (a0 = 100000000 ∧ 100000000 < a1))) (h1 : a0 ≤ 1000000) : a0 = a1 := by omega
theorem mp_o177 {a0 : Int} {a1 : Int} {a2 : Int} {a3 : Int} {a4 : Int} {a5 : Int} (h0 : a1 = 2) (h1 : a4 = 2) (h2 : a4 = a0) (h3 : a5 = a3) (h4 : ((a5 = a2 ∧ a2 ≤ 100000000) ∨ (a5 = 100000000 ∧ 100000000 < a2))) : (((a0 ≠ 2 ∧ a1 = 1) ∨ (a0 = 2 ∧ (((a2 < 1 ∨ (1000000 < a2 ∨ a2 = a3))) ∧ a1 = 2)))) := by omega
theorem mp_o178 {a0 : Int} {a1 : Int} {a2 : Int} {a3 : Int} {a4 : Int} (h0 : a1 = 1) (h1 : a4 = a0) (h2 : a4 ≠ 2) : (((a0 ≠ 2 ∧ a1 = 1) ∨ (a0 = 2 ∧ (((a2 < 1 ∨ (1000000 < a2 ∨ a2 = a3))) ∧ a1 = 2)))) := by omega
theorem mp_o179 {a0 : Int} {a1 : Int} {a2 : Int} {a3 : Int} {a4 : Int} {a5 : Int} (h0 : a2 ≤ 99) (h1 : 0 ≤ a4) (h2 : ((a4 = a1 ∧ a1 ≤ 100000000) ∨ (a4 = 100000000 ∧ 100000000 < a1))) (h3 : a4 ≠ a3) (h4 : a4 ≤ a2) (h5 : a5 = 2) (h6 : a5 = a0) : ((a0 = 2 ∧ (0 ≤ a1 ∧ (a1 ≤ a2 ∧ a1 ≠ a3)))) := by omega
theorem mp_o180 {a0 : Int} {a1 : Int} {a2 : Int} (h0 : ((a0 = a1 ∧ a1 ≤ 100000000) ∨ (a0 = 100000000 ∧ 100000000 < a1))) (h1 : a2 ≤ 99) (h2 : a0 ≤ a2) : a0 = a1 := by omega
theorem mp_o181 {a0 : Int} (h0 : 0 ≤ a0) (h1 : a0 ≤ 9) : ((0 ≤ a0 ∧ a0 < ((10 : Nat) : Int))) := by omega
theorem mp_o182 {a0 : Int} {a1 : Int} (h0 : 0 ≤ a1) (h1 : a0 = (a1 + 1)) : 1 ≤ a0 := by omega
theorem mp_o183 {a0 : Int} {a1 : Int} (h0 : a1 ≤ 9) (h1 : a0 = (a1 + 1)) : a0 ≤ 10 := by omega
theorem mp_o184 {a0 : Int} (h0 : a0 ≤ 2) : a0 ≤ 3 := by omega
theorem mp_o185 {a0 : Int} (h0 : a0 < 10) : (10 ≤ a0) → False := by omega
theorem mp_o186 {a0 : Int} {a1 : Int} {a2 : Int} {a3 : Int} (h0 : a2 = (-1)) (h1 : (a0 < 0 ∨ (a3 < a0 ∨ a0 = a2))) (h2 : a3 = (a1 - 1)) : ((a0 < 0 ∨ ((a1 - 1) < a0 ∨ a0 = (-1)))) := by omega
theorem mp_o187 {a0 : Int} {a1 : Int} {a2 : Int} {a3 : Int} {a4 : Int} (h0 : a2 = (a1 - 1)) (h1 : (a3 = 2 ∧ (0 ≤ a0 ∧ (a0 ≤ a2 ∧ a0 ≠ a4)))) : ((0 ≤ a0 ∧ (a0 ≤ (a1 - 1) ∧ a0 ≠ (-1)))) := by omega
theorem mp_o188 {a0 : Int} {a1 : Int} {a2 : Int} {a3 : Int} {a4 : Int} {a5 : Int} (h0 : a0 = (a1 - 1)) (h1 : a2 = (a1 - 1)) (h2 : (a3 = 2 ∧ (0 ≤ a4 ∧ (a4 ≤ a2 ∧ a4 ≠ a5)))) : 0 ≤ a0 := by omega
theorem mp_o189 {a0 : Int} {a1 : Int} {a2 : Int} {a3 : Int} {a4 : Int} {a5 : Int} (h0 : a1 ≤ 6) (h1 : a2 = (a1 - 1)) (h2 : a0 = a3) (h3 : (a4 = 2 ∧ (0 ≤ a3 ∧ (a3 ≤ a2 ∧ a3 ≠ a5)))) : a0 ≤ 1000000 := by omega
theorem mp_o190 {a0 : Int} {a1 : Int} {a2 : Int} {a3 : Int} {a4 : Int} (h0 : a3 = (a1 - 1)) (h1 : (a0 < 0 ∨ (a3 < a0 ∨ a0 = a4))) (h2 : a4 = a2) : ((a0 < 0 ∨ ((a1 - 1) < a0 ∨ a0 = a2))) := by omega
theorem mp_o191 {a0 : Int} {a1 : Int} {a2 : Int} {a3 : Int} {a4 : Int} {a5 : Int} (h0 : a3 = (a1 - 1)) (h1 : a4 = a2) (h2 : (a5 = 2 ∧ (0 ≤ a0 ∧ (a0 ≤ a3 ∧ a0 ≠ a4)))) : ((0 ≤ a0 ∧ (a0 ≤ (a1 - 1) ∧ a0 ≠ a2))) := by omega
theorem mp_o192 : 1000000 ≤ 1000000 := by omega
theorem mp_o193 {a0 : Int} {a1 : Int} (h0 : (a0 < 1 ∨ (1000000 < a0 ∨ a0 = a1))) (h1 : a1 = (-1)) : ((a0 < 1 ∨ (1000000 < a0 ∨ a0 = (-1)))) := by omega
theorem mp_o194 {a0 : Int} {a1 : Int} {a2 : Int} (h0 : (a0 = 2 ∧ (1 ≤ a1 ∧ (a1 ≤ 1000000 ∧ a1 ≠ a2)))) : a0 = 2 := by omega
theorem mp_o195 {a0 : Int} {a1 : Int} (h0 : 1 ≤ a1) (h1 : a1 = a0) (h2 : a1 ≤ 1000000) : ((1 ≤ a0 ∧ (a0 ≤ 1000000 ∧ a0 ≠ (-1)))) := by omega
theorem mp_o196 {a0 : Int} (h0 : a0 ≤ 99) : a0 ≤ 1000000 := by omega
theorem mp_o197 {a0 : Int} {a1 : Int} {a2 : Int} (h0 : (a0 < 0 ∨ (a1 < a0 ∨ a0 = a2))) (h1 : a2 = (-1)) : ((a0 < 0 ∨ (a1 < a0 ∨ a0 = (-1)))) := by omega
theorem mp_o198 {a0 : Int} {a1 : Int} (h0 : a1 ≤ 99) (h1 : a0 ≤ a1) : a0 ≤ 99 := by omega
theorem mp_o199 {a0 : Int} (h0 : a0 < 10) : a0 ≤ 9 := by omega
theorem mp_o200 {a0 : Int} {a1 : Int} {a2 : Int} (h0 : 0 ≤ a2) (h1 : a2 = a0) (h2 : a2 ≤ a1) : ((0 ≤ a0 ∧ (a0 ≤ a1 ∧ a0 ≠ (-1)))) := by omega
theorem mp_o201 {a0 : Int} {a1 : Int} (h0 : a1 = (a0 + 1)) : (a0 + 1) = a1 := by omega
theorem mp_o202 {a0 : Int} {a1 : Int} {a2 : Int} {a3 : Int} {a4 : Int} {a5 : Int} {a6 : Int} {a7 : Int} {a8 : Int} {a9 : Int} (h0 : a2 ≤ a1) (h1 : a3 ≤ a2) (h2 : a4 ≤ a3) (h3 : a5 ≤ a4) (h4 : a6 ≤ a5) (h5 : a7 ≤ a6) (h6 : a8 ≤ a7) (h7 : a9 ≤ a8) (h8 : a0 ≤ a9) : a0 ≤ a1 := by omega
theorem mp_o203 {a0 : Int} (h0 : a0 = 3) : 3 = a0 := by omega
theorem mp_o204 {a0 : Int} {a1 : Int} {a2 : Int} {a3 : Int} {a4 : Int} {a5 : Int} (h0 : a2 ≤ 8) (h1 : 0 ≤ a4) (h2 : ((a4 = a1 ∧ a1 ≤ 100000000) ∨ (a4 = 100000000 ∧ 100000000 < a1))) (h3 : a4 ≠ a3) (h4 : a4 ≤ a2) (h5 : a5 = 2) (h6 : a5 = a0) : ((a0 = 2 ∧ (0 ≤ a1 ∧ (a1 ≤ a2 ∧ a1 ≠ a3)))) := by omega
theorem mp_o205 {a0 : Int} {a1 : Int} {a2 : Int} (h0 : ((a0 = a1 ∧ a1 ≤ 100000000) ∨ (a0 = 100000000 ∧ 100000000 < a1))) (h1 : a2 ≤ 8) (h2 : a0 ≤ a2) : a0 = a1 := by omega
theorem mp_o206 {a0 : Int} (h0 : 2 ≤ a0) : (Int.toNat ((2 - a0))) = 0 := by omega
theorem mp_o207 {a0 : Int} {a1 : Int} (h0 : a1 = a0) (h1 : a1 ≠ 1) : (a0 = 1) → False := by omega
theorem mp_o208 {a0 : Int} (h0 : a0 ≤ 9) : a0 < ((10 : Nat) : Int) := by omega
theorem mp_o209 {a0 : Int} (h0 : a0 = 1) : 0 ≤ a0 := by omega
theorem mp_o210 {a0 : Int} (h0 : a0 = 1) : a0 ≤ 4 := by omega
theorem mp_o211 {a0 : Int} (h0 : a0 < 2) : (Int.toNat ((2 - a0))) = ((Int.toNat ((1 - a0))) + 1) := by omega
theorem mp_o212 {a0 : Int} {a1 : Int} (h0 : a1 = 1) (h1 : a1 = a0) : a0 = 1 := by omega
theorem mp_o213 {a0 : Int} {a1 : Int} (h0 : a1 = a0) (h1 : a1 ≠ 0) : (a0 = 0) → False := by omega
theorem mp_o214 {a0 : Int} {a1 : Int} (h0 : a1 = a0) (h1 : a1 ≠ (-1)) : (a0 = (-1)) → False := by omega
theorem mp_o215 {a0 : Int} (h0 : a0 ≤ 9) : (a0 - 1) ≤ 2147483647 := by omega
theorem mp_o216 {a0 : Int} {a1 : Int} (h0 : a1 ≤ 9) (h1 : a0 = (a1 - 1)) : a0 ≤ 8 := by omega
theorem mp_o217 {a0 : Int} {a1 : Int} (h0 : a1 ≤ 9) (h1 : a0 = (a1 - 1)) : a0 ≤ 1000000 := by omega
theorem mp_o218 {a0 : Int} {a1 : Int} {a2 : Int} (h0 : (a0 = 1 ∧ a1 = a2)) : a0 = 1 := by omega
theorem mp_o219 {a0 : Int} {a1 : Int} (h0 : a1 = (-1)) (h1 : a1 = a0) : (a0 ≠ (-1)) → False := by omega
theorem mp_o220 {a0 : Int} {a1 : Int} {a2 : Int} (h0 : a1 ≤ 9) (h1 : a2 = (a1 - 1)) (h2 : a0 ≤ a2) : a0 ≤ 9 := by omega
theorem mp_o221 {a0 : Int} (h0 : a0 < 2) : (a0 + 1) ≤ 2147483647 := by omega
theorem mp_o222 {a0 : Nat} {a1 : Int} (h0 : ((-a1) + 2) ≤ ((a0 : Nat) : Int)) (h1 : a1 < 2) : (a0 - 1) < a0 := by omega
theorem mp_o223 {a0 : Int} {a1 : Int} (h0 : a1 < 2) (h1 : a0 = (a1 + 1)) : a0 ≤ 5 := by omega
theorem mp_o224 {a0 : Int} {a1 : Int} (h0 : a0 < 2) (h1 : a1 = (a0 + 1)) : (Int.toNat ((2 - a0))) = ((Int.toNat ((2 - a1))) + 1) := by omega
theorem mp_o225 {a0 : Int} {a1 : Int} {a2 : Int} {a3 : Int} (h0 : 0 ≤ a2) (h1 : a2 = a0) (h2 : a3 = (a1 - 1)) (h3 : a2 ≤ a3) : ((0 ≤ a0 ∧ (a0 ≤ (a1 - 1) ∧ a0 ≠ (-1)))) := by omega
theorem mp_o226 {a0 : Int} {a1 : Int} (h0 : 0 ≤ a1) (h1 : a0 = a1) : (a0 = (-1)) → False := by omega
theorem mp_o227 {a0 : Int} {a1 : Int} {a2 : Int} {a3 : Int} {a4 : Int} (h0 : a2 ≤ a1) (h1 : a3 ≤ a2) (h2 : a4 ≤ a3) (h3 : a0 ≤ a4) : a0 ≤ a1 := by omega
theorem mp_o228 {a0 : Int} {a1 : Nat} {a2 : Int} (h0 : ((-a2) + 2) ≤ ((a1 : Nat) : Int)) (h1 : a0 = (a2 + 1)) : ((-a0) + 2) ≤ ((((a1 - 1)) : Nat) : Int) := by omega
theorem mp_o229 {a0 : Int} {a1 : Int} (h0 : a1 = 0) (h1 : a1 = a0) : (a0 ≠ 0) → False := by omega
theorem mp_o230 {a0 : Int} (h0 : 0 ≤ a0) (h1 : a0 ≤ 5) : ((0 ≤ a0 ∧ a0 < ((6 : Nat) : Int))) := by omega
theorem mp_o231 {a0 : Int} (h0 : a0 ≤ 5) : (a0 + 1) ≤ 2147483647 := by omega
theorem mp_o232 {a0 : Int} {a1 : Int} (h0 : a1 ≤ 5) (h1 : a0 = (a1 + 1)) : a0 ≤ 6 := by omega
theorem mp_o233 {a0 : Int} {a1 : Int} {a2 : Int} {a3 : Int} {a4 : Int} (h0 : a4 = 2) (h1 : a4 ≠ 2) : (((a0 ≠ 2 ∧ a1 = 1) ∨ (a0 = 2 ∧ (((a2 < 0 ∨ (100 < a2 ∨ a2 = a3))) ∧ a1 = 2)))) := by omega
theorem mp_o234 {a0 : Int} {a1 : Int} {a2 : Int} {a3 : Int} {a4 : Int} {a5 : Int} (h0 : a1 = 2) (h1 : a4 < 0) (h2 : ((a4 = a2 ∧ a2 ≤ 100000000) ∨ (a4 = 100000000 ∧ 100000000 < a2))) (h3 : a5 = 2) (h4 : a5 = a0) : (((a0 ≠ 2 ∧ a1 = 1) ∨ (a0 = 2 ∧ (((a2 < 0 ∨ (100 < a2 ∨ a2 = a3))) ∧ a1 = 2)))) := by omega
theorem mp_o235 {a0 : Int} {a1 : Int} {a2 : Int} {a3 : Int} {a4 : Int} {a5 : Int} (h0 : a1 = 2) (h1 : 100 < a4) (h2 : ((a4 = a2 ∧ a2 ≤ 100000000) ∨ (a4 = 100000000 ∧ 100000000 < a2))) (h3 : a5 = 2) (h4 : a5 = a0) : (((a0 ≠ 2 ∧ a1 = 1) ∨ (a0 = 2 ∧ (((a2 < 0 ∨ (100 < a2 ∨ a2 = a3))) ∧ a1 = 2)))) := by omega
theorem mp_o236 {a0 : Int} {a1 : Int} {a2 : Int} {a3 : Int} (h0 : a3 = 2) (h1 : a3 ≠ 2) : ((a0 = 2 ∧ (0 ≤ a1 ∧ (a1 ≤ 100 ∧ a1 ≠ a2)))) := by omega
theorem mp_o237 {a0 : Int} {a1 : Int} {a2 : Int} {a3 : Int} {a4 : Int} (h0 : 0 ≤ a3) (h1 : ((a3 = a1 ∧ a1 ≤ 100000000) ∨ (a3 = 100000000 ∧ 100000000 < a1))) (h2 : a3 ≠ a2) (h3 : a3 ≤ 100) (h4 : a4 = 2) (h5 : a4 = a0) : ((a0 = 2 ∧ (0 ≤ a1 ∧ (a1 ≤ 100 ∧ a1 ≠ a2)))) := by omega
theorem mp_o238 {a0 : Int} {a1 : Int} (h0 : ((a0 = a1 ∧ a1 ≤ 100000000) ∨ (a0 = 100000000 ∧ 100000000 < a1))) (h1 : a0 ≤ 100) : a0 = a1 := by omega
theorem mp_o239 {a0 : Int} {a1 : Int} {a2 : Int} {a3 : Int} {a4 : Int} {a5 : Int} (h0 : a1 = 2) (h1 : a4 = 2) (h2 : a4 = a0) (h3 : a5 = a3) (h4 : ((a5 = a2 ∧ a2 ≤ 100000000) ∨ (a5 = 100000000 ∧ 100000000 < a2))) : (((a0 ≠ 2 ∧ a1 = 1) ∨ (a0 = 2 ∧ (((a2 < 0 ∨ (100 < a2 ∨ a2 = a3))) ∧ a1 = 2)))) := by omega
theorem mp_o240 {a0 : Int} {a1 : Int} {a2 : Int} {a3 : Int} {a4 : Int} (h0 : a1 = 1) (h1 : a4 = a0) (h2 : a4 ≠ 2) : (((a0 ≠ 2 ∧ a1 = 1) ∨ (a0 = 2 ∧ (((a2 < 0 ∨ (100 < a2 ∨ a2 = a3))) ∧ a1 = 2)))) := by omega
theorem mp_o241 {a0 : Int} {a1 : Int} {a2 : Int} {a3 : Int} {a4 : Int} (h0 : a4 = 2) (h1 : a4 ≠ 2) : (((a0 ≠ 2 ∧ a1 = 1) ∨ (a0 = 2 ∧ (((a2 < 1 ∨ (20 < a2 ∨ a2 = a3))) ∧ a1 = 2)))) := by omega
theorem mp_o242 {a0 : Int} {a1 : Int} {a2 : Int} {a3 : Int} {a4 : Int} {a5 : Int} (h0 : a1 = 2) (h1 : a4 < 1) (h2 : ((a4 = a2 ∧ a2 ≤ 100000000) ∨ (a4 = 100000000 ∧ 100000000 < a2))) (h3 : a5 = 2) (h4 : a5 = a0) : (((a0 ≠ 2 ∧ a1 = 1) ∨ (a0 = 2 ∧ (((a2 < 1 ∨ (20 < a2 ∨ a2 = a3))) ∧ a1 = 2)))) := by omega
theorem mp_o243 {a0 : Int} {a1 : Int} {a2 : Int} {a3 : Int} {a4 : Int} {a5 : Int} (h0 : a1 = 2) (h1 : 20 < a4) (h2 : ((a4 = a2 ∧ a2 ≤ 100000000) ∨ (a4 = 100000000 ∧ 100000000 < a2))) (h3 : a5 = 2) (h4 : a5 = a0) : (((a0 ≠ 2 ∧ a1 = 1) ∨ (a0 = 2 ∧ (((a2 < 1 ∨ (20 < a2 ∨ a2 = a3))) ∧ a1 = 2)))) := by omega
theorem mp_o244 {a0 : Int} {a1 : Int} {a2 : Int} {a3 : Int} (h0 : a3 = 2) (h1 : a3 ≠ 2) : ((a0 = 2 ∧ (1 ≤ a1 ∧ (a1 ≤ 20 ∧ a1 ≠ a2)))) := by omega
theorem mp_o245 {a0 : Int} {a1 : Int} {a2 : Int} {a3 : Int} {a4 : Int} (h0 : 1 ≤ a3) (h1 : ((a3 = a1 ∧ a1 ≤ 100000000) ∨ (a3 = 100000000 ∧ 100000000 < a1))) (h2 : a3 ≠ a2) (h3 : a3 ≤ 20) (h4 : a4 = 2) (h5 : a4 = a0) : ((a0 = 2 ∧ (1 ≤ a1 ∧ (a1 ≤ 20 ∧ a1 ≠ a2)))) := by omega
theorem mp_o246 {a0 : Int} {a1 : Int} (h0 : ((a0 = a1 ∧ a1 ≤ 100000000) ∨ (a0 = 100000000 ∧ 100000000 < a1))) (h1 : a0 ≤ 20) : a0 = a1 := by omega
theorem mp_o247 {a0 : Int} {a1 : Int} {a2 : Int} {a3 : Int} {a4 : Int} {a5 : Int} (h0 : a1 = 2) (h1 : a4 = 2) (h2 : a4 = a0) (h3 : a5 = a3) (h4 : ((a5 = a2 ∧ a2 ≤ 100000000) ∨ (a5 = 100000000 ∧ 100000000 < a2))) : (((a0 ≠ 2 ∧ a1 = 1) ∨ (a0 = 2 ∧ (((a2 < 1 ∨ (20 < a2 ∨ a2 = a3))) ∧ a1 = 2)))) := by omega
theorem mp_o248 {a0 : Int} {a1 : Int} {a2 : Int} {a3 : Int} {a4 : Int} (h0 : a1 = 1) (h1 : a4 = a0) (h2 : a4 ≠ 2) : (((a0 ≠ 2 ∧ a1 = 1) ∨ (a0 = 2 ∧ (((a2 < 1 ∨ (20 < a2 ∨ a2 = a3))) ∧ a1 = 2)))) := by omega
theorem mp_o249 {a0 : Int} (h0 : 0 ≤ a0) : (-2147483648) ≤ (a0 * 6) := by omega
theorem mp_o250 {a0 : Int} (h0 : a0 ≤ 5) : (a0 * 6) ≤ 2147483647 := by omega
theorem mp_o251 {a0 : Int} {a1 : Int} {a2 : Int} (h0 : 0 ≤ a1) (h1 : 0 ≤ a2) (h2 : a0 = (a2 * 6)) : (-2147483648) ≤ (a0 + a1) := by omega
theorem mp_o252 {a0 : Int} {a1 : Int} {a2 : Int} (h0 : a1 ≤ 5) (h1 : a2 ≤ 5) (h2 : a0 = (a2 * 6)) : (a0 + a1) ≤ 2147483647 := by omega
theorem mp_o253 {a0 : Int} {a1 : Int} {a2 : Int} {a3 : Int} (h0 : 0 ≤ a1) (h1 : a1 ≤ 5) (h2 : 0 ≤ a2) (h3 : a2 ≤ 5) (h4 : a3 = (a1 * 6)) (h5 : a0 = (a3 + a2)) : ((0 ≤ a0 ∧ a0 < ((36 : Nat) : Int))) := by omega
theorem mp_o254 {a0 : Int} (h0 : 1 ≤ a0) : 0 ≤ a0 := by omega
theorem mp_o255 {a0 : Int} {a1 : Int} {a2 : Int} {a3 : Int} (h0 : 0 ≤ a1) (h1 : a1 ≤ 5) (h2 : 0 ≤ a2) (h3 : a2 ≤ 5) (h4 : a3 = (a2 * 6)) (h5 : a0 = (a3 + a1)) : ((0 ≤ a0 ∧ a0 < ((36 : Nat) : Int))) := by omega
theorem mp_o256 {a0 : Int} {a1 : Int} {a2 : Int} {a3 : Int} (h0 : a3 = (a1 * 6)) (h1 : a0 = (a3 + a2)) : (Int.toNat a0) = (Int.toNat (((6 * a1) + a2))) := by omega
theorem mp_o257 : 20 ≤ 1000000 := by omega
theorem mp_o258 {a0 : Int} {a1 : Int} (h0 : (a0 < 1 ∨ (20 < a0 ∨ a0 = a1))) (h1 : a1 = (-1)) : ((a0 < 1 ∨ (20 < a0 ∨ a0 = (-1)))) := by omega
theorem mp_o259 {a0 : Int} {a1 : Int} {a2 : Int} (h0 : a1 ≤ 6) (h1 : a2 = (a1 - 1)) (h2 : a0 ≤ a2) : a0 ≤ 5 := by omega
theorem mp_o260 {a0 : Int} {a1 : Int} {a2 : Int} (h0 : (a0 = 2 ∧ (1 ≤ a1 ∧ (a1 ≤ 20 ∧ a1 ≠ a2)))) : a0 = 2 := by omega
theorem mp_o261 {a0 : Int} {a1 : Int} {a2 : Int} (h0 : (a1 = 2 ∧ (1 ≤ a0 ∧ (a0 ≤ 20 ∧ a0 ≠ a2)))) : ((1 ≤ a0 ∧ (a0 ≤ 20 ∧ a0 ≠ (-1)))) := by omega
theorem mp_o262 {a0 : Int} {a1 : Int} {a2 : Int} {a3 : Int} {a4 : Int} {a5 : Int} {a6 : Int} (h0 : a2 ≤ a1) (h1 : a3 ≤ a2) (h2 : a4 ≤ a3) (h3 : a5 ≤ a4) (h4 : a6 ≤ a5) (h5 : a0 ≤ a6) : a0 ≤ a1 := by omega
theorem mp_o263 {a0 : Int} {a1 : Int} {a2 : Int} {a3 : Int} {a4 : Int} (h0 : a4 = 2) (h1 : a4 ≠ 2) : (((a0 ≠ 2 ∧ a1 = 1) ∨ (a0 = 2 ∧ (((a2 < 1 ∨ (6 < a2 ∨ a2 = a3))) ∧ a1 = 2)))) := by omega
theorem mp_o264 {a0 : Int} {a1 : Int} {a2 : Int} {a3 : Int} {a4 : Int} {a5 : Int} (h0 : a1 = 2) (h1 : a4 < 1) (h2 : ((a4 = a2 ∧ a2 ≤ 100000000) ∨ (a4 = 100000000 ∧ 100000000 < a2))) (h3 : a5 = 2) (h4 : a5 = a0) : (((a0 ≠ 2 ∧ a1 = 1) ∨ (a0 = 2 ∧ (((a2 < 1 ∨ (6 < a2 ∨ a2 = a3))) ∧ a1 = 2)))) := by omega
theorem mp_o265 {a0 : Int} {a1 : Int} {a2 : Int} {a3 : Int} {a4 : Int} {a5 : Int} (h0 : a1 = 2) (h1 : 6 < a4) (h2 : ((a4 = a2 ∧ a2 ≤ 100000000) ∨ (a4 = 100000000 ∧ 100000000 < a2))) (h3 : a5 = 2) (h4 : a5 = a0) : (((a0 ≠ 2 ∧ a1 = 1) ∨ (a0 = 2 ∧ (((a2 < 1 ∨ (6 < a2 ∨ a2 = a3))) ∧ a1 = 2)))) := by omega
theorem mp_o266 {a0 : Int} {a1 : Int} {a2 : Int} {a3 : Int} (h0 : a3 = 2) (h1 : a3 ≠ 2) : ((a0 = 2 ∧ (1 ≤ a1 ∧ (a1 ≤ 6 ∧ a1 ≠ a2)))) := by omega
theorem mp_o267 {a0 : Int} {a1 : Int} {a2 : Int} {a3 : Int} {a4 : Int} (h0 : 1 ≤ a3) (h1 : ((a3 = a1 ∧ a1 ≤ 100000000) ∨ (a3 = 100000000 ∧ 100000000 < a1))) (h2 : a3 ≠ a2) (h3 : a3 ≤ 6) (h4 : a4 = 2) (h5 : a4 = a0) : ((a0 = 2 ∧ (1 ≤ a1 ∧ (a1 ≤ 6 ∧ a1 ≠ a2)))) := by omega
theorem mp_o268 {a0 : Int} {a1 : Int} (h0 : ((a0 = a1 ∧ a1 ≤ 100000000) ∨ (a0 = 100000000 ∧ 100000000 < a1))) (h1 : a0 ≤ 6) : a0 = a1 := by omega
theorem mp_o269 {a0 : Int} {a1 : Int} {a2 : Int} {a3 : Int} {a4 : Int} {a5 : Int} (h0 : a1 = 2) (h1 : a4 = 2) (h2 : a4 = a0) (h3 : a5 = a3) (h4 : ((a5 = a2 ∧ a2 ≤ 100000000) ∨ (a5 = 100000000 ∧ 100000000 < a2))) : (((a0 ≠ 2 ∧ a1 = 1) ∨ (a0 = 2 ∧ (((a2 < 1 ∨ (6 < a2 ∨ a2 = a3))) ∧ a1 = 2)))) := by omega
theorem mp_o270 {a0 : Int} {a1 : Int} {a2 : Int} {a3 : Int} {a4 : Int} (h0 : a1 = 1) (h1 : a4 = a0) (h2 : a4 ≠ 2) : (((a0 ≠ 2 ∧ a1 = 1) ∨ (a0 = 2 ∧ (((a2 < 1 ∨ (6 < a2 ∨ a2 = a3))) ∧ a1 = 2)))) := by omega
theorem mp_o271 : 6 ≤ 1000000 := by omega
theorem mp_o272 {a0 : Int} {a1 : Int} (h0 : (a0 < 1 ∨ (6 < a0 ∨ a0 = a1))) (h1 : a1 = (-1)) : ((a0 < 1 ∨ (6 < a0 ∨ a0 = (-1)))) := by omega
theorem mp_o273 {a0 : Int} {a1 : Int} {a2 : Int} (h0 : (a0 = 2 ∧ (1 ≤ a1 ∧ (a1 ≤ 6 ∧ a1 ≠ a2)))) : a0 = 2 := by omega
theorem mp_o274 {a0 : Int} {a1 : Int} {a2 : Int} (h0 : (a1 = 2 ∧ (1 ≤ a0 ∧ (a0 ≤ 6 ∧ a0 ≠ a2)))) : ((1 ≤ a0 ∧ (a0 ≤ 6 ∧ a0 ≠ (-1)))) := by omega
theorem mp_o275 {a0 : Int} {a1 : Int} (h0 : a1 = a0) : a0 = a1 := by omega
theorem mp_o276 {a0 : Int} {a1 : Int} {a2 : Int} {a3 : Int} {a4 : Int} {a5 : Int} (h0 : a2 ≤ a1) (h1 : a3 ≤ a2) (h2 : a4 ≤ a3) (h3 : a5 ≤ a4) (h4 : a0 ≤ a5) : a0 ≤ a1 := by omega
theorem mp_o277 {a0 : Int} {a1 : Int} {a2 : Int} {a3 : Int} (h0 : 0 ≤ a1) (h1 : (a2 = 0 ∧ (a3 = (-1) ∧ a0 = (a1 + 1)))) : (-2147483648) ≤ (a0 - 1) := by omega
theorem mp_o278 {a0 : Int} {a1 : Int} {a2 : Int} {a3 : Int} (h0 : a1 < 10) (h1 : (a2 = 0 ∧ (a3 = (-1) ∧ a0 = (a1 + 1)))) : (a0 - 1) ≤ 2147483647 := by omega
theorem mp_o279 {a0 : Int} {a1 : Int} {a2 : Int} {a3 : Int} {a4 : Int} (h0 : 0 ≤ a1) (h1 : a0 = (a2 - 1)) (h2 : (a3 = 0 ∧ (a4 = (-1) ∧ a2 = (a1 + 1)))) : 0 ≤ a0 := by omega
theorem mp_o280 {a0 : Int} {a1 : Int} {a2 : Int} {a3 : Int} {a4 : Int} (h0 : a1 < 10) (h1 : a0 = (a2 - 1)) (h2 : (a3 = 0 ∧ (a4 = (-1) ∧ a2 = (a1 + 1)))) : a0 ≤ 9 := by omega
theorem mp_o281 {a0 : Int} {a1 : Int} {a2 : Int} {a3 : Int} (h0 : 0 ≤ a1) (h1 : (a2 = 0 ∧ (a3 = (-1) ∧ a0 = (a1 + 1)))) : 0 ≤ a0 := by omega
theorem mp_o282 {a0 : Int} {a1 : Int} {a2 : Int} {a3 : Int} {a4 : Int} (h0 : a0 = (a2 - 1)) (h1 : (a3 = 0 ∧ (a4 = (-1) ∧ a2 = (a1 + 1)))) : a0 = a1 := by omega
theorem mp_o283 {a0 : Int} {a1 : Int} {a2 : Int} {a3 : Int} (h0 : (a0 = 0 ∧ (a1 = (-1) ∧ a2 = (a3 + 1)))) : (a0 ≠ 0) → False := by omega
theorem mp_o284 {a0 : Int} {a1 : Int} {a2 : Int} {a3 : Int} (h0 : (a1 = 0 ∧ (a0 = (-1) ∧ a2 = (a3 + 1)))) : (a0 ≠ (-1)) → False := by omega
theorem mp_o285 {a0 : Int} {a1 : Int} {a2 : Int} (h0 : (a0 = 1 ∧ a1 = a2)) (h1 : a2 = 5165848) : ((a0 = 1 ∧ a1 = 13987)) → False := by omega
theorem mp_o286 {a0 : Int} {a1 : Int} {a2 : Int} (h0 : (a0 = 1 ∧ a1 = a2)) (h1 : a2 = 5165848) : ((a0 = 1 ∧ a1 = 232608281)) → False := by omega
theorem mp_o287 {a0 : Int} {a1 : Int} {a2 : Int} (h0 : (a0 = 1 ∧ a1 = a2)) (h1 : a2 = 5165848) : ((a0 = 1 ∧ a1 = 6465242723)) → False := by omega
theorem mp_o288 {a0 : Int} {a1 : Int} {a2 : Int} (h0 : (a0 = 1 ∧ a1 = a2)) (h1 : a2 = 5165848) : ((a0 = 1 ∧ a1 = 380396)) → False := by omega
theorem mp_o289 {a0 : Int} {a1 : Int} (h0 : a1 = 3) (h1 : a1 = a0) : a0 = 3 := by omega
theorem mp_o290 {a0 : Int} {a1 : Int} {a2 : Int} (h0 : (a0 + 1) ≤ a2) (h1 : a2 ≤ a1) : (a0 + 1) ≤ a1 := by omega
theorem mp_o291 {a0 : Int} {a1 : Int} (h0 : a1 = a0) (h1 : a1 ≠ 3) : (a0 = 3) → False := by omega
theorem mp_o292 {a0 : Int} {a1 : Int} (h0 : 1600 < a1) (h1 : a0 = a1) : 0 ≤ a0 := by omega
theorem mp_o293 {a0 : Int} {a1 : Int} (h0 : 1600 < a0) (h1 : (0 ≤ a0 ∧ a0 ≤ a1)) (h2 : a1 ≤ 1600) : False := by omega
theorem mp_o294 {a0 : Int} {a1 : Int} (h0 : a1 ≤ 1600) (h1 : a0 = a1) : a0 ≤ 1600 := by omega
theorem mp_o295 {a0 : Int} {a1 : Int} (h0 : a1 = 0) (h1 : a1 = a0) : a0 = 0 := by omega
theorem mp_o296 {a0 : Int} (h0 : a0 = 0) (h1 : ¬ (a0 = 0)) : False := by omega
theorem mp_o297 {a0 : Int} (h0 : 1 ≤ a0) : (a0 = 0) → False := by omega
theorem mp_o298 {a0 : Int} {a1 : Int} (h0 : 0 ≤ a1) (h1 : a0 = a1) : (-2147483648) ≤ (a0 + 1) := by omega
theorem mp_o299 {a0 : Int} {a1 : Int} (h0 : a1 ≤ 1600) (h1 : a0 = a1) : (a0 + 1) ≤ 2147483647 := by omega
theorem mp_o300 {a0 : Nat} {a1 : Int} (h0 : ((-a1) + 1601) ≤ ((a0 : Nat) : Int)) (h1 : a1 ≤ 1600) : (a0 - 1) < a0 := by omega
theorem mp_o301 {a0 : Int} {a1 : Int} (h0 : a1 = 1) (h1 : a1 = a0) : (a0 = 0) → False := by omega
theorem mp_o302 {a0 : Int} {a1 : Int} {a2 : Int} {a3 : Int} {a4 : Int} (h0 : (a2 + 1) ≤ a1) (h1 : a3 ≤ a2) (h2 : a0 = (a4 + 1)) (h3 : (0 ≤ a4 ∧ a4 ≤ a3)) : ((0 ≤ a0 ∧ a0 ≤ a1)) := by omega
theorem mp_o303 {a0 : Int} {a1 : Int} {a2 : Int} {a3 : Int} (h0 : a0 = (a2 + 1)) (h1 : a1 = (a3 + 1)) (h2 : a2 = a3) : a0 = a1 := by omega
theorem mp_o304 {a0 : Int} {a1 : Nat} {a2 : Int} (h0 : ((-a2) + 1601) ≤ ((a1 : Nat) : Int)) (h1 : a0 = (a2 + 1)) : ((-a0) + 1601) ≤ ((((a1 - 1)) : Nat) : Int) := by omega
theorem mp_o305 {a0 : Nat} {a1 : Int} (h0 : ((a0 : Nat) : Int) < 20) (h1 : 20 ≤ a1) : ((a0 : Nat) : Int) < a1 := by omega
theorem mp_o306 {a0 : Int} (h0 : 0 ≤ a0) (h1 : a0 < 20) : ((0 ≤ a0 ∧ a0 < ((20 : Nat) : Int))) := by omega
theorem mp_o307 {a0 : Int} (h0 : a0 < 20) : (a0 + 1) ≤ 2147483647 := by omega
theorem mp_o308 {a0 : Nat} {a1 : Int} (h0 : ((-a1) + 20) ≤ ((a0 : Nat) : Int)) (h1 : a1 < 20) : (a0 - 1) < a0 := by omega
theorem mp_o309 {a0 : Int} {a1 : Int} (h0 : a1 < 20) (h1 : a0 = (a1 + 1)) : a0 ≤ 20 := by omega
theorem mp_o310 {a0 : Int} {a1 : Nat} {a2 : Int} (h0 : ((-a2) + 20) ≤ ((a1 : Nat) : Int)) (h1 : a0 = (a2 + 1)) : ((-a0) + 20) ≤ ((((a1 - 1)) : Nat) : Int) := by omega
theorem mp_o311 {a0 : Int} {a1 : Int} {a2 : Int} {a3 : Int} (h0 : 0 ≤ a1) (h1 : 0 ≤ a2) (h2 : a3 = (a1 * 6)) (h3 : a0 = (a3 + a2)) : 0 ≤ a0 := by omega
theorem mp_o312 {a0 : Int} {a1 : Int} {a2 : Int} {a3 : Int} (h0 : a1 ≤ 5) (h1 : a2 = (a1 * 6)) (h2 : a3 ≤ 5) (h3 : a0 = (a2 + a3)) : a0 < ((36 : Nat) : Int) := by omega
theorem mp_o313 {a0 : Int} {a1 : Int} {a2 : Int} {a3 : Int} (h0 : 0 ≤ a1) (h1 : 0 ≤ a2) (h2 : a3 = (a1 * 6)) (h3 : a0 = (a3 + a2)) : a0 = (((Int.toNat (((6 * a1) + a2))) : Nat) : Int) := by omega
theorem mp_o314 {a0 : Int} {a1 : Int} {a2 : Int} (h0 : a1 < 100) (h1 : a0 = (a1 / 10)) (h2 : ((a1 = 200 ∧ a2 ≤ 98) ∨ ((100 ≤ a1 ∧ a1 ≤ 109) ∨ (0 ≤ a1 ∧ (a1 ≤ 55 ∧ (a1 % 10) ≤ 5))))) : ((0 ≤ a0 ∧ a0 < ((6 : Nat) : Int))) := by omega
theorem mp_o315 {a0 : Int} {a1 : Int} (h0 : 0 ≤ a1) (h1 : a0 = (a1 / 10)) : a0 = (((Int.toNat ((a1 / 10))) : Nat) : Int) := by omega
theorem mp_o316 {a0 : Int} {a1 : Int} (h0 : 0 ≤ a1) (h1 : a0 = (a1 / 10)) : 0 ≤ a0 := by omega
theorem mp_o317 {a0 : Int} {a1 : Int} {a2 : Int} (h0 : a1 < 100) (h1 : a0 = (a1 / 10)) (h2 : ((a1 = 200 ∧ a2 ≤ 98) ∨ ((100 ≤ a1 ∧ a1 ≤ 109) ∨ (0 ≤ a1 ∧ (a1 ≤ 55 ∧ (a1 % 10) ≤ 5))))) : a0 < ((6 : Nat) : Int) := by omega
theorem mp_o318 {a0 : Int} {a1 : Int} (h0 : a0 = (a1 % 10)) : 0 ≤ a0 := by omega
theorem mp_o319 {a0 : Int} {a1 : Int} {a2 : Int} (h0 : a1 < 100) (h1 : a0 = (a1 % 10)) (h2 : ((a1 = 200 ∧ a2 ≤ 98) ∨ ((100 ≤ a1 ∧ a1 ≤ 109) ∨ (0 ≤ a1 ∧ (a1 ≤ 55 ∧ (a1 % 10) ≤ 5))))) : a0 ≤ 5 := by omega
theorem mp_o320 {a0 : Int} {a1 : Int} (h0 : a0 < 100) : (((a0 = 200 ∧ a1 = (a1 + 1)) ∨ (a0 ≠ 200 ∧ a1 = a1))) := by omega
theorem mp_o321 {a0 : Int} {a1 : Int} {a2 : Int} {a3 : Int} (h0 : a0 = a2) (h1 : a1 = (a3 % 10)) : ((6 * a0) + a1) = ((6 * a2) + (a3 % 10)) := by omega
theorem mp_o322 {a0 : Int} (h0 : 0 ≤ a0) : (-2147483648) ≤ (a0 - 100) := by omega
theorem mp_o323 {a0 : Int} (h0 : a0 ≤ 200) : (a0 - 100) ≤ 2147483647 := by omega
theorem mp_o324 {a0 : Int} {a1 : Int} (h0 : 0 ≤ a1) (h1 : a0 = (a1 - 100)) : (-2147483648) ≤ (2 * a0) := by omega
theorem mp_o325 {a0 : Int} {a1 : Int} (h0 : a1 ≤ 200) (h1 : a0 = (a1 - 100)) : (2 * a0) ≤ 2147483647 := by omega
theorem mp_o326 {a0 : Int} {a1 : Int} {a2 : Int} {a3 : Int} {a4 : Int} (h0 : 0 ≤ a2) (h1 : 0 ≤ a3) (h2 : a1 = (a3 / 50)) (h3 : a4 = (a2 - 100)) (h4 : a0 = (2 * a4)) : (-2147483648) ≤ (a0 + a1) := by omega
theorem mp_o327 {a0 : Int} {a1 : Int} {a2 : Int} {a3 : Int} {a4 : Int} (h0 : a2 ≤ 200) (h1 : a3 = (a2 - 100)) (h2 : a0 = (2 * a3)) (h3 : a4 ≤ 99) (h4 : a1 = (a4 / 50)) : (a0 + a1) ≤ 2147483647 := by omega
theorem mp_o328 {a0 : Int} {a1 : Int} {a2 : Int} {a3 : Int} {a4 : Int} {a5 : Int} (h0 : 0 ≤ a1) (h1 : a1 ≤ 99) (h2 : 100 ≤ a2) (h3 : ((a2 = 200 ∧ a1 ≤ 98) ∨ ((100 ≤ a2 ∧ a2 ≤ 109) ∨ (0 ≤ a2 ∧ (a2 ≤ 55 ∧ (a2 % 10) ≤ 5))))) (h4 : a2 ≠ 200) (h5 : a3 = (a1 / 50)) (h6 : a4 = (a2 - 100)) (h7 : a5 = (2 * a4)) (h8 : a0 = (a5 + a3)) : ((0 ≤ a0 ∧ a0 < ((20 : Nat) : Int))) := by omega
theorem mp_o329 {a0 : Int} {a1 : Int} (h0 : a0 ≠ 200) : (((a0 = 200 ∧ a1 = (a1 + 1)) ∨ (a0 ≠ 200 ∧ a1 = a1))) := by omega
theorem mp_o330 {a0 : Int} (h0 : a0 ≤ 99) : (a0 + 1) ≤ 2147483647 := by omega
theorem mp_o331 {a0 : Int} {a1 : Int} {a2 : Int} (h0 : a1 = 200) (h1 : ((a1 = 200 ∧ a2 ≤ 98) ∨ ((100 ≤ a1 ∧ a1 ≤ 109) ∨ (0 ≤ a1 ∧ (a1 ≤ 55 ∧ (a1 % 10) ≤ 5))))) (h2 : a0 = (a2 + 1)) : a0 ≤ 99 := by omega
theorem mp_o332 {a0 : Int} {a1 : Int} {a2 : Int} (h0 : a0 = 200) (h1 : a1 = (a2 + 1)) : (((a0 = 200 ∧ a1 = (a2 + 1)) ∨ (a0 ≠ 200 ∧ a1 = a2))) := by omega
theorem mp_o333 {a0 : Int} (h0 : a0 = 200) : 100 ≤ a0 := by omega
theorem mp_o334 {a0 : Int} {a1 : Int} (h0 : a0 ≤ a1) (h1 : a1 ≤ a0) : a0 = a1 := by omega
theorem mp_o335 {a0 : Int} {a1 : Int} {a2 : Int} {a3 : Int} (h0 : a3 = a2) (h1 : a0 = (a1 + a3)) : a0 = (a1 + a2) := by omega
theorem mp_o336 {a0 : Int} {a1 : Int} (h0 : a0 ≤ a1) (h1 : a1 ≤ a0) : (Int.toNat a0) = (Int.toNat a1) := by omega
theorem mp_o337 {a0 : Int} {a1 : Int} (h0 : 0 ≤ a0) (h1 : a1 ≤ 60) (h2 : a0 < a1) : ((0 ≤ a0 ∧ a0 < ((60 : Nat) : Int))) := by omega
theorem mp_o338 {a0 : Int} {a1 : Int} (h0 : a1 ≤ 60) (h1 : a0 < a1) : a0 < 60 := by omega
theorem mp_o339 {a0 : Int} {a1 : Int} (h0 : a0 < a1) : (a0 + 1) ≤ a1 := by omega
theorem mp_o340 {a0 : Int} (h0 : (a0 = 200 ∨ ((100 ≤ a0 ∧ a0 ≤ 109) ∨ (0 ≤ a0 ∧ (a0 ≤ 55 ∧ (a0 % 10) ≤ 5))))) : 0 ≤ a0 := by omega
theorem mp_o341 {a0 : Int} (h0 : (a0 = 200 ∨ ((100 ≤ a0 ∧ a0 ≤ 109) ∨ (0 ≤ a0 ∧ (a0 ≤ 55 ∧ (a0 % 10) ≤ 5))))) : a0 ≤ 200 := by omega
theorem mp_o342 {a0 : Int} {a1 : Int} {a2 : Int} {a3 : Int} {a4 : Int} {a5 : Int} (h0 : (a0 = 200 ∨ ((100 ≤ a0 ∧ a0 ≤ 109) ∨ (0 ≤ a0 ∧ (a0 ≤ 55 ∧ (a0 % 10) ≤ 5))))) (h1 : (a2 + a3) ≤ 99) (h2 : a4 ≤ a3) (h3 : a1 = (a2 + a5)) (h4 : ((a0 = 200 ∧ a4 = (a5 + 1)) ∨ (a0 ≠ 200 ∧ a4 = a5))) : (((a0 = 200 ∧ a1 ≤ 98) ∨ ((100 ≤ a0 ∧ a0 ≤ 109) ∨ (0 ≤ a0 ∧ (a0 ≤ 55 ∧ (a0 % 10) ≤ 5))))) := by omega
theorem mp_o343 {a0 : Int} (h0 : a0 ≤ 60) : (a0 + 1) ≤ 2147483647 := by omega
theorem mp_o344 {a0 : Int} {a1 : Int} {a2 : Int} (h0 : a1 ≤ 60) (h1 : a2 < a1) (h2 : a0 = (a2 + 1)) : a0 ≤ 60 := by omega
theorem mp_o345 {a0 : Int} {a1 : Int} {a2 : Int} {a3 : Int} {a4 : Int} {a5 : Int} (h0 : a3 = (a1 + a4)) (h1 : ((a5 = 200 ∧ a0 = (a3 + 1)) ∨ (a5 ≠ 200 ∧ a0 = a3))) (h2 : ((a5 = 200 ∧ a2 = (a4 + 1)) ∨ (a5 ≠ 200 ∧ a2 = a4))) : a0 = (a1 + a2) := by omega
theorem mp_o346 {a0 : Int} {a1 : Int} (h0 : (a0 = 200 ∨ ((100 ≤ a0 ∧ a0 ≤ 109) ∨ (0 ≤ a0 ∧ (a0 ≤ 55 ∧ (a0 % 10) ≤ 5))))) (h1 : a0 = a1) : ((a0 = a1 ∧ 0 ≤ a0)) := by omega
theorem mp_o347 {a0 : Int} {a1 : Int} (h0 : 0 ≤ a0) (h1 : a1 = (a0 + 1)) : ((Int.toNat a0) + 1) = (Int.toNat a1) := by omega
theorem mp_o348 {a0 : Int} : a0 = (a0 + 0) := by omega
theorem mp_o349 {a0 : Int} {a1 : Int} (h0 : 0 ≤ a0) (h1 : a1 ≤ 6) (h2 : a0 < a1) : ((0 ≤ a0 ∧ a0 < ((6 : Nat) : Int))) := by omega
theorem mp_o350 {a0 : Int} {a1 : Int} (h0 : a1 ≤ 6) (h1 : a0 < a1) : a0 < ((6 : Nat) : Int) := by omega
theorem mp_o351 {a0 : Int} (h0 : a0 ≤ 6) : (a0 + 1) ≤ 2147483647 := by omega
theorem mp_o352 {a0 : Int} {a1 : Int} {a2 : Int} (h0 : a1 ≤ 6) (h1 : a2 < a1) (h2 : a0 = (a2 + 1)) : a0 ≤ 6 := by omega
theorem mp_o353 {a0 : Int} {a1 : Int} (h0 : 0 ≤ a0) (h1 : a1 = (a0 + 1)) : ((0 ≤ a0 ∧ (a0 = a0 ∧ (a0 = a0 ∧ (a0 = a0 ∧ a1 = (a0 + 1)))))) := by omega
theorem mp_o354 {a0 : Int} (h0 : a0 ≤ 99) : (a0 + 0) ≤ 99 := by omega
theorem mp_o355 : 0 = 0 := by omega
theorem mp_o356 : (-1) = (-1) := by omega
theorem mp_o357 : (-4) = (-4) := by omega
theorem mp_o358 {a0 : Int} {a1 : Int} {a2 : Int} {a3 : Int} (h0 : a0 ≠ 0) (h1 : a0 ≠ 1) (h2 : a1 = (-1)) : (((a0 = 0 ∧ a1 = a2) ∨ ((a0 = 1 ∧ a1 = a3) ∨ (a0 ≠ 0 ∧ (a0 ≠ 1 ∧ a1 = (-1)))))) := by omega
theorem mp_o359 {a0 : Int} {a1 : Int} {a2 : Int} (h0 : a0 = 1) : (((a0 = 0 ∧ a1 = a2) ∨ ((a0 = 1 ∧ a1 = a1) ∨ (a0 ≠ 0 ∧ (a0 ≠ 1 ∧ a1 = (-1)))))) := by omega
theorem mp_o360 {a0 : Int} {a1 : Int} {a2 : Int} (h0 : a0 = 0) : (((a0 = 0 ∧ a1 = a1) ∨ ((a0 = 1 ∧ a1 = a2) ∨ (a0 ≠ 0 ∧ (a0 ≠ 1 ∧ a1 = (-1)))))) := by omega
theorem mp_o361 {a0 : Int} {a1 : Int} (h0 : a0 < 0) : ((a0 < 0 ∨ a1 ≤ a0)) := by omega
theorem mp_o362 {a0 : Int} {a1 : Int} (h0 : a1 ≤ a0) : ((a0 < 0 ∨ a1 ≤ a0)) := by omega
theorem mp_o369 {a0 : Int} (h0 : 0 ≤ a0) : a0 = (((Int.toNat a0) : Nat) : Int) := by omega
theorem mp_o381 {a0 : Int} {a1 : Int} (h0 : 0 ≤ a0) (h1 : a1 ≤ 10) (h2 : a0 < a1) : ((0 ≤ a0 ∧ a0 < ((10 : Nat) : Int))) := by omega
theorem mp_o382 {a0 : Int} {a1 : Int} (h0 : a1 ≤ 10) (h1 : a0 < a1) : a0 < ((10 : Nat) : Int) := by omega
theorem mp_o396 {a0 : Int} {a1 : Int} {a2 : Int} {a3 : Int} {a4 : Int} (h0 : (a0 < 0 ∨ a1 ≤ a0)) (h1 : a3 = (-2)) : (((((a0 < 0 ∨ (a1 ≤ a0 ∨ (a2 < 0 ∨ (a1 ≤ a2 ∨ a0 = a2))))) ∧ a3 = (-2)) ∨ (((0 ≤ a0 ∧ (a0 < a1 ∧ (0 ≤ a2 ∧ (a2 < a1 ∧ a0 ≠ a2))))) ∧ a3 = a4))) := by omega
theorem mp_o397 {a0 : Int} {a1 : Int} {a2 : Int} {a3 : Int} {a4 : Int} (h0 : (a2 < 0 ∨ a1 ≤ a2)) (h1 : a3 = (-2)) : (((((a0 < 0 ∨ (a1 ≤ a0 ∨ (a2 < 0 ∨ (a1 ≤ a2 ∨ a0 = a2))))) ∧ a3 = (-2)) ∨ (((0 ≤ a0 ∧ (a0 < a1 ∧ (0 ≤ a2 ∧ (a2 < a1 ∧ a0 ≠ a2))))) ∧ a3 = a4))) := by omega
theorem mp_o398 {a0 : Int} {a1 : Int} (h0 : a1 ≤ 6) (h1 : a0 < a1) : a0 ≤ 5 := by omega
theorem mp_o399 {a0 : Int} (h0 : 0 ≤ a0) : (-2) ≤ a0 := by omega
theorem mp_o400 {a0 : Int} {a1 : Int} {a2 : Int} {a3 : Int} {a4 : Int} (h0 : 0 ≤ a0) (h1 : 0 ≤ a2) (h2 : a0 < a1) (h3 : a0 ≠ a2) (h4 : a2 < a1) (h5 : a3 = a4) : (((((a0 < 0 ∨ (a1 ≤ a0 ∨ (a2 < 0 ∨ (a1 ≤ a2 ∨ a0 = a2))))) ∧ a3 = (-2)) ∨ (((0 ≤ a0 ∧ (a0 < a1 ∧ (0 ≤ a2 ∧ (a2 < a1 ∧ a0 ≠ a2))))) ∧ a3 = a4))) := by omega
theorem mp_o401 {a0 : Int} {a1 : Int} {a2 : Int} {a3 : Int} {a4 : Int} (h0 : a0 = a2) (h1 : a3 = (-2)) : (((((a0 < 0 ∨ (a1 ≤ a0 ∨ (a2 < 0 ∨ (a1 ≤ a2 ∨ a0 = a2))))) ∧ a3 = (-2)) ∨ (((0 ≤ a0 ∧ (a0 < a1 ∧ (0 ≤ a2 ∧ (a2 < a1 ∧ a0 ≠ a2))))) ∧ a3 = a4))) := by omega
theorem mp_o402 {a0 : Int} (h0 : a0 < 0) : ((a0 < 0 ∨ 99 < a0)) := by omega
theorem mp_o403 {a0 : Int} (h0 : 99 < a0) : ((a0 < 0 ∨ 99 < a0)) := by omega
theorem mp_o404 {a0 : Int} (h0 : 0 ≤ a0) (h1 : a0 ≤ 99) : ((0 ≤ a0 ∧ a0 ≤ 99)) := by omega
theorem mp_o405 {a0 : Int} {a1 : Int} {a2 : Int} {a3 : Int} {a4 : Int} (h0 : a3 = (2 * a1)) (h1 : a4 = (a2 / 50)) (h2 : a0 = (a3 + a4)) : a0 = ((2 * a1) + (a2 / 50)) := by omega
theorem mp_o406 {a0 : Int} {a1 : Int} {a2 : Int} (h0 : (a0 < 0 ∨ a1 ≤ a0)) : ((a0 < 0 ∨ (a1 ≤ a0 ∨ (a2 < 0 ∨ 99 < a2)))) := by omega
theorem mp_o407 {a0 : Int} {a1 : Int} {a2 : Int} (h0 : (a2 < 0 ∨ 99 < a2)) : ((a0 < 0 ∨ (a1 ≤ a0 ∨ (a2 < 0 ∨ 99 < a2)))) := by omega
theorem mp_o408 {a0 : Int} {a1 : Int} {a2 : Int} (h0 : 0 ≤ a0) (h1 : 0 ≤ a2) (h2 : a0 < a1) (h3 : a2 ≤ 99) : ((0 ≤ a0 ∧ (a0 < a1 ∧ (0 ≤ a2 ∧ a2 ≤ 99)))) := by omega
theorem mp_o413 {a0 : Int} (h0 : 0 ≤ a0) : (-2147483648) ≤ (a0 + (-1)) := by omega
theorem mp_o419 {a0 : Int} {a1 : Int} (h0 : a1 ≤ 10) (h1 : a0 < a1) : a0 ≤ 9 := by omega
theorem mp_o420 {a0 : Int} (h0 : a0 ≤ 10) : (a0 + 1) ≤ 2147483647 := by omega
theorem mp_o421 {a0 : Int} {a1 : Int} {a2 : Int} (h0 : a1 ≤ 10) (h1 : a2 < a1) (h2 : a0 = (a2 + 1)) : a0 ≤ 10 := by omega
theorem mp_o422 {a0 : Int} (h0 : (0 ≤ a0 ∧ a0 ≤ 5)) : ((0 ≤ a0 ∧ a0 < ((6 : Nat) : Int))) := by omega
theorem mp_o423 {a0 : Int} (h0 : (-1) ≤ a0) (h1 : a0 ≠ (-1)) (h2 : a0 ≤ 9) : ((0 ≤ a0 ∧ a0 < ((10 : Nat) : Int))) := by omega
theorem mp_o424 {a0 : Int} (h0 : (-1) ≤ a0) (h1 : a0 ≠ (-1)) : 0 ≤ a0 := by omega
theorem mp_o425 {a0 : Int} (h0 : a0 < 10) : (a0 + 1) ≤ 2147483647 := by omega
theorem mp_o426 {a0 : Nat} {a1 : Int} (h0 : ((-a1) + 10) ≤ ((a0 : Nat) : Int)) (h1 : a1 < 10) : (a0 - 1) < a0 := by omega
theorem mp_o427 {a0 : Int} {a1 : Int} (h0 : a1 < 10) (h1 : a0 = (a1 + 1)) : a0 ≤ 10 := by omega
theorem mp_o428 {a0 : Int} {a1 : Nat} {a2 : Int} (h0 : ((-a2) + 10) ≤ ((a1 : Nat) : Int)) (h1 : a0 = (a2 + 1)) : ((-a0) + 10) ≤ ((((a1 - 1)) : Nat) : Int) := by omega
theorem mp_o433 {a0 : Nat} {a1 : Int} (h0 : ((-a1) + 100) ≤ ((a0 : Nat) : Int)) (h1 : a1 ≤ 99) : (a0 - 1) < a0 := by omega
theorem mp_o434 {a0 : Int} {a1 : Int} (h0 : a1 ≤ 99) (h1 : a0 = (a1 + 1)) : a0 ≤ 100 := by omega
theorem mp_o435 {a0 : Int} {a1 : Nat} {a2 : Int} (h0 : ((-a2) + 100) ≤ ((a1 : Nat) : Int)) (h1 : a0 = (a2 + 1)) : ((-a0) + 100) ≤ ((((a1 - 1)) : Nat) : Int) := by omega
theorem mp_o436 {a0 : Int} (h0 : a0 ≤ 99) : a0 ≤ 100 := by omega
theorem mp_o437 {a0 : Int} {a1 : Int} {a2 : Int} (h0 : (a0 < 0 ∨ a1 ≤ a0)) : ((a0 < 0 ∨ (a1 ≤ a0 ∨ (a2 < 0 ∨ (a1 ≤ a2 ∨ a0 = a2))))) := by omega
theorem mp_o438 {a0 : Int} {a1 : Int} {a2 : Int} (h0 : (a2 < 0 ∨ a1 ≤ a2)) : ((a0 < 0 ∨ (a1 ≤ a0 ∨ (a2 < 0 ∨ (a1 ≤ a2 ∨ a0 = a2))))) := by omega
theorem mp_o439 {a0 : Int} {a1 : Int} {a2 : Int} (h0 : a0 = a2) : ((a0 < 0 ∨ (a1 ≤ a0 ∨ (a2 < 0 ∨ (a1 ≤ a2 ∨ a0 = a2))))) := by omega
theorem mp_o440 {a0 : Int} {a1 : Int} {a2 : Int} (h0 : 0 ≤ a0) (h1 : 0 ≤ a2) (h2 : a0 < a1) (h3 : a0 ≠ a2) (h4 : a2 < a1) : ((0 ≤ a0 ∧ (a0 < a1 ∧ (0 ≤ a2 ∧ (a2 < a1 ∧ a0 ≠ a2))))) := by omega
theorem mp_o441 {a0 : Int} (h0 : (0 ≤ a0 ∧ a0 ≤ 5)) : (-2147483648) ≤ (a0 * 6) := by omega
theorem mp_o442 {a0 : Int} (h0 : (0 ≤ a0 ∧ a0 ≤ 5)) : (a0 * 6) ≤ 2147483647 := by omega
theorem mp_o443 {a0 : Int} {a1 : Int} {a2 : Int} (h0 : (0 ≤ a1 ∧ a1 ≤ 5)) (h1 : a0 = (a2 * 6)) (h2 : (0 ≤ a2 ∧ a2 ≤ 5)) : (-2147483648) ≤ (a0 + a1) := by omega
theorem mp_o444 {a0 : Int} {a1 : Int} {a2 : Int} (h0 : (0 ≤ a1 ∧ a1 ≤ 5)) (h1 : a0 = (a2 * 6)) (h2 : (0 ≤ a2 ∧ a2 ≤ 5)) : (a0 + a1) ≤ 2147483647 := by omega
theorem mp_o445 {a0 : Int} {a1 : Int} {a2 : Int} {a3 : Int} (h0 : (0 ≤ a1 ∧ a1 ≤ 5)) (h1 : a2 = (a1 * 6)) (h2 : a0 = (a2 + a3)) (h3 : (0 ≤ a3 ∧ a3 ≤ 5)) : ((0 ≤ a0 ∧ a0 < ((36 : Nat) : Int))) := by omega
theorem mp_o446 {a0 : Int} (h0 : (-1) ≤ a0) : (-2) ≤ a0 := by omega
theorem mp_o447 {a0 : Int} {a1 : Int} (h0 : 0 ≤ a1) (h1 : a1 < a0) : 0 ≤ a0 := by omega
theorem mp_o448 {a0 : Int} {a1 : Int} {a2 : Int} {a3 : Int} (h0 : (a0 < 0 ∨ a1 ≤ a0)) (h1 : a2 = (-2)) : (((((a0 < 0 ∨ a1 ≤ a0)) ∧ a2 = (-2)) ∨ (((0 ≤ a0 ∧ a0 < a1)) ∧ a2 = a3))) := by omega
theorem mp_o449 {a0 : Int} (h0 : a0 ≤ 10) : (Int.toNat a0) ≤ 10 := by omega
theorem mp_o450 {a0 : Int} {a1 : Int} (h0 : 10 ≤ a0) (h1 : a0 ≤ 10) : ((a0 = 10 ∨ a1 = (-1))) := by omega
theorem mp_o451 {a0 : Int} (h0 : a0 < 10) : (Int.toNat a0) ≤ 10 := by omega
theorem mp_o452 {a0 : Int} {a1 : Int} {a2 : Int} (h0 : a2 = (-1)) (h1 : a2 = a1) : ((a0 = 10 ∨ a1 = (-1))) := by omega
theorem mp_o453 {a0 : Int} (h0 : ((-1) ≤ a0 ∧ a0 ≤ 9)) (h1 : a0 ≠ (-1)) : 0 ≤ a0 := by omega
theorem mp_o454 {a0 : Int} {a1 : Int} (h0 : a1 ≤ 10) (h1 : a0 < a1) : (a0 + 1) ≤ 2147483647 := by omega
theorem mp_o455 {a0 : Int} {a1 : Int} (h0 : (a0 + 1) ≤ a1) (h1 : a1 ≤ 10) : a0 ≤ 9 := by omega
theorem mp_o456 {a0 : Int} {a1 : Int} (h0 : 1 ≤ a0) (h1 : a1 ≤ 10) (h2 : a0 < a1) : ((0 ≤ a0 ∧ a0 < ((10 : Nat) : Int))) := by omega
theorem mp_o457 {a0 : Int} (h0 : 1 ≤ a0) : (-2147483648) ≤ (a0 + 1) := by omega
theorem mp_o458 {a0 : Int} {a1 : Int} (h0 : 1 ≤ a1) (h1 : a0 = (a1 + 1)) : 1 ≤ a0 := by omega
theorem mp_o459 {a0 : Int} {a1 : Int} (h0 : a0 = (-1)) (h1 : a1 ≠ (-1)) (h2 : a0 = a1) : False := by omega
theorem mp_o460 {a0 : Int} {a1 : Int} {a2 : Int} (h0 : (a0 + 1) ≤ a1) (h1 : 0 ≤ a0) (h2 : a2 = (a1 + 1)) : ((0 ≤ a0 ∧ ((a0 + 1) ≤ a1 ∧ a2 = (a1 + 1)))) := by omega
theorem mp_o461 {a0 : Int} {a1 : Int} {a2 : Int} (h0 : (a0 + 1) ≤ a2) (h1 : a1 = (a2 + 1)) : (a0 + 1) ≤ a1 := by omega
theorem mp_o462 {a0 : Int} {a1 : Int} (h0 : a0 = 0) (h1 : a1 = 0) : a0 = a1 := by omega
theorem mp_o463 {a0 : Int} (h0 : (1 ≤ a0 ∧ a0 ≤ 512)) : 0 ≤ a0 := by omega
theorem mp_o464 {a0 : Int} (h0 : (1 ≤ a0 ∧ a0 ≤ 512)) : a0 ≤ 1023 := by omega
theorem mp_o465 {a0 : Int} (h0 : (0 ≤ a0 ∧ a0 ≤ 1023)) : 0 ≤ a0 := by omega
theorem mp_o466 {a0 : Int} (h0 : (0 ≤ a0 ∧ a0 ≤ 1023)) : a0 ≤ 1023 := by omega
theorem mp_o467 {a0 : Int} {a1 : Int} (h0 : a0 ≠ 0) (h1 : a1 = 0) : (a0 = a1) → False := by omega
theorem mp_o468 {a0 : Int} {a1 : Int} (h0 : a0 = (a1 + 1)) : (Int.toNat (((a0 - a1) - 1))) = 0 := by omega
theorem mp_o469 {a0 : Int} {a1 : Int} (h0 : a1 = (a0 + 1)) : (a0 + 1) ≤ a1 := by omega
theorem mp_o470 {a0 : Int} {a1 : Int} (h0 : a0 ≠ 0) : (((a0 = 0 ∧ a1 = (-2)) ∨ (a0 ≠ 0 ∧ a1 = a1))) := by omega
theorem mp_o471 {a0 : Int} {a1 : Int} {a2 : Int} (h0 : a0 = 0) (h1 : a1 = (-2)) : (((a0 = 0 ∧ a1 = (-2)) ∨ (a0 ≠ 0 ∧ a1 = a2))) := by omega
theorem mp_o472 {a0 : Int} (h0 : (0 ≤ a0 ∧ a0 ≤ 5)) : (-2) ≤ a0 := by omega
theorem mp_o473 {a0 : Int} {a1 : Int} (h0 : 0 ≤ a0) (h1 : a0 < a1) : (((Int.toNat a0) : Nat) : Int) < a1 := by omega
theorem mp_o474 {a0 : Int} {a1 : Int} {a2 : Int} (h0 : a0 = a1) (h1 : a0 = a2) (h2 : a1 ≠ a2) : False := by omega
theorem mp_o475 {a0 : Int} (h0 : a0 ≤ 5) : a0 < ((6 : Nat) : Int) := by omega
theorem mp_o476 {a0 : Int} {a1 : Int} {a2 : Int} (h0 : a0 = a1) (h1 : a2 = a0) (h2 : a2 ≠ a1) : False := by omega
theorem mp_o477 {a0 : Int} {a1 : Int} {a2 : Int} {a3 : Int} (h0 : a0 = a1) (h1 : a2 ≠ a0) (h2 : (a1 = a2 ∧ a3 = 0)) : False := by omega
theorem mp_o478 {a0 : Int} (h0 : 0 ≤ a0) (h1 : a0 < 60) : ((0 ≤ a0 ∧ a0 < ((60 : Nat) : Int))) := by omega
theorem mp_o479 {a0 : Int} {a1 : Int} (h0 : ((a0 = 200 ∧ a1 ≤ 98) ∨ ((100 ≤ a0 ∧ a0 ≤ 109) ∨ (0 ≤ a0 ∧ (a0 ≤ 55 ∧ (a0 % 10) ≤ 5))))) : ((a0 = 200 ∨ ((100 ≤ a0 ∧ a0 ≤ 109) ∨ (0 ≤ a0 ∧ (a0 ≤ 55 ∧ (a0 % 10) ≤ 5))))) := by omega
theorem mp_o480 {a0 : Int} (h0 : a0 < 60) : (a0 + 1) ≤ 2147483647 := by omega
theorem mp_o481 {a0 : Int} {a1 : Int} (h0 : a1 < 60) (h1 : a0 = (a1 + 1)) : a0 ≤ 60 := by omega
theorem mp_o482 {a0 : Int} (h0 : a0 < 60) : a0 ≤ 59 := by omega
theorem mp_o483 {a0 : Int} {a1 : Int} {a2 : Int} {a3 : Int} (h0 : (a0 < 0 ∨ a1 ≤ a0)) : ((a0 < 0 ∨ (a1 ≤ a0 ∨ (a2 < 0 ∨ a3 ≤ a2)))) := by omega
theorem mp_o484 {a0 : Int} {a1 : Int} {a2 : Int} {a3 : Int} (h0 : (a2 < 0 ∨ a3 ≤ a2)) : ((a0 < 0 ∨ (a1 ≤ a0 ∨ (a2 < 0 ∨ a3 ≤ a2)))) := by omega
theorem mp_o485 {a0 : Int} {a1 : Int} {a2 : Int} {a3 : Int} (h0 : 0 ≤ a0) (h1 : 0 ≤ a2) (h2 : a0 < a1) (h3 : a2 < a3) : ((0 ≤ a0 ∧ (a0 < a1 ∧ (0 ≤ a2 ∧ a2 < a3)))) := by omega
theorem mp_o486 {a0 : Int} (h0 : 0 ≤ a0) : (-2147483648) ≤ (10 * a0) := by omega
theorem mp_o487 {a0 : Int} {a1 : Int} (h0 : a1 ≤ 6) (h1 : a0 < a1) : (10 * a0) ≤ 2147483647 := by omega
theorem mp_o488 {a0 : Int} {a1 : Int} {a2 : Int} (h0 : 0 ≤ a1) (h1 : 0 ≤ a2) (h2 : a0 = (10 * a2)) : (-2147483648) ≤ (a0 + a1) := by omega
theorem mp_o489 {a0 : Int} {a1 : Int} {a2 : Int} {a3 : Int} {a4 : Int} (h0 : a2 ≤ 6) (h1 : a1 < a2) (h2 : a3 ≤ 6) (h3 : a4 < a3) (h4 : a0 = (10 * a4)) : (a0 + a1) ≤ 2147483647 := by omega
theorem mp_o490 {a0 : Int} {a1 : Int} {a2 : Int} {a3 : Int} (h0 : 0 ≤ a1) (h1 : 0 ≤ a2) (h2 : a3 = (10 * a1)) (h3 : a0 = (a3 + a2)) : 0 ≤ a0 := by omega
theorem mp_o491 {a0 : Int} {a1 : Int} {a2 : Int} {a3 : Int} {a4 : Int} {a5 : Int} (h0 : a1 ≤ 6) (h1 : a2 < a1) (h2 : a3 ≤ 6) (h3 : a4 < a3) (h4 : a5 = (10 * a4)) (h5 : a0 = (a5 + a2)) : a0 ≤ 200 := by omega
theorem mp_o492 {a0 : Int} {a1 : Int} {a2 : Int} {a3 : Int} {a4 : Int} {a5 : Int} {a6 : Int} (h0 : 0 ≤ a2) (h1 : a2 ≤ 6) (h2 : 0 ≤ a3) (h3 : a3 ≤ 6) (h4 : 0 ≤ a4) (h5 : a4 < a3) (h6 : 0 ≤ a5) (h7 : a5 < a2) (h8 : a6 = (10 * a4)) (h9 : a0 = (a6 + a5)) : (((a0 = 200 ∧ a1 ≤ 98) ∨ ((100 ≤ a0 ∧ a0 ≤ 109) ∨ (0 ≤ a0 ∧ (a0 ≤ 55 ∧ (a0 % 10) ≤ 5))))) := by omega
theorem mp_o493 {a0 : Int} {a1 : Int} {a2 : Int} {a3 : Int} (h0 : a3 = (10 * a1)) (h1 : a0 = (a3 + a2)) : a0 = ((10 * a1) + a2) := by omega
theorem mp_o494 {a0 : Int} {a1 : Int} (h0 : 1 ≤ a1) (h1 : a1 = (a0 + 1)) : ((Int.toNat a0) + 1) = (Int.toNat a1) := by omega
theorem mp_o495 {a0 : Int} (h0 : (0 ≤ a0 ∧ a0 ≤ 5)) : 0 ≤ a0 := by omega
theorem mp_o496 {a0 : Int} (h0 : (0 ≤ a0 ∧ a0 ≤ 5)) : a0 < ((6 : Nat) : Int) := by omega
theorem mp_o497 {a0 : Int} {a1 : Int} {a2 : Int} (h0 : (((0 ≤ a0 ∧ a0 < a1)) ∧ (0 ≤ a2 ∧ a2 < a1))) : (((Int.toNat a0) : Nat) : Int) < a1 := by omega
theorem mp_o498 {a0 : Int} {a1 : Int} {a2 : Int} (h0 : (((0 ≤ a2 ∧ a2 < a1)) ∧ (0 ≤ a0 ∧ a0 < a1))) : (((Int.toNat a0) : Nat) : Int) < a1 := by omega
theorem mp_o499 {a0 : Int} (h0 : 0 ≤ a0) : (-2147483648) ≤ (100 + a0) := by omega
theorem mp_o500 {a0 : Int} {a1 : Int} (h0 : a1 ≤ 10) (h1 : a0 < a1) : (100 + a0) ≤ 2147483647 := by omega
theorem mp_o501 {a0 : Int} {a1 : Int} (h0 : 0 ≤ a1) (h1 : a0 = (100 + a1)) : 0 ≤ a0 := by omega
theorem mp_o502 {a0 : Int} {a1 : Int} {a2 : Int} (h0 : a1 ≤ 10) (h1 : a2 < a1) (h2 : a0 = (100 + a2)) : a0 ≤ 200 := by omega
theorem mp_o503 {a0 : Int} {a1 : Int} {a2 : Int} {a3 : Int} (h0 : 0 ≤ a2) (h1 : a0 = (100 + a2)) (h2 : a3 ≤ 10) (h3 : a2 < a3) : (((a0 = 200 ∧ a1 ≤ 98) ∨ ((100 ≤ a0 ∧ a0 ≤ 109) ∨ (0 ≤ a0 ∧ (a0 ≤ 55 ∧ (a0 % 10) ≤ 5))))) := by omega
theorem mp_o504 {a0 : Int} {a1 : Int} {a2 : Int} {a3 : Int} (h0 : 99 ≤ a3) (h1 : a3 = (a0 + a1)) : ((99 ≤ (a0 + a1) ∨ 60 ≤ a2)) := by omega
theorem mp_o505 {a0 : Int} {a1 : Int} (h0 : a0 < 99) : (((200 = 200 ∧ a0 ≤ 98) ∨ ((100 ≤ a1 ∧ a1 ≤ 109) ∨ (0 ≤ a1 ∧ (a1 ≤ 55 ∧ (a1 % 10) ≤ 5))))) := by omega
theorem mp_o506 {a0 : Int} {a1 : Int} {a2 : Int} (h0 : a2 < 99) (h1 : a2 = (a0 + a1)) : (a0 + a1) ≤ 98 := by omega
theorem mp_o507 {a0 : Int} {a1 : Int} {a2 : Int} {a3 : Int} {a4 : Int} (h0 : a3 = (a1 + a2)) (h1 : a4 = 200) (h2 : ((a4 = 200 ∧ a0 = (a3 + 1)) ∨ (a4 ≠ 200 ∧ a0 = a3))) : a0 = ((a1 + a2) + 1) := by omega
theorem mp_o508 {a0 : Int} {a1 : Int} {a2 : Int} (h0 : 60 ≤ a2) : ((99 ≤ (a0 + a1) ∨ 60 ≤ a2)) := by omega
theorem mp_o509 {a0 : Int} (h0 : a0 ≤ 60) : (a0 - 1) ≤ 2147483647 := by omega
theorem mp_o510 {a0 : Int} {a1 : Int} (h0 : 0 ≤ a1) (h1 : a0 = (a1 - 1)) (h2 : a1 ≠ 0) : 0 ≤ a0 := by omega
theorem mp_o511 {a0 : Int} {a1 : Int} (h0 : a1 ≤ 60) (h1 : a0 = (a1 - 1)) : a0 ≤ 60 := by omega
theorem mp_o512 {a0 : Int} {a1 : Int} (h0 : a0 = (a1 - 1)) : a0 ≤ a1 := by omega
theorem mp_o513 {a0 : Int} {a1 : Int} (h0 : a1 ≤ 60) (h1 : a0 = (a1 - 1)) : a0 ≤ 59 := by omega
theorem mp_o514 {a0 : Int} (h0 : 0 ≤ a0) (h1 : a0 ≠ 0) : 0 < a0 := by omega
theorem mp_o515 {a0 : Int} (h0 : a0 = 0) : a0 ≤ 0 := by omega
theorem mp_o516 {a0 : Int} {a1 : Int} {a2 : Int} {a3 : Int} {a4 : Int} (h0 : a0 ≠ 0) (h1 : a1 = (-1)) (h2 : a2 < 0) : (((a0 = 0 ∧ a1 = (-2)) ∨ ((a0 ≠ 0 ∧ (((a2 < 0 ∨ a3 ≤ a2)) ∧ a1 = (-1))) ∨ (a0 ≠ 0 ∧ (((0 ≤ a2 ∧ a2 < a3)) ∧ a1 = a4))))) := by omega
theorem mp_o517 {a0 : Int} (h0 : (a0 = 200 ∨ ((100 ≤ a0 ∧ a0 ≤ 109) ∨ (0 ≤ a0 ∧ (a0 ≤ 55 ∧ (a0 % 10) ≤ 5))))) : (-2) ≤ a0 := by omega
theorem mp_o518 {a0 : Int} {a1 : Int} {a2 : Int} {a3 : Int} {a4 : Int} (h0 : 0 ≤ a2) (h1 : a0 ≠ 0) (h2 : a1 = a4) (h3 : a2 < a3) : (((a0 = 0 ∧ a1 = (-2)) ∨ ((a0 ≠ 0 ∧ (((a2 < 0 ∨ a3 ≤ a2)) ∧ a1 = (-1))) ∨ (a0 ≠ 0 ∧ (((0 ≤ a2 ∧ a2 < a3)) ∧ a1 = a4))))) := by omega
theorem mp_o519 {a0 : Int} {a1 : Int} {a2 : Int} {a3 : Int} {a4 : Int} (h0 : a0 ≠ 0) (h1 : a1 = (-1)) (h2 : a3 ≤ a2) : (((a0 = 0 ∧ a1 = (-2)) ∨ ((a0 ≠ 0 ∧ (((a2 < 0 ∨ a3 ≤ a2)) ∧ a1 = (-1))) ∨ (a0 ≠ 0 ∧ (((0 ≤ a2 ∧ a2 < a3)) ∧ a1 = a4))))) := by omega
theorem mp_o520 {a0 : Int} {a1 : Int} {a2 : Int} {a3 : Int} {a4 : Int} (h0 : a0 = 0) (h1 : a1 = (-2)) : (((a0 = 0 ∧ a1 = (-2)) ∨ ((a0 ≠ 0 ∧ (((a2 < 0 ∨ a3 ≤ a2)) ∧ a1 = (-1))) ∨ (a0 ≠ 0 ∧ (((0 ≤ a2 ∧ a2 < a3)) ∧ a1 = a4))))) := by omega
theorem mp_o521 {a0 : Int} {a1 : Int} (h0 : (a0 = 0 ∨ a0 ≤ a1)) (h1 : a1 ≤ a0) : (Int.toNat a0) = (Int.toNat a1) := by omega
theorem mp_o522 {a0 : Int} {a1 : Int} {a2 : Int} (h0 : a2 < a1) (h1 : a0 = (a2 + 1)) : ((a0 = 0 ∨ a0 ≤ a1)) := by omega
theorem mp_o523 {a0 : Int} (h0 : a0 ≤ 6) : a0 ≤ 9 := by omega
theorem mp_o524 {a0 : Int} {a1 : Int} (h0 : 0 ≤ a0) (h1 : 1 ≤ a1) : (-2147483648) ≤ (a0 + a1) := by omega
theorem mp_o525 {a0 : Int} {a1 : Int} (h0 : a0 ≤ 99) (h1 : a1 ≤ 12) : (a0 + a1) ≤ 2147483647 := by omega
theorem mp_o526 {a0 : Int} {a1 : Int} {a2 : Int} (h0 : a2 = (a0 + a1)) (h1 : a2 ≤ 99) : (a0 + a1) ≤ 99 := by omega
theorem mp_o527 {a0 : Int} (h0 : 0 ≤ a0) : (-2147483648) ≤ (a0 * 36) := by omega
theorem mp_o528 {a0 : Int} (h0 : a0 ≤ 11) : (a0 * 36) ≤ 2147483647 := by omega
theorem mp_o529 {a0 : Int} {a1 : Int} {a2 : Int} {a3 : Int} (h0 : 0 ≤ a2) (h1 : a0 = (a2 * 36)) (h2 : 0 ≤ a3) (h3 : a1 = (a3 * 6)) : (-2147483648) ≤ (a0 + a1) := by omega
theorem mp_o530 {a0 : Int} {a1 : Int} {a2 : Int} {a3 : Int} (h0 : a2 ≤ 11) (h1 : a0 = (a2 * 36)) (h2 : a3 ≤ 5) (h3 : a1 = (a3 * 6)) : (a0 + a1) ≤ 2147483647 := by omega
theorem mp_o531 {a0 : Int} {a1 : Int} {a2 : Int} {a3 : Int} {a4 : Int} {a5 : Int} (h0 : 0 ≤ a1) (h1 : 0 ≤ a2) (h2 : 0 ≤ a3) (h3 : a4 = (a2 * 36)) (h4 : a5 = (a3 * 6)) (h5 : a0 = (a4 + a5)) : (-2147483648) ≤ (a0 + a1) := by omega
theorem mp_o532 {a0 : Int} {a1 : Int} {a2 : Int} {a3 : Int} {a4 : Int} {a5 : Int} (h0 : a1 ≤ 5) (h1 : a2 ≤ 11) (h2 : a3 = (a2 * 36)) (h3 : a4 ≤ 5) (h4 : a5 = (a4 * 6)) (h5 : a0 = (a3 + a5)) : (a0 + a1) ≤ 2147483647 := by omega
theorem mp_o533 {a0 : Int} {a1 : Int} {a2 : Int} {a3 : Int} {a4 : Int} {a5 : Int} {a6 : Int} (h0 : 0 ≤ a1) (h1 : 0 ≤ a2) (h2 : 0 ≤ a3) (h3 : a4 = (a1 * 36)) (h4 : a5 = (a2 * 6)) (h5 : a6 = (a4 + a5)) (h6 : a0 = (a6 + a3)) : 0 ≤ a0 := by omega
theorem mp_o534 {a0 : Int} {a1 : Int} {a2 : Int} {a3 : Int} {a4 : Int} {a5 : Int} {a6 : Int} (h0 : a1 ≤ 11) (h1 : a2 = (a1 * 36)) (h2 : a3 ≤ 5) (h3 : a4 = (a3 * 6)) (h4 : a5 = (a2 + a4)) (h5 : a6 ≤ 5) (h6 : a0 = (a5 + a6)) : a0 ≤ 431 := by omega
theorem mp_o535 {a0 : Int} (h0 : a0 ≤ 12) : (a0 + 1) ≤ 2147483647 := by omega
theorem mp_o536 {a0 : Int} {a1 : Int} {a2 : Int} (h0 : a1 ≤ 12) (h1 : a2 < a1) (h2 : a0 = (a2 + 1)) : a0 ≤ 12 := by omega
theorem mp_o537 {a0 : Int} {a1 : Int} {a2 : Int} {a3 : Int} (h0 : a1 ≤ 6) (h1 : a2 ≤ a1) (h2 : a3 < a2) (h3 : a0 = (a3 + 1)) : a0 ≤ 6 := by omega
theorem mp_o538 {a0 : Int} {a1 : Int} (h0 : a1 ≤ 12) (h1 : a0 < a1) : a0 ≤ 11 := by omega
theorem mp_o539 {a0 : Int} {a1 : Int} {a2 : Int} (h0 : 0 ≤ a1) (h1 : 0 ≤ a2) (h2 : a0 = (a2 + 1)) : (-2147483648) ≤ (a0 + a1) := by omega
theorem mp_o540 {a0 : Int} {a1 : Int} {a2 : Int} {a3 : Int} (h0 : a0 = (a2 + 1)) (h1 : (a2 + a3) ≤ 99) (h2 : a1 < a3) : (a0 + a1) ≤ 2147483647 := by omega
theorem mp_o541 {a0 : Int} {a1 : Int} {a2 : Int} {a3 : Int} (h0 : 0 ≤ a1) (h1 : 0 ≤ a2) (h2 : a3 = (a1 + 1)) (h3 : a0 = (a3 + a2)) : 0 ≤ a0 := by omega
theorem mp_o542 {a0 : Int} {a1 : Int} {a2 : Int} {a3 : Int} {a4 : Int} (h0 : (a1 + a2) ≤ 99) (h1 : a3 < a2) (h2 : a4 = (a1 + 1)) (h3 : a0 = (a4 + a3)) : a0 ≤ 99 := by omega
theorem mp_o543 {a0 : Int} (h0 : 0 ≤ a0) (h1 : a0 ≤ 431) : ((0 ≤ a0 ∧ a0 < ((432 : Nat) : Int))) := by omega
theorem mp_o544 {a0 : Nat} {a1 : Int} (h0 : ((a0 : Nat) : Int) < 72) (h1 : 72 ≤ a1) : ((a0 : Nat) : Int) < a1 := by omega
theorem mp_o545 {a0 : Int} (h0 : 0 ≤ a0) (h1 : a0 < 72) : ((0 ≤ a0 ∧ a0 < ((72 : Nat) : Int))) := by omega
theorem mp_o546 {a0 : Int} (h0 : a0 < 72) : (a0 + 1) ≤ 2147483647 := by omega
theorem mp_o547 {a0 : Nat} {a1 : Int} (h0 : ((-a1) + 72) ≤ ((a0 : Nat) : Int)) (h1 : a1 < 72) : (a0 - 1) < a0 := by omega
theorem mp_o548 {a0 : Int} {a1 : Int} (h0 : a1 < 72) (h1 : a0 = (a1 + 1)) : a0 ≤ 78 := by omega
theorem mp_o549 {a0 : Int} {a1 : Nat} {a2 : Int} (h0 : ((-a2) + 72) ≤ ((a1 : Nat) : Int)) (h1 : a0 = (a2 + 1)) : ((-a0) + 72) ≤ ((((a1 - 1)) : Nat) : Int) := by omega
theorem mp_o550 {a0 : Int} {a1 : Int} {a2 : Int} (h0 : a1 ≤ 12) (h1 : a2 ≤ 99) (h2 : a0 = (a2 + 1)) : (a0 + a1) ≤ 2147483647 := by omega
theorem mp_o551 {a0 : Int} (h0 : a0 ≤ 12) : (a0 * 6) ≤ 2147483647 := by omega
theorem mp_o552 {a0 : Int} {a1 : Int} {a2 : Int} (h0 : (0 ≤ a1 ∧ a1 ≤ 5)) (h1 : 0 ≤ a2) (h2 : a0 = (a2 * 6)) : (-2147483648) ≤ (a0 + a1) := by omega
theorem mp_o553 {a0 : Int} {a1 : Int} {a2 : Int} (h0 : (0 ≤ a1 ∧ a1 ≤ 5)) (h1 : a2 ≤ 12) (h2 : a0 = (a2 * 6)) : (a0 + a1) ≤ 2147483647 := by omega
theorem mp_o554 {a0 : Int} {a1 : Int} {a2 : Int} {a3 : Int} {a4 : Int} (h0 : 0 ≤ a1) (h1 : a2 = (a1 * 6)) (h2 : a3 ≤ 12) (h3 : a1 < a3) (h4 : a0 = (a2 + a4)) (h5 : (0 ≤ a4 ∧ a4 ≤ 5)) : ((0 ≤ a0 ∧ a0 < ((72 : Nat) : Int))) := by omega
theorem mp_o555 {a0 : Int} (h0 : a0 ≤ 12) : (a0 - 1) ≤ 2147483647 := by omega
theorem mp_o556 {a0 : Int} {a1 : Int} (h0 : 0 ≤ a1) (h1 : a0 = (a1 - 1)) : (-2147483648) ≤ (a0 * 6) := by omega
theorem mp_o557 {a0 : Int} {a1 : Int} (h0 : a1 ≤ 12) (h1 : a0 = (a1 - 1)) : (a0 * 6) ≤ 2147483647 := by omega
theorem mp_o558 {a0 : Int} {a1 : Int} {a2 : Int} {a3 : Int} (h0 : 0 ≤ a1) (h1 : 0 ≤ a2) (h2 : a3 = (a2 - 1)) (h3 : a0 = (a3 * 6)) : (-2147483648) ≤ (a0 + a1) := by omega
theorem mp_o559 {a0 : Int} {a1 : Int} {a2 : Int} {a3 : Int} (h0 : a1 ≤ 6) (h1 : a2 ≤ 12) (h2 : a3 = (a2 - 1)) (h3 : a0 = (a3 * 6)) : (a0 + a1) ≤ 2147483647 := by omega
theorem mp_o560 {a0 : Int} {a1 : Int} {a2 : Int} {a3 : Int} {a4 : Int} {a5 : Int} (h0 : 0 ≤ a1) (h1 : a1 ≠ 0) (h2 : a1 ≤ 12) (h3 : 0 ≤ a2) (h4 : a3 = (a1 - 1)) (h5 : a4 = (a3 * 6)) (h6 : a0 = (a4 + a2)) (h7 : a5 ≤ 6) (h8 : a2 < a5) : ((0 ≤ a0 ∧ a0 < ((72 : Nat) : Int))) := by omega
theorem mp_o561 {a0 : Int} {a1 : Int} {a2 : Int} (h0 : a1 ≤ 6) (h1 : a2 ≤ 12) (h2 : a0 = (a2 * 6)) : (a0 + a1) ≤ 2147483647 := by omega
theorem mp_o562 {a0 : Int} {a1 : Int} {a2 : Int} {a3 : Int} {a4 : Int} {a5 : Int} (h0 : 0 ≤ a1) (h1 : 0 ≤ a2) (h2 : a3 = (a1 * 6)) (h3 : a0 = (a3 + a2)) (h4 : a4 ≤ 12) (h5 : a1 < a4) (h6 : a5 ≤ 6) (h7 : a2 < a5) : ((0 ≤ a0 ∧ a0 < ((72 : Nat) : Int))) := by omega
theorem mp_o563 {a0 : Int} (h0 : a0 = 0) : a0 ≤ 11 := by omega
theorem mp_o564 {a0 : Int} (h0 : a0 = 0) : (-2147483648) ≤ (a0 * 6) := by omega
theorem mp_o565 {a0 : Int} (h0 : a0 = 0) : (a0 * 6) ≤ 2147483647 := by omega
theorem mp_o566 {a0 : Int} {a1 : Int} {a2 : Int} (h0 : 0 ≤ a1) (h1 : a2 = 0) (h2 : a0 = (a2 * 6)) : (-2147483648) ≤ (a0 + a1) := by omega
theorem mp_o567 {a0 : Int} {a1 : Int} {a2 : Int} (h0 : a1 ≤ 6) (h1 : a2 = 0) (h2 : a0 = (a2 * 6)) : (a0 + a1) ≤ 2147483647 := by omega
theorem mp_o568 {a0 : Int} {a1 : Int} {a2 : Int} {a3 : Int} (h0 : 0 ≤ a1) (h1 : a1 ≤ 6) (h2 : a2 = 0) (h3 : a3 = (a2 * 6)) (h4 : a0 = (a3 + a1)) : ((0 ≤ a0 ∧ a0 < ((72 : Nat) : Int))) := by omega
theorem mp_o569 {a0 : Int} (h0 : a0 ≤ 11) : (a0 + 1) ≤ 2147483647 := by omega
theorem mp_o570 {a0 : Int} {a1 : Int} (h0 : 0 ≤ a1) (h1 : a0 = (a1 + 1)) : (-2147483648) ≤ (a0 * 6) := by omega
theorem mp_o571 {a0 : Int} {a1 : Int} (h0 : a1 ≤ 11) (h1 : a0 = (a1 + 1)) : (a0 * 6) ≤ 2147483647 := by omega
theorem mp_o572 {a0 : Int} {a1 : Int} {a2 : Int} {a3 : Int} (h0 : 0 ≤ a1) (h1 : 0 ≤ a2) (h2 : a3 = (a2 + 1)) (h3 : a0 = (a3 * 6)) : (-2147483648) ≤ (a0 + a1) := by omega
theorem mp_o573 {a0 : Int} {a1 : Int} {a2 : Int} {a3 : Int} (h0 : a1 ≤ 5) (h1 : a2 ≤ 11) (h2 : a3 = (a2 + 1)) (h3 : a0 = (a3 * 6)) : (a0 + a1) ≤ 2147483647 := by omega
theorem mp_o574 {a0 : Int} {a1 : Int} {a2 : Int} {a3 : Int} {a4 : Int} (h0 : 0 ≤ a1) (h1 : a1 ≤ 11) (h2 : 0 ≤ a2) (h3 : a2 ≤ 5) (h4 : a3 = (a1 + 1)) (h5 : a4 = (a3 * 6)) (h6 : a0 = (a4 + a2)) : ((0 ≤ a0 ∧ a0 < ((78 : Nat) : Int))) := by omega
theorem mp_o575 {a0 : Int} (h0 : 0 ≤ a0) (h1 : a0 ≤ 5) : ((0 ≤ a0 ∧ a0 < ((78 : Nat) : Int))) := by omega
theorem mp_o576 {a0 : Int} (h0 : a0 ≤ 11) : (a0 + (-1)) ≤ 2147483647 := by omega
theorem mp_o577 {a0 : Nat} {a1 : Int} (h0 : (a1 + 1) ≤ ((a0 : Nat) : Int)) (h1 : 0 ≤ a1) : (a0 - 1) < a0 := by omega
theorem mp_o578 {a0 : Int} {a1 : Int} (h0 : 0 ≤ a1) (h1 : a0 = (a1 + (-1))) : (-1) ≤ a0 := by omega
theorem mp_o579 {a0 : Int} {a1 : Int} (h0 : a1 ≤ 11) (h1 : a0 = (a1 + (-1))) : a0 ≤ 11 := by omega
theorem mp_o580 {a0 : Int} {a1 : Nat} {a2 : Int} (h0 : (a2 + 1) ≤ ((a1 : Nat) : Int)) (h1 : a0 = (a2 + (-1))) : (a0 + 1) ≤ ((((a1 - 1)) : Nat) : Int) := by omega
theorem mp_o581 {a0 : Int} (h0 : a0 ≤ 11) : (a0 * 6) ≤ 2147483647 := by omega
theorem mp_o582 {a0 : Int} {a1 : Int} {a2 : Int} (h0 : a1 ≤ 6) (h1 : a2 ≤ 11) (h2 : a0 = (a2 * 6)) : (a0 + a1) ≤ 2147483647 := by omega
theorem mp_o583 {a0 : Int} {a1 : Int} {a2 : Int} {a3 : Int} (h0 : 0 ≤ a1) (h1 : a1 ≤ 11) (h2 : 0 ≤ a2) (h3 : a2 ≤ 6) (h4 : a3 = (a1 * 6)) (h5 : a0 = (a3 + a2)) : ((0 ≤ a0 ∧ a0 < ((78 : Nat) : Int))) := by omega
theorem mp_o584 {a0 : Int} {a1 : Int} (h0 : a1 ≤ 12) (h1 : a0 = (a1 - 1)) : a0 ≤ 11 := by omega
theorem mp_o585 {a0 : Int} {a1 : Int} {a2 : Int} {a3 : Int} {a4 : Int} (h0 : 0 ≤ a1) (h1 : a1 ≤ 12) (h2 : 0 ≤ a2) (h3 : a3 = (a1 * 6)) (h4 : a0 = (a3 + a2)) (h5 : a4 ≤ 6) (h6 : a2 < a4) : ((0 ≤ a0 ∧ a0 < ((78 : Nat) : Int))) := by omega
theorem mp_o586 {a0 : Nat} {a1 : Int} {a2 : Int} (h0 : ((a1 - a2) + 1) ≤ ((a0 : Nat) : Int)) (h1 : a2 ≤ a1) : (a0 - 1) < a0 := by omega
theorem mp_o587 {a0 : Int} {a1 : Int} {a2 : Int} (h0 : a1 ≤ 11) (h1 : a2 ≤ a1) (h2 : a0 = (a2 + 1)) : a0 ≤ 12 := by omega
theorem mp_o588 {a0 : Int} {a1 : Int} {a2 : Nat} {a3 : Int} (h0 : ((a0 - a3) + 1) ≤ ((a2 : Nat) : Int)) (h1 : a1 = (a3 + 1)) : ((a0 - a1) + 1) ≤ ((((a2 - 1)) : Nat) : Int) := by omega
theorem mp_o589 {a0 : Int} {a1 : Int} (h0 : a1 ≤ 11) (h1 : a0 ≤ a1) : a0 ≤ 11 := by omega
theorem mp_o590 {a0 : Int} {a1 : Int} {a2 : Int} (h0 : a1 ≤ 5) (h1 : a2 ≤ 12) (h2 : a0 = (a2 * 6)) : (a0 + a1) ≤ 2147483647 := by omega
theorem mp_o591 {a0 : Int} {a1 : Int} {a2 : Int} {a3 : Int} (h0 : 0 ≤ a1) (h1 : a1 ≤ 12) (h2 : 0 ≤ a2) (h3 : a2 ≤ 5) (h4 : a3 = (a1 * 6)) (h5 : a0 = (a3 + a2)) : ((0 ≤ a0 ∧ a0 < ((78 : Nat) : Int))) := by omega
theorem mp_o592 {a0 : Int} (h0 : a0 ≤ 5) : (a0 + (-1)) ≤ 2147483647 := by omega
theorem mp_o593 {a0 : Int} {a1 : Int} (h0 : a1 ≤ 5) (h1 : a0 = (a1 + (-1))) : a0 ≤ 5 := by omega
theorem mp_o594 {a0 : Int} (h0 : a0 ≤ 5) : a0 ≤ 9 := by omega
theorem mp_o595 {a0 : Int} (h0 : a0 = 0) (h1 : a0 ≠ 0) : False := by omega
theorem mp_o596 {a0 : Int} {a1 : Int} (h0 : a0 < a1) (h1 : ((-2147483648) ≤ a1 ∧ a1 ≤ 2147483647)) : (a0 + 1) ≤ 2147483647 := by omega
theorem mp_o597 {a0 : Int} {a1 : Int} {a2 : Int} {a3 : Int} (h0 : a1 ≤ 6) (h1 : a2 ≤ 11) (h2 : a3 = (a2 + 1)) (h3 : a0 = (a3 * 6)) : (a0 + a1) ≤ 2147483647 := by omega
theorem mp_o598 {a0 : Int} {a1 : Int} {a2 : Int} {a3 : Int} {a4 : Int} {a5 : Int} (h0 : 0 ≤ a1) (h1 : a1 ≤ 11) (h2 : 0 ≤ a2) (h3 : a3 = (a1 + 1)) (h4 : a4 = (a3 * 6)) (h5 : a0 = (a4 + a2)) (h6 : a5 ≤ 6) (h7 : a2 < a5) : ((0 ≤ a0 ∧ a0 < ((78 : Nat) : Int))) := by omega
theorem mp_o599 {a0 : Int} {a1 : Int} (h0 : a1 ≤ 12) (h1 : a0 = (a1 + 1)) : (a0 * 6) ≤ 2147483647 := by omega
theorem mp_o600 {a0 : Int} {a1 : Int} {a2 : Int} {a3 : Int} (h0 : a1 ≤ 6) (h1 : a2 ≤ 12) (h2 : a3 = (a2 + 1)) (h3 : a0 = (a3 * 6)) : (a0 + a1) ≤ 2147483647 := by omega
theorem mp_o601 {a0 : Int} {a1 : Int} {a2 : Int} {a3 : Int} {a4 : Int} {a5 : Int} {a6 : Int} (h0 : 0 ≤ a1) (h1 : 0 ≤ a2) (h2 : a3 = (a1 + 1)) (h3 : a4 = (a3 * 6)) (h4 : a0 = (a4 + a2)) (h5 : a5 ≤ 12) (h6 : a1 < a5) (h7 : a6 ≤ 6) (h8 : a2 < a6) : ((0 ≤ a0 ∧ a0 < ((78 : Nat) : Int))) := by omega
theorem mp_o602 {a0 : Int} (h0 : 0 ≤ a0) (h1 : a0 ≤ 6) : ((0 ≤ a0 ∧ a0 < ((78 : Nat) : Int))) := by omega
theorem mp_o603 {a0 : Int} {a1 : Int} (h0 : 0 ≤ a1) (h1 : a0 = a1) (h2 : a1 ≤ 5) : ((0 ≤ a0 ∧ a0 < ((78 : Nat) : Int))) := by omega
theorem mp_o604 {a0 : Int} {a1 : Int} (h0 : a1 ≤ 5) (h1 : a0 = a1) : (a0 + 1) ≤ 2147483647 := by omega
theorem mp_o605 {a0 : Int} {a1 : Int} {a2 : Int} (h0 : 0 ≤ a1) (h1 : a2 = a1) (h2 : a0 = (a2 + 1)) : 0 ≤ a0 := by omega
theorem mp_o606 {a0 : Int} {a1 : Int} {a2 : Int} (h0 : a1 ≤ 5) (h1 : a2 = a1) (h2 : a0 = (a2 + 1)) : a0 ≤ 6 := by omega
theorem mp_o607 {a0 : Int} {a1 : Int} (h0 : (a0 + a1) ≤ 99) : (a0 + a1) ≤ 2147483647 := by omega
theorem mp_o608 {a0 : Int} (h0 : a0 ≤ 20) : (a0 * 6) ≤ 2147483647 := by omega
theorem mp_o609 {a0 : Int} {a1 : Int} {a2 : Int} (h0 : (0 ≤ a1 ∧ a1 ≤ 5)) (h1 : a2 ≤ 20) (h2 : a0 = (a2 * 6)) : (a0 + a1) ≤ 2147483647 := by omega
theorem mp_o610 {a0 : Int} {a1 : Int} {a2 : Int} {a3 : Int} {a4 : Int} (h0 : 0 ≤ a1) (h1 : a2 = (a1 * 6)) (h2 : a3 ≤ 12) (h3 : a1 ≤ a3) (h4 : a0 = (a2 + a4)) (h5 : (0 ≤ a4 ∧ a4 ≤ 5)) : ((0 ≤ a0 ∧ a0 < ((78 : Nat) : Int))) := by omega
theorem mp_o611 {a0 : Int} {a1 : Int} {a2 : Int} (h0 : (a0 + a2) ≤ 99) (h1 : a1 ≤ a2) : (a0 + a1) ≤ 2147483647 := by omega
theorem mp_o612 {a0 : Int} (h0 : a0 ≤ 20) : (a0 + 1) ≤ 2147483647 := by omega
theorem mp_o613 {a0 : Int} {a1 : Int} {a2 : Int} (h0 : a1 ≤ 12) (h1 : a2 ≤ a1) (h2 : a0 = (a2 + 1)) : a0 ≤ 20 := by omega
theorem mp_o614 {a0 : Int} {a1 : Int} {a2 : Int} (h0 : 0 ≤ a1) (h1 : 0 ≤ a2) (h2 : a0 = (a1 + a2)) : (-1) ≤ a0 := by omega
theorem mp_o615 {a0 : Int} {a1 : Int} {a2 : Int} {a3 : Int} (h0 : (a1 + a2) ≤ 99) (h1 : a3 ≤ a2) (h2 : a0 = (a1 + a3)) : a0 ≤ 240 := by omega
theorem mp_o616 {a0 : Int} (h0 : a0 ≤ 99) : a0 ≤ 240 := by omega
theorem mp_o617 {a0 : Int} (h0 : 1 ≤ a0) : (-2147483648) ≤ (a0 - 1) := by omega
theorem mp_o619 {a0 : Int} {a1 : Int} {a2 : Int} {a3 : Int} (h0 : a1 ≤ 10) (h1 : a2 ≤ a1) (h2 : a3 < a2) (h3 : a0 = (a3 + 1)) : a0 ≤ 10 := by omega
theorem mp_o620 {a0 : Int} (h0 : a0 ≤ 10) : (10 * a0) ≤ 2147483647 := by omega
theorem mp_o621 {a0 : Int} {a1 : Int} {a2 : Int} (h0 : 1 ≤ a1) (h1 : 0 ≤ a2) (h2 : a0 = (10 * a2)) : (-2147483648) ≤ (a0 + a1) := by omega
theorem mp_o622 {a0 : Int} {a1 : Int} {a2 : Int} (h0 : a1 ≤ 10) (h1 : a2 ≤ 10) (h2 : a0 = (10 * a2)) : (a0 + a1) ≤ 2147483647 := by omega
theorem mp_o623 {a0 : Int} {a1 : Int} (h0 : (-5) ≤ a1) (h1 : a1 < a0) : (-5) ≤ a0 := by omega
theorem mp_o624 {a0 : Int} {a1 : Int} {a2 : Int} {a3 : Int} (h0 : 0 ≤ a1) (h1 : 1 ≤ a2) (h2 : a3 = (10 * a1)) (h3 : a0 = (a3 + a2)) : (-1) ≤ a0 := by omega
theorem mp_o625 {a0 : Int} {a1 : Int} {a2 : Int} {a3 : Int} {a4 : Int} (h0 : a1 ≤ 10) (h1 : a2 < a1) (h2 : a3 < a1) (h3 : a4 = (10 * a2)) (h4 : a0 = (a4 + a3)) : a0 ≤ 100 := by omega
theorem mp_o626 {a0 : Int} {a1 : Int} (h0 : 0 ≤ a1) (h1 : a1 = a0) : (-2147483648) ≤ (a0 + 1) := by omega
theorem mp_o627 {a0 : Int} {a1 : Int} (h0 : a1 = a0) (h1 : a1 ≤ 6) : (a0 + 1) ≤ 2147483647 := by omega
theorem mp_o628 {a0 : Nat} {a1 : Int} {a2 : Int} {a3 : Int} (h0 : (a1 - a2) ≤ ((a0 : Nat) : Int)) (h1 : a3 < a1) (h2 : a3 = a2) : (a0 - 1) < a0 := by omega
theorem mp_o629 {a0 : Int} {a1 : Int} {a2 : Int} (h0 : 0 ≤ a1) (h1 : a0 = (a2 + 1)) (h2 : a1 = a2) : 0 ≤ a0 := by omega
theorem mp_o630 {a0 : Int} {a1 : Int} {a2 : Int} {a3 : Int} (h0 : a1 ≤ 6) (h1 : a2 < a1) (h2 : a0 = (a3 + 1)) (h3 : a2 = a3) : a0 ≤ 6 := by omega
theorem mp_o631 {a0 : Nat} {a1 : Int} {a2 : Int} {a3 : Int} (h0 : (a1 - a2) ≤ ((a0 : Nat) : Int)) (h1 : a3 < a1) (h2 : a2 = a3) : (a0 - 1) < a0 := by omega
theorem mp_o632 {a0 : Int} {a1 : Int} {a2 : Int} {a3 : Int} (h0 : a1 ≤ 6) (h1 : a2 < a1) (h2 : a3 = a2) (h3 : a0 = (a3 + 1)) : a0 ≤ 6 := by omega
theorem mp_o633 {a0 : Int} (h0 : 0 ≤ a0) (h1 : a0 ≤ 2) : ((0 ≤ a0 ∧ a0 < ((3 : Nat) : Int))) := by omega
theorem mp_o634 {a0 : Int} (h0 : a0 < 0) : ((a0 < 0 ∨ 3 < a0)) := by omega
theorem mp_o635 {a0 : Int} (h0 : 4 ≤ a0) : ((a0 < 0 ∨ 3 < a0)) := by omega
theorem mp_o636 {a0 : Int} (h0 : 0 ≤ a0) (h1 : a0 < 4) : ((0 ≤ a0 ∧ a0 ≤ 3)) := by omega
theorem mp_o637 {a0 : Int} (h0 : 0 ≤ a0) (h1 : a0 ≤ 3) : ((0 ≤ a0 ∧ a0 < ((4 : Nat) : Int))) := by omega
theorem mp_o638 {a0 : Int} (h0 : a0 ≤ 3) : a0 < ((4 : Nat) : Int) := by omega
theorem mp_o639 {a0 : Int} {a1 : Int} (h0 : a1 = (-1)) (h1 : a1 = a0) : a0 = (-1) := by omega
theorem mp_o640 {a0 : Nat} {a1 : Int} (h0 : ((a0 : Nat) : Int) < 11) (h1 : 11 ≤ a1) : ((a0 : Nat) : Int) < a1 := by omega
theorem mp_o641 {a0 : Int} (h0 : 0 ≤ a0) (h1 : a0 < 11) : ((0 ≤ a0 ∧ a0 < ((11 : Nat) : Int))) := by omega
theorem mp_o642 {a0 : Int} (h0 : a0 < 11) : (a0 + 1) ≤ 2147483647 := by omega
theorem mp_o643 {a0 : Nat} {a1 : Int} (h0 : ((-a1) + 11) ≤ ((a0 : Nat) : Int)) (h1 : a1 < 11) : (a0 - 1) < a0 := by omega
theorem mp_o644 {a0 : Int} {a1 : Int} (h0 : a1 < 11) (h1 : a0 = (a1 + 1)) : a0 ≤ 12 := by omega
theorem mp_o645 {a0 : Int} {a1 : Nat} {a2 : Int} (h0 : ((-a2) + 11) ≤ ((a1 : Nat) : Int)) (h1 : a0 = (a2 + 1)) : ((-a0) + 11) ≤ ((((a1 - 1)) : Nat) : Int) := by omega
theorem mp_o693 {a0 : Int} (h0 : a0 < 4) : a0 ≤ 3 := by omega
theorem mp_o698 {a0 : Nat} {a1 : Int} (h0 : ((a0 : Nat) : Int) < 132) (h1 : 132 ≤ a1) : ((a0 : Nat) : Int) < a1 := by omega
theorem mp_o699 {a0 : Int} (h0 : 0 ≤ a0) (h1 : a0 < 132) : ((0 ≤ a0 ∧ a0 < ((132 : Nat) : Int))) := by omega
theorem mp_o700 {a0 : Int} (h0 : a0 < 132) : (a0 + 1) ≤ 2147483647 := by omega
theorem mp_o701 {a0 : Nat} {a1 : Int} (h0 : ((-a1) + 132) ≤ ((a0 : Nat) : Int)) (h1 : a1 < 132) : (a0 - 1) < a0 := by omega
theorem mp_o702 {a0 : Int} {a1 : Int} (h0 : a1 < 132) (h1 : a0 = (a1 + 1)) : a0 ≤ 240 := by omega
theorem mp_o703 {a0 : Int} {a1 : Nat} {a2 : Int} (h0 : ((-a2) + 132) ≤ ((a1 : Nat) : Int)) (h1 : a0 = (a2 + 1)) : ((-a0) + 132) ≤ ((((a1 - 1)) : Nat) : Int) := by omega
theorem mp_o704 {a0 : Int} (h0 : a0 ≤ 10) : (a0 - 1) ≤ 2147483647 := by omega
theorem mp_o705 {a0 : Int} {a1 : Int} (h0 : a1 ≤ 20) (h1 : a0 = (a1 + 1)) : a0 ≤ 21 := by omega
theorem mp_o706 {a0 : Int} {a1 : Int} {a2 : Int} (h0 : 0 ≤ a0) (h1 : a0 ≠ 0) (h2 : a1 = (a2 + 1)) : (((a0 = 0 ∧ a1 = a2) ∨ (1 ≤ a0 ∧ ((a1 = 0 ∨ a1 = (a2 + 1)))))) := by omega
theorem mp_o707 {a0 : Int} {a1 : Int} {a2 : Int} (h0 : 0 ≤ a0) (h1 : a0 ≠ 0) (h2 : a1 = 0) : (((a0 = 0 ∧ a1 = a2) ∨ (1 ≤ a0 ∧ ((a1 = 0 ∨ a1 = (a2 + 1)))))) := by omega
theorem mp_o708 {a0 : Int} (h0 : a0 ≤ 20) : a0 ≤ 21 := by omega
theorem mp_o709 {a0 : Int} {a1 : Int} (h0 : a0 = 0) : (((a0 = 0 ∧ a1 = a1) ∨ (1 ≤ a0 ∧ ((a1 = 0 ∨ a1 = (a1 + 1)))))) := by omega
theorem mp_o710 {a0 : Int} {a1 : Int} (h0 : a1 ≤ 10) (h1 : (0 ≤ a0 ∧ (((a1 = 0 ∧ a0 ≤ 1) ∨ a0 ≤ a1)))) : a0 ≤ 20 := by omega
theorem mp_o712 {a0 : Nat} {a1 : Int} (h0 : ((-a1) + 11) ≤ ((a0 : Nat) : Int)) (h1 : a1 ≤ 10) : (a0 - 1) < a0 := by omega
theorem mp_o713 {a0 : Int} {a1 : Int} (h0 : a1 ≤ 10) (h1 : a0 = (a1 + 1)) : a0 ≤ 12 := by omega
theorem mp_o714 {a0 : Int} {a1 : Int} {a2 : Int} {a3 : Int} (h0 : a1 = (a2 + 1)) (h1 : ((a2 = 0 ∧ a0 = a3) ∨ (1 ≤ a2 ∧ ((a0 = 0 ∨ a0 = (a3 + 1)))))) (h2 : (0 ≤ a3 ∧ (((a2 = 0 ∧ a3 ≤ 1) ∨ a3 ≤ a2)))) : ((0 ≤ a0 ∧ (((a1 = 0 ∧ a0 ≤ 1) ∨ a0 ≤ a1)))) := by omega
theorem mp_o715 {a0 : Int} (h0 : a0 ≤ 1) : a0 ≤ 21 := by omega
theorem mp_o716 {a0 : Int} (h0 : 0 ≤ a0) : (-2147483648) ≤ (a0 * 12) := by omega
theorem mp_o717 {a0 : Int} (h0 : a0 ≤ 10) : (a0 * 12) ≤ 2147483647 := by omega
theorem mp_o718 {a0 : Int} {a1 : Int} {a2 : Int} (h0 : 0 ≤ a1) (h1 : 0 ≤ a2) (h2 : a0 = (a2 * 12)) : (-2147483648) ≤ (a0 + a1) := by omega
theorem mp_o719 {a0 : Int} {a1 : Int} {a2 : Int} (h0 : a1 ≤ 21) (h1 : a2 ≤ 10) (h2 : a0 = (a2 * 12)) : (a0 + a1) ≤ 2147483647 := by omega
theorem mp_o720 {a0 : Int} {a1 : Int} {a2 : Int} {a3 : Int} {a4 : Int} (h0 : a1 ≤ 10) (h1 : a2 = (a1 * 12)) (h2 : a0 = (a2 + a3)) (h3 : ((a1 = 0 ∧ a3 = a4) ∨ (1 ≤ a1 ∧ ((a3 = 0 ∨ a3 = (a4 + 1)))))) (h4 : (0 ≤ a4 ∧ (((a1 = 0 ∧ a4 ≤ 1) ∨ a4 ≤ a1)))) : ((0 ≤ a0 ∧ a0 < ((132 : Nat) : Int))) := by omega
theorem mp_o721 {a0 : Int} (h0 : a0 < 1024) : a0 ≤ 1023 := by omega
theorem mp_o722 {a0 : Int} (h0 : a0 < 1024) : (a0 + 1) ≤ 2147483647 := by omega
theorem mp_o723 {a0 : Nat} {a1 : Int} (h0 : ((-a1) + 1024) ≤ ((a0 : Nat) : Int)) (h1 : a1 < 1024) : (a0 - 1) < a0 := by omega
theorem mp_o724 {a0 : Int} {a1 : Int} (h0 : a1 < 1024) (h1 : a0 = (a1 + 1)) : a0 ≤ 1024 := by omega
theorem mp_o725 {a0 : Int} {a1 : Nat} {a2 : Int} (h0 : ((-a2) + 1024) ≤ ((a1 : Nat) : Int)) (h1 : a0 = (a2 + 1)) : ((-a0) + 1024) ≤ ((((a1 - 1)) : Nat) : Int) := by omega
theorem mp_o726 {a0 : Int} (h0 : a0 = 0) : (-2147483648) ≤ (a0 + 1) := by omega
theorem mp_o727 {a0 : Int} (h0 : a0 = 0) : (a0 + 1) ≤ 2147483647 := by omega
theorem mp_o735 {a0 : Int} (h0 : 0 < a0) : (-2147483648) ≤ (a0 - 1) := by omega
theorem mp_o744 {a0 : Int} {a1 : Int} (h0 : a0 ≤ 99) (h1 : a1 ≤ 10) : (a0 + a1) ≤ 2147483647 := by omega
theorem mp_o745 {a0 : Int} {a1 : Int} {a2 : Int} (h0 : 0 ≤ a1) (h1 : 1 ≤ a2) (h2 : a0 = (a1 + a2)) : (-1) ≤ a0 := by omega
theorem mp_o746 {a0 : Int} {a1 : Int} {a2 : Int} (h0 : a1 ≤ 10) (h1 : a2 ≤ 99) (h2 : a0 = (a2 + a1)) : a0 ≤ 240 := by omega
theorem mp_o755 {a0 : Int} {a1 : Int} {a2 : Int} (h0 : 0 ≤ a1) (h1 : 0 ≤ a2) (h2 : a0 = (a2 + a1)) : 0 ≤ a0 := by omega
theorem mp_o772 {a0 : Int} {a1 : Int} (h0 : 0 ≤ a1) (h1 : a0 = (a1 + 1)) : (Int.toNat a0) = ((Int.toNat a1) + 1) := by omega
theorem mp_o777 {a0 : Int} {a1 : Int} {a2 : Int} (h0 : a2 = a1) (h1 : a0 = a2) : a0 = a1 := by omega
theorem mp_o787 {a0 : Int} {a1 : Int} {a2 : Int} (h0 : a2 = a0) (h1 : a2 ≤ a1) : a0 ≤ a1 := by omega
theorem mp_o816 {a0 : Int} (h0 : 0 ≤ a0) : (-2147483648) ≤ (10 + a0) := by omega
theorem mp_o822 {a0 : Int} {a1 : Int} (h0 : a0 ≤ 99) (h1 : a1 ≤ 40) : (a0 + a1) ≤ 2147483647 := by omega
theorem mp_o823 {a0 : Int} (h0 : a0 ≤ 240) : (a0 + 1) ≤ 2147483647 := by omega
theorem mp_o824 {a0 : Nat} {a1 : Int} {a2 : Int} {a3 : Int} {a4 : Int} (h0 : a1 ≤ a2) (h1 : (((a3 + a4) - a1) + 1) ≤ ((a0 : Nat) : Int)) (h2 : a2 = (a3 + a4)) : (a0 - 1) < a0 := by omega
theorem mp_o825 {a0 : Int} {a1 : Int} {a2 : Int} {a3 : Int} {a4 : Int} (h0 : a1 ≤ 40) (h1 : a2 ≤ 99) (h2 : a3 = (a2 + a1)) (h3 : a4 ≤ a3) (h4 : a0 = (a4 + 1)) : a0 ≤ 240 := by omega
theorem mp_o826 {a0 : Int} {a1 : Int} {a2 : Int} {a3 : Nat} {a4 : Int} (h0 : (((a0 + a1) - a4) + 1) ≤ ((a3 : Nat) : Int)) (h1 : a2 = (a4 + 1)) : (((a0 + a1) - a2) + 1) ≤ ((((a3 - 1)) : Nat) : Int) := by omega
theorem mp_o827 {a0 : Int} (h0 : ((-2147483648) ≤ a0 ∧ a0 ≤ 2147483647)) : (-2147483648) ≤ (a0 + 0) := by omega
theorem mp_o828 {a0 : Int} (h0 : ((-2147483648) ≤ a0 ∧ a0 ≤ 2147483647)) : (a0 + 0) ≤ 2147483647 := by omega
theorem mp_o829 {a0 : Int} {a1 : Int} (h0 : a1 ≤ 9) (h1 : a0 = a1) : (a0 + 1) ≤ 2147483647 := by omega
theorem mp_o830 {a0 : Int} {a1 : Int} {a2 : Int} (h0 : a1 ≤ 9) (h1 : a2 = a1) (h2 : a0 = (a2 + 1)) : a0 ≤ 10 := by omega
theorem mp_o831 {a0 : Int} {a1 : Int} (h0 : a1 ≤ 99) (h1 : a0 = (a1 + 1)) : a0 ≤ 240 := by omega
theorem mp_o832 {a0 : Int} {a1 : Int} (h0 : a0 ≤ 2000000000) (h1 : a1 ≤ 20) : (a0 + a1) ≤ 2147483647 := by omega
theorem mp_o833 {a0 : Int} {a1 : Int} {a2 : Int} (h0 : a1 ≤ 20) (h1 : a2 < a1) (h2 : a0 = (a2 + 1)) : a0 ≤ 20 := by omega
theorem mp_o834 {a0 : Int} {a1 : Int} {a2 : Int} {a3 : Int} (h0 : (a0 < 0 ∨ (a1 ≤ a0 ∨ (a2 < 0 ∨ (a1 ≤ a2 ∨ a0 = a2))))) : ((a0 < 0 ∨ (a1 ≤ a0 ∨ (a2 < 0 ∨ (a1 ≤ a2 ∨ (a0 = a2 ∨ (a3 < 1 ∨ 1000000 < a3))))))) := by omega
theorem mp_o835 {a0 : Int} {a1 : Int} {a2 : Int} {a3 : Int} (h0 : a3 < 1) : ((a0 < 0 ∨ (a1 ≤ a0 ∨ (a2 < 0 ∨ (a1 ≤ a2 ∨ (a0 = a2 ∨ (a3 < 1 ∨ 1000000 < a3))))))) := by omega
theorem mp_o836 {a0 : Int} {a1 : Int} (h0 : 0 ≤ a1) (h1 : a0 = (a1 + 1)) : (-2147483648) ≤ (a0 - 1) := by omega
theorem mp_o837 {a0 : Int} {a1 : Int} (h0 : a1 < 10) (h1 : a0 = (a1 + 1)) : (a0 - 1) ≤ 2147483647 := by omega
theorem mp_o838 {a0 : Int} {a1 : Int} {a2 : Int} (h0 : 0 ≤ a1) (h1 : a2 = (a1 + 1)) (h2 : a0 = (a2 - 1)) : 0 ≤ a0 := by omega
theorem mp_o839 {a0 : Int} {a1 : Int} {a2 : Int} (h0 : a1 < 10) (h1 : a2 = (a1 + 1)) (h2 : a0 = (a2 - 1)) : a0 ≤ 9 := by omega
theorem mp_o840 {a0 : Int} {a1 : Int} {a2 : Int} {a3 : Int} (h0 : 0 ≤ a0) (h1 : 0 ≤ a2) (h2 : 1 ≤ a3) (h3 : a0 < a1) (h4 : a0 ≠ a2) (h5 : a2 < a1) (h6 : a3 ≤ 1000000) : ((0 ≤ a0 ∧ (a0 < a1 ∧ (0 ≤ a2 ∧ (a2 < a1 ∧ (a0 ≠ a2 ∧ (1 ≤ a3 ∧ a3 ≤ 1000000))))))) := by omega
theorem mp_o841 {a0 : Int} {a1 : Int} {a2 : Int} (h0 : a2 = (a1 + 1)) (h1 : a0 = (a2 - 1)) : a0 = a1 := by omega
theorem mp_o842 {a0 : Int} {a1 : Int} {a2 : Int} {a3 : Int} (h0 : 1000000 < a3) : ((a0 < 0 ∨ (a1 ≤ a0 ∨ (a2 < 0 ∨ (a1 ≤ a2 ∨ (a0 = a2 ∨ (a3 < 1 ∨ 1000000 < a3))))))) := by omega
theorem mp_o843 {a0 : Int} {a1 : Int} {a2 : Int} {a3 : Int} (h0 : (a0 < 0 ∨ a1 ≤ a0)) : ((a0 < 0 ∨ (a1 ≤ a0 ∨ (a2 < 0 ∨ (99 < a2 ∨ (a3 < 0 ∨ 1 < a3)))))) := by omega
theorem mp_o844 {a0 : Int} {a1 : Int} {a2 : Int} {a3 : Int} (h0 : (a2 < 0 ∨ 99 < a2)) : ((a0 < 0 ∨ (a1 ≤ a0 ∨ (a2 < 0 ∨ (99 < a2 ∨ (a3 < 0 ∨ 1 < a3)))))) := by omega
theorem mp_o845 {a0 : Int} {a1 : Int} {a2 : Int} {a3 : Int} (h0 : a3 < 0) : ((a0 < 0 ∨ (a1 ≤ a0 ∨ (a2 < 0 ∨ (99 < a2 ∨ (a3 < 0 ∨ 1 < a3)))))) := by omega
theorem mp_o846 {a0 : Int} {a1 : Int} {a2 : Int} {a3 : Int} (h0 : 0 ≤ a0) (h1 : 0 ≤ a2) (h2 : 0 ≤ a3) (h3 : a0 < a1) (h4 : a2 ≤ 99) (h5 : a3 ≤ 1) : ((0 ≤ a0 ∧ (a0 < a1 ∧ (0 ≤ a2 ∧ (a2 ≤ 99 ∧ (0 ≤ a3 ∧ a3 ≤ 1)))))) := by omega
theorem mp_o847 {a0 : Int} {a1 : Int} {a2 : Int} {a3 : Int} (h0 : 0 ≤ a0) (h1 : 0 ≤ a2) (h2 : a0 < a1) (h3 : a2 ≤ 99) (h4 : a3 = 1) : ((0 ≤ a0 ∧ (a0 < a1 ∧ (0 ≤ a2 ∧ (a2 ≤ 99 ∧ (0 ≤ a3 ∧ a3 ≤ 1)))))) := by omega
theorem mp_o848 {a0 : Int} {a1 : Int} (h0 : a1 = 1) (h1 : ¬ (a1 = 1)) : (a0 ≠ 0) → False := by omega
theorem mp_o849 {a0 : Int} {a1 : Int} {a2 : Int} {a3 : Int} (h0 : 1 < a3) : ((a0 < 0 ∨ (a1 ≤ a0 ∨ (a2 < 0 ∨ (99 < a2 ∨ (a3 < 0 ∨ 1 < a3)))))) := by omega
theorem mp_o850 {a0 : Int} {a1 : Int} {a2 : Int} (h0 : (a0 < 0 ∨ a1 ≤ a0)) : ((a0 < 0 ∨ (a1 ≤ a0 ∨ (a2 < 0 ∨ 100 < a2)))) := by omega
theorem mp_o851 {a0 : Int} {a1 : Int} {a2 : Int} (h0 : a2 < 0) : ((a0 < 0 ∨ (a1 ≤ a0 ∨ (a2 < 0 ∨ 100 < a2)))) := by omega
theorem mp_o852 {a0 : Int} {a1 : Int} {a2 : Int} (h0 : 0 ≤ a0) (h1 : 0 ≤ a2) (h2 : a0 < a1) (h3 : a2 ≤ 100) : ((0 ≤ a0 ∧ (a0 < a1 ∧ (0 ≤ a2 ∧ a2 ≤ 100)))) := by omega
theorem mp_o853 {a0 : Int} {a1 : Int} {a2 : Int} (h0 : 100 < a2) : ((a0 < 0 ∨ (a1 ≤ a0 ∨ (a2 < 0 ∨ 100 < a2)))) := by omega
theorem mp_o854 {a0 : Int} (h0 : a0 < 4) : (a0 + 1) ≤ 2147483647 := by omega
theorem mp_o855 {a0 : Nat} {a1 : Int} (h0 : ((-a1) + 4) ≤ ((a0 : Nat) : Int)) (h1 : a1 < 4) : (a0 - 1) < a0 := by omega
theorem mp_o856 {a0 : Int} {a1 : Int} (h0 : a1 < 4) (h1 : a0 = (a1 + 1)) : a0 ≤ 5 := by omega
theorem mp_o857 {a0 : Int} {a1 : Nat} {a2 : Int} (h0 : ((-a2) + 4) ≤ ((a1 : Nat) : Int)) (h1 : a0 = (a2 + 1)) : ((-a0) + 4) ≤ ((((a1 - 1)) : Nat) : Int) := by omega
theorem mp_o893 {a0 : Int} {a1 : Int} {a2 : Int} (h0 : a0 < 0) : ((a0 < 0 ∨ (a1 < 0 ∨ a2 < (a0 + a1)))) := by omega
theorem mp_o894 {a0 : Int} {a1 : Int} {a2 : Int} (h0 : a1 < 0) : ((a0 < 0 ∨ (a1 < 0 ∨ a2 < (a0 + a1)))) := by omega
theorem mp_o895 {a0 : Int} {a1 : Int} {a2 : Int} {a3 : Int} (h0 : 0 ≤ a2) (h1 : a0 = a2) (h2 : 0 ≤ a3) (h3 : a1 = a3) : (-9223372036854775808) ≤ (a0 + a1) := by omega
theorem mp_o896 {a0 : Int} {a1 : Int} {a2 : Int} {a3 : Int} (h0 : a0 = a2) (h1 : ((-2147483648) ≤ a2 ∧ a2 ≤ 2147483647)) (h2 : a1 = a3) (h3 : ((-2147483648) ≤ a3 ∧ a3 ≤ 2147483647)) : (a0 + a1) ≤ 9223372036854775807 := by omega
theorem mp_o897 {a0 : Int} {a1 : Int} {a2 : Int} {a3 : Int} {a4 : Int} {a5 : Int} {a6 : Int} {a7 : Int} (h0 : a3 = a0) (h1 : a4 = a1) (h2 : a5 = (a3 + a4)) (h3 : a6 < a5) (h4 : a7 = a2) (h5 : a6 = a7) : ((a0 < 0 ∨ (a1 < 0 ∨ a2 < (a0 + a1)))) := by omega
theorem mp_o898 {a0 : Int} {a1 : Int} {a2 : Int} {a3 : Int} {a4 : Int} {a5 : Int} {a6 : Int} {a7 : Int} (h0 : 0 ≤ a0) (h1 : 0 ≤ a1) (h2 : a3 = a0) (h3 : a4 = a1) (h4 : a5 = (a3 + a4)) (h5 : a6 = a2) (h6 : a7 = a6) (h7 : a5 ≤ a7) : ((0 ≤ a0 ∧ (0 ≤ a1 ∧ (a0 + a1) ≤ a2))) := by omega
theorem mp_o899 {a0 : Int} {a1 : Int} {a2 : Int} {a3 : Int} {a4 : Int} {a5 : Int} {a6 : Int} (h0 : a2 = a0) (h1 : a3 = a1) (h2 : a4 = (a2 + a3)) (h3 : a4 ≤ a5) (h4 : a5 = a6) (h5 : ((-1) ≤ a6 ∧ a6 ≤ 60)) : (a0 + a1) ≤ 60 := by omega
theorem mp_o913 {a0 : Int} (h0 : 0 ≤ a0) (h1 : a0 ≤ (-1)) : False := by omega
theorem mp_o914 {a0 : Int} (h0 : 3 ≤ a0) (h1 : a0 < 0) : False := by omega
theorem mp_o915 {a0 : Int} (h0 : 3 ≤ a0) (h1 : a0 < 3) : False := by omega
theorem mp_o916 {a0 : Int} {a1 : Int} {a2 : Int} {a3 : Int} (h0 : a2 ≤ 99) (h1 : a1 = a3) (h2 : a2 = (a0 + a3)) : (a0 + a1) ≤ 99 := by omega
theorem mp_o917 {a0 : Int} {a1 : Int} {a2 : Int} (h0 : (a0 + a2) ≤ 99) (h1 : a1 = a2) : (a0 + a1) ≤ 99 := by omega
theorem mp_o918 {a0 : Int} {a1 : Int} {a2 : Int} (h0 : a0 < a1) : ((a0 < a1 ∨ a2 < a0)) := by omega
theorem mp_o919 {a0 : Int} {a1 : Int} {a2 : Int} (h0 : a2 < a0) : ((a0 < a1 ∨ a2 < a0)) := by omega
theorem mp_o920 {a0 : Int} {a1 : Int} {a2 : Int} {a3 : Int} (h0 : a1 = 0) (h1 : a2 = 3) (h2 : a3 = a0) (h3 : (a3 < a1 ∨ a2 < a3)) : ((a0 < 0 ∨ 3 < a0)) := by omega
theorem mp_o921 {a0 : Int} {a1 : Int} (h0 : 0 ≤ a1) (h1 : a1 = a0) : 0 ≤ a0 := by omega
theorem mp_o922 {a0 : Int} {a1 : Int} (h0 : a1 = a0) (h1 : a1 ≤ 3) : a0 ≤ 3 := by omega
theorem mp_o923 {a0 : Int} {a1 : Int} (h0 : 0 ≤ a1) (h1 : a1 = a0) (h2 : a1 ≤ 3) : ((0 ≤ a0 ∧ a0 ≤ 3)) := by omega
theorem mp_o926 {a0 : Int} (h0 : 0 ≤ a0) : (-2147483648) ≤ (60 * a0) := by omega
theorem mp_o927 {a0 : Int} (h0 : a0 ≤ 3) : (60 * a0) ≤ 2147483647 := by omega
theorem mp_o928 {a0 : Int} {a1 : Int} {a2 : Int} (h0 : 0 ≤ a1) (h1 : 0 ≤ a2) (h2 : a0 = (60 * a2)) : (-2147483648) ≤ (a0 + a1) := by omega
theorem mp_o934 {a0 : Int} (h0 : (0 ≤ a0 ∧ a0 ≤ 60)) : (-2147483648) ≤ (a0 - 1) := by omega
theorem mp_o935 {a0 : Int} (h0 : (0 ≤ a0 ∧ a0 ≤ 60)) : (a0 - 1) ≤ 2147483647 := by omega
theorem mp_o963 {a0 : Int} {a1 : Int} {a2 : Int} {a3 : Int} {a4 : Int} {a5 : Int} (h0 : a2 = (-1)) (h1 : a3 = 0) (h2 : a4 = a0) (h3 : (a4 < a3 ∨ a5 < a4)) (h4 : a5 = a1) : (((0 ≤ a0 ∧ (a0 ≤ a1 ∧ (a2 = a0 ∧ a1 = a0))) ∨ (((a0 < 0 ∨ a1 < a0)) ∧ (a2 = (-1) ∧ a1 = a1)))) := by omega
theorem mp_o964 {a0 : Int} {a1 : Int} {a2 : Int} {a3 : Int} (h0 : a1 = a0) (h1 : a2 ≤ 1600) (h2 : a3 = a2) (h3 : a1 ≤ a3) : a0 ≤ 1600 := by omega
theorem mp_o965 {a0 : Int} {a1 : Int} (h0 : 0 ≤ a1) (h1 : a1 = a0) : (-1) ≤ a0 := by omega
theorem mp_o966 {a0 : Int} {a1 : Int} {a2 : Int} {a3 : Int} (h0 : 0 ≤ a2) (h1 : a2 = a0) (h2 : a3 = a1) (h3 : a2 ≤ a3) : (((0 ≤ a0 ∧ (a0 ≤ a1 ∧ (a0 = a0 ∧ a0 = a0))) ∨ (((a0 < 0 ∨ a1 < a0)) ∧ (a0 = (-1) ∧ a0 = a1)))) := by omega
theorem mp_o967 {a0 : Int} {a1 : Int} {a2 : Int} {a3 : Int} {a4 : Int} (h0 : a1 = 0) (h1 : a2 = a1) (h2 : a3 = a2) (h3 : a4 = a3) (h4 : a0 = a4) : a0 = 0 := by omega
theorem mp_o968 {a0 : Int} {a1 : Int} {a2 : Int} {a3 : Int} (h0 : a1 = 0) (h1 : a2 = a1) (h2 : a3 = a2) (h3 : a0 = a3) : a0 = 0 := by omega
theorem mp_o969 {a0 : Int} {a1 : Int} {a2 : Int} (h0 : a1 = 0) (h1 : a2 = a1) (h2 : a0 = a2) : a0 = 0 := by omega
theorem mp_o970 {a0 : Int} {a1 : Int} (h0 : a1 = 0) (h1 : a0 = a1) : a0 = 0 := by omega
theorem mp_o971 {a0 : Nat} {a1 : Int} (h0 : ((a0 : Nat) : Int) < 600) (h1 : 600 ≤ a1) : ((a0 : Nat) : Int) < a1 := by omega
theorem mp_o972 {a0 : Int} (h0 : 0 ≤ a0) : (-2147483648) ≤ (2400 + a0) := by omega
theorem mp_o973 {a0 : Int} (h0 : a0 < 600) : (2400 + a0) ≤ 2147483647 := by omega
theorem mp_o974 {a0 : Int} {a1 : Int} (h0 : 0 ≤ a1) (h1 : a0 = (2400 + a1)) (h2 : a1 < 600) : ((0 ≤ a0 ∧ a0 < ((3000 : Nat) : Int))) := by omega
theorem mp_o975 {a0 : Int} {a1 : Int} (h0 : 0 ≤ a1) (h1 : a0 = (2400 + a1)) : ((2400 : Nat) : Int) ≤ a0 := by omega
theorem mp_o976 {a0 : Int} (h0 : a0 < 600) : (a0 + 1) ≤ 2147483647 := by omega
theorem mp_o977 {a0 : Nat} {a1 : Int} (h0 : ((-a1) + 600) ≤ ((a0 : Nat) : Int)) (h1 : a1 < 600) : (a0 - 1) < a0 := by omega
theorem mp_o978 {a0 : Int} {a1 : Int} (h0 : a1 < 600) (h1 : a0 = (a1 + 1)) : a0 ≤ 600 := by omega
theorem mp_o979 {a0 : Int} {a1 : Nat} {a2 : Int} (h0 : ((-a2) + 600) ≤ ((a1 : Nat) : Int)) (h1 : a0 = (a2 + 1)) : ((-a0) + 600) ≤ ((((a1 - 1)) : Nat) : Int) := by omega
theorem mp_o980 {a0 : Int} (h0 : 0 ≤ a0) : (-2147483648) ≤ (144 + a0) := by omega
theorem mp_o981 {a0 : Int} (h0 : a0 < 36) : (144 + a0) ≤ 2147483647 := by omega
theorem mp_o982 {a0 : Int} {a1 : Int} (h0 : 0 ≤ a1) (h1 : a0 = (144 + a1)) (h2 : a1 < 36) : ((0 ≤ a0 ∧ a0 < ((180 : Nat) : Int))) := by omega
theorem mp_o983 {a0 : Int} {a1 : Int} (h0 : 0 ≤ a1) (h1 : a0 = (144 + a1)) : ((144 : Nat) : Int) ≤ a0 := by omega
theorem mp_o984 {a0 : Int} {a1 : Int} {a2 : Int} {a3 : Int} {a4 : Int} (h0 : a0 ≤ a1) : ((a0 ≤ a1 ∨ (a2 < a3 ∨ a4 < a2))) := by omega
theorem mp_o985 {a0 : Int} {a1 : Int} {a2 : Int} {a3 : Int} {a4 : Int} {a5 : Int} (h0 : a5 < a3) (h1 : a5 = a2) : ((a0 ≤ a1 ∨ (a2 < a3 ∨ a4 < a2))) := by omega
theorem mp_o986 {a0 : Int} {a1 : Int} {a2 : Int} {a3 : Int} {a4 : Int} {a5 : Int} (h0 : a5 = a2) (h1 : a4 < a5) : ((a0 ≤ a1 ∨ (a2 < a3 ∨ a4 < a2))) := by omega
theorem mp_o987 {a0 : Int} {a1 : Int} {a2 : Int} {a3 : Int} (h0 : a3 = a1) (h1 : a0 ≤ a3) (h2 : a3 ≤ a2) : ((a0 ≤ a1 ∧ a1 ≤ a2)) := by omega
theorem mp_o988 {a0 : Int} {a1 : Int} (h0 : 0 ≤ a0) (h1 : a1 ≤ 1600) (h2 : a0 ≠ a1) (h3 : a0 ≤ a1) : ((0 ≤ a0 ∧ a0 < ((1600 : Nat) : Int))) := by omega
theorem mp_o989 {a0 : Int} {a1 : Int} {a2 : Int} (h0 : a1 ≤ 1600) (h1 : a2 ≠ a1) (h2 : a0 = (a2 + 1)) (h3 : a2 ≤ a1) : a0 ≤ 1600 := by omega
theorem mp_o990 {a0 : Int} {a1 : Int} {a2 : Int} (h0 : a2 ≠ a1) (h1 : a0 = (a2 + 1)) (h2 : a2 ≤ a1) : a0 ≤ a1 := by omega
theorem mp_o991 {a0 : Int} {a1 : Int} {a2 : Int} {a3 : Int} (h0 : a1 ≤ a3) (h1 : a2 = (a3 + 1)) : (((a0 = 0 ∧ a1 ≤ a2) ∨ (a1 + 1) ≤ a2)) := by omega
theorem mp_o992 {a0 : Int} {a1 : Int} (h0 : 0 ≤ a0) (h1 : a0 ≠ a1) (h2 : a0 ≤ a1) : ((0 ≤ a0 ∧ a0 < a1)) := by omega
theorem mp_o993 {a0 : Int} {a1 : Int} {a2 : Int} {a3 : Int} {a4 : Int} (h0 : a1 = 122) (h1 : a2 = 97) (h2 : (a3 ≤ a4 ∨ (a0 < a2 ∨ a1 < a0))) (h3 : a4 ≠ a3) (h4 : a4 ≤ a3) : ((a0 < 97 ∨ 122 < a0)) := by omega
theorem mp_o994 {a0 : Int} {a1 : Int} {a2 : Int} {a3 : Int} {a4 : Int} (h0 : a1 = 48) (h1 : a2 = 57) (h2 : (a3 ≤ a4 ∨ (a0 < a1 ∨ a2 < a0))) (h3 : a4 ≠ a3) (h4 : a4 ≤ a3) : ((a0 < 48 ∨ 57 < a0)) := by omega
theorem mp_o995 {a0 : Int} {a1 : Int} (h0 : a1 = 59) (h1 : a1 = a0) : ((a0 < 97 ∨ 122 < a0)) := by omega
theorem mp_o996 {a0 : Int} {a1 : Int} (h0 : a1 = 59) (h1 : a1 = a0) : ((a0 < 48 ∨ 57 < a0)) := by omega
theorem mp_o997 {a0 : Int} {a1 : Int} {a2 : Int} {a3 : Int} {a4 : Int} (h0 : a0 < a1) (h1 : (a2 ≤ a3 ∧ a3 ≤ a4)) (h2 : (a1 ≤ a0 ∨ (a3 < a2 ∨ a4 < a3))) : False := by omega
theorem mp_o998 {a0 : Int} {a1 : Int} {a2 : Int} {a3 : Int} (h0 : a1 = 48) (h1 : a0 = a2) (h2 : (a1 ≤ a2 ∧ a2 ≤ a3)) : (-2147483648) ≤ (0 + a0) := by omega
theorem mp_o999 {a0 : Int} {a1 : Int} {a2 : Int} {a3 : Int} (h0 : a1 = 57) (h1 : a0 = a2) (h2 : (a3 ≤ a2 ∧ a2 ≤ a1)) : (0 + a0) ≤ 2147483647 := by omega
theorem mp_o1000 {a0 : Int} {a1 : Int} {a2 : Int} {a3 : Int} {a4 : Int} (h0 : a1 = 48) (h1 : a0 = (0 + a2)) (h2 : a2 = a3) (h3 : (a1 ≤ a3 ∧ a3 ≤ a4)) : (-2147483648) ≤ (a0 - 48) := by omega
theorem mp_o1001 {a0 : Int} {a1 : Int} {a2 : Int} {a3 : Int} {a4 : Int} (h0 : a1 = 57) (h1 : a0 = (0 + a2)) (h2 : a2 = a3) (h3 : (a4 ≤ a3 ∧ a3 ≤ a1)) : (a0 - 48) ≤ 2147483647 := by omega
theorem mp_o1002 {a0 : Int} (h0 : (0 ≤ a0 ∧ a0 ≤ 10000009)) : a0 ≤ 10000009 := by omega
theorem mp_o1003 {a0 : Int} {a1 : Int} {a2 : Int} (h0 : (a1 + 1) ≤ a2) : (((a0 = 0 ∧ a1 ≤ a2) ∨ (a1 + 1) ≤ a2)) := by omega
theorem mp_o1004 {a0 : Int} {a1 : Int} (h0 : (a0 + 1) ≤ a1) (h1 : 0 ≤ a0) : (((Int.toNat a0) : Nat) : Int) < a1 := by omega
theorem mp_o1005 {a0 : Int} {a1 : Int} {a2 : Int} (h0 : a1 = 57) (h1 : (a2 ≤ a0 ∧ a0 ≤ a1)) : ((a0 < 97 ∨ 122 < a0)) := by omega
theorem mp_o1006 {a0 : Int} {a1 : Int} (h0 : (a0 + 1) ≤ a1) : a0 ≤ a1 := by omega
theorem mp_o1007 {a0 : Int} {a1 : Int} {a2 : Int} {a3 : Int} {a4 : Int} (h0 : a1 = 48) (h1 : a2 = 57) (h2 : (a3 ≤ a4 ∨ (a0 < a1 ∨ a2 < a0))) (h3 : ¬ (a3 ≤ a4)) : ((a0 < 48 ∨ 57 < a0)) := by omega
theorem mp_o1008 {a0 : Int} {a1 : Int} (h0 : (a0 + 1) ≤ a1) (h1 : 0 ≤ a0) : ((0 ≤ a0 ∧ a0 ≤ a1)) := by omega
theorem mp_o1009 {a0 : Int} (h0 : a0 ≤ 1000000) : (10 * a0) ≤ 2147483647 := by omega
theorem mp_o1010 {a0 : Int} {a1 : Int} {a2 : Int} {a3 : Int} {a4 : Int} {a5 : Int} (h0 : 0 ≤ a2) (h1 : a0 = (10 * a2)) (h2 : a3 = 48) (h3 : a1 = a4) (h4 : (a3 ≤ a4 ∧ a4 ≤ a5)) : (-2147483648) ≤ (a0 + a1) := by omega
theorem mp_o1011 {a0 : Int} {a1 : Int} {a2 : Int} {a3 : Int} {a4 : Int} {a5 : Int} (h0 : a2 = 57) (h1 : a3 ≤ 1000000) (h2 : a0 = (10 * a3)) (h3 : a1 = a4) (h4 : (a5 ≤ a4 ∧ a4 ≤ a2)) : (a0 + a1) ≤ 2147483647 := by omega
theorem mp_o1012 {a0 : Int} {a1 : Int} {a2 : Int} {a3 : Int} {a4 : Int} {a5 : Int} {a6 : Int} (h0 : 0 ≤ a1) (h1 : a2 = (10 * a1)) (h2 : a3 = 48) (h3 : a0 = (a2 + a4)) (h4 : a4 = a5) (h5 : (a3 ≤ a5 ∧ a5 ≤ a6)) : (-2147483648) ≤ (a0 - 48) := by omega
theorem mp_o1013 {a0 : Int} {a1 : Int} {a2 : Int} {a3 : Int} {a4 : Int} {a5 : Int} {a6 : Int} (h0 : a1 = 57) (h1 : a2 ≤ 1000000) (h2 : a3 = (10 * a2)) (h3 : a0 = (a3 + a4)) (h4 : a4 = a5) (h5 : (a6 ≤ a5 ∧ a5 ≤ a1)) : (a0 - 48) ≤ 2147483647 := by omega
theorem mp_o1014 {a0 : Int} {a1 : Int} {a2 : Int} {a3 : Int} {a4 : Int} {a5 : Int} {a6 : Int} {a7 : Int} (h0 : 0 ≤ a1) (h1 : a2 = (10 * a1)) (h2 : a3 = 48) (h3 : a0 = (a4 - 48)) (h4 : a4 = (a2 + a5)) (h5 : a5 = a6) (h6 : (a3 ≤ a6 ∧ a6 ≤ a7)) : 0 ≤ a0 := by omega
theorem mp_o1015 {a0 : Int} {a1 : Int} {a2 : Int} (h0 : a1 = 48) (h1 : (a1 ≤ a0 ∧ a0 ≤ a2)) (h2 : a2 = 57) : ((48 ≤ a0 ∧ a0 ≤ 57)) := by omega
theorem mp_o1016 {a0 : Int} {a1 : Int} {a2 : Int} (h0 : (a0 + 1) ≤ a1) (h1 : 0 ≤ a0) (h2 : a2 = (a1 + 1)) : ((0 ≤ a0 ∧ (a0 ≤ a1 ∧ a2 = (a1 + 1)))) := by omega
theorem mp_o1017 {a0 : Int} {a1 : Int} {a2 : Int} (h0 : a1 = 48) (h1 : (a1 ≤ a0 ∧ a0 ≤ a2)) (h2 : a2 = 57) : ((0 ≤ (a0 - 48) ∧ (a0 - 48) ≤ 9)) := by omega
theorem mp_o1018 {a0 : Int} {a1 : Int} {a2 : Int} {a3 : Int} {a4 : Int} {a5 : Int} (h0 : a0 ≤ 1000000) (h1 : a3 = (10 * a0)) (h2 : a4 = a2) (h3 : a5 = (a3 + a4)) (h4 : a1 = (a5 - 48)) : (((1000000 < a0 ∧ a1 = 10000000) ∨ (a0 ≤ 1000000 ∧ a1 = ((10 * a0) + ((a2 - 48)))))) := by omega
theorem mp_o1019 {a0 : Int} {a1 : Int} {a2 : Int} {a3 : Int} {a4 : Int} {a5 : Int} {a6 : Int} {a7 : Int} (h0 : 0 ≤ a1) (h1 : a1 ≤ 1000000) (h2 : a2 = (10 * a1)) (h3 : a3 = 48) (h4 : a4 = 57) (h5 : a0 = (a5 - 48)) (h6 : a5 = (a2 + a6)) (h7 : a6 = a7) (h8 : (a3 ≤ a7 ∧ a7 ≤ a4)) : ((0 ≤ a0 ∧ a0 ≤ 10000009)) := by omega
theorem mp_o1020 {a0 : Int} {a1 : Int} {a2 : Int} (h0 : 1000000 < a0) (h1 : a1 = 10000000) : (((1000000 < a0 ∧ a1 = 10000000) ∨ (a0 ≤ 1000000 ∧ a1 = ((10 * a0) + ((a2 - 48)))))) := by omega
theorem mp_o1021 {a0 : Int} (h0 : a0 = 10000000) : ((0 ≤ a0 ∧ a0 ≤ 10000009)) := by omega
theorem mp_o1022 {a0 : Int} {a1 : Int} {a2 : Int} {a3 : Int} {a4 : Int} {a5 : Int} (h0 : a1 = 48) (h1 : a0 = (a2 - 48)) (h2 : a2 = (0 + a3)) (h3 : a3 = a4) (h4 : (a1 ≤ a4 ∧ a4 ≤ a5)) : 0 ≤ a0 := by omega
theorem mp_o1023 {a0 : Int} {a1 : Int} {a2 : Int} (h0 : a0 ≤ a2) (h1 : a1 = (a2 + 1)) : (a0 + 1) ≤ a1 := by omega
theorem mp_o1024 {a0 : Int} {a1 : Int} {a2 : Int} {a3 : Int} {a4 : Int} {a5 : Int} (h0 : a2 = 57) (h1 : (a3 ≤ a1 ∧ a1 ≤ a2)) (h2 : a4 = a1) (h3 : a5 = (0 + a4)) (h4 : a0 = (a5 - 48)) : ((a0 = (a1 - 48) ∧ (a1 - 48) ≤ 10000009)) := by omega
theorem mp_o1025 {a0 : Int} {a1 : Int} {a2 : Int} {a3 : Int} {a4 : Int} {a5 : Int} (h0 : a1 = 48) (h1 : a2 = 57) (h2 : a0 = (a3 - 48)) (h3 : a3 = (0 + a4)) (h4 : a4 = a5) (h5 : (a1 ≤ a5 ∧ a5 ≤ a2)) : ((0 ≤ a0 ∧ a0 ≤ 10000009)) := by omega
theorem mp_o1026 {a0 : Int} {a1 : Int} {a2 : Int} {a3 : Int} {a4 : Int} (h0 : a1 = 97) (h1 : a0 = a2) (h2 : a2 = a3) (h3 : (a1 ≤ a3 ∧ a3 ≤ a4)) : (-9223372036854775808) ≤ (0 + a0) := by omega
theorem mp_o1027 {a0 : Int} {a1 : Int} {a2 : Int} {a3 : Int} {a4 : Int} (h0 : a1 = 122) (h1 : a0 = a2) (h2 : a2 = a3) (h3 : (a4 ≤ a3 ∧ a3 ≤ a1)) : (0 + a0) ≤ 9223372036854775807 := by omega
theorem mp_o1028 {a0 : Int} {a1 : Int} {a2 : Int} {a3 : Int} {a4 : Int} {a5 : Int} (h0 : a1 = 97) (h1 : a0 = (0 + a2)) (h2 : a2 = a3) (h3 : a3 = a4) (h4 : (a1 ≤ a4 ∧ a4 ≤ a5)) : (-9223372036854775808) ≤ (a0 - 96) := by omega
theorem mp_o1029 {a0 : Int} {a1 : Int} {a2 : Int} {a3 : Int} {a4 : Int} {a5 : Int} (h0 : a1 = 122) (h1 : a0 = (0 + a2)) (h2 : a2 = a3) (h3 : a3 = a4) (h4 : (a5 ≤ a4 ∧ a4 ≤ a1)) : (a0 - 96) ≤ 9223372036854775807 := by omega
theorem mp_o1030 {a0 : Int} (h0 : (0 ≤ (a0 + 1) ∧ a0 ≤ 150094635296999121)) : (-1) ≤ a0 := by omega
theorem mp_o1031 {a0 : Int} (h0 : (0 ≤ (a0 + 1) ∧ a0 ≤ 150094635296999121)) : a0 ≤ 150094635296999121 := by omega
theorem mp_o1032 {a0 : Int} {a1 : Int} {a2 : Int} (h0 : 0 ≤ a0) (h1 : ((a0 + 1) ≤ a1 ∧ a2 = (a1 - a0))) : (((Int.toNat a0) : Nat) : Int) < a1 := by omega
theorem mp_o1033 {a0 : Int} {a1 : Int} {a2 : Int} (h0 : ((a0 + 1) ≤ a1 ∧ a2 = (a1 - a0))) : a0 ≤ a1 := by omega
theorem mp_o1034 {a0 : Int} {a1 : Int} {a2 : Int} {a3 : Int} {a4 : Int} (h0 : a1 = 122) (h1 : a2 = 97) (h2 : (a3 ≤ a4 ∨ (a0 < a2 ∨ a1 < a0))) (h3 : ¬ (a3 ≤ a4)) : ((a0 < 97 ∨ 122 < a0)) := by omega
theorem mp_o1035 {a0 : Int} {a1 : Int} {a2 : Int} (h0 : 0 ≤ a0) (h1 : ((a0 + 1) ≤ a1 ∧ a2 = (a1 - a0))) : ((0 ≤ a0 ∧ a0 ≤ a1)) := by omega
theorem mp_o1036 {a0 : Int} {a1 : Int} {a2 : Int} {a3 : Int} {a4 : Int} (h0 : ((a1 + 1) ≤ a0 ∧ a4 = (a0 - a1))) (h1 : ((a4 ≤ 12 ∧ a2 = a3) ∨ (12 < a4 ∧ a2 = (-1)))) : ((((a0 - a1) ≤ 12 ∧ a2 = a3) ∨ (12 < (a0 - a1) ∧ a2 = (-1)))) := by omega
theorem mp_o1037 {a0 : Int} (h0 : (0 ≤ (a0 + 1) ∧ a0 ≤ 150094635296999121)) : (-9223372036854775808) ≤ (27 * a0) := by omega
theorem mp_o1038 {a0 : Int} (h0 : (0 ≤ (a0 + 1) ∧ a0 ≤ 150094635296999121)) : (27 * a0) ≤ 9223372036854775807 := by omega
theorem mp_o1039 {a0 : Int} {a1 : Int} {a2 : Int} {a3 : Int} {a4 : Int} {a5 : Int} {a6 : Int} (h0 : a2 = 97) (h1 : a0 = (27 * a3)) (h2 : (0 ≤ (a3 + 1) ∧ a3 ≤ 150094635296999121)) (h3 : a1 = a4) (h4 : a4 = a5) (h5 : (a2 ≤ a5 ∧ a5 ≤ a6)) : (-9223372036854775808) ≤ (a0 + a1) := by omega
theorem mp_o1040 {a0 : Int} {a1 : Int} {a2 : Int} {a3 : Int} {a4 : Int} {a5 : Int} {a6 : Int} (h0 : a2 = 122) (h1 : a0 = (27 * a3)) (h2 : (0 ≤ (a3 + 1) ∧ a3 ≤ 150094635296999121)) (h3 : a1 = a4) (h4 : a4 = a5) (h5 : (a6 ≤ a5 ∧ a5 ≤ a2)) : (a0 + a1) ≤ 9223372036854775807 := by omega
theorem mp_o1041 {a0 : Int} {a1 : Int} {a2 : Int} {a3 : Int} {a4 : Int} {a5 : Int} {a6 : Int} {a7 : Int} (h0 : a1 = 97) (h1 : (0 ≤ (a2 + 1) ∧ a2 ≤ 150094635296999121)) (h2 : a3 = (27 * a2)) (h3 : a0 = (a3 + a4)) (h4 : a4 = a5) (h5 : a5 = a6) (h6 : (a1 ≤ a6 ∧ a6 ≤ a7)) : (-9223372036854775808) ≤ (a0 - 96) := by omega
theorem mp_o1042 {a0 : Int} {a1 : Int} {a2 : Int} {a3 : Int} {a4 : Int} {a5 : Int} {a6 : Int} {a7 : Int} (h0 : a1 = 122) (h1 : (0 ≤ (a2 + 1) ∧ a2 ≤ 150094635296999121)) (h2 : a3 = (27 * a2)) (h3 : a0 = (a3 + a4)) (h4 : a4 = a5) (h5 : a5 = a6) (h6 : (a7 ≤ a6 ∧ a6 ≤ a1)) : (a0 - 96) ≤ 9223372036854775807 := by omega
theorem mp_o1043 {a0 : Int} {a1 : Int} {a2 : Int} (h0 : ((a1 + 1) ≤ a2 ∧ a0 = (a2 - a1))) : (-2147483648) ≤ (a0 + 1) := by omega
theorem mp_o1044 {a0 : Int} {a1 : Int} {a2 : Int} (h0 : a1 = 122) (h1 : (a2 ≤ a0 ∧ a0 ≤ a1)) (h2 : a2 = 97) : ((97 ≤ a0 ∧ a0 ≤ 122)) := by omega
theorem mp_o1045 {a0 : Int} {a1 : Int} {a2 : Int} {a3 : Int} {a4 : Int} (h0 : a1 = (a3 + 1)) (h1 : ((a0 + 1) ≤ a3 ∧ a4 = (a3 - a0))) (h2 : a2 = (a4 + 1)) : (((a0 + 1) ≤ a1 ∧ a2 = (a1 - a0))) := by omega
theorem mp_o1046 {a0 : Int} {a1 : Int} (h0 : a1 ≤ 11) (h1 : a0 = (a1 + 1)) : a0 ≤ 12 := by omega
theorem mp_o1047 {a0 : Int} {a1 : Int} {a2 : Int} {a3 : Int} (h0 : 0 ≤ a0) (h1 : a2 = (a1 + 1)) (h2 : ((a0 + 1) ≤ a1 ∧ a3 = (a1 - a0))) : ((0 ≤ a0 ∧ (a0 ≤ a1 ∧ a2 = (a1 + 1)))) := by omega
theorem mp_o1048 {a0 : Int} {a1 : Int} {a2 : Int} {a3 : Int} {a4 : Int} {a5 : Int} {a6 : Int} {a7 : Int} {a8 : Int} (h0 : a3 = a2) (h1 : a4 = a3) (h2 : a5 ≤ 11) (h3 : a0 = (a6 - 96)) (h4 : a6 = (a7 + a4)) (h5 : a7 = (27 * a8)) (h6 : ((a5 ≤ 12 ∧ a8 = a1) ∨ (12 < a5 ∧ a8 = (-1)))) : a0 = ((27 * a1) + ((a2 - 96))) := by omega
theorem mp_o1049 {a0 : Int} {a1 : Int} {a2 : Int} {a3 : Int} (h0 : 0 ≤ a0) (h1 : a2 ≤ 11) (h2 : a1 = (a3 + 1)) (h3 : ((a0 + 1) ≤ a3 ∧ a2 = (a3 - a0))) : ((0 ≤ a0 ∧ (a0 ≤ a1 ∧ (a1 - a0) ≤ 12))) := by omega
theorem mp_o1050 {a0 : Int} {a1 : Int} {a2 : Int} {a3 : Int} {a4 : Int} {a5 : Int} {a6 : Int} {a7 : Int} {a8 : Int} (h0 : a1 ≤ 11) (h1 : a0 = (a2 - 96)) (h2 : a3 = (27 * a4)) (h3 : ((a1 ≤ 12 ∧ a4 = a5) ∨ (12 < a1 ∧ a4 = (-1)))) (h4 : a2 = (a3 + a6)) (h5 : a6 = a7) (h6 : a7 = a8) (h7 : (0 ≤ ((27 * a5) + ((a8 - 96))) ∧ ((27 * a5) + ((a8 - 96))) < 150094635296999121)) : ((0 ≤ (a0 + 1) ∧ a0 ≤ 150094635296999121)) := by omega
theorem mp_o1051 {a0 : Int} (h0 : 11 < a0) : (-2147483648) ≤ (a0 + 1) := by omega
theorem mp_o1052 {a0 : Int} {a1 : Int} {a2 : Int} (h0 : 0 ≤ a1) (h1 : a2 ≤ 1600) (h2 : ((a1 + 1) ≤ a2 ∧ a0 = (a2 - a1))) : (a0 + 1) ≤ 2147483647 := by omega
theorem mp_o1053 {a0 : Int} {a1 : Int} (h0 : 11 < a1) (h1 : a0 = (a1 + 1)) : 12 < a0 := by omega
theorem mp_o1054 {a0 : Int} {a1 : Int} {a2 : Int} (h0 : a1 = (a0 + 1)) (h1 : a2 = 1) : (((a0 + 1) ≤ a1 ∧ a2 = (a1 - a0))) := by omega
theorem mp_o1055 {a0 : Int} (h0 : a0 = 1) : a0 ≤ 12 := by omega
theorem mp_o1056 {a0 : Int} {a1 : Int} {a2 : Int} {a3 : Int} {a4 : Int} (h0 : a2 = a1) (h1 : a3 = a2) (h2 : a4 = (0 + a3)) (h3 : a0 = (a4 - 96)) : a0 = (a1 - 96) := by omega
theorem mp_o1057 {a0 : Int} {a1 : Int} {a2 : Int} {a3 : Int} {a4 : Int} {a5 : Int} {a6 : Int} (h0 : a1 = 122) (h1 : a2 = 97) (h2 : a0 = (a3 - 96)) (h3 : a3 = (0 + a4)) (h4 : a4 = a5) (h5 : a5 = a6) (h6 : (a2 ≤ a6 ∧ a6 ≤ a1)) : ((0 ≤ (a0 + 1) ∧ a0 ≤ 150094635296999121)) := by omega
theorem mp_o1058 {a0 : Int} {a1 : Int} {a2 : Int} {a3 : Int} (h0 : a0 = 0) (h1 : a1 ≤ a3) (h2 : a2 = a3) : (((a0 = 0 ∧ a1 ≤ a2) ∨ (a1 + 1) ≤ a2)) := by omega
theorem mp_o1059 {a0 : Int} {a1 : Int} (h0 : a1 = a0) : a0 ≤ a1 := by omega
theorem mp_o1060 {a0 : Int} {a1 : Int} {a2 : Int} {a3 : Int} {a4 : Int} (h0 : a1 = 10) (h1 : a2 = 32) (h2 : (a3 ≤ a4 ∨ (a0 < a1 ∨ a1 < a0))) (h3 : (a3 ≤ a4 ∨ (a0 < a2 ∨ a2 < a0))) (h4 : ¬ (a3 ≤ a4)) : ((a0 ≠ 32 ∧ a0 ≠ 10)) := by omega
theorem mp_o1061 {a0 : Int} {a1 : Int} (h0 : a1 = 10) (h1 : (a1 ≤ a0 ∧ a0 ≤ a1)) : ((a0 = 32 ∨ a0 = 10)) := by omega
theorem mp_o1062 {a0 : Int} {a1 : Int} (h0 : a1 = 32) (h1 : (a1 ≤ a0 ∧ a0 ≤ a1)) : ((a0 = 32 ∨ a0 = 10)) := by omega
theorem mp_o1063 {a0 : Int} {a1 : Int} {a2 : Int} {a3 : Int} (h0 : a0 ≠ 0) : ((a0 ≠ 0 ∨ ¬ ((a1 = 1 ∧ a2 = a3)))) := by omega
theorem mp_o1064 {a0 : Int} {a1 : Int} {a2 : Int} {a3 : Int} {a4 : Int} (h0 : a4 = a1) (h1 : a4 ≠ 1) : ((a0 ≠ 0 ∨ ¬ ((a1 = 1 ∧ a2 = a3)))) := by omega
theorem mp_o1065 {a0 : Int} {a1 : Int} {a2 : Int} {a3 : Int} {a4 : Int} {a5 : Int} (h0 : a4 = 1) (h1 : (a4 ≠ 1 ∨ a5 = a2)) (h2 : a5 ≠ a3) : ((a0 ≠ 0 ∨ ¬ ((a1 = 1 ∧ a2 = a3)))) := by omega
theorem mp_o1066 {a0 : Int} {a1 : Int} {a2 : Int} {a3 : Int} {a4 : Int} {a5 : Int} (h0 : a0 = 0) (h1 : a4 = 1) (h2 : a4 = a1) (h3 : (a4 ≠ 1 ∨ a5 = a2)) (h4 : a5 = a3) : ((a0 = 0 ∧ (a1 = 1 ∧ a2 = a3))) := by omega
theorem mp_o1067 {a0 : Int} {a1 : Int} {a2 : Int} {a3 : Int} (h0 : a0 = 0) (h1 : a1 = 3) : (((a0 = 0 ∧ (a1 = 3 ∧ a2 = a2)) ∨ (a0 ≠ 0 ∧ (a1 = a0 ∧ a2 = a3)))) := by omega
theorem mp_o1068 {a0 : Int} {a1 : Int} {a2 : Int} (h0 : a0 ≠ 0) : (((a0 = 0 ∧ (a0 = 3 ∧ a1 = a2)) ∨ (a0 ≠ 0 ∧ (a0 = a0 ∧ a1 = a1)))) := by omega
theorem mp_o1069 {a0 : Int} {a1 : Int} {a2 : Int} : ((5 * ((a0 - a1))) + a2) ≤ ((5 * ((a0 - a1))) + a2) := by omega
theorem mp_o1070 {a0 : Int} {a1 : Int} {a2 : Int} {a3 : Int} {a4 : Int} (h0 : ((a2 = 0 ∧ a3 ≤ a1) ∨ (a3 + 1) ≤ a1)) (h1 : a2 ≤ 4) (h2 : a4 = 1) : ((5 * ((a0 - a1))) + a2) ≤ ((5 * ((a0 - a3))) + a4) := by omega
theorem mp_o1071 {a0 : Int} {a1 : Int} {a2 : Int} {a3 : Int} (h0 : a0 = 0) (h1 : a1 = 1) : (((a0 = 0 ∧ (a1 = 1 ∧ a2 = a2)) ∨ (a0 ≠ 0 ∧ (a1 = a0 ∧ a2 = a3)))) := by omega
theorem mp_o1072 {a0 : Int} {a1 : Int} {a2 : Int} (h0 : a0 ≠ 0) : (((a0 = 0 ∧ (a0 = 1 ∧ a1 = a2)) ∨ (a0 ≠ 0 ∧ (a0 = a0 ∧ a1 = a1)))) := by omega
theorem mp_o1074 {a0 : Int} {a1 : Int} {a2 : Int} {a3 : Int} (h0 : a0 = 0) (h1 : a1 = 2) : (((a0 = 0 ∧ (a1 = 2 ∧ a2 = a2)) ∨ (a0 ≠ 0 ∧ (a1 = a0 ∧ a2 = a3)))) := by omega
theorem mp_o1075 {a0 : Int} {a1 : Int} {a2 : Int} (h0 : a0 ≠ 0) : (((a0 = 0 ∧ (a0 = 2 ∧ a1 = a2)) ∨ (a0 ≠ 0 ∧ (a0 = a0 ∧ a1 = a1)))) := by omega
theorem mp_o1076 {a0 : Int} {a1 : Int} {a2 : Int} {a3 : Int} {a4 : Int} {a5 : Int} {a6 : Int} (h0 : ((a3 = 0 ∧ (a0 = 2 ∧ a4 = a5)) ∨ (a3 ≠ 0 ∧ (a0 = a3 ∧ a4 = a6)))) : ((a0 ≠ 0 ∨ (0 ≤ a1 ∧ a1 ≤ a2))) := by omega
theorem mp_o1077 {a0 : Int} {a1 : Int} {a2 : Int} {a3 : Int} {a4 : Int} (h0 : a2 = 0) (h1 : a3 = a0) (h2 : (a3 < a2 ∨ a4 < a3)) (h3 : a4 = a1) : ((a0 < 0 ∨ a1 < a0)) := by omega
theorem mp_o1078 {a0 : Int} {a1 : Int} {a2 : Int} {a3 : Int} {a4 : Int} (h0 : a1 = 0) (h1 : ((a1 = 0 ∧ (a0 = 2 ∧ a2 = a3)) ∨ (a1 ≠ 0 ∧ (a0 = a1 ∧ a2 = a4)))) : a0 = 2 := by omega
theorem mp_o1079 {a0 : Int} {a1 : Int} {a2 : Int} {a3 : Int} {a4 : Int} (h0 : a2 = 0) (h1 : ((a2 = 0 ∧ (a3 = 2 ∧ a0 = a1)) ∨ (a2 ≠ 0 ∧ (a3 = a2 ∧ a0 = a4)))) : a0 = a1 := by omega
theorem mp_o1080 {a0 : Int} {a1 : Int} {a2 : Int} {a3 : Int} (h0 : a1 = a0) (h1 : a2 ≤ 5) (h2 : a3 = a2) (h3 : a1 ≤ a3) : a0 ≤ 5 := by omega
theorem mp_o1081 {a0 : Int} {a1 : Int} {a2 : Int} {a3 : Int} {a4 : Int} (h0 : ((a2 = 0 ∧ a3 ≤ a1) ∨ (a3 + 1) ≤ a1)) (h1 : a2 ≤ 4) (h2 : a4 = 2) : ((5 * ((a0 - a1))) + a2) ≤ ((5 * ((a0 - a3))) + a4) := by omega
theorem mp_o1082 {a0 : Int} {a1 : Int} {a2 : Int} {a3 : Int} {a4 : Int} (h0 : 0 ≤ a3) (h1 : a3 = a1) (h2 : a4 = a2) (h3 : a3 ≤ a4) : ((a0 ≠ 0 ∨ (0 ≤ a1 ∧ a1 ≤ a2))) := by omega
theorem mp_o1083 {a0 : Int} {a1 : Int} {a2 : Int} {a3 : Int} (h0 : 0 ≤ a2) (h1 : a2 = a0) (h2 : a3 = a1) (h3 : a2 ≤ a3) : ((0 ≤ a0 ∧ a0 ≤ a1)) := by omega
theorem mp_o1084 {a0 : Int} {a1 : Int} {a2 : Int} {a3 : Int} {a4 : Int} {a5 : Int} {a6 : Int} (h0 : ((a3 = 0 ∧ (a0 = 1 ∧ a4 = a5)) ∨ (a3 ≠ 0 ∧ (a0 = a3 ∧ a4 = a6)))) : ((a0 ≠ 0 ∨ (0 ≤ a1 ∧ a1 ≤ a2))) := by omega
theorem mp_o1085 {a0 : Int} {a1 : Int} {a2 : Int} {a3 : Int} {a4 : Int} (h0 : a1 = 0) (h1 : ((a1 = 0 ∧ (a0 = 1 ∧ a2 = a3)) ∨ (a1 ≠ 0 ∧ (a0 = a1 ∧ a2 = a4)))) : a0 = 1 := by omega
theorem mp_o1086 {a0 : Int} {a1 : Int} {a2 : Int} {a3 : Int} {a4 : Int} (h0 : a2 = 0) (h1 : ((a2 = 0 ∧ (a3 = 1 ∧ a0 = a1)) ∨ (a2 ≠ 0 ∧ (a3 = a2 ∧ a0 = a4)))) : a0 = a1 := by omega
theorem mp_o1087 {a0 : Int} {a1 : Int} {a2 : Int} (h0 : a0 ≠ 0) : ((a0 ≠ 0 ∨ (0 ≤ a1 ∧ a1 ≤ a2))) := by omega
theorem mp_o1088 {a0 : Int} {a1 : Int} {a2 : Int} {a3 : Int} {a4 : Int} (h0 : (a0 ≠ 0 ∨ (0 ≤ a1 ∧ a1 ≤ a3))) (h1 : a4 = a2) (h2 : a3 = (a4 - 1)) : ((a0 ≠ 0 ∨ (0 ≤ a1 ∧ a1 ≤ (a2 - 1)))) := by omega
theorem mp_o1089 {a0 : Int} {a1 : Int} {a2 : Int} (h0 : a2 = a1) (h1 : a0 = (a2 - 1)) : a0 = (a1 - 1) := by omega
theorem mp_o1092 {a0 : Int} {a1 : Int} {a2 : Int} {a3 : Int} {a4 : Int} {a5 : Int} (h0 : ((a2 = 0 ∧ (a0 = 2 ∧ a3 = a4)) ∨ (a2 ≠ 0 ∧ (a0 = a2 ∧ a3 = a5)))) : ((a0 ≠ 0 ∨ (0 ≤ a1 ∧ a1 ≤ 99))) := by omega
theorem mp_o1093 {a0 : Int} {a1 : Int} {a2 : Int} {a3 : Int} (h0 : a1 = 0) (h1 : a2 = 99) (h2 : a3 = a0) (h3 : (a3 < a1 ∨ a2 < a3)) : ((a0 < 0 ∨ 99 < a0)) := by omega
theorem mp_o1094 {a0 : Int} {a1 : Int} (h0 : a1 = a0) (h1 : a1 ≤ 99) : a0 ≤ 99 := by omega
theorem mp_o1095 {a0 : Int} {a1 : Int} {a2 : Int} (h0 : 0 ≤ a2) (h1 : a2 = a1) (h2 : a2 ≤ 99) : ((a0 ≠ 0 ∨ (0 ≤ a1 ∧ a1 ≤ 99))) := by omega
theorem mp_o1096 {a0 : Int} {a1 : Int} (h0 : 0 ≤ a1) (h1 : a1 = a0) (h2 : a1 ≤ 99) : ((0 ≤ a0 ∧ a0 ≤ 99)) := by omega
theorem mp_o1097 {a0 : Int} {a1 : Int} {a2 : Int} {a3 : Int} {a4 : Int} {a5 : Int} (h0 : ((a2 = 0 ∧ (a0 = 1 ∧ a3 = a4)) ∨ (a2 ≠ 0 ∧ (a0 = a2 ∧ a3 = a5)))) : ((a0 ≠ 0 ∨ (0 ≤ a1 ∧ a1 ≤ 99))) := by omega
theorem mp_o1098 {a0 : Int} {a1 : Int} (h0 : a0 ≠ 0) : ((a0 ≠ 0 ∨ (0 ≤ a1 ∧ a1 ≤ 99))) := by omega
theorem mp_o1099 : 99 = 99 := by omega
theorem mp_o1100 {a0 : Int} (h0 : 0 ≤ a0) : (-2147483648) ≤ (24 + a0) := by omega
theorem mp_o1101 {a0 : Int} (h0 : a0 ≤ 6) : (24 + a0) ≤ 2147483647 := by omega
theorem mp_o1102 {a0 : Int} {a1 : Int} (h0 : 0 ≤ a1) (h1 : a0 = (24 + a1)) : (-2147483648) ≤ (3 * a0) := by omega
theorem mp_o1103 {a0 : Int} {a1 : Int} (h0 : a1 ≤ 6) (h1 : a0 = (24 + a1)) : (3 * a0) ≤ 2147483647 := by omega
theorem mp_o1104 {a0 : Int} {a1 : Int} {a2 : Int} {a3 : Int} (h0 : 0 ≤ a1) (h1 : a2 = (24 + a1)) (h2 : a0 = (3 * a2)) (h3 : a3 ≤ 5) (h4 : a1 = a3) : ((0 ≤ a0 ∧ a0 < ((90 : Nat) : Int))) := by omega
theorem mp_o1105 {a0 : Int} {a1 : Int} {a2 : Int} (h0 : 0 ≤ a1) (h1 : a2 = (24 + a1)) (h2 : a0 = (3 * a2)) : 0 ≤ a0 := by omega
theorem mp_o1106 {a0 : Int} (h0 : 0 ≤ a0) (h1 : a0 ≤ 5) : (¬ ((0 ≤ a0 ∧ a0 ≤ 5))) → ((0 ≤ a0 ∧ a0 ≤ 5)) := by omega
theorem mp_o1107 {a0 : Int} {a1 : Int} {a2 : Int} (h0 : 0 ≤ a1) (h1 : a2 = (24 + a1)) (h2 : a0 = (3 * a2)) : ((72 : Nat) : Int) ≤ a0 := by omega
theorem mp_o1108 {a0 : Int} {a1 : Int} {a2 : Int} {a3 : Int} (h0 : 0 ≤ a2) (h1 : a3 = (24 + a2)) (h2 : a0 = (3 * a3)) : ((0 ≤ a0 ∧ a0 ≠ (((((72 + (3 * (Int.toNat a1))) + 1)) : Nat) : Int))) := by omega
theorem mp_o1109 {a0 : Int} {a1 : Int} {a2 : Int} (h0 : 0 ≤ a1) (h1 : a2 = (24 + a1)) (h2 : a0 = (3 * a2)) : (-2147483648) ≤ (a0 + 1) := by omega
theorem mp_o1110 {a0 : Int} {a1 : Int} {a2 : Int} (h0 : a1 ≤ 6) (h1 : a2 = (24 + a1)) (h2 : a0 = (3 * a2)) : (a0 + 1) ≤ 2147483647 := by omega
theorem mp_o1111 {a0 : Int} {a1 : Int} {a2 : Int} {a3 : Int} {a4 : Int} (h0 : 0 ≤ a1) (h1 : a2 = (24 + a1)) (h2 : a3 = (3 * a2)) (h3 : a0 = (a3 + 1)) (h4 : a4 ≤ 5) (h5 : a1 = a4) : ((0 ≤ a0 ∧ a0 < ((90 : Nat) : Int))) := by omega
theorem mp_o1112 {a0 : Int} {a1 : Int} {a2 : Int} {a3 : Int} (h0 : 0 ≤ a1) (h1 : a2 = (24 + a1)) (h2 : a3 = (3 * a2)) (h3 : a0 = (a3 + 1)) : 0 ≤ a0 := by omega
theorem mp_o1113 {a0 : Int} {a1 : Int} {a2 : Int} {a3 : Int} (h0 : 0 ≤ a1) (h1 : a2 = (24 + a1)) (h2 : a3 = (3 * a2)) (h3 : a0 = (a3 + 1)) : ((72 : Nat) : Int) ≤ a0 := by omega
theorem mp_o1114 {a0 : Int} {a1 : Int} {a2 : Int} {a3 : Int} {a4 : Int} (h0 : 0 ≤ a2) (h1 : a2 = a1) (h2 : a3 = (24 + a2)) (h3 : a4 = (3 * a3)) (h4 : a0 = (a4 + 1)) : a0 = (((((72 + (3 * (Int.toNat a1))) + 1)) : Nat) : Int) := by omega
theorem mp_o1115 {a0 : Int} {a1 : Int} {a2 : Int} (h0 : 0 ≤ a1) (h1 : a2 = (24 + a1)) (h2 : a0 = (3 * a2)) : (-2147483648) ≤ (a0 + 2) := by omega
theorem mp_o1116 {a0 : Int} {a1 : Int} {a2 : Int} (h0 : a1 ≤ 6) (h1 : a2 = (24 + a1)) (h2 : a0 = (3 * a2)) : (a0 + 2) ≤ 2147483647 := by omega
theorem mp_o1117 {a0 : Int} {a1 : Int} {a2 : Int} {a3 : Int} {a4 : Int} (h0 : 0 ≤ a1) (h1 : a2 = (24 + a1)) (h2 : a3 = (3 * a2)) (h3 : a0 = (a3 + 2)) (h4 : a4 ≤ 5) (h5 : a1 = a4) : ((0 ≤ a0 ∧ a0 < ((90 : Nat) : Int))) := by omega
theorem mp_o1118 {a0 : Int} {a1 : Int} {a2 : Int} {a3 : Int} (h0 : 0 ≤ a1) (h1 : a2 = (24 + a1)) (h2 : a3 = (3 * a2)) (h3 : a0 = (a3 + 2)) : 0 ≤ a0 := by omega
theorem mp_o1119 {a0 : Int} {a1 : Int} {a2 : Int} {a3 : Int} (h0 : 0 ≤ a1) (h1 : a2 = (24 + a1)) (h2 : a3 = (3 * a2)) (h3 : a0 = (a3 + 2)) : ((72 : Nat) : Int) ≤ a0 := by omega
theorem mp_o1120 {a0 : Int} {a1 : Int} {a2 : Int} {a3 : Int} {a4 : Int} (h0 : 0 ≤ a2) (h1 : a3 = (24 + a2)) (h2 : a4 = (3 * a3)) (h3 : a0 = (a4 + 2)) : ((0 ≤ a0 ∧ a0 ≠ (((((72 + (3 * (Int.toNat a1))) + 1)) : Nat) : Int))) := by omega
theorem mp_o1121 {a0 : Int} {a1 : Int} {a2 : Int} (h0 : 0 ≤ a1) (h1 : a0 = a2) (h2 : a1 = a2) : (-2147483648) ≤ (a0 + 1) := by omega
theorem mp_o1122 {a0 : Int} {a1 : Int} {a2 : Int} {a3 : Int} (h0 : 0 ≤ a1) (h1 : a2 ≤ 5) (h2 : a1 = a2) (h3 : a3 = a2) (h4 : a0 = (a3 + 1)) : ((0 ≤ a0 ∧ a0 ≤ 6)) := by omega
theorem mp_o1123 {a0 : Int} {a1 : Int} (h0 : a0 ≠ 0) : ((a0 ≠ 0 ∨ a1 ≠ 1)) := by omega
theorem mp_o1124 {a0 : Int} {a1 : Int} {a2 : Int} {a3 : Int} (h0 : a2 = a0) (h1 : a3 = (a2 + 1)) (h2 : a1 = a3) : (a0 + 1) = a1 := by omega
theorem mp_o1125 {a0 : Int} {a1 : Int} {a2 : Int} (h0 : a2 = a1) (h1 : a2 ≠ 1) : ((a0 ≠ 0 ∨ a1 ≠ 1)) := by omega
theorem mp_o1126 {a0 : Nat} {a1 : Int} {a2 : Int} {a3 : Int} {a4 : Int} {a5 : Int} (h0 : 0 ≤ a1) (h1 : a2 ≤ a3) (h2 : (((5 * ((a3 - a2))) + a1) + 1) ≤ ((5 * ((a3 - a4))) + a5)) (h3 : ((5 * ((a3 - a4))) + a5) ≤ ((a0 : Nat) : Int)) : (a0 - 1) < a0 := by omega
theorem mp_o1127 {a0 : Int} {a1 : Int} {a2 : Int} {a3 : Nat} {a4 : Int} {a5 : Int} (h0 : (((5 * ((a0 - a1))) + a2) + 1) ≤ ((5 * ((a0 - a4))) + a5)) (h1 : ((5 * ((a0 - a4))) + a5) ≤ ((a3 : Nat) : Int)) : ((5 * ((a0 - a1))) + a2) ≤ ((((a3 - 1)) : Nat) : Int) := by omega
theorem mp_o1128 : 100 ≤ 1000000 := by omega
theorem mp_o1129 {a0 : Int} {a1 : Int} {a2 : Int} {a3 : Int} {a4 : Int} (h0 : a0 = 0) (h1 : ¬ (a1 = 10737568)) (h2 : (a0 ≠ 0 ∨ (a2 = 1 ∧ (((0 = 1 ∧ (a1 = 85447 ∧ a3 = (-1))) ∨ (0 = 0 ∧ (a1 = 10737568 ∧ a4 = 0))))))) : False := by omega
theorem mp_o1130 {a0 : Int} {a1 : Int} {a2 : Int} {a3 : Int} {a4 : Int} (h0 : a1 = 0) (h1 : (a1 ≠ 0 ∨ (a2 = 1 ∧ (((0 = 1 ∧ (a0 = 85447 ∧ a3 = (-1))) ∨ (0 = 0 ∧ (a0 = 10737568 ∧ a4 = 0))))))) : a0 = 10737568 := by omega
theorem mp_o1131 {a0 : Int} {a1 : Int} {a2 : Int} {a3 : Int} {a4 : Int} (h0 : a1 = 0) (h1 : (a1 ≠ 0 ∨ (a2 = 1 ∧ (((0 = 1 ∧ (a3 = 85447 ∧ a4 = (-1))) ∨ (0 = 0 ∧ (a3 = 10737568 ∧ a0 = 0))))))) : (a0 ≠ 0) → False := by omega
theorem mp_o1132 {a0 : Int} {a1 : Int} {a2 : Int} {a3 : Int} {a4 : Int} {a5 : Int} {a6 : Int} {a7 : Int} {a8 : Int} (h0 : a5 = 1) (h1 : ((5 * ((a0 - a6))) + a5) ≤ ((5 * ((a0 - a3))) + a4)) (h2 : a7 ≤ 4) (h3 : ((5 * ((a0 - a1))) + a2) ≤ ((5 * ((a0 - a8))) + a7)) (h4 : ((a7 = 0 ∧ a6 ≤ a8) ∨ (a6 + 1) ≤ a8)) : ((5 * ((a0 - a1))) + a2) ≤ ((5 * ((a0 - a3))) + a4) := by omega
theorem mp_o1133 {a0 : Int} {a1 : Int} {a2 : Int} {a3 : Int} {a4 : Int} (h0 : a2 = a1) (h1 : a3 = (24 + a2)) (h2 : a4 = (3 * a3)) (h3 : a0 = (a4 + 2)) : a0 = (74 + (3 * a1)) := by omega
theorem mp_o1134 : (1 = 0) → False := by omega
theorem mp_o1135 {a0 : Int} {a1 : Int} {a2 : Int} {a3 : Int} {a4 : Int} {a5 : Int} {a6 : Int} (h0 : a4 = 1) (h1 : a5 ≤ 4) (h2 : ((5 * ((a0 - a1))) + a2) ≤ ((5 * ((a0 - a6))) + a5)) (h3 : ((a5 = 0 ∧ a3 ≤ a6) ∨ (a3 + 1) ≤ a6)) : (((5 * ((a0 - a1))) + a2) + 1) ≤ ((5 * ((a0 - a3))) + a4) := by omega
theorem mp_o1136 {a0 : Int} {a1 : Int} {a2 : Int} {a3 : Int} {a4 : Int} {a5 : Int} {a6 : Int} {a7 : Int} {a8 : Int} (h0 : ((a5 = 0 ∧ (a0 = 1 ∧ a6 = a7)) ∨ (a5 ≠ 0 ∧ (a0 = a5 ∧ a6 = a8)))) : ((a0 ≠ 0 ∨ (a1 = 1 ∧ (((0 = 1 ∧ (a2 = 85447 ∧ a3 = (-1))) ∨ (0 = 0 ∧ (a2 = 10737568 ∧ a4 = 0))))))) := by omega
theorem mp_o1137 {a0 : Int} {a1 : Int} {a2 : Int} {a3 : Int} {a4 : Int} (h0 : (a0 = 0 ∧ (a1 = 1 ∧ a2 = 10737568))) (h1 : a4 = 0) : ((a0 ≠ 0 ∨ (a1 = 1 ∧ (((0 = 1 ∧ (a2 = 85447 ∧ a3 = (-1))) ∨ (0 = 0 ∧ (a2 = 10737568 ∧ a4 = 0))))))) := by omega
theorem mp_o1138 {a0 : Int} (h0 : a0 ≠ 0) (h1 : ¬ (a0 ≠ 0)) : False := by omega
theorem mp_o1139 {a0 : Nat} {a1 : Int} {a2 : Int} {a3 : Int} (h0 : a1 = 1) (h1 : ((5 * ((a2 - a3))) + a1) ≤ ((a0 : Nat) : Int)) (h2 : a3 ≤ a2) : (a0 - 1) < a0 := by omega
theorem mp_o1140 {a0 : Int} {a1 : Int} {a2 : Int} (h0 : (a1 = 0 ∧ (a2 = 1 ∧ a0 = 85447))) : a0 = 85447 := by omega
theorem mp_o1141 {a0 : Int} {a1 : Int} {a2 : Int} {a3 : Int} {a4 : Int} (h0 : a1 = 0) (h1 : (a1 ≠ 0 ∨ (a2 = 1 ∧ (((1 = 1 ∧ (a3 = 85447 ∧ a0 = (-1))) ∨ (1 = 0 ∧ (a3 = 10737568 ∧ a4 = 0))))))) : (a0 ≠ (-1)) → False := by omega
theorem mp_o1142 {a0 : Int} (h0 : 0 ≤ a0) (h1 : a0 ≤ 99) : (¬ (((-1) ≤ a0 ∧ a0 ≤ 99))) → (((-1) ≤ a0 ∧ a0 ≤ 99)) := by omega
theorem mp_o1143 {a0 : Int} {a1 : Int} {a2 : Int} {a3 : Int} {a4 : Int} (h0 : a2 = a1) (h1 : a3 = (24 + a2)) (h2 : a4 = (3 * a3)) (h3 : a0 = (a4 + 1)) : a0 = (73 + (3 * a1)) := by omega
theorem mp_o1144 {a0 : Int} {a1 : Int} {a2 : Int} {a3 : Int} {a4 : Int} (h0 : a1 ≤ 5) (h1 : a2 = a1) (h2 : a3 = (24 + a2)) (h3 : a4 = (3 * a3)) (h4 : a0 = (a4 + 1)) : a0 < ((90 : Nat) : Int) := by omega
theorem mp_o1145 {a0 : Int} {a1 : Int} {a2 : Int} (h0 : a0 = (a1 + 1)) (h1 : a1 = (3 * a2)) : (a0 % ((3 : Nat) : Int)) = ((1 : Nat) : Int) := by omega
theorem mp_o1146 {a0 : Int} {a1 : Int} {a2 : Int} {a3 : Int} {a4 : Int} {a5 : Int} (h0 : (a0 = 0 ∧ (a1 = 1 ∧ a2 = 85447))) (h1 : a5 = (-1)) (h2 : a5 = a3) : ((a0 ≠ 0 ∨ (a1 = 1 ∧ (((1 = 1 ∧ (a2 = 85447 ∧ a3 = (-1))) ∨ (1 = 0 ∧ (a2 = 10737568 ∧ a4 = 0))))))) := by omega
theorem mp_o1147 {a0 : Int} {a1 : Int} (h0 : a0 ≠ (-1)) (h1 : a0 = a1) (h2 : ¬ (a1 ≠ (-1))) : False := by omega
theorem mp_o1148 {a0 : Int} {a1 : Int} {a2 : Int} {a3 : Int} {a4 : Int} {a5 : Int} {a6 : Int} {a7 : Int} {a8 : Int} (h0 : ((a5 = 0 ∧ (a0 = 1 ∧ a6 = a7)) ∨ (a5 ≠ 0 ∧ (a0 = a5 ∧ a6 = a8)))) : ((a0 ≠ 0 ∨ (a1 = 1 ∧ (((1 = 1 ∧ (a2 = 85447 ∧ a3 = (-1))) ∨ (1 = 0 ∧ (a2 = 10737568 ∧ a4 = 0))))))) := by omega
theorem mp_o1149 {a0 : Int} {a1 : Int} {a2 : Int} {a3 : Int} {a4 : Int} {a5 : Int} {a6 : Int} (h0 : ((5 * ((a0 - a5))) + a6) ≤ ((5 * ((a0 - a3))) + a4)) (h1 : ((5 * ((a0 - a1))) + a2) ≤ ((5 * ((a0 - a5))) + a6)) : ((5 * ((a0 - a1))) + a2) ≤ ((5 * ((a0 - a3))) + a4) := by omega
theorem mp_o1150 {a0 : Int} {a1 : Int} {a2 : Int} {a3 : Int} (h0 : a2 = a1) (h1 : a3 = (24 + a2)) (h2 : a0 = (3 * a3)) : a0 = (72 + (3 * a1)) := by omega
theorem mp_o1151 {a0 : Int} {a1 : Int} (h0 : a1 = (-1)) (h1 : a0 = a1) : (a0 ≠ (-1)) → False := by omega
theorem mp_o1152 {a0 : Int} (h0 : 0 ≤ a0) : (-2147483648) ≤ (6 * a0) := by omega
theorem mp_o1153 {a0 : Int} (h0 : a0 ≤ 5) : (6 * a0) ≤ 2147483647 := by omega
theorem mp_o1154 {a0 : Int} {a1 : Int} (h0 : 0 ≤ a1) (h1 : a0 = (6 * a1)) : (-2147483648) ≤ (144 + a0) := by omega
theorem mp_o1155 {a0 : Int} {a1 : Int} (h0 : a1 ≤ 5) (h1 : a0 = (6 * a1)) : (144 + a0) ≤ 2147483647 := by omega
theorem mp_o1156 {a0 : Int} {a1 : Int} {a2 : Int} {a3 : Int} (h0 : 0 ≤ a1) (h1 : 0 ≤ a2) (h2 : a3 = (6 * a2)) (h3 : a0 = (144 + a3)) : (-2147483648) ≤ (a0 + a1) := by omega
theorem mp_o1157 {a0 : Int} {a1 : Int} {a2 : Int} {a3 : Int} (h0 : a1 ≤ 5) (h1 : a2 ≤ 5) (h2 : a3 = (6 * a2)) (h3 : a0 = (144 + a3)) : (a0 + a1) ≤ 2147483647 := by omega
theorem mp_o1158 {a0 : Int} {a1 : Int} {a2 : Int} {a3 : Int} {a4 : Int} (h0 : 0 ≤ a1) (h1 : a1 ≤ 5) (h2 : 0 ≤ a2) (h3 : a2 ≤ 5) (h4 : a3 = (6 * a1)) (h5 : a4 = (144 + a3)) (h6 : a0 = (a4 + a2)) : ((0 ≤ a0 ∧ a0 < ((180 : Nat) : Int))) := by omega
theorem mp_o1159 {a0 : Int} {a1 : Int} {a2 : Int} {a3 : Int} {a4 : Int} (h0 : 0 ≤ a1) (h1 : 0 ≤ a2) (h2 : a3 = (6 * a1)) (h3 : a4 = (144 + a3)) (h4 : a0 = (a4 + a2)) : ((144 : Nat) : Int) ≤ a0 := by omega
theorem mp_o1160 {a0 : Int} {a1 : Int} {a2 : Int} {a3 : Int} {a4 : Int} (h0 : 0 ≤ a1) (h1 : a1 ≤ 5) (h2 : 0 ≤ a2) (h3 : a2 ≤ 5) (h4 : a3 = (6 * a2)) (h5 : a4 = (144 + a3)) (h6 : a0 = (a4 + a1)) : ((0 ≤ a0 ∧ a0 < ((180 : Nat) : Int))) := by omega
theorem mp_o1161 {a0 : Int} {a1 : Int} {a2 : Int} {a3 : Int} {a4 : Int} (h0 : 0 ≤ a1) (h1 : 0 ≤ a2) (h2 : a3 = (6 * a2)) (h3 : a4 = (144 + a3)) (h4 : a0 = (a4 + a1)) : ((144 : Nat) : Int) ≤ a0 := by omega
theorem mp_o1162 {a0 : Int} {a1 : Int} {a2 : Int} {a3 : Int} {a4 : Int} {a5 : Int} {a6 : Int} {a7 : Int} {a8 : Int} (h0 : ((5 * ((a0 - a5))) + a6) ≤ ((5 * ((a0 - a3))) + a4)) (h1 : ((5 * ((a0 - a7))) + a8) ≤ ((5 * ((a0 - a5))) + a6)) (h2 : ((5 * ((a0 - a1))) + a2) ≤ ((5 * ((a0 - a7))) + a8)) : ((5 * ((a0 - a1))) + a2) ≤ ((5 * ((a0 - a3))) + a4) := by omega
theorem mp_o1163 {a0 : Int} {a1 : Int} {a2 : Int} {a3 : Int} {a4 : Int} (h0 : a3 = (6 * a1)) (h1 : a4 = (144 + a3)) (h2 : a0 = (a4 + a2)) : a0 = ((144 + (6 * a1)) + a2) := by omega
theorem mp_o1164 {a0 : Int} {a1 : Int} {a2 : Int} {a3 : Int} (h0 : a0 ≠ 0) : ((a0 ≠ 0 ∨ (a1 ≠ 2 ∨ a2 ≠ a3))) := by omega
theorem mp_o1165 {a0 : Int} {a1 : Int} {a2 : Int} {a3 : Int} {a4 : Int} (h0 : a4 = a1) (h1 : a4 ≠ 2) : ((a0 ≠ 0 ∨ (a1 ≠ 2 ∨ a2 ≠ a3))) := by omega
theorem mp_o1166 {a0 : Int} {a1 : Int} {a2 : Int} {a3 : Int} {a4 : Int} {a5 : Int} (h0 : a3 ≤ 5) (h1 : a4 = 2) (h2 : a5 ≠ a3) (h3 : (a4 ≠ 2 ∨ ((a5 = a2 ∧ a2 ≤ 10000009) ∨ (a5 = 10000000 ∧ 1000000 < a2)))) : ((a0 ≠ 0 ∨ (a1 ≠ 2 ∨ a2 ≠ a3))) := by omega
theorem mp_o1167 {a0 : Int} {a1 : Int} (h0 : a1 = 2) (h1 : a1 = a0) : a0 = 2 := by omega
theorem mp_o1168 {a0 : Int} {a1 : Int} {a2 : Int} {a3 : Int} (h0 : a1 ≤ 5) (h1 : a2 = 2) (h2 : a3 = a1) (h3 : (a2 ≠ 2 ∨ ((a3 = a0 ∧ a0 ≤ 10000009) ∨ (a3 = 10000000 ∧ 1000000 < a0)))) : a0 = a1 := by omega
theorem mp_o1169 {a0 : Int} {a1 : Int} {a2 : Int} {a3 : Int} {a4 : Int} {a5 : Int} {a6 : Int} {a7 : Int} (h0 : ((a4 = 0 ∧ (a0 = 2 ∧ a5 = a6)) ∨ (a4 ≠ 0 ∧ (a0 = a4 ∧ a5 = a7)))) : ((a0 ≠ 0 ∨ (a1 ≠ 2 ∨ a2 ≠ a3))) := by omega
theorem mp_o1170 {a0 : Int} {a1 : Int} {a2 : Int} {a3 : Int} (h0 : a1 = a0) (h1 : a2 ≤ 99) (h2 : a3 = a2) (h3 : a1 ≤ a3) : a0 ≤ 99 := by omega
theorem mp_o1171 {a0 : Int} (h0 : 0 ≤ a0) : (-2147483648) ≤ (40 + a0) := by omega
theorem mp_o1172 {a0 : Int} {a1 : Int} (h0 : a1 ≤ 9) (h1 : a0 = a1) : (40 + a0) ≤ 2147483647 := by omega
theorem mp_o1173 {a0 : Int} {a1 : Int} (h0 : 0 ≤ a1) (h1 : a0 = (40 + a1)) : (-2147483648) ≤ (6 * a0) := by omega
theorem mp_o1174 {a0 : Int} {a1 : Int} {a2 : Int} (h0 : a1 ≤ 9) (h1 : a2 = a1) (h2 : a0 = (40 + a2)) : (6 * a0) ≤ 2147483647 := by omega
theorem mp_o1175 {a0 : Int} {a1 : Int} {a2 : Int} {a3 : Int} (h0 : 0 ≤ a1) (h1 : a2 = (40 + a1)) (h2 : a0 = (6 * a2)) (h3 : a3 ≤ 9) (h4 : a1 = a3) : ((0 ≤ a0 ∧ a0 < ((300 : Nat) : Int))) := by omega
theorem mp_o1176 {a0 : Int} {a1 : Int} {a2 : Int} (h0 : 0 ≤ a1) (h1 : a2 = (40 + a1)) (h2 : a0 = (6 * a2)) : 0 ≤ a0 := by omega
theorem mp_o1177 {a0 : Int} {a1 : Int} {a2 : Int} (h0 : 0 ≤ a1) (h1 : a2 = (40 + a1)) (h2 : a0 = (6 * a2)) : ((240 : Nat) : Int) ≤ a0 := by omega
theorem mp_o1178 {a0 : Int} {a1 : Int} {a2 : Int} {a3 : Int} (h0 : a2 = a0) (h1 : a3 = (40 + a2)) (h2 : a1 = (6 * a3)) : (((240 : Nat) : Int) + (6 * a0)) ≤ a1 := by omega
theorem mp_o1179 {a0 : Int} {a1 : Int} {a2 : Int} {a3 : Int} (h0 : 0 ≤ a2) (h1 : a3 = (40 + a2)) (h2 : a0 = (6 * a3)) : ((0 ≤ a0 ∧ a0 ≠ (((((240 + (6 * (Int.toNat a1))) + 5)) : Nat) : Int))) := by omega
theorem mp_o1180 {a0 : Int} {a1 : Int} {a2 : Int} {a3 : Int} (h0 : 0 ≤ a2) (h1 : a2 = a1) (h2 : a3 = (40 + a2)) (h3 : a0 = (6 * a3)) : a0 = (((((240 + (6 * (Int.toNat a1))) + 0)) : Nat) : Int) := by omega
theorem mp_o1181 {a0 : Int} {a1 : Int} {a2 : Int} {a3 : Int} (h0 : 0 ≤ a2) (h1 : a3 = (40 + a2)) (h2 : a0 = (6 * a3)) : ((0 ≤ a0 ∧ a0 ≠ (((((240 + (6 * (Int.toNat a1))) + 4)) : Nat) : Int))) := by omega
theorem mp_o1182 {a0 : Int} {a1 : Int} {a2 : Int} (h0 : 0 ≤ a1) (h1 : a2 = (40 + a1)) (h2 : a0 = (6 * a2)) : (-2147483648) ≤ (a0 + 1) := by omega
theorem mp_o1183 {a0 : Int} {a1 : Int} {a2 : Int} {a3 : Int} (h0 : a1 ≤ 9) (h1 : a2 = a1) (h2 : a3 = (40 + a2)) (h3 : a0 = (6 * a3)) : (a0 + 1) ≤ 2147483647 := by omega
theorem mp_o1184 {a0 : Int} {a1 : Int} {a2 : Int} {a3 : Int} {a4 : Int} (h0 : 0 ≤ a1) (h1 : a2 = (40 + a1)) (h2 : a3 = (6 * a2)) (h3 : a0 = (a3 + 1)) (h4 : a4 ≤ 9) (h5 : a1 = a4) : ((0 ≤ a0 ∧ a0 < ((300 : Nat) : Int))) := by omega
theorem mp_o1185 {a0 : Int} {a1 : Int} {a2 : Int} {a3 : Int} (h0 : 0 ≤ a1) (h1 : a2 = (40 + a1)) (h2 : a3 = (6 * a2)) (h3 : a0 = (a3 + 1)) : 0 ≤ a0 := by omega
theorem mp_o1186 {a0 : Int} {a1 : Int} {a2 : Int} {a3 : Int} (h0 : 0 ≤ a1) (h1 : a2 = (40 + a1)) (h2 : a3 = (6 * a2)) (h3 : a0 = (a3 + 1)) : ((240 : Nat) : Int) ≤ a0 := by omega
theorem mp_o1187 {a0 : Int} {a1 : Int} {a2 : Int} {a3 : Int} {a4 : Int} (h0 : a2 = a0) (h1 : a3 = (40 + a2)) (h2 : a4 = (6 * a3)) (h3 : a1 = (a4 + 1)) : (((240 : Nat) : Int) + (6 * a0)) ≤ a1 := by omega
theorem mp_o1188 {a0 : Int} {a1 : Int} {a2 : Int} {a3 : Int} {a4 : Int} (h0 : 0 ≤ a2) (h1 : a3 = (40 + a2)) (h2 : a4 = (6 * a3)) (h3 : a0 = (a4 + 1)) : ((0 ≤ a0 ∧ a0 ≠ (((((240 + (6 * (Int.toNat a1))) + 5)) : Nat) : Int))) := by omega
theorem mp_o1189 {a0 : Int} {a1 : Int} {a2 : Int} {a3 : Int} {a4 : Int} (h0 : 0 ≤ a2) (h1 : a3 = (40 + a2)) (h2 : a4 = (6 * a3)) (h3 : a0 = (a4 + 1)) : ((0 ≤ a0 ∧ a0 ≠ (((((240 + (6 * (Int.toNat a1))) + 0)) : Nat) : Int))) := by omega
theorem mp_o1190 {a0 : Int} {a1 : Int} {a2 : Int} {a3 : Int} {a4 : Int} (h0 : 0 ≤ a2) (h1 : a3 = (40 + a2)) (h2 : a4 = (6 * a3)) (h3 : a0 = (a4 + 1)) : ((0 ≤ a0 ∧ a0 ≠ (((((240 + (6 * (Int.toNat a1))) + 4)) : Nat) : Int))) := by omega
theorem mp_o1191 {a0 : Int} {a1 : Int} {a2 : Int} (h0 : 0 ≤ a1) (h1 : a2 = (40 + a1)) (h2 : a0 = (6 * a2)) : (-2147483648) ≤ (a0 + 2) := by omega
theorem mp_o1192 {a0 : Int} {a1 : Int} {a2 : Int} {a3 : Int} (h0 : a1 ≤ 9) (h1 : a2 = a1) (h2 : a3 = (40 + a2)) (h3 : a0 = (6 * a3)) : (a0 + 2) ≤ 2147483647 := by omega
theorem mp_o1193 {a0 : Int} {a1 : Int} {a2 : Int} {a3 : Int} {a4 : Int} (h0 : 0 ≤ a1) (h1 : a2 = (40 + a1)) (h2 : a3 = (6 * a2)) (h3 : a0 = (a3 + 2)) (h4 : a4 ≤ 9) (h5 : a1 = a4) : ((0 ≤ a0 ∧ a0 < ((300 : Nat) : Int))) := by omega
theorem mp_o1194 {a0 : Int} {a1 : Int} {a2 : Int} {a3 : Int} (h0 : 0 ≤ a1) (h1 : a2 = (40 + a1)) (h2 : a3 = (6 * a2)) (h3 : a0 = (a3 + 2)) : 0 ≤ a0 := by omega
theorem mp_o1195 {a0 : Int} {a1 : Int} {a2 : Int} {a3 : Int} (h0 : 0 ≤ a1) (h1 : a2 = (40 + a1)) (h2 : a3 = (6 * a2)) (h3 : a0 = (a3 + 2)) : ((240 : Nat) : Int) ≤ a0 := by omega
theorem mp_o1196 {a0 : Int} {a1 : Int} {a2 : Int} {a3 : Int} {a4 : Int} (h0 : a2 = a0) (h1 : a3 = (40 + a2)) (h2 : a4 = (6 * a3)) (h3 : a1 = (a4 + 2)) : (((240 : Nat) : Int) + (6 * a0)) ≤ a1 := by omega
theorem mp_o1197 {a0 : Int} {a1 : Int} {a2 : Int} {a3 : Int} {a4 : Int} (h0 : 0 ≤ a2) (h1 : a3 = (40 + a2)) (h2 : a4 = (6 * a3)) (h3 : a0 = (a4 + 2)) : ((0 ≤ a0 ∧ a0 ≠ (((((240 + (6 * (Int.toNat a1))) + 5)) : Nat) : Int))) := by omega
theorem mp_o1198 {a0 : Int} {a1 : Int} {a2 : Int} {a3 : Int} {a4 : Int} (h0 : 0 ≤ a2) (h1 : a3 = (40 + a2)) (h2 : a4 = (6 * a3)) (h3 : a0 = (a4 + 2)) : ((0 ≤ a0 ∧ a0 ≠ (((((240 + (6 * (Int.toNat a1))) + 0)) : Nat) : Int))) := by omega
theorem mp_o1199 {a0 : Int} {a1 : Int} {a2 : Int} {a3 : Int} {a4 : Int} (h0 : 0 ≤ a2) (h1 : a3 = (40 + a2)) (h2 : a4 = (6 * a3)) (h3 : a0 = (a4 + 2)) : ((0 ≤ a0 ∧ a0 ≠ (((((240 + (6 * (Int.toNat a1))) + 4)) : Nat) : Int))) := by omega
theorem mp_o1200 {a0 : Int} {a1 : Int} {a2 : Int} (h0 : 0 ≤ a1) (h1 : a2 = (40 + a1)) (h2 : a0 = (6 * a2)) : (-2147483648) ≤ (a0 + 3) := by omega
theorem mp_o1201 {a0 : Int} {a1 : Int} {a2 : Int} {a3 : Int} (h0 : a1 ≤ 9) (h1 : a2 = a1) (h2 : a3 = (40 + a2)) (h3 : a0 = (6 * a3)) : (a0 + 3) ≤ 2147483647 := by omega
theorem mp_o1202 {a0 : Int} {a1 : Int} {a2 : Int} {a3 : Int} {a4 : Int} (h0 : 0 ≤ a1) (h1 : a2 = (40 + a1)) (h2 : a3 = (6 * a2)) (h3 : a0 = (a3 + 3)) (h4 : a4 ≤ 9) (h5 : a1 = a4) : ((0 ≤ a0 ∧ a0 < ((300 : Nat) : Int))) := by omega
theorem mp_o1203 {a0 : Int} {a1 : Int} {a2 : Int} {a3 : Int} (h0 : 0 ≤ a1) (h1 : a2 = (40 + a1)) (h2 : a3 = (6 * a2)) (h3 : a0 = (a3 + 3)) : 0 ≤ a0 := by omega
theorem mp_o1204 {a0 : Int} (h0 : 0 ≤ a0) (h1 : a0 ≤ 99) : (¬ ((0 ≤ a0 ∧ a0 ≤ 99))) → ((0 ≤ a0 ∧ a0 ≤ 99)) := by omega
theorem mp_o1205 {a0 : Int} {a1 : Int} {a2 : Int} {a3 : Int} (h0 : 0 ≤ a1) (h1 : a2 = (40 + a1)) (h2 : a3 = (6 * a2)) (h3 : a0 = (a3 + 3)) : ((240 : Nat) : Int) ≤ a0 := by omega
theorem mp_o1206 {a0 : Int} {a1 : Int} {a2 : Int} {a3 : Int} {a4 : Int} (h0 : a2 = a0) (h1 : a3 = (40 + a2)) (h2 : a4 = (6 * a3)) (h3 : a1 = (a4 + 3)) : (((240 : Nat) : Int) + (6 * a0)) ≤ a1 := by omega
theorem mp_o1207 {a0 : Int} {a1 : Int} {a2 : Int} {a3 : Int} {a4 : Int} (h0 : 0 ≤ a2) (h1 : a3 = (40 + a2)) (h2 : a4 = (6 * a3)) (h3 : a0 = (a4 + 3)) : ((0 ≤ a0 ∧ a0 ≠ (((((240 + (6 * (Int.toNat a1))) + 5)) : Nat) : Int))) := by omega
theorem mp_o1208 {a0 : Int} {a1 : Int} {a2 : Int} {a3 : Int} {a4 : Int} (h0 : 0 ≤ a2) (h1 : a3 = (40 + a2)) (h2 : a4 = (6 * a3)) (h3 : a0 = (a4 + 3)) : ((0 ≤ a0 ∧ a0 ≠ (((((240 + (6 * (Int.toNat a1))) + 0)) : Nat) : Int))) := by omega
theorem mp_o1209 {a0 : Int} {a1 : Int} {a2 : Int} {a3 : Int} {a4 : Int} (h0 : 0 ≤ a2) (h1 : a3 = (40 + a2)) (h2 : a4 = (6 * a3)) (h3 : a0 = (a4 + 3)) : ((0 ≤ a0 ∧ a0 ≠ (((((240 + (6 * (Int.toNat a1))) + 4)) : Nat) : Int))) := by omega
theorem mp_o1210 {a0 : Int} {a1 : Int} {a2 : Int} (h0 : 0 ≤ a1) (h1 : a2 = (40 + a1)) (h2 : a0 = (6 * a2)) : (-2147483648) ≤ (a0 + 4) := by omega
theorem mp_o1211 {a0 : Int} {a1 : Int} {a2 : Int} {a3 : Int} (h0 : a1 ≤ 9) (h1 : a2 = a1) (h2 : a3 = (40 + a2)) (h3 : a0 = (6 * a3)) : (a0 + 4) ≤ 2147483647 := by omega
theorem mp_o1212 {a0 : Int} {a1 : Int} {a2 : Int} {a3 : Int} {a4 : Int} (h0 : 0 ≤ a1) (h1 : a2 = (40 + a1)) (h2 : a3 = (6 * a2)) (h3 : a0 = (a3 + 4)) (h4 : a4 ≤ 9) (h5 : a1 = a4) : ((0 ≤ a0 ∧ a0 < ((300 : Nat) : Int))) := by omega
theorem mp_o1213 {a0 : Int} {a1 : Int} {a2 : Int} {a3 : Int} (h0 : 0 ≤ a1) (h1 : a2 = (40 + a1)) (h2 : a3 = (6 * a2)) (h3 : a0 = (a3 + 4)) : 0 ≤ a0 := by omega
theorem mp_o1214 {a0 : Int} {a1 : Int} {a2 : Int} {a3 : Int} (h0 : 0 ≤ a1) (h1 : a2 = (40 + a1)) (h2 : a3 = (6 * a2)) (h3 : a0 = (a3 + 4)) : ((240 : Nat) : Int) ≤ a0 := by omega
theorem mp_o1215 {a0 : Int} {a1 : Int} {a2 : Int} {a3 : Int} {a4 : Int} (h0 : a2 = a0) (h1 : a3 = (40 + a2)) (h2 : a4 = (6 * a3)) (h3 : a1 = (a4 + 4)) : (((240 : Nat) : Int) + (6 * a0)) ≤ a1 := by omega
theorem mp_o1216 {a0 : Int} {a1 : Int} {a2 : Int} {a3 : Int} {a4 : Int} (h0 : 0 ≤ a2) (h1 : a3 = (40 + a2)) (h2 : a4 = (6 * a3)) (h3 : a0 = (a4 + 4)) : ((0 ≤ a0 ∧ a0 ≠ (((((240 + (6 * (Int.toNat a1))) + 5)) : Nat) : Int))) := by omega
theorem mp_o1217 {a0 : Int} {a1 : Int} {a2 : Int} {a3 : Int} {a4 : Int} (h0 : 0 ≤ a2) (h1 : a3 = (40 + a2)) (h2 : a4 = (6 * a3)) (h3 : a0 = (a4 + 4)) : ((0 ≤ a0 ∧ a0 ≠ (((((240 + (6 * (Int.toNat a1))) + 0)) : Nat) : Int))) := by omega
theorem mp_o1218 {a0 : Int} {a1 : Int} {a2 : Int} {a3 : Int} {a4 : Int} (h0 : 0 ≤ a2) (h1 : a2 = a1) (h2 : a3 = (40 + a2)) (h3 : a4 = (6 * a3)) (h4 : a0 = (a4 + 4)) : a0 = (((((240 + (6 * (Int.toNat a1))) + 4)) : Nat) : Int) := by omega
theorem mp_o1219 {a0 : Int} {a1 : Int} {a2 : Int} (h0 : 0 ≤ a1) (h1 : a2 = (40 + a1)) (h2 : a0 = (6 * a2)) : (-2147483648) ≤ (a0 + 5) := by omega
theorem mp_o1220 {a0 : Int} {a1 : Int} {a2 : Int} {a3 : Int} (h0 : a1 ≤ 9) (h1 : a2 = a1) (h2 : a3 = (40 + a2)) (h3 : a0 = (6 * a3)) : (a0 + 5) ≤ 2147483647 := by omega
theorem mp_o1221 {a0 : Int} {a1 : Int} {a2 : Int} {a3 : Int} {a4 : Int} (h0 : 0 ≤ a1) (h1 : a2 = (40 + a1)) (h2 : a3 = (6 * a2)) (h3 : a0 = (a3 + 5)) (h4 : a4 ≤ 9) (h5 : a1 = a4) : ((0 ≤ a0 ∧ a0 < ((300 : Nat) : Int))) := by omega
theorem mp_o1222 {a0 : Int} {a1 : Int} {a2 : Int} {a3 : Int} (h0 : 0 ≤ a1) (h1 : a2 = (40 + a1)) (h2 : a3 = (6 * a2)) (h3 : a0 = (a3 + 5)) : 0 ≤ a0 := by omega
theorem mp_o1223 {a0 : Int} {a1 : Int} {a2 : Int} {a3 : Int} (h0 : 0 ≤ a1) (h1 : a2 = (40 + a1)) (h2 : a3 = (6 * a2)) (h3 : a0 = (a3 + 5)) : ((240 : Nat) : Int) ≤ a0 := by omega
theorem mp_o1224 {a0 : Int} {a1 : Int} {a2 : Int} {a3 : Int} {a4 : Int} (h0 : a2 = a0) (h1 : a3 = (40 + a2)) (h2 : a4 = (6 * a3)) (h3 : a1 = (a4 + 5)) : (((240 : Nat) : Int) + (6 * a0)) ≤ a1 := by omega
theorem mp_o1225 {a0 : Int} {a1 : Int} {a2 : Int} {a3 : Int} {a4 : Int} (h0 : 0 ≤ a2) (h1 : a2 = a1) (h2 : a3 = (40 + a2)) (h3 : a4 = (6 * a3)) (h4 : a0 = (a4 + 5)) : a0 = (((((240 + (6 * (Int.toNat a1))) + 5)) : Nat) : Int) := by omega
theorem mp_o1226 {a0 : Int} {a1 : Int} {a2 : Int} {a3 : Int} {a4 : Int} (h0 : 0 ≤ a2) (h1 : a3 = (40 + a2)) (h2 : a4 = (6 * a3)) (h3 : a0 = (a4 + 5)) : ((0 ≤ a0 ∧ a0 ≠ (((((240 + (6 * (Int.toNat a1))) + 0)) : Nat) : Int))) := by omega
theorem mp_o1227 {a0 : Int} {a1 : Int} {a2 : Int} {a3 : Int} {a4 : Int} (h0 : 0 ≤ a2) (h1 : a3 = (40 + a2)) (h2 : a4 = (6 * a3)) (h3 : a0 = (a4 + 5)) : ((0 ≤ a0 ∧ a0 ≠ (((((240 + (6 * (Int.toNat a1))) + 4)) : Nat) : Int))) := by omega
theorem mp_o1228 {a0 : Int} {a1 : Int} {a2 : Int} {a3 : Int} (h0 : 0 ≤ a1) (h1 : a2 ≤ 9) (h2 : a1 = a2) (h3 : a3 = a2) (h4 : a0 = (a3 + 1)) : ((0 ≤ a0 ∧ a0 ≤ 10)) := by omega
theorem mp_o1229 {a0 : Int} {a1 : Int} {a2 : Int} {a3 : Int} (h0 : a2 = a1) (h1 : a3 = (a2 + 1)) (h2 : a0 = a3) : a0 = (a1 + 1) := by omega
theorem mp_o1230 {a0 : Int} {a1 : Int} {a2 : Int} (h0 : 0 ≤ a1) (h1 : a0 = a2) (h2 : a1 = a2) : (-2147483648) ≤ (a0 - 1) := by omega
theorem mp_o1231 {a0 : Int} {a1 : Int} (h0 : a1 ≤ 9) (h1 : a0 = a1) : (a0 - 1) ≤ 2147483647 := by omega
theorem mp_o1232 {a0 : Int} {a1 : Int} {a2 : Int} {a3 : Int} (h0 : 0 ≤ a1) (h1 : a0 = (a2 - 1)) (h2 : a1 = a3) (h3 : a2 = a3) : (-1) ≤ a0 := by omega
theorem mp_o1233 {a0 : Int} {a1 : Int} {a2 : Int} (h0 : a1 ≤ 9) (h1 : a2 = a1) (h2 : a0 = (a2 - 1)) : a0 ≤ 9 := by omega
theorem mp_o1234 {a0 : Int} {a1 : Int} {a2 : Int} (h0 : a1 ≤ 9) (h1 : a2 = a1) (h2 : a0 = (a2 - 1)) : a0 ≤ 1000000 := by omega
theorem mp_o1235 {a0 : Int} {a1 : Int} {a2 : Int} {a3 : Int} {a4 : Int} (h0 : a0 = 0) (h1 : ¬ (a1 = 419)) (h2 : (a0 ≠ 0 ∨ (a2 = 1 ∧ (((0 = 1 ∧ (a1 = 2495756 ∧ a3 ≠ 1)) ∨ (0 = 0 ∧ (a1 = 419 ∧ a4 = (-1)))))))) : False := by omega
theorem mp_o1236 {a0 : Int} {a1 : Int} {a2 : Int} {a3 : Int} {a4 : Int} (h0 : a1 = 0) (h1 : (a1 ≠ 0 ∨ (a2 = 1 ∧ (((0 = 1 ∧ (a0 = 2495756 ∧ a3 ≠ 1)) ∨ (0 = 0 ∧ (a0 = 419 ∧ a4 = (-1)))))))) : a0 = 419 := by omega
theorem mp_o1237 {a0 : Int} {a1 : Int} {a2 : Int} {a3 : Int} {a4 : Int} (h0 : a1 = 0) (h1 : (a1 ≠ 0 ∨ (a2 = 1 ∧ (((0 = 1 ∧ (a3 = 2495756 ∧ a4 ≠ 1)) ∨ (0 = 0 ∧ (a3 = 419 ∧ a0 = (-1)))))))) : (a0 ≠ (-1)) → False := by omega
theorem mp_o1238 {a0 : Int} {a1 : Int} {a2 : Int} {a3 : Int} {a4 : Int} {a5 : Int} (h0 : a3 = a2) (h1 : a4 = (a3 - 1)) (h2 : a1 = a5) (h3 : (a0 ≠ 0 ∨ (0 ≤ a5 ∧ a5 ≤ a4))) : ((a0 ≠ 0 ∨ ((-1) ≤ a1 ∧ a1 < a2))) := by omega
theorem mp_o1239 {a0 : Int} {a1 : Int} {a2 : Int} {a3 : Int} {a4 : Int} (h0 : a2 = a1) (h1 : a3 = (40 + a2)) (h2 : a4 = (6 * a3)) (h3 : a0 = (a4 + 5)) : a0 = (245 + (6 * a1)) := by omega
theorem mp_o1240 {a0 : Int} {a1 : Int} {a2 : Int} {a3 : Int} {a4 : Int} {a5 : Int} {a6 : Int} (h0 : ((a3 = 0 ∧ (a0 = 1 ∧ a4 = a5)) ∨ (a3 ≠ 0 ∧ (a0 = a3 ∧ a4 = a6)))) : ((a0 ≠ 0 ∨ ((-1) ≤ a1 ∧ a1 < a2))) := by omega
theorem mp_o1241 {a0 : Int} {a1 : Int} {a2 : Int} {a3 : Int} {a4 : Int} {a5 : Int} {a6 : Int} {a7 : Int} {a8 : Int} (h0 : ((a5 = 0 ∧ (a0 = 1 ∧ a6 = a7)) ∨ (a5 ≠ 0 ∧ (a0 = a5 ∧ a6 = a8)))) : ((a0 ≠ 0 ∨ (a1 = 1 ∧ (((0 = 1 ∧ (a2 = 2495756 ∧ a3 ≠ 1)) ∨ (0 = 0 ∧ (a2 = 419 ∧ a4 = (-1)))))))) := by omega
theorem mp_o1242 {a0 : Int} {a1 : Int} {a2 : Int} {a3 : Int} {a4 : Int} {a5 : Int} (h0 : (a0 = 0 ∧ (a1 = 1 ∧ a2 = 419))) (h1 : a5 = (-1)) (h2 : a5 = a4) : ((a0 ≠ 0 ∨ (a1 = 1 ∧ (((0 = 1 ∧ (a2 = 2495756 ∧ a3 ≠ 1)) ∨ (0 = 0 ∧ (a2 = 419 ∧ a4 = (-1)))))))) := by omega
theorem mp_o1243 {a0 : Int} {a1 : Int} {a2 : Int} {a3 : Int} {a4 : Int} {a5 : Int} {a6 : Int} (h0 : a2 ≤ 4) (h1 : a5 = 1) (h2 : ((5 * ((a0 - a6))) + a5) ≤ ((5 * ((a0 - a3))) + a4)) (h3 : ((a2 = 0 ∧ a6 ≤ a1) ∨ (a6 + 1) ≤ a1)) : ((5 * ((a0 - a1))) + a2) ≤ ((5 * ((a0 - a3))) + a4) := by omega
theorem mp_o1244 {a0 : Int} {a1 : Int} {a2 : Int} {a3 : Int} (h0 : a1 = a3) (h1 : (a0 ≠ 0 ∨ ((-1) ≤ a3 ∧ a3 < a2))) : ((a0 ≠ 0 ∨ ((-1) ≤ a1 ∧ a1 < a2))) := by omega
theorem mp_o1245 {a0 : Int} {a1 : Int} {a2 : Int} (h0 : (a1 = 0 ∧ (a2 = 1 ∧ a0 = 2495756))) : a0 = 2495756 := by omega
theorem mp_o1246 {a0 : Int} {a1 : Int} {a2 : Int} {a3 : Int} {a4 : Int} (h0 : a1 = 0) (h1 : (a1 ≠ 0 ∨ (a2 = 1 ∧ (((1 = 1 ∧ (a3 = 2495756 ∧ a0 ≠ 1)) ∨ (1 = 0 ∧ (a3 = 419 ∧ a4 = (-1)))))))) : (a0 = 1) → False := by omega
theorem mp_o1247 {a0 : Int} {a1 : Int} {a2 : Int} {a3 : Int} {a4 : Int} (h0 : a2 = a1) (h1 : a3 = (40 + a2)) (h2 : a4 = (6 * a3)) (h3 : a0 = (a4 + 4)) : a0 = (244 + (6 * a1)) := by omega
theorem mp_o1248 {a0 : Int} {a1 : Int} {a2 : Int} {a3 : Int} {a4 : Int} (h0 : ((a2 = 0 ∧ a3 ≤ a1) ∨ (a3 + 1) ≤ a1)) (h1 : a2 ≤ 4) (h2 : a4 = 1) : (((5 * ((a0 - a1))) + a2) + 1) ≤ ((5 * ((a0 - a3))) + a4) := by omega
theorem mp_o1249 {a0 : Int} {a1 : Int} {a2 : Int} {a3 : Int} {a4 : Int} (h0 : a1 ≤ 9) (h1 : a2 = a1) (h2 : a3 = (40 + a2)) (h3 : a4 = (6 * a3)) (h4 : a0 = (a4 + 4)) : a0 < ((300 : Nat) : Int) := by omega
theorem mp_o1250 {a0 : Int} {a1 : Int} {a2 : Int} (h0 : a0 = (a1 + 4)) (h1 : a1 = (6 * a2)) : (a0 % ((6 : Nat) : Int)) = ((4 : Nat) : Int) := by omega
theorem mp_o1251 {a0 : Int} {a1 : Int} {a2 : Int} {a3 : Int} {a4 : Int} {a5 : Int} (h0 : (a0 = 0 ∧ (a1 = 1 ∧ a2 = 2495756))) (h1 : a5 = a3) (h2 : a5 ≠ 1) : ((a0 ≠ 0 ∨ (a1 = 1 ∧ (((1 = 1 ∧ (a2 = 2495756 ∧ a3 ≠ 1)) ∨ (1 = 0 ∧ (a2 = 419 ∧ a4 = (-1)))))))) := by omega
theorem mp_o1252 {a0 : Int} {a1 : Int} (h0 : a0 = 1) (h1 : a0 = a1) (h2 : ¬ (a1 = 1)) : False := by omega
theorem mp_o1253 {a0 : Int} {a1 : Int} {a2 : Int} {a3 : Int} {a4 : Int} {a5 : Int} {a6 : Int} {a7 : Int} {a8 : Int} (h0 : ((a5 = 0 ∧ (a0 = 1 ∧ a6 = a7)) ∨ (a5 ≠ 0 ∧ (a0 = a5 ∧ a6 = a8)))) : ((a0 ≠ 0 ∨ (a1 = 1 ∧ (((1 = 1 ∧ (a2 = 2495756 ∧ a3 ≠ 1)) ∨ (1 = 0 ∧ (a2 = 419 ∧ a4 = (-1)))))))) := by omega
theorem mp_o1254 {a0 : Int} {a1 : Int} {a2 : Int} {a3 : Int} {a4 : Int} {a5 : Int} {a6 : Int} {a7 : Int} {a8 : Int} {a9 : Int} {a10 : Int} (h0 : ((5 * ((a0 - a5))) + a6) ≤ ((5 * ((a0 - a3))) + a4)) (h1 : ((5 * ((a0 - a7))) + a8) ≤ ((5 * ((a0 - a5))) + a6)) (h2 : ((5 * ((a0 - a9))) + a10) ≤ ((5 * ((a0 - a7))) + a8)) (h3 : ((5 * ((a0 - a1))) + a2) ≤ ((5 * ((a0 - a9))) + a10)) : ((5 * ((a0 - a1))) + a2) ≤ ((5 * ((a0 - a3))) + a4) := by omega
theorem mp_o1255 {a0 : Int} {a1 : Int} {a2 : Int} {a3 : Int} (h0 : a1 = (-1)) (h1 : 0 ≤ a3) (h2 : a3 = a2) : ((a0 ≠ 0 ∨ ((-1) ≤ a1 ∧ a1 < a2))) := by omega
theorem mp_o1256 {a0 : Int} {a1 : Int} {a2 : Int} {a3 : Int} (h0 : a2 = a1) (h1 : a3 = (40 + a2)) (h2 : a0 = (6 * a3)) : a0 = (240 + (6 * a1)) := by omega
theorem mp_o1257 {a0 : Int} {a1 : Int} {a2 : Int} {a3 : Int} {a4 : Int} (h0 : a2 = a1) (h1 : a3 = (40 + a2)) (h2 : a4 = (6 * a3)) (h3 : a0 = (a4 + 1)) : a0 = (241 + (6 * a1)) := by omega
theorem mp_o1258 {a0 : Int} {a1 : Int} {a2 : Int} {a3 : Int} {a4 : Int} (h0 : a2 = a1) (h1 : a3 = (40 + a2)) (h2 : a4 = (6 * a3)) (h3 : a0 = (a4 + 2)) : a0 = (242 + (6 * a1)) := by omega
theorem mp_o1259 {a0 : Int} {a1 : Int} {a2 : Int} {a3 : Int} {a4 : Int} (h0 : a2 = a1) (h1 : a3 = (40 + a2)) (h2 : a4 = (6 * a3)) (h3 : a0 = (a4 + 3)) : a0 = (243 + (6 * a1)) := by omega
theorem mp_o1260 {a0 : Int} {a1 : Int} (h0 : a1 = 0) (h1 : a0 = a1) : (a0 = 1) → False := by omega
theorem mp_o1261 {a0 : Int} (h0 : a0 = (-1)) : (a0 ≠ (-1)) → False := by omega
theorem mp_o1262 {a0 : Int} {a1 : Int} {a2 : Int} {a3 : Int} (h0 : a1 ≤ 9) (h1 : a2 = a1) (h2 : a3 = (40 + a2)) (h3 : a0 = (6 * a3)) : a0 < ((300 : Nat) : Int) := by omega
theorem mp_o1263 {a0 : Int} {a1 : Int} (h0 : a0 = (6 * a1)) : (a0 % ((6 : Nat) : Int)) = ((0 : Nat) : Int) := by omega
theorem mp_o1264 {a0 : Int} {a1 : Int} {a2 : Int} {a3 : Int} {a4 : Int} {a5 : Int} {a6 : Int} (h0 : a4 = 2) (h1 : a5 = a3) (h2 : (0 ≤ a5 ∧ a5 ≤ 5)) (h3 : a6 ≠ a5) (h4 : (a4 ≠ 2 ∨ ((a6 = a2 ∧ a2 ≤ 10000009) ∨ (a6 = 10000000 ∧ 1000000 < a2)))) : ((a0 ≠ 0 ∨ (a1 ≠ 2 ∨ a2 ≠ a3))) := by omega
theorem mp_o1265 {a0 : Int} {a1 : Int} {a2 : Int} {a3 : Int} {a4 : Int} {a5 : Int} (h0 : a2 = 2) (h1 : a3 = a1) (h2 : a4 = a3) (h3 : (0 ≤ a4 ∧ a4 ≤ 5)) (h4 : a5 = a4) (h5 : (a2 ≠ 2 ∨ ((a5 = a0 ∧ a0 ≤ 10000009) ∨ (a5 = 10000000 ∧ 1000000 < a0)))) : a0 = a1 := by omega
theorem mp_o1273 {a0 : Int} (h0 : 0 ≤ a0) : (-2147483648) ≤ (100 * a0) := by omega
theorem mp_o1274 {a0 : Int} (h0 : a0 ≤ 5) : (100 * a0) ≤ 2147483647 := by omega
theorem mp_o1299 {a0 : Int} {a1 : Int} {a2 : Int} {a3 : Int} (h0 : a0 ≠ 0) : ((a0 ≠ 0 ∨ (((5 * ((a1 - a2))) + a3) + 1) ≤ ((5 * ((a1 - a2))) + a3))) := by omega
theorem mp_o1300 {a0 : Int} {a1 : Int} {a2 : Int} {a3 : Int} {a4 : Nat} (h0 : a0 ≠ 0) : (((a0 ≠ 0 ∧ (a0 = a0 ∧ a1 = a1)) ∨ ((a0 = 0 ∧ (a2 = 3 ∧ (a0 = 0 ∧ a3 = ((a4 : Nat) : Int)))) ∨ (a0 = 0 ∧ (a2 ≠ 3 ∧ (a0 = 1 ∧ a1 = a3)))))) := by omega
theorem mp_o1301 {a0 : Int} {a1 : Int} {a2 : Int} {a3 : Int} {a4 : Int} (h0 : ((a2 = 0 ∧ a3 ≤ a1) ∨ (a3 + 1) ≤ a1)) (h1 : a2 ≤ 4) (h2 : a4 = 3) : ((5 * ((a0 - a1))) + a2) ≤ ((5 * ((a0 - a3))) + a4) := by omega
theorem mp_o1302 {a0 : Int} {a1 : Int} {a2 : Int} {a3 : Int} {a4 : Int} {a5 : Int} (h0 : ((a3 = 0 ∧ a4 ≤ a2) ∨ (a4 + 1) ≤ a2)) (h1 : a3 ≤ 4) (h2 : a5 = 3) : ((a0 ≠ 0 ∨ (((5 * ((a1 - a2))) + a3) + 1) ≤ ((5 * ((a1 - a4))) + a5))) := by omega
theorem mp_o1303 {a0 : Int} {a1 : Int} {a2 : Int} {a3 : Int} {a4 : Int} {a5 : Int} {a6 : Nat} {a7 : Int} (h0 : ((a0 = 0 ∧ (a1 = 1 ∧ a2 = a5)) ∨ (a0 ≠ 0 ∧ (a1 = a0 ∧ a2 = a3)))) (h1 : a7 = a4) (h2 : a7 ≠ 3) : (((a0 ≠ 0 ∧ (a1 = a0 ∧ a2 = a3)) ∨ ((a0 = 0 ∧ (a4 = 3 ∧ (a1 = 0 ∧ a5 = ((a6 : Nat) : Int)))) ∨ (a0 = 0 ∧ (a4 ≠ 3 ∧ (a1 = 1 ∧ a2 = a5)))))) := by omega
theorem mp_o1304 {a0 : Int} {a1 : Int} {a2 : Int} {a3 : Int} {a4 : Int} (h0 : ((a2 = 0 ∧ a3 ≤ a1) ∨ (a3 + 1) ≤ a1)) (h1 : 0 ≤ a4) (h2 : a2 ≤ 4) : ((5 * ((a0 - a1))) + a2) ≤ ((5 * ((a0 - a3))) + a4) := by omega
theorem mp_o1305 {a0 : Int} {a1 : Int} {a2 : Int} {a3 : Int} {a4 : Int} {a5 : Int} {a6 : Int} {a7 : Int} {a8 : Int} {a9 : Int} (h0 : ((a6 = 0 ∧ (a0 = 1 ∧ a7 = a8)) ∨ (a6 ≠ 0 ∧ (a0 = a6 ∧ a7 = a9)))) : ((a0 ≠ 0 ∨ (((5 * ((a1 - a2))) + a3) + 1) ≤ ((5 * ((a1 - a4))) + a5))) := by omega
theorem mp_o1306 {a0 : Int} {a1 : Int} {a2 : Int} {a3 : Int} {a4 : Int} (h0 : a1 = 0) (h1 : ((a0 = 0 ∧ (a1 = 1 ∧ a2 = a3)) ∨ (a0 ≠ 0 ∧ (a1 = a0 ∧ a2 = a4)))) : a0 = 0 := by omega
theorem mp_o1307 {a0 : Int} {a1 : Int} {a2 : Int} {a3 : Int} {a4 : Int} {a5 : Int} (h0 : a1 = 0) (h1 : ((a2 = 0 ∧ (a1 = 1 ∧ a3 = a4)) ∨ (a2 ≠ 0 ∧ (a1 = a2 ∧ a3 = a5)))) : a0 = 3 := by omega
theorem mp_o1308 {a0 : Int} {a1 : Int} {a2 : Int} {a3 : Int} {a4 : Int} {a5 : Int} (h0 : ((a2 = 0 ∧ (a0 = 2 ∧ a3 = a4)) ∨ (a2 ≠ 0 ∧ (a0 = a2 ∧ a3 = a5)))) : ((a0 ≠ 0 ∨ (1 ≤ a1 ∧ a1 ≤ 6))) := by omega
theorem mp_o1309 {a0 : Int} {a1 : Int} {a2 : Int} {a3 : Int} (h0 : a1 = 1) (h1 : a2 = 6) (h2 : a3 = a0) (h3 : (a3 < a1 ∨ a2 < a3)) : ((a0 < 1 ∨ 6 < a0)) := by omega
theorem mp_o1310 {a0 : Int} {a1 : Int} (h0 : 1 ≤ a1) (h1 : a1 = a0) : 1 ≤ a0 := by omega
theorem mp_o1311 {a0 : Int} {a1 : Int} (h0 : a1 = a0) (h1 : a1 ≤ 6) : a0 ≤ 6 := by omega
theorem mp_o1312 {a0 : Int} {a1 : Int} {a2 : Int} (h0 : 1 ≤ a2) (h1 : a2 = a1) (h2 : a2 ≤ 6) : ((a0 ≠ 0 ∨ (1 ≤ a1 ∧ a1 ≤ 6))) := by omega
theorem mp_o1313 {a0 : Int} {a1 : Int} (h0 : 1 ≤ a1) (h1 : a1 = a0) (h2 : a1 ≤ 6) : ((1 ≤ a0 ∧ a0 ≤ 6)) := by omega
theorem mp_o1314 {a0 : Int} {a1 : Int} {a2 : Int} {a3 : Int} {a4 : Int} {a5 : Int} (h0 : ((a2 = 0 ∧ (a0 = 1 ∧ a3 = a4)) ∨ (a2 ≠ 0 ∧ (a0 = a2 ∧ a3 = a5)))) : ((a0 ≠ 0 ∨ (1 ≤ a1 ∧ a1 ≤ 6))) := by omega
theorem mp_o1315 {a0 : Int} {a1 : Int} (h0 : a0 ≠ 0) : ((a0 ≠ 0 ∨ (1 ≤ a1 ∧ a1 ≤ 6))) := by omega
theorem mp_o1316 {a0 : Int} {a1 : Int} (h0 : a0 ≠ 0) : (((a0 = 0 ∧ a1 = (-1)) ∨ (a0 ≠ 0 ∧ a1 = a1))) := by omega
theorem mp_o1317 {a0 : Int} {a1 : Int} {a2 : Int} (h0 : a0 = 0) (h1 : a1 = (-1)) : (((a0 = 0 ∧ a1 = (-1)) ∨ (a0 ≠ 0 ∧ a1 = a2))) := by omega
theorem mp_o1318 {a0 : Int} (h0 : 1 ≤ a0) (h1 : a0 ≤ 1) : (Int.toNat a0) = 1 := by omega
theorem mp_o1319 {a0 : Int} (h0 : 0 ≤ a0) : (-2147483648) ≤ (0 + a0) := by omega
theorem mp_o1320 {a0 : Int} (h0 : a0 < 1) : (0 + a0) ≤ 2147483647 := by omega
theorem mp_o1321 {a0 : Int} (h0 : 0 ≤ a0) : (-2147483648) ≤ (4 + a0) := by omega
theorem mp_o1322 {a0 : Int} (h0 : a0 < 1) : (4 + a0) ≤ 2147483647 := by omega
theorem mp_o1323 {a0 : Int} {a1 : Int} (h0 : 0 ≤ a1) (h1 : a0 = (4 + a1)) (h2 : a1 < 1) : ((0 ≤ a0 ∧ a0 < ((5 : Nat) : Int))) := by omega
theorem mp_o1324 {a0 : Int} {a1 : Int} (h0 : 0 ≤ a1) (h1 : a0 = (0 + a1)) (h2 : a1 < 1) : ((0 ≤ a0 ∧ a0 < ((5 : Nat) : Int))) := by omega
theorem mp_o1325 {a0 : Int} (h0 : a0 < 1) : (a0 + 1) ≤ 2147483647 := by omega
theorem mp_o1326 {a0 : Nat} {a1 : Int} (h0 : ((-a1) + 1) ≤ ((a0 : Nat) : Int)) (h1 : a1 < 1) : (a0 - 1) < a0 := by omega
theorem mp_o1327 {a0 : Int} {a1 : Int} (h0 : a1 < 1) (h1 : a0 = (a1 + 1)) : a0 ≤ 1 := by omega
theorem mp_o1328 {a0 : Int} {a1 : Int} (h0 : 0 ≤ a1) (h1 : a0 = (0 + a1)) : a0 = (((0 : Nat) : Int) + (((Int.toNat a1) : Nat) : Int)) := by omega
theorem mp_o1329 {a0 : Int} {a1 : Int} (h0 : 0 ≤ a1) (h1 : a0 = (4 + a1)) : a0 = (((4 : Nat) : Int) + (((Int.toNat a1) : Nat) : Int)) := by omega
theorem mp_o1330 : (((4 + 1) ≤ 0 ∨ (0 + 1) ≤ 4)) := by omega
theorem mp_o1331 {a0 : Int} (h0 : a0 < 1) : (Int.toNat a0) < 1 := by omega
theorem mp_o1332 {a0 : Int} {a1 : Nat} {a2 : Int} (h0 : 0 ≤ a2) (h1 : a0 = (a2 + 1)) : ((-a0) + 1) ≤ ((((a1 - 1)) : Nat) : Int) := by omega
theorem mp_o1333 {a0 : Int} (h0 : 5 ≤ a0) (h1 : a0 ≤ 5) : (Int.toNat a0) = 5 := by omega
theorem mp_o1334 {a0 : Int} (h0 : 0 ≤ a0) : (-2147483648) ≤ (20 + a0) := by omega
theorem mp_o1335 {a0 : Int} {a1 : Int} (h0 : 0 ≤ a1) (h1 : a0 = (20 + a1)) (h2 : a1 < 5) : ((0 ≤ a0 ∧ a0 < ((25 : Nat) : Int))) := by omega
theorem mp_o1336 {a0 : Int} {a1 : Int} {a2 : Int} {a3 : Int} (h0 : (((a2 % 5) = 0 → (0 ≤ a1 ∧ a1 ≤ 6)))) (h1 : a0 = (0 + a3)) (h2 : a2 = (20 + a3)) : ((a0 % ((5 : Nat) : Int)) = ((0 : Nat) : Int)) → ((0 ≤ a1 ∧ a1 ≤ 6)) := by omega
theorem mp_o1337 {a0 : Int} {a1 : Int} {a2 : Int} {a3 : Int} (h0 : (((a2 % 5) = 1 → (0 ≤ a1 ∧ a1 ≤ 99)))) (h1 : a0 = (0 + a3)) (h2 : a2 = (20 + a3)) : ((a0 % ((5 : Nat) : Int)) = ((1 : Nat) : Int)) → ((0 ≤ a1 ∧ a1 ≤ 99)) := by omega
theorem mp_o1338 {a0 : Int} {a1 : Int} {a2 : Int} {a3 : Int} (h0 : (((a2 % 5) = 2 → (0 ≤ a1 ∧ a1 ≤ 6)))) (h1 : a0 = (0 + a3)) (h2 : a2 = (20 + a3)) : ((a0 % ((5 : Nat) : Int)) = ((2 : Nat) : Int)) → ((0 ≤ a1 ∧ a1 ≤ 6)) := by omega
theorem mp_o1339 {a0 : Int} {a1 : Int} {a2 : Int} {a3 : Int} (h0 : (((a2 % 5) = 3 → (0 ≤ a1 ∧ a1 ≤ 10)))) (h1 : a0 = (0 + a3)) (h2 : a2 = (20 + a3)) : ((a0 % ((5 : Nat) : Int)) = ((3 : Nat) : Int)) → ((0 ≤ a1 ∧ a1 ≤ 10)) := by omega
theorem mp_o1340 {a0 : Int} {a1 : Int} {a2 : Int} {a3 : Int} (h0 : (((a2 % 5) = 4 → (0 ≤ a1 ∧ a1 ≤ 60)))) (h1 : a0 = (0 + a3)) (h2 : a2 = (20 + a3)) : ((a0 % ((5 : Nat) : Int)) = ((4 : Nat) : Int)) → ((0 ≤ a1 ∧ a1 ≤ 60)) := by omega
theorem mp_o1341 {a0 : Int} {a1 : Int} (h0 : 0 ≤ a1) (h1 : a0 = (0 + a1)) : 0 ≤ a0 := by omega
theorem mp_o1342 {a0 : Nat} {a1 : Int} (h0 : ((-a1) + 5) ≤ ((a0 : Nat) : Int)) (h1 : a1 < 5) : (a0 - 1) < a0 := by omega
theorem mp_o1343 : (((20 + 5) ≤ 0 ∨ (0 + 5) ≤ 20)) := by omega
theorem mp_o1344 {a0 : Int} {a1 : Int} (h0 : a1 < 5) (h1 : a0 = (a1 + 1)) : a0 ≤ 5 := by omega
theorem mp_o1345 {a0 : Int} (h0 : 36 ≤ a0) (h1 : a0 ≤ 36) : (Int.toNat a0) = 36 := by omega
theorem mp_o1346 {a0 : Int} {a1 : Int} (h0 : 0 ≤ a1) (h1 : a0 = (0 + a1)) (h2 : a1 < 36) : ((0 ≤ a0 ∧ a0 < ((180 : Nat) : Int))) := by omega
theorem mp_o1347 : (((144 + 36) ≤ 0 ∨ (0 + 36) ≤ 144)) := by omega
theorem mp_o1348 {a0 : Int} (h0 : 18 ≤ a0) (h1 : a0 ≤ 18) : (Int.toNat a0) = 18 := by omega
theorem mp_o1349 {a0 : Int} (h0 : 0 ≤ a0) : (-2147483648) ≤ (72 + a0) := by omega
theorem mp_o1350 {a0 : Int} {a1 : Int} (h0 : 0 ≤ a1) (h1 : a0 = (72 + a1)) (h2 : a1 < 18) : ((0 ≤ a0 ∧ a0 < ((90 : Nat) : Int))) := by omega
theorem mp_o1351 {a0 : Int} {a1 : Int} {a2 : Int} {a3 : Int} (h0 : (((a2 % 3) = 0 → (0 ≤ a1 ∧ a1 ≤ 5)))) (h1 : a0 = (0 + a3)) (h2 : a2 = (72 + a3)) : ((a0 % ((3 : Nat) : Int)) = ((0 : Nat) : Int)) → ((0 ≤ a1 ∧ a1 ≤ 5)) := by omega
theorem mp_o1352 {a0 : Int} {a1 : Int} {a2 : Int} {a3 : Int} (h0 : (((a2 % 3) = 1 → ((-1) ≤ a1 ∧ a1 ≤ 99)))) (h1 : a0 = (0 + a3)) (h2 : a2 = (72 + a3)) : ((a0 % ((3 : Nat) : Int)) = ((1 : Nat) : Int)) → (((-1) ≤ a1 ∧ a1 ≤ 99)) := by omega
theorem mp_o1353 {a0 : Int} {a1 : Int} (h0 : 0 ≤ a1) (h1 : a0 = (0 + a1)) (h2 : a1 < 18) : ((0 ≤ a0 ∧ a0 < ((90 : Nat) : Int))) := by omega
theorem mp_o1354 {a0 : Nat} {a1 : Int} (h0 : ((-a1) + 18) ≤ ((a0 : Nat) : Int)) (h1 : a1 < 18) : (a0 - 1) < a0 := by omega
theorem mp_o1355 : (((72 + 18) ≤ 0 ∨ (0 + 18) ≤ 72)) := by omega
theorem mp_o1356 {a0 : Int} {a1 : Int} (h0 : a1 < 18) (h1 : a0 = (a1 + 1)) : a0 ≤ 20 := by omega
theorem mp_o1357 {a0 : Int} (h0 : 60 ≤ a0) (h1 : a0 ≤ 60) : (Int.toNat a0) = 60 := by omega
theorem mp_o1358 {a0 : Int} (h0 : 0 ≤ a0) : (-2147483648) ≤ (240 + a0) := by omega
theorem mp_o1359 {a0 : Int} {a1 : Int} (h0 : 0 ≤ a1) (h1 : a0 = (240 + a1)) (h2 : a1 < 60) : ((0 ≤ a0 ∧ a0 < ((300 : Nat) : Int))) := by omega
theorem mp_o1360 {a0 : Int} {a1 : Int} {a2 : Int} {a3 : Int} (h0 : (((a2 % 6) = 0 → (0 ≤ a1 ∧ a1 ≤ 5)))) (h1 : a0 = (0 + a3)) (h2 : a2 = (240 + a3)) : ((a0 % ((6 : Nat) : Int)) = ((0 : Nat) : Int)) → ((0 ≤ a1 ∧ a1 ≤ 5)) := by omega
theorem mp_o1361 {a0 : Int} {a1 : Int} {a2 : Int} {a3 : Int} (h0 : (((a2 % 6) = 1 → (0 ≤ a1 ∧ a1 ≤ 5)))) (h1 : a0 = (0 + a3)) (h2 : a2 = (240 + a3)) : ((a0 % ((6 : Nat) : Int)) = ((1 : Nat) : Int)) → ((0 ≤ a1 ∧ a1 ≤ 5)) := by omega
theorem mp_o1362 {a0 : Int} {a1 : Int} {a2 : Int} {a3 : Int} (h0 : (((a2 % 6) = 3 → (0 ≤ a1 ∧ a1 ≤ 99)))) (h1 : a0 = (0 + a3)) (h2 : a2 = (240 + a3)) : ((a0 % ((6 : Nat) : Int)) = ((3 : Nat) : Int)) → ((0 ≤ a1 ∧ a1 ≤ 99)) := by omega
theorem mp_o1363 {a0 : Int} {a1 : Int} {a2 : Int} {a3 : Int} (h0 : (((a2 % 6) = 4 → (0 ≤ a1 ∧ a1 ≤ 1)))) (h1 : a0 = (0 + a3)) (h2 : a2 = (240 + a3)) : ((a0 % ((6 : Nat) : Int)) = ((4 : Nat) : Int)) → ((0 ≤ a1 ∧ a1 ≤ 1)) := by omega
theorem mp_o1364 {a0 : Nat} {a1 : Int} (h0 : ((-a1) + 60) ≤ ((a0 : Nat) : Int)) (h1 : a1 < 60) : (a0 - 1) < a0 := by omega
theorem mp_o1365 : (((240 + 60) ≤ 0 ∨ (0 + 60) ≤ 240)) := by omega
theorem mp_o1366 {a0 : Int} (h0 : 600 ≤ a0) (h1 : a0 ≤ 600) : (Int.toNat a0) = 600 := by omega
theorem mp_o1367 {a0 : Int} (h0 : a0 < 600) : (0 + a0) ≤ 2147483647 := by omega
theorem mp_o1368 {a0 : Int} {a1 : Int} (h0 : 0 ≤ a1) (h1 : a0 = (2400 + a1)) : 0 ≤ a0 := by omega
theorem mp_o1369 {a0 : Int} {a1 : Int} (h0 : a1 < 600) (h1 : a0 = (2400 + a1)) : a0 < ((3000 : Nat) : Int) := by omega
theorem mp_o1370 {a0 : Int} {a1 : Int} (h0 : 0 ≤ a1) (h1 : a0 = (0 + a1)) (h2 : a1 < 600) : ((0 ≤ a0 ∧ a0 < ((3000 : Nat) : Int))) := by omega
theorem mp_o1371 {a0 : Int} (h0 : (0 ≤ a0 ∧ a0 ≤ 1)) : 0 ≤ a0 := by omega
theorem mp_o1372 {a0 : Int} (h0 : (0 ≤ a0 ∧ a0 ≤ 1)) : a0 ≤ 1 := by omega
theorem mp_o1373 {a0 : Int} {a1 : Int} (h0 : 0 ≤ a1) (h1 : a0 = (2400 + a1)) : a0 = (((2400 : Nat) : Int) + (((Int.toNat a1) : Nat) : Int)) := by omega
theorem mp_o1374 : (((2400 + 600) ≤ 0 ∨ (0 + 600) ≤ 2400)) := by omega
theorem mp_o1375 {a0 : Int} (h0 : a0 < 600) : (Int.toNat a0) < 600 := by omega
theorem mp_o1376 {a0 : Int} (h0 : a0 = 0) : 0 ≤ a0 := by omega
theorem mp_o1377 {a0 : Int} {a1 : Int} (h0 : a1 = 0) (h1 : a1 ≠ 0) : a0 = 0 := by omega
theorem mp_o1378 {a0 : Int} {a1 : Int} {a2 : Int} (h0 : a2 = 0) (h1 : a2 ≠ 0) : a0 = a1 := by omega
theorem mp_o1379 {a0 : Int} {a1 : Int} {a2 : Int} (h0 : a1 = 0) (h1 : ((a1 = 0 ∧ a0 = (-1)) ∨ (a1 ≠ 0 ∧ a0 = a2))) : a0 = (-1) := by omega
theorem mp_o1380 {a0 : Int} {a1 : Int} (h0 : a1 ≠ 0) (h1 : a0 = a1) : (a0 = 0) → False := by omega
theorem mp_o1381 {a0 : Int} {a1 : Nat} {a2 : Int} {a3 : Int} (h0 : ((a1 : Nat) : Int) = a2) (h1 : a3 ≠ 0) (h2 : ((a3 = 0 ∧ a0 = (-1)) ∨ (a3 ≠ 0 ∧ a0 = a2))) : a0 = ((a1 : Nat) : Int) := by omega
theorem mp_o1382 {a0 : Int} {a1 : Int} {a2 : Int} {a3 : Int} {a4 : Int} {a5 : Int} (h0 : a0 = a1) (h1 : (0 ≤ a1 ∧ ((a2 ≠ 0 ∨ ((a1 + (5 * ((a3 - a4)))) + a5) ≤ 8004)))) : (-2147483648) ≤ (a0 + 1) := by omega
theorem mp_o1383 {a0 : Int} {a1 : Int} {a2 : Int} {a3 : Int} {a4 : Int} {a5 : Int} {a6 : Int} {a7 : Int} {a8 : Int} {a9 : Int} {a10 : Int} (h0 : a1 ≠ 0) (h1 : a0 = a5) (h2 : a5 = (a6 + 1)) (h3 : a6 = a7) (h4 : (0 ≤ a7 ∧ ((a8 ≠ 0 ∨ ((a7 + (5 * ((a2 - a9)))) + a10) ≤ 8004)))) : ((0 ≤ a0 ∧ ((a1 ≠ 0 ∨ ((a0 + (5 * ((a2 - a3)))) + a4) ≤ 8004)))) := by omega
theorem mp_o1384 {a0 : Int} (h0 : 1 ≤ a0) (h1 : a0 ≤ 6) : ((0 ≤ a0 ∧ a0 ≤ 6)) := by omega
theorem mp_o1385 {a0 : Int} {a1 : Int} {a2 : Int} {a3 : Int} {a4 : Int} {a5 : Int} {a6 : Int} (h0 : a1 ≠ 0) (h1 : a5 = 0) (h2 : a6 = (a5 + 1)) (h3 : a0 = a6) : ((0 ≤ a0 ∧ ((a1 ≠ 0 ∨ ((a0 + (5 * ((a2 - a3)))) + a4) ≤ 8004)))) := by omega
theorem mp_o1386 {a0 : Int} {a1 : Int} {a2 : Int} {a3 : Int} {a4 : Int} {a5 : Int} {a6 : Int} {a7 : Int} {a8 : Int} {a9 : Int} {a10 : Int} {a11 : Int} {a12 : Int} {a13 : Int} {a14 : Int} {a15 : Int} {a16 : Int} (h0 : a2 ≤ 1600) (h1 : 0 ≤ a5) (h2 : a6 = 0) (h3 : a7 = (a6 + 1)) (h4 : a0 = a7) (h5 : a8 ≤ 4) (h6 : ((5 * ((a2 - a9))) + a10) ≤ ((5 * ((a2 - a5))) + a8)) (h7 : ((5 * ((a2 - a11))) + a12) ≤ ((5 * ((a2 - a9))) + a10)) (h8 : ((5 * ((a2 - a13))) + a14) ≤ ((5 * ((a2 - a11))) + a12)) (h9 : ((5 * ((a2 - a15))) + a16) ≤ ((5 * ((a2 - a13))) + a14)) (h10 : (a1 ≠ 0 ∨ (((5 * ((a2 - a3))) + a4) + 1) ≤ ((5 * ((a2 - a15))) + a16))) : ((0 ≤ a0 ∧ ((a1 ≠ 0 ∨ ((a0 + (5 * ((a2 - a3)))) + a4) ≤ 8004)))) := by omega
theorem mp_o1387 {a0 : Int} {a1 : Int} {a2 : Int} (h0 : a2 = a0) (h1 : a1 = a2) : a0 = a1 := by omega
theorem mp_o1388 {a0 : Int} {a1 : Int} {a2 : Int} {a3 : Int} {a4 : Int} (h0 : 0 ≤ a3) (h1 : a0 = 0) (h2 : a2 ≤ 1600) (h3 : a4 ≤ 4) : ((0 ≤ a0 ∧ ((a1 ≠ 0 ∨ ((a0 + (5 * ((a2 - a3)))) + a4) ≤ 8004)))) := by omega
theorem mp_o1389 {a0 : Int} (h0 : a0 = 0) : 0 = a0 := by omega
theorem mp_o1390 {a0 : Nat} {a1 : Int} (h0 : a1 = ((a0 : Nat) : Int)) : a0 = (Int.toNat a1) := by omega
theorem mp_o1391 {a0 : Int} (h0 : (0 ≤ a0 ∧ a0 ≤ 6)) : (-2147483648) ≤ (a0 - 1) := by omega
theorem mp_o1392 {a0 : Int} (h0 : (0 ≤ a0 ∧ a0 ≤ 6)) : (a0 - 1) ≤ 2147483647 := by omega
theorem mp_o1393 {a0 : Int} {a1 : Int} {a2 : Int} {a3 : Int} {a4 : Int} {a5 : Int} {a6 : Int} (h0 : a2 = 0) (h1 : a3 = a0) (h2 : (a3 < a2 ∨ a4 < a3)) (h3 : a5 = a1) (h4 : a6 = (a5 - 1)) (h5 : a4 = a6) : ((a0 < 0 ∨ a1 ≤ a0)) := by omega
theorem mp_o1394 {a0 : Int} {a1 : Int} {a2 : Int} {a3 : Int} {a4 : Int} {a5 : Int} (h0 : a2 = a0) (h1 : a3 = a1) (h2 : a4 = (a3 - 1)) (h3 : a5 = a4) (h4 : a2 ≤ a5) : a0 < a1 := by omega
theorem mp_o1395 {a0 : Int} {a1 : Int} {a2 : Int} {a3 : Int} {a4 : Int} (h0 : a1 = a0) (h1 : a1 ≤ a2) (h2 : a2 = a3) (h3 : a3 = (a4 - 1)) (h4 : (0 ≤ a4 ∧ a4 ≤ 6)) : a0 ≤ 5 := by omega
theorem mp_o1396 {a0 : Int} {a1 : Int} {a2 : Int} {a3 : Int} {a4 : Int} {a5 : Int} (h0 : 0 ≤ a2) (h1 : a2 = a0) (h2 : a3 = a1) (h3 : a4 = (a3 - 1)) (h4 : a5 = a4) (h5 : a2 ≤ a5) : ((0 ≤ a0 ∧ a0 < a1)) := by omega
theorem mp_o1399 {a0 : Int} (h0 : 0 ≤ a0) : (-2147483648) ≤ (3 * a0) := by omega
theorem mp_o1400 {a0 : Int} (h0 : a0 ≤ 5) : (3 * a0) ≤ 2147483647 := by omega
theorem mp_o1408 {a0 : Int} (h0 : (0 ≤ a0 ∧ a0 ≤ 10)) : (-2147483648) ≤ (a0 - 1) := by omega
theorem mp_o1409 {a0 : Int} (h0 : (0 ≤ a0 ∧ a0 ≤ 10)) : (a0 - 1) ≤ 2147483647 := by omega
theorem mp_o1410 {a0 : Int} {a1 : Int} {a2 : Int} {a3 : Int} {a4 : Int} (h0 : a1 = a0) (h1 : a1 ≤ a2) (h2 : a2 = a3) (h3 : a3 = (a4 - 1)) (h4 : (0 ≤ a4 ∧ a4 ≤ 10)) : a0 ≤ 9 := by omega
theorem mp_o1411 {a0 : Int} (h0 : a0 ≤ 9) : (6 * a0) ≤ 2147483647 := by omega
theorem mp_o1412 {a0 : Int} {a1 : Int} {a2 : Int} (h0 : 0 ≤ a1) (h1 : 0 ≤ a2) (h2 : a0 = (6 * a2)) : (-2147483648) ≤ (a0 + a1) := by omega
theorem mp_o1413 {a0 : Int} {a1 : Int} {a2 : Int} (h0 : a1 ≤ 5) (h1 : a2 ≤ 9) (h2 : a0 = (6 * a2)) : (a0 + a1) ≤ 2147483647 := by omega
theorem mp_o1414 {a0 : Int} {a1 : Int} {a2 : Int} {a3 : Int} (h0 : 0 ≤ a1) (h1 : a1 ≤ 9) (h2 : 0 ≤ a2) (h3 : a2 ≤ 5) (h4 : a3 = (6 * a1)) (h5 : a0 = (a3 + a2)) : ((0 ≤ a0 ∧ a0 < ((300 : Nat) : Int))) := by omega
theorem mp_o1415 {a0 : Int} {a1 : Int} {a2 : Int} {a3 : Int} (h0 : 0 ≤ a1) (h1 : 0 ≤ a2) (h2 : a3 = (6 * a1)) (h3 : a0 = (a3 + a2)) : 0 ≤ a0 := by omega
theorem mp_o1416 {a0 : Int} {a1 : Int} {a2 : Int} {a3 : Int} (h0 : a1 ≤ 5) (h1 : a2 ≤ 9) (h2 : a3 = (6 * a2)) (h3 : a0 = (a3 + a1)) : a0 < ((300 : Nat) : Int) := by omega
theorem mp_o1417 {a0 : Int} {a1 : Int} {a2 : Int} {a3 : Int} (h0 : 0 ≤ a1) (h1 : 0 ≤ a2) (h2 : a3 = (6 * a1)) (h3 : a0 = (a3 + a2)) : a0 = (((Int.toNat (((6 * a1) + a2))) : Nat) : Int) := by omega
theorem mp_o1418 {a0 : Int} {a1 : Int} {a2 : Int} {a3 : Int} {a4 : Int} (h0 : (a0 < 0 ∨ a1 ≤ a0)) (h1 : a3 = (-2)) : (((((a0 < 0 ∨ (a1 ≤ a0 ∨ (a2 < 0 ∨ 5 < a2)))) ∧ a3 = (-2)) ∨ (((0 ≤ a0 ∧ (a0 < a1 ∧ (0 ≤ a2 ∧ a2 ≤ 5)))) ∧ a3 = a4))) := by omega
theorem mp_o1419 {a0 : Int} {a1 : Int} {a2 : Int} {a3 : Int} {a4 : Int} {a5 : Int} {a6 : Int} {a7 : Int} (h0 : a3 = (-2)) (h1 : a5 = 0) (h2 : a6 = 5) (h3 : a7 = a2) (h4 : (a7 < a5 ∨ a6 < a7)) : (((((a0 < 0 ∨ (a1 ≤ a0 ∨ (a2 < 0 ∨ 5 < a2)))) ∧ a3 = (-2)) ∨ (((0 ≤ a0 ∧ (a0 < a1 ∧ (0 ≤ a2 ∧ a2 ≤ 5)))) ∧ a3 = a4))) := by omega
theorem mp_o1420 {a0 : Int} {a1 : Int} (h0 : a1 = a0) (h1 : a1 ≤ 5) : a0 ≤ 5 := by omega
theorem mp_o1421 {a0 : Int} {a1 : Int} {a2 : Int} {a3 : Int} {a4 : Int} {a5 : Int} (h0 : 0 ≤ a0) (h1 : a0 < a1) (h2 : a3 = a4) (h3 : 0 ≤ a5) (h4 : a5 = a2) (h5 : a5 ≤ 5) : (((((a0 < 0 ∨ (a1 ≤ a0 ∨ (a2 < 0 ∨ 5 < a2)))) ∧ a3 = (-2)) ∨ (((0 ≤ a0 ∧ (a0 < a1 ∧ (0 ≤ a2 ∧ a2 ≤ 5)))) ∧ a3 = a4))) := by omega
theorem mp_o1422 {a0 : Int} {a1 : Int} {a2 : Int} (h0 : a1 ≤ 5) (h1 : a2 ≤ 5) (h2 : a0 = (6 * a2)) : (a0 + a1) ≤ 2147483647 := by omega
theorem mp_o1423 {a0 : Int} {a1 : Int} {a2 : Int} {a3 : Int} (h0 : 0 ≤ a1) (h1 : a1 ≤ 5) (h2 : 0 ≤ a2) (h3 : a2 ≤ 5) (h4 : a3 = (6 * a1)) (h5 : a0 = (a3 + a2)) : ((0 ≤ a0 ∧ a0 < ((180 : Nat) : Int))) := by omega
theorem mp_o1424 {a0 : Int} {a1 : Int} {a2 : Int} {a3 : Int} (h0 : a1 ≤ 5) (h1 : a2 = (6 * a1)) (h2 : a3 ≤ 5) (h3 : a0 = (a2 + a3)) : a0 < ((180 : Nat) : Int) := by omega
theorem mp_o1425 {a0 : Int} (h0 : (0 ≤ a0 ∧ a0 ≤ 20)) : (-2) ≤ a0 := by omega
theorem mp_o1426 {a0 : Int} {a1 : Int} {a2 : Int} {a3 : Int} {a4 : Int} (h0 : (a0 < 0 ∨ a1 ≤ a0)) (h1 : a3 = (-2)) : (((((a0 < 0 ∨ (a1 ≤ a0 ∨ (a2 < 0 ∨ 99 < a2)))) ∧ a3 = (-2)) ∨ (((0 ≤ a0 ∧ (a0 < a1 ∧ (0 ≤ a2 ∧ a2 ≤ 99)))) ∧ (((a4 ≠ 0 ∧ a3 = 0) ∨ (a4 = 0 ∧ a3 = 1)))))) := by omega
theorem mp_o1427 {a0 : Int} {a1 : Int} {a2 : Int} {a3 : Int} {a4 : Int} (h0 : (a2 < 0 ∨ 99 < a2)) (h1 : a3 = (-2)) : (((((a0 < 0 ∨ (a1 ≤ a0 ∨ (a2 < 0 ∨ 99 < a2)))) ∧ a3 = (-2)) ∨ (((0 ≤ a0 ∧ (a0 < a1 ∧ (0 ≤ a2 ∧ a2 ≤ 99)))) ∧ (((a4 ≠ 0 ∧ a3 = 0) ∨ (a4 = 0 ∧ a3 = 1)))))) := by omega
theorem mp_o1428 {a0 : Int} {a1 : Int} {a2 : Int} (h0 : 0 ≤ a1) (h1 : 0 ≤ a2) (h2 : a0 = (100 * a2)) : (-2147483648) ≤ (a0 + a1) := by omega
theorem mp_o1429 {a0 : Int} {a1 : Int} {a2 : Int} (h0 : a1 ≤ 99) (h1 : a2 ≤ 5) (h2 : a0 = (100 * a2)) : (a0 + a1) ≤ 2147483647 := by omega
theorem mp_o1430 {a0 : Int} {a1 : Int} {a2 : Int} {a3 : Int} (h0 : 0 ≤ a1) (h1 : a1 ≤ 5) (h2 : 0 ≤ a2) (h3 : a2 ≤ 99) (h4 : a3 = (100 * a1)) (h5 : a0 = (a3 + a2)) : ((0 ≤ a0 ∧ a0 < ((3000 : Nat) : Int))) := by omega
theorem mp_o1431 {a0 : Int} {a1 : Int} {a2 : Int} {a3 : Int} (h0 : 0 ≤ a1) (h1 : 0 ≤ a2) (h2 : a3 = (100 * a1)) (h3 : a0 = (a3 + a2)) : 0 ≤ a0 := by omega
theorem mp_o1432 {a0 : Int} {a1 : Int} {a2 : Int} {a3 : Int} (h0 : a1 ≤ 5) (h1 : a2 = (100 * a1)) (h2 : a3 ≤ 99) (h3 : a0 = (a2 + a3)) : a0 < ((3000 : Nat) : Int) := by omega
theorem mp_o1433 {a0 : Int} {a1 : Int} {a2 : Int} {a3 : Int} (h0 : 0 ≤ a1) (h1 : 0 ≤ a2) (h2 : a3 = (100 * a1)) (h3 : a0 = (a3 + a2)) : a0 = (((Int.toNat (((100 * a1) + a2))) : Nat) : Int) := by omega
theorem mp_o1434 {a0 : Int} {a1 : Int} {a2 : Int} {a3 : Int} {a4 : Int} {a5 : Int} (h0 : 0 ≤ a0) (h1 : 0 ≤ a2) (h2 : a0 < a1) (h3 : a2 ≤ 99) (h4 : a3 = 1) (h5 : a5 = 0) (h6 : a5 = a4) : (((((a0 < 0 ∨ (a1 ≤ a0 ∨ (a2 < 0 ∨ 99 < a2)))) ∧ a3 = (-2)) ∨ (((0 ≤ a0 ∧ (a0 < a1 ∧ (0 ≤ a2 ∧ a2 ≤ 99)))) ∧ (((a4 ≠ 0 ∧ a3 = 0) ∨ (a4 = 0 ∧ a3 = 1)))))) := by omega
theorem mp_o1435 {a0 : Int} {a1 : Int} {a2 : Int} {a3 : Int} {a4 : Int} {a5 : Int} (h0 : 0 ≤ a0) (h1 : 0 ≤ a2) (h2 : a0 < a1) (h3 : a2 ≤ 99) (h4 : a3 = 0) (h5 : a5 = a4) (h6 : a5 ≠ 0) : (((((a0 < 0 ∨ (a1 ≤ a0 ∨ (a2 < 0 ∨ 99 < a2)))) ∧ a3 = (-2)) ∨ (((0 ≤ a0 ∧ (a0 < a1 ∧ (0 ≤ a2 ∧ a2 ≤ 99)))) ∧ (((a4 ≠ 0 ∧ a3 = 0) ∨ (a4 = 0 ∧ a3 = 1)))))) := by omega
theorem mp_o1436 {a0 : Int} {a1 : Int} {a2 : Int} (h0 : a0 ≤ a1) (h1 : a2 = a1) (h2 : a2 ≤ a0) : a0 = a1 := by omega
theorem mp_o1437 {a0 : Int} {a1 : Int} {a2 : Int} (h0 : a0 ≤ a1) (h1 : a2 = a1) (h2 : a2 ≤ a0) : (Int.toNat a0) = (Int.toNat a1) := by omega
theorem mp_o1438 {a0 : Int} (h0 : 0 ≤ a0) (h1 : a0 ≤ 60) : ((0 ≤ a0 ∧ a0 < ((300 : Nat) : Int))) := by omega
theorem mp_o1439 {a0 : Int} (h0 : a0 ≤ 60) : a0 < 300 := by omega
theorem mp_o1440 {a0 : Int} {a1 : Int} {a2 : Int} (h0 : a2 = a1) (h1 : a0 < a2) : (a0 + 1) ≤ a1 := by omega
theorem mp_o1441 {a0 : Int} {a1 : Int} (h0 : a1 < 100) (h1 : (a1 = 200 ∨ ((100 ≤ a1 ∧ a1 ≤ 109) ∨ (0 ≤ a1 ∧ (a1 ≤ 55 ∧ (a1 % 10) ≤ 5))))) (h2 : a0 = (a1 / 10)) : ((0 ≤ a0 ∧ a0 < ((6 : Nat) : Int))) := by omega
theorem mp_o1442 {a0 : Int} {a1 : Int} (h0 : (a1 = 200 ∨ ((100 ≤ a1 ∧ a1 ≤ 109) ∨ (0 ≤ a1 ∧ (a1 ≤ 55 ∧ (a1 % 10) ≤ 5))))) (h1 : a0 = (a1 / 10)) : a0 = (((Int.toNat ((a1 / 10))) : Nat) : Int) := by omega
theorem mp_o1443 {a0 : Int} {a1 : Int} (h0 : a0 = (a1 / 10)) (h1 : (a1 = 200 ∨ ((100 ≤ a1 ∧ a1 ≤ 109) ∨ (0 ≤ a1 ∧ (a1 ≤ 55 ∧ (a1 % 10) ≤ 5))))) : 0 ≤ a0 := by omega
theorem mp_o1444 {a0 : Int} {a1 : Int} (h0 : a1 < 100) (h1 : (a1 = 200 ∨ ((100 ≤ a1 ∧ a1 ≤ 109) ∨ (0 ≤ a1 ∧ (a1 ≤ 55 ∧ (a1 % 10) ≤ 5))))) (h2 : a0 = (a1 / 10)) : a0 < ((6 : Nat) : Int) := by omega
theorem mp_o1445 {a0 : Int} (h0 : (0 ≤ a0 ∧ a0 ≤ 5)) : (-2147483648) ≤ (6 * a0) := by omega
theorem mp_o1446 {a0 : Int} (h0 : (0 ≤ a0 ∧ a0 ≤ 5)) : (6 * a0) ≤ 2147483647 := by omega
theorem mp_o1447 {a0 : Int} {a1 : Int} {a2 : Int} {a3 : Int} (h0 : a0 = (6 * a2)) (h1 : (0 ≤ a2 ∧ a2 ≤ 5)) (h2 : a1 = (a3 % 10)) : (-2147483648) ≤ (a0 + a1) := by omega
theorem mp_o1448 {a0 : Int} {a1 : Int} {a2 : Int} {a3 : Int} (h0 : a0 = (6 * a2)) (h1 : (0 ≤ a2 ∧ a2 ≤ 5)) (h2 : a1 = (a3 % 10)) : (a0 + a1) ≤ 2147483647 := by omega
theorem mp_o1449 {a0 : Int} {a1 : Int} {a2 : Int} {a3 : Int} {a4 : Int} (h0 : (0 ≤ a1 ∧ a1 ≤ 5)) (h1 : a2 = (6 * a1)) (h2 : a0 = (a2 + a3)) (h3 : a3 = (a4 % 10)) : ((0 ≤ a0 ∧ a0 < ((180 : Nat) : Int))) := by omega
theorem mp_o1450 {a0 : Int} {a1 : Int} {a2 : Int} {a3 : Int} {a4 : Int} (h0 : (0 ≤ a1 ∧ a1 ≤ 5)) (h1 : a2 = (6 * a1)) (h2 : a0 = (a2 + a3)) (h3 : a3 = (a4 % 10)) : 0 ≤ a0 := by omega
theorem mp_o1451 {a0 : Int} {a1 : Int} {a2 : Int} {a3 : Int} {a4 : Int} (h0 : (0 ≤ a1 ∧ a1 ≤ 5)) (h1 : a2 = (6 * a1)) (h2 : a0 = (a2 + a3)) (h3 : a3 = (a4 % 10)) : a0 < ((180 : Nat) : Int) := by omega
theorem mp_o1452 {a0 : Int} {a1 : Int} {a2 : Int} {a3 : Int} {a4 : Int} {a5 : Int} (h0 : a3 = (a2 % 10)) (h1 : a4 = a1) (h2 : (0 ≤ a4 ∧ a4 ≤ 5)) (h3 : a5 = (6 * a4)) (h4 : a0 = (a5 + a3)) : a0 = (((Int.toNat (((6 * a1) + (a2 % 10)))) : Nat) : Int) := by omega
theorem mp_o1453 {a0 : Int} {a1 : Int} (h0 : a1 < 100) (h1 : (a1 = 200 ∨ ((100 ≤ a1 ∧ a1 ≤ 109) ∨ (0 ≤ a1 ∧ (a1 ≤ 55 ∧ (a1 % 10) ≤ 5))))) (h2 : a0 = (a1 % 10)) : a0 ≤ 5 := by omega
theorem mp_o1454 {a0 : Nat} {a1 : Int} {a2 : Int} {a3 : Int} (h0 : (a1 - a2) ≤ ((a0 : Nat) : Int)) (h1 : a3 = a1) (h2 : a2 < a3) : (a0 - 1) < a0 := by omega
theorem mp_o1455 {a0 : Int} {a1 : Int} {a2 : Int} (h0 : a0 = (a1 + 1)) (h1 : a1 < a2) (h2 : (0 ≤ a2 ∧ a2 ≤ 60)) : a0 ≤ 60 := by omega
theorem mp_o1456 {a0 : Int} {a1 : Int} {a2 : Int} {a3 : Int} {a4 : Int} (h0 : a3 < 100) (h1 : a0 = (a1 + a4)) (h2 : ((a3 = 200 ∧ a2 = (a4 + 1)) ∨ (a3 ≠ 200 ∧ a2 = a4))) : a0 = (a1 + a2) := by omega
theorem mp_o1457 {a0 : Int} {a1 : Int} {a2 : Int} {a3 : Int} (h0 : a2 = a1) (h1 : a3 < a2) (h2 : a0 = (a3 + 1)) : a0 ≤ a1 := by omega
theorem mp_o1458 {a0 : Int} (h0 : 100 ≤ a0) : (-2147483648) ≤ (a0 - 100) := by omega
theorem mp_o1459 {a0 : Int} (h0 : (a0 = 200 ∨ ((100 ≤ a0 ∧ a0 ≤ 109) ∨ (0 ≤ a0 ∧ (a0 ≤ 55 ∧ (a0 % 10) ≤ 5))))) : (a0 - 100) ≤ 2147483647 := by omega
theorem mp_o1460 {a0 : Int} {a1 : Int} (h0 : 100 ≤ a1) (h1 : a0 = (a1 - 100)) : (-2147483648) ≤ (150 * a0) := by omega
theorem mp_o1461 {a0 : Int} {a1 : Int} (h0 : a0 = (a1 - 100)) (h1 : (a1 = 200 ∨ ((100 ≤ a1 ∧ a1 ≤ 109) ∨ (0 ≤ a1 ∧ (a1 ≤ 55 ∧ (a1 % 10) ≤ 5))))) : (150 * a0) ≤ 2147483647 := by omega
theorem mp_o1462 {a0 : Int} {a1 : Int} {a2 : Int} {a3 : Int} (h0 : 0 ≤ a1) (h1 : 100 ≤ a2) (h2 : a3 = (a2 - 100)) (h3 : a0 = (150 * a3)) : (-2147483648) ≤ (a0 + a1) := by omega
theorem mp_o1463 {a0 : Int} {a1 : Int} {a2 : Int} {a3 : Int} (h0 : a1 ≤ 99) (h1 : a0 = (150 * a2)) (h2 : a2 = (a3 - 100)) (h3 : (a3 = 200 ∨ ((100 ≤ a3 ∧ a3 ≤ 109) ∨ (0 ≤ a3 ∧ (a3 ≤ 55 ∧ (a3 % 10) ≤ 5))))) : (a0 + a1) ≤ 2147483647 := by omega
theorem mp_o1464 {a0 : Int} {a1 : Int} {a2 : Int} {a3 : Int} {a4 : Int} (h0 : 0 ≤ a1) (h1 : a1 ≤ 99) (h2 : 100 ≤ a2) (h3 : (a2 = 200 ∨ ((100 ≤ a2 ∧ a2 ≤ 109) ∨ (0 ≤ a2 ∧ (a2 ≤ 55 ∧ (a2 % 10) ≤ 5))))) (h4 : a2 ≠ 200) (h5 : a3 = (a2 - 100)) (h6 : a4 = (150 * a3)) (h7 : a0 = (a4 + a1)) : ((0 ≤ a0 ∧ a0 < ((1500 : Nat) : Int))) := by omega
theorem mp_o1465 {a0 : Int} {a1 : Int} {a2 : Int} {a3 : Int} {a4 : Int} (h0 : a3 ≠ 200) (h1 : a0 = (a1 + a4)) (h2 : ((a3 = 200 ∧ a2 = (a4 + 1)) ∨ (a3 ≠ 200 ∧ a2 = a4))) : a0 = (a1 + a2) := by omega
theorem mp_o1466 {a0 : Int} {a1 : Int} (h0 : 100 ≤ a0) (h1 : a0 = a1) : ((a0 = a1 ∧ 0 ≤ a0)) := by omega
theorem mp_o1467 {a0 : Int} {a1 : Int} : (a0 + a1) = (a0 + a1) := by omega
theorem mp_o1468 {a0 : Int} {a1 : Int} {a2 : Int} {a3 : Int} {a4 : Int} {a5 : Int} {a6 : Int} (h0 : a1 = 200) (h1 : a0 = (a2 + 1)) (h2 : (a3 + a4) ≤ 99) (h3 : a5 ≤ a4) (h4 : a2 = (a3 + a6)) (h5 : ((a1 = 200 ∧ a5 = (a6 + 1)) ∨ (a1 ≠ 200 ∧ a5 = a6))) : a0 ≤ 99 := by omega
theorem mp_o1469 {a0 : Int} {a1 : Int} {a2 : Int} {a3 : Int} {a4 : Int} {a5 : Int} (h0 : a3 = 200) (h1 : a0 = (a4 + 1)) (h2 : a4 = (a1 + a5)) (h3 : ((a3 = 200 ∧ a2 = (a5 + 1)) ∨ (a3 ≠ 200 ∧ a2 = a5))) : a0 = (a1 + a2) := by omega
theorem mp_o1470 {a0 : Int} {a1 : Int} (h0 : a0 = 200) (h1 : a0 = a1) : ((a0 = a1 ∧ 0 ≤ a0)) := by omega
theorem mp_o1471 {a0 : Int} {a1 : Int} (h0 : a0 = a1) : a0 = (a1 + 0) := by omega
theorem mp_o1472 {a0 : Int} (h0 : (0 ≤ a0 ∧ a0 ≤ 60)) : 0 ≤ a0 := by omega
theorem mp_o1473 {a0 : Int} (h0 : 0 ≤ a0) (h1 : a0 < 1500) : ((0 ≤ a0 ∧ a0 < ((1500 : Nat) : Int))) := by omega
theorem mp_o1474 {a0 : Int} (h0 : a0 < 1500) : (a0 + 1) ≤ 2147483647 := by omega
theorem mp_o1475 {a0 : Nat} {a1 : Int} (h0 : ((-a1) + 1500) ≤ ((a0 : Nat) : Int)) (h1 : a1 < 1500) : (a0 - 1) < a0 := by omega
theorem mp_o1476 {a0 : Int} {a1 : Int} (h0 : a1 < 1500) (h1 : a0 = (a1 + 1)) : a0 ≤ 1600 := by omega
theorem mp_o1477 {a0 : Int} {a1 : Nat} {a2 : Int} (h0 : ((-a2) + 1500) ≤ ((a1 : Nat) : Int)) (h1 : a0 = (a2 + 1)) : ((-a0) + 1500) ≤ ((((a1 - 1)) : Nat) : Int) := by omega
theorem mp_o1478 {a0 : Int} (h0 : a0 ≤ 6) : (3 * a0) ≤ 2147483647 := by omega
theorem mp_o1479 {a0 : Int} {a1 : Int} (h0 : 0 ≤ a1) (h1 : a0 = (3 * a1)) (h2 : a1 ≤ 6) : ((0 ≤ a0 ∧ a0 < ((90 : Nat) : Int))) := by omega
theorem mp_o1480 {a0 : Int} {a1 : Int} (h0 : 0 ≤ a1) (h1 : a0 = (3 * a1)) : 0 ≤ a0 := by omega
theorem mp_o1481 {a0 : Int} {a1 : Int} {a2 : Int} (h0 : a0 = (3 * a1)) (h1 : a1 < a2) (h2 : (0 ≤ a2 ∧ a2 ≤ 6)) : a0 < ((90 : Nat) : Int) := by omega
theorem mp_o1482 {a0 : Int} {a1 : Int} (h0 : a0 = (3 * a1)) : (a0 % ((3 : Nat) : Int)) = ((0 : Nat) : Int) := by omega
theorem mp_o1483 {a0 : Int} {a1 : Int} (h0 : 0 ≤ a1) (h1 : a0 = (3 * a1)) : a0 = ((((3 * (Int.toNat a1))) : Nat) : Int) := by omega
theorem mp_o1484 {a0 : Int} {a1 : Int} (h0 : 0 ≤ a0) (h1 : a0 < a1) (h2 : (0 ≤ a1 ∧ a1 ≤ 6)) : ((0 ≤ a0 ∧ a0 < ((6 : Nat) : Int))) := by omega
theorem mp_o1485 {a0 : Int} {a1 : Int} {a2 : Int} (h0 : a0 = (a1 + 1)) (h1 : a1 < a2) (h2 : (0 ≤ a2 ∧ a2 ≤ 6)) : a0 ≤ 6 := by omega
theorem mp_o1486 {a0 : Int} {a1 : Int} (h0 : 0 ≤ a1) (h1 : a0 = (6 * a1)) : (-2147483648) ≤ (a0 + 3) := by omega
theorem mp_o1487 {a0 : Int} {a1 : Int} {a2 : Int} (h0 : 0 ≤ a1) (h1 : a1 ≤ 9) (h2 : a2 = (6 * a1)) (h3 : a0 = (a2 + 3)) : ((0 ≤ a0 ∧ a0 < ((300 : Nat) : Int))) := by omega
theorem mp_o1488 {a0 : Int} {a1 : Int} {a2 : Int} (h0 : 0 ≤ a1) (h1 : a2 = (6 * a1)) (h2 : a0 = (a2 + 3)) : 0 ≤ a0 := by omega
theorem mp_o1489 {a0 : Int} {a1 : Int} {a2 : Int} (h0 : a0 = (a1 + 3)) (h1 : a1 = (6 * a2)) : (a0 % ((6 : Nat) : Int)) = ((3 : Nat) : Int) := by omega
theorem mp_o1490 {a0 : Int} {a1 : Int} {a2 : Int} (h0 : 0 ≤ a1) (h1 : a2 = (6 * a1)) (h2 : a0 = (a2 + 3)) : a0 = (((Int.toNat (((6 * a1) + 3))) : Nat) : Int) := by omega
theorem mp_o1491 {a0 : Int} {a1 : Int} {a2 : Int} (h0 : a2 = (6 * a1)) (h1 : a0 = (a2 + 3)) : a0 = ((6 * a1) + ((3 : Nat) : Int)) := by omega
theorem mp_o1492 {a0 : Int} {a1 : Int} (h0 : 0 ≤ a1) (h1 : a0 = (6 * a1)) : (-2147483648) ≤ (a0 + 0) := by omega
theorem mp_o1493 {a0 : Int} {a1 : Int} {a2 : Int} (h0 : 0 ≤ a1) (h1 : a1 ≤ 9) (h2 : a2 = (6 * a1)) (h3 : a0 = (a2 + 0)) : ((0 ≤ a0 ∧ a0 < ((300 : Nat) : Int))) := by omega
theorem mp_o1494 {a0 : Int} {a1 : Int} {a2 : Int} (h0 : a0 = (a1 + 0)) (h1 : a1 = (6 * a2)) : (a0 % ((6 : Nat) : Int)) = ((0 : Nat) : Int) := by omega
theorem mp_o1495 {a0 : Int} {a1 : Int} {a2 : Int} (h0 : 0 ≤ a1) (h1 : a2 = (6 * a1)) (h2 : a0 = (a2 + 0)) : a0 = (((Int.toNat ((6 * a1))) : Nat) : Int) := by omega
theorem mp_o1496 {a0 : Int} {a1 : Int} {a2 : Int} (h0 : a2 = (6 * a1)) (h1 : a0 = (a2 + 0)) : a0 = ((6 * a1) + ((0 : Nat) : Int)) := by omega
theorem mp_o1497 {a0 : Int} {a1 : Int} (h0 : 0 ≤ a1) (h1 : a0 = (6 * a1)) : (-2147483648) ≤ (a0 + 4) := by omega
theorem mp_o1498 {a0 : Int} {a1 : Int} {a2 : Int} (h0 : 0 ≤ a1) (h1 : a1 ≤ 9) (h2 : a2 = (6 * a1)) (h3 : a0 = (a2 + 4)) : ((0 ≤ a0 ∧ a0 < ((300 : Nat) : Int))) := by omega
theorem mp_o1499 {a0 : Int} {a1 : Int} {a2 : Int} (h0 : 0 ≤ a1) (h1 : a2 = (6 * a1)) (h2 : a0 = (a2 + 4)) : a0 = (((Int.toNat (((6 * a1) + 4))) : Nat) : Int) := by omega
theorem mp_o1500 {a0 : Int} {a1 : Int} {a2 : Int} (h0 : a2 = (6 * a1)) (h1 : a0 = (a2 + 4)) : a0 = ((6 * a1) + ((4 : Nat) : Int)) := by omega
theorem mp_o1501 {a0 : Int} {a1 : Int} (h0 : 0 ≤ a1) (h1 : a0 = (6 * a1)) : (-2147483648) ≤ (a0 + 5) := by omega
theorem mp_o1502 {a0 : Int} {a1 : Int} (h0 : a1 ≤ 9) (h1 : a0 = (6 * a1)) : (a0 + 5) ≤ 2147483647 := by omega
theorem mp_o1503 {a0 : Int} {a1 : Int} {a2 : Int} (h0 : 0 ≤ a1) (h1 : a1 ≤ 9) (h2 : a2 = (6 * a1)) (h3 : a0 = (a2 + 5)) : ((0 ≤ a0 ∧ a0 < ((300 : Nat) : Int))) := by omega
theorem mp_o1504 {a0 : Int} {a1 : Int} {a2 : Int} (h0 : 0 ≤ a1) (h1 : a2 = (6 * a1)) (h2 : a0 = (a2 + 5)) : a0 = (((Int.toNat (((6 * a1) + 5))) : Nat) : Int) := by omega
theorem mp_o1505 {a0 : Int} {a1 : Int} {a2 : Int} (h0 : a2 = (6 * a1)) (h1 : a0 = (a2 + 5)) : a0 = ((6 * a1) + ((5 : Nat) : Int)) := by omega
theorem mp_o1506 {a0 : Nat} {a1 : Int} {a2 : Int} (h0 : a1 < ((a0 : Nat) : Int)) (h1 : ((-1) ≤ a2 ∧ a2 < a1)) : (a0 - 1) < a0 := by omega
theorem mp_o1507 {a0 : Int} {a1 : Int} {a2 : Int} {a3 : Int} (h0 : a1 ≠ (-1)) (h1 : a0 = a2) (h2 : a1 = a2) (h3 : ((-1) ≤ a2 ∧ a2 < a3)) : 0 ≤ a0 := by omega
theorem mp_o1508 {a0 : Int} {a1 : Int} {a2 : Int} (h0 : a1 ≤ 9) (h1 : a0 = a2) (h2 : ((-1) ≤ a2 ∧ a2 < a1)) : a0 ≤ 9 := by omega
theorem mp_o1509 {a0 : Int} {a1 : Int} {a2 : Int} {a3 : Int} (h0 : a2 < a1) (h1 : a0 = a3) (h2 : ((-1) ≤ a3 ∧ a3 < a2)) : a0 < a1 := by omega
theorem mp_o1510 {a0 : Int} {a1 : Nat} {a2 : Int} {a3 : Int} (h0 : a2 < ((a1 : Nat) : Int)) (h1 : a0 = a3) (h2 : ((-1) ≤ a3 ∧ a3 < a2)) : a0 < ((((a1 - 1)) : Nat) : Int) := by omega
theorem mp_o1511 {a0 : Nat} {a1 : Int} {a2 : Int} (h0 : a1 < ((a0 : Nat) : Int)) (h1 : ((-1) ≤ a2 ∧ a2 < a1)) : ((2 + (1 * ((a0 - 1)))) + 1) ≤ (2 + (1 * a0)) := by omega
theorem mp_o1512 {a0 : Nat} {a1 : Int} {a2 : Int} (h0 : a1 < ((a0 : Nat) : Int)) (h1 : ((-1) ≤ a2 ∧ a2 < a1)) : ((8 + ((5 + 11))) + ((47 + (24 * ((a0 - 1)))))) ≤ (47 + (24 * a0)) := by omega
theorem mp_o1513 {a0 : Int} (h0 : a0 ≤ 99) : a0 ≤ 139 := by omega
theorem mp_o1514 {a0 : Int} {a1 : Int} (h0 : 0 ≤ a1) (h1 : a0 = (6 * a1)) : (-2147483648) ≤ (a0 + 2) := by omega
theorem mp_o1515 {a0 : Int} {a1 : Int} (h0 : a1 ≤ 9) (h1 : a0 = (6 * a1)) : (a0 + 2) ≤ 2147483647 := by omega
theorem mp_o1516 {a0 : Int} {a1 : Int} {a2 : Int} (h0 : 0 ≤ a1) (h1 : a1 ≤ 9) (h2 : a2 = (6 * a1)) (h3 : a0 = (a2 + 2)) : ((0 ≤ a0 ∧ a0 < ((300 : Nat) : Int))) := by omega
theorem mp_o1517 {a0 : Int} {a1 : Int} {a2 : Int} (h0 : 0 ≤ a1) (h1 : a2 = (6 * a1)) (h2 : a0 = (a2 + 2)) : a0 = (((Int.toNat (((6 * a1) + 2))) : Nat) : Int) := by omega
theorem mp_o1518 {a0 : Int} {a1 : Int} {a2 : Int} (h0 : a2 = (6 * a1)) (h1 : a0 = (a2 + 2)) : a0 = ((6 * a1) + ((2 : Nat) : Int)) := by omega
theorem mp_o1519 {a0 : Int} (h0 : a0 ≤ 20) : (20 < a0) → False := by omega
theorem mp_o1520 {a0 : Int} (h0 : a0 < 100) : a0 ≤ 139 := by omega
theorem mp_o1521 {a0 : Int} (h0 : a0 < 100) : (a0 + 1) ≤ 2147483647 := by omega
theorem mp_o1522 {a0 : Nat} {a1 : Int} (h0 : ((-a1) + 100) ≤ ((a0 : Nat) : Int)) (h1 : a1 < 100) : (a0 - 1) < a0 := by omega
theorem mp_o1523 {a0 : Int} {a1 : Int} (h0 : a1 < 100) (h1 : a0 = (a1 + 1)) : a0 ≤ 100 := by omega
theorem mp_o1524 {a0 : Int} (h0 : a0 < 100) : a0 ≤ 99 := by omega
theorem mp_o1525 {a0 : Int} {a1 : Int} (h0 : 0 ≤ a1) (h1 : a0 = (6 * a1)) : (-2147483648) ≤ (a0 + 1) := by omega
theorem mp_o1526 {a0 : Int} {a1 : Int} (h0 : a1 ≤ 9) (h1 : a0 = (6 * a1)) : (a0 + 1) ≤ 2147483647 := by omega
theorem mp_o1527 {a0 : Int} {a1 : Int} {a2 : Int} (h0 : 0 ≤ a1) (h1 : a1 ≤ 9) (h2 : a2 = (6 * a1)) (h3 : a0 = (a2 + 1)) : ((0 ≤ a0 ∧ a0 < ((300 : Nat) : Int))) := by omega
theorem mp_o1528 {a0 : Int} {a1 : Int} {a2 : Int} (h0 : 0 ≤ a1) (h1 : a2 = (6 * a1)) (h2 : a0 = (a2 + 1)) : 0 ≤ a0 := by omega
theorem mp_o1529 {a0 : Int} {a1 : Int} {a2 : Int} (h0 : a1 ≤ 9) (h1 : a2 = (6 * a1)) (h2 : a0 = (a2 + 1)) : a0 < ((300 : Nat) : Int) := by omega
theorem mp_o1530 {a0 : Int} {a1 : Int} {a2 : Int} (h0 : a0 = (a1 + 1)) (h1 : a1 = (6 * a2)) : (a0 % ((6 : Nat) : Int)) = ((1 : Nat) : Int) := by omega
theorem mp_o1531 {a0 : Int} {a1 : Int} {a2 : Int} (h0 : 0 ≤ a1) (h1 : a2 = (6 * a1)) (h2 : a0 = (a2 + 1)) : a0 = (((Int.toNat (((6 * a1) + 1))) : Nat) : Int) := by omega
theorem mp_o1532 {a0 : Int} {a1 : Int} {a2 : Int} (h0 : a2 = (6 * a1)) (h1 : a0 = (a2 + 1)) : a0 = ((6 * a1) + ((1 : Nat) : Int)) := by omega
theorem mp_o1533 {a0 : Int} {a1 : Int} (h0 : a0 < a1) (h1 : (0 ≤ a1 ∧ a1 ≤ 10)) : a0 ≤ 9 := by omega
theorem mp_o1534 {a0 : Int} {a1 : Int} {a2 : Int} (h0 : a0 = (a1 + 1)) (h1 : a1 < a2) (h2 : (0 ≤ a2 ∧ a2 ≤ 10)) : a0 ≤ 10 := by omega
theorem mp_o1535 {a0 : Int} {a1 : Int} {a2 : Int} (h0 : a2 = a1) (h1 : a0 < a2) : a0 < a1 := by omega
theorem mp_o1536 {a0 : Int} {a1 : Int} (h0 : a1 = a0) (h1 : a1 ≤ 0) : a0 ≤ 0 := by omega
theorem mp_o1537 {a0 : Int} {a1 : Int} (h0 : 0 < a1) (h1 : a1 = a0) : 0 < a0 := by omega
theorem mp_o1538 {a0 : Int} {a1 : Int} (h0 : a0 < a1) (h1 : (0 ≤ a1 ∧ a1 ≤ 6)) : a0 ≤ 5 := by omega
theorem mp_o1539 {a0 : Int} {a1 : Int} {a2 : Int} (h0 : a0 < a2) (h1 : a1 = (a2 + 1)) : a0 < a1 := by omega
theorem mp_o1540 {a0 : Int} {a1 : Int} (h0 : a1 = (a0 + 1)) : a0 < a1 := by omega
theorem mp_o1541 {a0 : Int} {a1 : Int} {a2 : Int} {a3 : Int} (h0 : a2 = a1) (h1 : a3 < a2) (h2 : a0 < a3) : a0 < a1 := by omega
theorem mp_o1542 {a0 : Nat} {a1 : Int} {a2 : Int} (h0 : a1 < ((a0 : Nat) : Int)) (h1 : ((-1) ≤ a2 ∧ a2 < a1)) : ((1 + (1 * ((a0 - 1)))) + 1) ≤ (1 + (1 * a0)) := by omega
theorem mp_o1543 {a0 : Nat} {a1 : Int} {a2 : Int} (h0 : a1 < ((a0 : Nat) : Int)) (h1 : ((-1) ≤ a2 ∧ a2 < a1)) : ((8 + ((2 + 11))) + ((22 + (21 * ((a0 - 1)))))) ≤ (22 + (21 * a0)) := by omega
theorem mp_o1544 {a0 : Int} {a1 : Int} {a2 : Int} (h0 : a1 ≠ (-1)) (h1 : a0 = a2) (h2 : a1 = a2) : (a0 = (-1)) → False := by omega
theorem mp_o1545 {a0 : Int} {a1 : Int} {a2 : Int} (h0 : a0 = a2) (h1 : ((-1) ≤ a2 ∧ a2 < a1)) : a0 < a1 := by omega
theorem mp_o1546 {a0 : Int} (h0 : a0 ≤ 9) : a0 ≤ 10 := by omega
theorem mp_o1547 {a0 : Int} {a1 : Int} {a2 : Int} {a3 : Int} (h0 : a0 ≤ 0) (h1 : a1 = (-2)) : (((a0 ≤ 0 ∧ a1 = (-2)) ∨ (0 < a0 ∧ a1 = (a2 + a3)))) := by omega
theorem mp_o1548 {a0 : Int} {a1 : Int} {a2 : Int} {a3 : Int} (h0 : 0 < a0) (h1 : a1 = (a2 + a3)) : (((a0 ≤ 0 ∧ a1 = (-2)) ∨ (0 < a0 ∧ a1 = (a2 + a3)))) := by omega
theorem mp_o1549 {a0 : Int} {a1 : Int} (h0 : 0 ≤ a1) (h1 : a0 = (3 * a1)) : (-2147483648) ≤ (a0 + 1) := by omega
theorem mp_o1550 {a0 : Int} {a1 : Int} (h0 : a1 ≤ 5) (h1 : a0 = (3 * a1)) : (a0 + 1) ≤ 2147483647 := by omega
theorem mp_o1551 {a0 : Int} {a1 : Int} {a2 : Int} (h0 : 0 ≤ a1) (h1 : a1 ≤ 5) (h2 : a2 = (3 * a1)) (h3 : a0 = (a2 + 1)) : ((0 ≤ a0 ∧ a0 < ((90 : Nat) : Int))) := by omega
theorem mp_o1552 {a0 : Int} {a1 : Int} {a2 : Int} (h0 : 0 ≤ a1) (h1 : a2 = (3 * a1)) (h2 : a0 = (a2 + 1)) : 0 ≤ a0 := by omega
theorem mp_o1553 {a0 : Int} {a1 : Int} {a2 : Int} (h0 : a1 ≤ 5) (h1 : a2 = (3 * a1)) (h2 : a0 = (a2 + 1)) : a0 < ((90 : Nat) : Int) := by omega
theorem mp_o1554 {a0 : Int} {a1 : Int} {a2 : Int} (h0 : 0 ≤ a1) (h1 : a2 = (3 * a1)) (h2 : a0 = (a2 + 1)) : a0 = (((((3 * (Int.toNat a1)) + 1)) : Nat) : Int) := by omega
theorem mp_o1555 {a0 : Int} {a1 : Int} {a2 : Int} {a3 : Int} (h0 : 0 ≤ a1) (h1 : 0 ≤ a2) (h2 : a3 = (6 * a1)) (h3 : a0 = (a3 + a2)) : a0 = (((((6 * (Int.toNat a1)) + (Int.toNat a2))) : Nat) : Int) := by omega
theorem mp_o1556 {a0 : Int} {a1 : Int} {a2 : Int} {a3 : Int} (h0 : 0 ≤ a1) (h1 : 0 ≤ a2) (h2 : a3 = (100 * a1)) (h3 : a0 = (a3 + a2)) : a0 = (((((100 * (Int.toNat a1)) + (Int.toNat a2))) : Nat) : Int) := by omega
theorem mp_o1557 {a0 : Int} {a1 : Int} {a2 : Int} (h0 : (0 ≤ a2 ∧ a2 ≤ 5)) (h1 : 0 ≤ a1) (h2 : a2 = a0) : (Int.toNat (((6 * a0) + a1))) = ((6 * (Int.toNat a2)) + (Int.toNat a1)) := by omega
theorem mp_o1558 {a0 : Int} {a1 : Int} {a2 : Int} (h0 : (0 ≤ a2 ∧ a2 ≤ 5)) (h1 : 0 ≤ a1) (h2 : a2 = a0) : (Int.toNat (((100 * a0) + a1))) = ((100 * (Int.toNat a2)) + (Int.toNat a1)) := by omega
theorem mp_o1559 {a0 : Int} {a1 : Int} (h0 : 0 ≤ a0) (h1 : 0 ≤ a1) : (Int.toNat (((100 * a0) + a1))) = ((100 * (Int.toNat a0)) + (Int.toNat a1)) := by omega
theorem mp_o1560 {a0 : Int} {a1 : Int} (h0 : a1 = a0) (h1 : (0 ≤ a1 ∧ a1 ≤ 60)) (h2 : a1 ≠ 60) : a0 ≤ 59 := by omega
theorem mp_o1561 {a0 : Int} {a1 : Int} (h0 : a1 = 60) (h1 : a1 = a0) : 60 ≤ a0 := by omega
theorem mp_o1562 {a0 : Int} (h0 : (0 ≤ a0 ∧ a0 ≤ 60)) : ((0 ≤ a0 ∧ a0 < ((300 : Nat) : Int))) := by omega
theorem mp_o1563 {a0 : Int} {a1 : Int} (h0 : a1 ≤ 59) (h1 : a0 = a1) : a0 < ((60 : Nat) : Int) := by omega
theorem mp_o1564 {a0 : Int} (h0 : (0 ≤ a0 ∧ a0 ≤ 60)) : (-2147483648) ≤ (a0 + 1) := by omega
theorem mp_o1565 {a0 : Int} {a1 : Int} (h0 : a1 ≤ 59) (h1 : a0 = a1) : (a0 + 1) ≤ 2147483647 := by omega
theorem mp_o1566 {a0 : Int} {a1 : Int} {a2 : Int} (h0 : a1 ≤ 59) (h1 : a2 = a1) (h2 : (0 ≤ a2 ∧ a2 ≤ 60)) (h3 : a0 = (a2 + 1)) : ((0 ≤ a0 ∧ a0 ≤ 60)) := by omega
theorem mp_o1567 {a0 : Int} {a1 : Int} {a2 : Int} (h0 : a2 = (a1 + 1)) (h1 : a0 = a2) : a0 = (a1 + 1) := by omega
theorem mp_o1568 {a0 : Int} {a1 : Int} (h0 : a0 = a1) : (Int.toNat a0) = (Int.toNat a1) := by omega
theorem mp_o1569 {a0 : Int} (h0 : a0 ≤ 5) : (10 * a0) ≤ 2147483647 := by omega
theorem mp_o1570 {a0 : Int} {a1 : Int} {a2 : Int} (h0 : a1 ≤ 5) (h1 : a2 ≤ 5) (h2 : a0 = (10 * a2)) : (a0 + a1) ≤ 2147483647 := by omega
theorem mp_o1571 {a0 : Int} {a1 : Int} {a2 : Int} {a3 : Int} (h0 : a1 ≤ 5) (h1 : a2 = (10 * a1)) (h2 : a3 ≤ 5) (h3 : a0 = (a2 + a3)) : a0 ≤ 200 := by omega
theorem mp_o1572 {a0 : Int} {a1 : Int} {a2 : Int} {a3 : Int} (h0 : 0 ≤ a1) (h1 : a1 ≤ 5) (h2 : 0 ≤ a2) (h3 : a2 ≤ 5) (h4 : a3 = (10 * a1)) (h5 : a0 = (a3 + a2)) : ((a0 = 200 ∨ ((100 ≤ a0 ∧ a0 ≤ 109) ∨ (0 ≤ a0 ∧ (a0 ≤ 55 ∧ (a0 % 10) ≤ 5))))) := by omega
theorem mp_o1573 {a0 : Int} {a1 : Int} {a2 : Int} (h0 : 0 ≤ a1) (h1 : a0 = (6 * a2)) (h2 : (0 ≤ a2 ∧ a2 ≤ 5)) : (-2147483648) ≤ (a0 + a1) := by omega
theorem mp_o1574 {a0 : Int} {a1 : Int} {a2 : Int} (h0 : a1 ≤ 5) (h1 : a0 = (6 * a2)) (h2 : (0 ≤ a2 ∧ a2 ≤ 5)) : (a0 + a1) ≤ 2147483647 := by omega
theorem mp_o1575 {a0 : Int} {a1 : Int} {a2 : Int} {a3 : Int} (h0 : 0 ≤ a1) (h1 : a1 ≤ 5) (h2 : a0 = (a2 + a1)) (h3 : a2 = (6 * a3)) (h4 : (0 ≤ a3 ∧ a3 ≤ 5)) : ((0 ≤ a0 ∧ a0 < ((180 : Nat) : Int))) := by omega
theorem mp_o1576 {a0 : Int} {a1 : Int} {a2 : Int} {a3 : Int} (h0 : 0 ≤ a1) (h1 : a0 = (a2 + a1)) (h2 : a2 = (6 * a3)) (h3 : (0 ≤ a3 ∧ a3 ≤ 5)) : 0 ≤ a0 := by omega
theorem mp_o1577 {a0 : Int} {a1 : Int} {a2 : Int} {a3 : Int} (h0 : a1 ≤ 5) (h1 : a0 = (a2 + a1)) (h2 : a2 = (6 * a3)) (h3 : (0 ≤ a3 ∧ a3 ≤ 5)) : a0 < ((180 : Nat) : Int) := by omega
theorem mp_o1578 {a0 : Int} {a1 : Int} {a2 : Int} {a3 : Int} {a4 : Int} (h0 : 0 ≤ a2) (h1 : a3 = a1) (h2 : (0 ≤ a3 ∧ a3 ≤ 5)) (h3 : a4 = (6 * a3)) (h4 : a0 = (a4 + a2)) : a0 = (((Int.toNat (((6 * a1) + a2))) : Nat) : Int) := by omega
theorem mp_o1579 {a0 : Int} {a1 : Int} {a2 : Int} {a3 : Int} {a4 : Int} {a5 : Int} {a6 : Int} {a7 : Int} {a8 : Int} (h0 : a2 ≤ 5) (h1 : a3 = (10 * a2)) (h2 : a4 ≤ 5) (h3 : a5 = (a3 + a4)) (h4 : a6 ≤ 99) (h5 : a0 = a7) (h6 : a6 = (a7 + a8)) (h7 : ((a5 = 200 ∧ a1 = (a8 + 1)) ∨ (a5 ≠ 200 ∧ a1 = a8))) : (a0 + a1) ≤ 99 := by omega
theorem mp_o1580 {a0 : Int} {a1 : Int} {a2 : Int} (h0 : 0 ≤ a1) (h1 : a1 ≤ 5) (h2 : a0 = a2) (h3 : a1 = a2) : ((0 ≤ a0 ∧ a0 < ((6 : Nat) : Int))) := by omega
theorem mp_o1581 {a0 : Int} {a1 : Int} {a2 : Int} (h0 : a1 ≤ 5) (h1 : a0 = a2) (h2 : a1 = a2) : a0 < ((6 : Nat) : Int) := by omega
theorem mp_o1582 {a0 : Int} (h0 : a0 ≤ 9) : (100 + a0) ≤ 2147483647 := by omega
theorem mp_o1583 {a0 : Int} {a1 : Int} (h0 : a1 ≤ 9) (h1 : a0 = (100 + a1)) : a0 ≤ 200 := by omega
theorem mp_o1584 {a0 : Int} {a1 : Int} (h0 : 0 ≤ a1) (h1 : a0 = (100 + a1)) (h2 : a1 ≤ 9) : ((a0 = 200 ∨ ((100 ≤ a0 ∧ a0 ≤ 109) ∨ (0 ≤ a0 ∧ (a0 ≤ 55 ∧ (a0 % 10) ≤ 5))))) := by omega
theorem mp_o1585 {a0 : Int} {a1 : Int} {a2 : Int} {a3 : Int} {a4 : Int} {a5 : Int} {a6 : Int} (h0 : a2 ≤ 9) (h1 : a3 = (100 + a2)) (h2 : a4 ≤ 99) (h3 : a0 = a5) (h4 : a4 = (a5 + a6)) (h5 : ((a3 = 200 ∧ a1 = (a6 + 1)) ∨ (a3 ≠ 200 ∧ a1 = a6))) : (a0 + a1) ≤ 99 := by omega
theorem mp_o1586 {a0 : Int} {a1 : Int} {a2 : Int} (h0 : a0 < a2) (h1 : a1 = a2) : a0 < a1 := by omega
theorem mp_o1587 {a0 : Int} {a1 : Int} {a2 : Int} {a3 : Int} (h0 : a3 = (a0 + a1)) (h1 : a3 = 99) : ((99 ≤ (a0 + a1) ∨ 60 ≤ a2)) := by omega
theorem mp_o1588 {a0 : Int} (h0 : a0 ≠ 99) (h1 : a0 ≤ 99) : a0 ≤ 98 := by omega
theorem mp_o1589 {a0 : Int} {a1 : Int} (h0 : a1 ≠ 99) (h1 : a0 = (a1 + 1)) (h2 : a1 ≤ 99) : a0 ≤ 99 := by omega
theorem mp_o1590 {a0 : Int} {a1 : Int} {a2 : Int} {a3 : Int} {a4 : Int} {a5 : Int} (h0 : a2 ≠ 99) (h1 : a2 ≤ 99) (h2 : a0 = a3) (h3 : a2 = (a3 + a4)) (h4 : ((a5 = 200 ∧ a1 = (a4 + 1)) ∨ (a5 ≠ 200 ∧ a1 = a4))) : (a0 + a1) ≤ 99 := by omega
theorem mp_o1591 {a0 : Int} {a1 : Int} {a2 : Int} (h0 : a2 = (a0 + a1)) (h1 : a2 ≠ 99) (h2 : a2 ≤ 99) : (a0 + a1) ≤ 98 := by omega
theorem mp_o1592 {a0 : Int} {a1 : Int} {a2 : Int} {a3 : Int} (h0 : a3 = (a1 + a2)) (h1 : a0 = (a3 + 1)) : a0 = ((a1 + a2) + 1) := by omega
theorem mp_o1593 {a0 : Int} {a1 : Int} (h0 : a1 ≠ 0) (h1 : (0 ≤ a1 ∧ a1 ≤ 60)) (h2 : a0 = (a1 - 1)) : ((0 ≤ a0 ∧ a0 ≤ 60)) := by omega
theorem mp_o1594 {a0 : Int} {a1 : Int} (h0 : a0 = a1) : a0 ≤ a1 := by omega
theorem mp_o1595 {a0 : Int} {a1 : Int} {a2 : Int} {a3 : Int} (h0 : a2 = a1) (h1 : a3 = (a2 - 1)) (h2 : a0 = a3) : a0 ≤ a1 := by omega
theorem mp_o1596 {a0 : Int} {a1 : Int} {a2 : Int} {a3 : Int} {a4 : Int} (h0 : a1 = a0) (h1 : a2 = (a1 - 1)) (h2 : a3 = a2) (h3 : a4 = a3) (h4 : (0 ≤ a4 ∧ a4 ≤ 60)) : 0 < a0 := by omega
theorem mp_o1597 {a0 : Int} {a1 : Int} {a2 : Int} {a3 : Int} (h0 : a2 = a1) (h1 : a3 = (a2 - 1)) (h2 : a0 = a3) : a0 = (a1 - 1) := by omega
theorem mp_o1598 {a0 : Int} {a1 : Int} (h0 : a1 = 0) (h1 : a1 = a0) : a0 ≤ 0 := by omega
theorem mp_o1599 {a0 : Int} {a1 : Int} {a2 : Int} (h0 : a0 = 0) (h1 : a2 = a1) (h2 : (0 ≤ a2 ∧ a2 ≤ 60)) : a0 ≤ a1 := by omega
theorem mp_o1600 {a0 : Int} {a1 : Int} {a2 : Int} {a3 : Int} {a4 : Int} (h0 : a0 ≤ 0) (h1 : a1 = (-2)) : (((a0 ≤ 0 ∧ a1 = (-2)) ∨ ((0 < a0 ∧ (((a2 < 0 ∨ a3 ≤ a2)) ∧ a1 = (-1))) ∨ (0 < a0 ∧ (((0 ≤ a2 ∧ a2 < a3)) ∧ a1 = a4))))) := by omega
theorem mp_o1601 {a0 : Int} {a1 : Int} {a2 : Int} {a3 : Int} {a4 : Int} {a5 : Int} {a6 : Int} {a7 : Int} {a8 : Int} {a9 : Int} (h0 : 0 < a0) (h1 : a1 = (-1)) (h2 : a5 = 0) (h3 : a6 = a2) (h4 : (a6 < a5 ∨ a7 < a6)) (h5 : a8 = a3) (h6 : a9 = (a8 - 1)) (h7 : a7 = a9) : (((a0 ≤ 0 ∧ a1 = (-2)) ∨ ((0 < a0 ∧ (((a2 < 0 ∨ a3 ≤ a2)) ∧ a1 = (-1))) ∨ (0 < a0 ∧ (((0 ≤ a2 ∧ a2 < a3)) ∧ a1 = a4))))) := by omega
theorem mp_o1602 {a0 : Int} {a1 : Int} {a2 : Int} {a3 : Int} {a4 : Int} (h0 : 0 ≤ a1) (h1 : a1 = a0) (h2 : a1 ≤ a2) (h3 : a2 = a3) (h4 : a3 = (a4 - 1)) (h5 : (0 ≤ a4 ∧ a4 ≤ 60)) : ((0 ≤ a0 ∧ a0 < ((300 : Nat) : Int))) := by omega
theorem mp_o1603 {a0 : Int} {a1 : Int} {a2 : Int} {a3 : Int} {a4 : Int} (h0 : a1 = a0) (h1 : a1 ≤ a2) (h2 : a2 = a3) (h3 : a3 = (a4 - 1)) (h4 : (0 ≤ a4 ∧ a4 ≤ 60)) : a0 < 300 := by omega
theorem mp_o1604 {a0 : Int} {a1 : Int} {a2 : Int} {a3 : Int} {a4 : Int} {a5 : Int} {a6 : Int} {a7 : Int} {a8 : Int} (h0 : 0 < a0) (h1 : a1 = a4) (h2 : 0 ≤ a5) (h3 : a5 = a2) (h4 : a6 = a3) (h5 : a7 = (a6 - 1)) (h6 : a8 = a7) (h7 : a5 ≤ a8) : (((a0 ≤ 0 ∧ a1 = (-2)) ∨ ((0 < a0 ∧ (((a2 < 0 ∨ a3 ≤ a2)) ∧ a1 = (-1))) ∨ (0 < a0 ∧ (((0 ≤ a2 ∧ a2 < a3)) ∧ a1 = a4))))) := by omega
theorem mp_o1605 {a0 : Int} {a1 : Int} {a2 : Int} (h0 : a0 ≤ 0) (h1 : a1 = (-2)) : (((a0 ≤ 0 ∧ a1 = (-2)) ∨ (0 < a0 ∧ a1 = a2))) := by omega
theorem mp_o1606 {a0 : Int} {a1 : Int} {a2 : Int} (h0 : (a0 = 0 ∨ a0 ≤ a1)) (h1 : a2 = a1) (h2 : a2 ≤ a0) : (Int.toNat a0) = (Int.toNat a1) := by omega
theorem mp_o1607 {a0 : Int} {a1 : Int} {a2 : Int} (h0 : 0 ≤ a0) (h1 : a2 = a1) (h2 : a0 < a2) : (((Int.toNat a0) : Nat) : Int) < a1 := by omega
theorem mp_o1608 {a0 : Int} {a1 : Int} {a2 : Int} {a3 : Int} (h0 : a2 = a1) (h1 : a3 < a2) (h2 : a0 = (a3 + 1)) : ((a0 = 0 ∨ a0 ≤ a1)) := by omega
theorem mp_o1609 {a0 : Int} {a1 : Int} {a2 : Int} (h0 : 0 ≤ a0) (h1 : 1 ≤ a2) (h2 : a2 = a1) : (-2147483648) ≤ (a0 + a1) := by omega
theorem mp_o1610 {a0 : Int} {a1 : Int} {a2 : Int} (h0 : a0 ≤ 99) (h1 : a2 = a1) (h2 : a2 ≤ 12) : (a0 + a1) ≤ 2147483647 := by omega
theorem mp_o1611 {a0 : Int} {a1 : Int} {a2 : Int} (h0 : a1 = 1) (h1 : a2 = a0) (h2 : a1 ≤ a2) : 1 ≤ a0 := by omega
theorem mp_o1612 {a0 : Int} {a1 : Int} {a2 : Int} (h0 : a1 = 12) (h1 : a2 = a0) (h2 : a2 ≤ a1) : a0 ≤ 12 := by omega
theorem mp_o1613 {a0 : Int} {a1 : Int} {a2 : Int} {a3 : Int} {a4 : Int} (h0 : a1 < 100) (h1 : a2 = 1) (h2 : a1 = (a0 + a3)) (h3 : a4 = a3) (h4 : a2 ≤ a4) : a0 ≤ 98 := by omega
theorem mp_o1614 {a0 : Int} {a1 : Int} {a2 : Int} (h0 : a2 < 100) (h1 : a2 = (a0 + a1)) : (a0 + a1) ≤ 99 := by omega
theorem mp_o1615 {a0 : Int} (h0 : (0 ≤ a0 ∧ a0 ≤ 10)) : 0 ≤ a0 := by omega
theorem mp_o1616 {a0 : Int} {a1 : Int} {a2 : Int} (h0 : a0 = 0) : ((a0 = 0 ∨ (a1 = (-1) ∨ a2 ≤ a1))) := by omega
theorem mp_o1617 {a0 : Int} {a1 : Int} {a2 : Int} {a3 : Int} (h0 : a3 = (-1)) (h1 : a3 = a1) : ((a0 = 0 ∨ (a1 = (-1) ∨ a2 ≤ a1))) := by omega
theorem mp_o1618 {a0 : Int} {a1 : Int} {a2 : Int} {a3 : Int} (h0 : a3 = a1) (h1 : a2 ≤ a3) : ((a0 = 0 ∨ (a1 = (-1) ∨ a2 ≤ a1))) := by omega
theorem mp_o1619 {a0 : Int} {a1 : Int} {a2 : Int} (h0 : a2 < a1) (h1 : a2 = a0) : a0 < a1 := by omega
theorem mp_o1620 {a0 : Int} (h0 : a0 ≤ 12) : (6 * a0) ≤ 2147483647 := by omega
theorem mp_o1621 {a0 : Int} {a1 : Int} {a2 : Int} (h0 : a1 ≤ 5) (h1 : a2 ≤ 12) (h2 : a0 = (6 * a2)) : (a0 + a1) ≤ 2147483647 := by omega
theorem mp_o1622 {a0 : Int} {a1 : Int} {a2 : Int} {a3 : Int} (h0 : 0 ≤ a1) (h1 : a1 ≤ 12) (h2 : 0 ≤ a2) (h3 : a2 ≤ 5) (h4 : a3 = (6 * a1)) (h5 : a0 = (a3 + a2)) : ((0 ≤ a0 ∧ a0 < ((78 : Nat) : Int))) := by omega
theorem mp_o1623 {a0 : Int} {a1 : Int} {a2 : Int} (h0 : 0 ≤ a1) (h1 : 0 ≤ a2) (h2 : a0 = (a2 + a1)) : (-2147483648) ≤ (a0 + 1) := by omega
theorem mp_o1624 {a0 : Int} {a1 : Int} {a2 : Int} {a3 : Int} (h0 : (a1 + a2) ≤ 99) (h1 : a3 ≤ a2) (h2 : a0 = (a1 + a3)) : (a0 + 1) ≤ 2147483647 := by omega
theorem mp_o1625 {a0 : Int} {a1 : Int} {a2 : Int} {a3 : Int} (h0 : 0 ≤ a1) (h1 : 0 ≤ a2) (h2 : a3 = (a2 + a1)) (h3 : a0 = (a3 + 1)) : 0 ≤ a0 := by omega
theorem mp_o1626 {a0 : Int} {a1 : Int} {a2 : Int} {a3 : Int} {a4 : Int} (h0 : a0 = (a1 + 1)) (h1 : (a2 + a3) ≤ 99) (h2 : a4 ≠ a3) (h3 : a1 = (a2 + a4)) (h4 : a4 ≤ a3) : a0 ≤ 99 := by omega
theorem mp_o1627 {a0 : Int} {a1 : Int} {a2 : Int} {a3 : Int} (h0 : 0 ≤ a1) (h1 : a3 = (a0 + a1)) (h2 : a2 = (a3 + 1)) : ((a0 + (((Int.toNat a1) : Nat) : Int)) + 1) = a2 := by omega
theorem mp_o1628 {a0 : Int} {a1 : Int} (h0 : 0 ≤ a1) (h1 : a0 = (a1 + 1)) : (-2147483648) ≤ (6 * a0) := by omega
theorem mp_o1629 {a0 : Int} {a1 : Int} (h0 : a1 ≤ 12) (h1 : a0 = (a1 + 1)) : (6 * a0) ≤ 2147483647 := by omega
theorem mp_o1630 {a0 : Int} {a1 : Int} {a2 : Int} {a3 : Int} (h0 : 0 ≤ a1) (h1 : 0 ≤ a2) (h2 : a3 = (a2 + 1)) (h3 : a0 = (6 * a3)) : (-2147483648) ≤ (a0 + a1) := by omega
theorem mp_o1631 {a0 : Int} {a1 : Int} {a2 : Int} {a3 : Int} (h0 : a1 ≤ 6) (h1 : a2 ≤ 12) (h2 : a3 = (a2 + 1)) (h3 : a0 = (6 * a3)) : (a0 + a1) ≤ 2147483647 := by omega
theorem mp_o1632 {a0 : Int} {a1 : Int} {a2 : Int} {a3 : Int} {a4 : Int} (h0 : 0 ≤ a1) (h1 : 0 ≤ a2) (h2 : a3 = (a1 + 1)) (h3 : a4 = (6 * a3)) (h4 : a0 = (a4 + a2)) : a0 = (((((6 * (((Int.toNat a1) + 1))) + (Int.toNat a2))) : Nat) : Int) := by omega
theorem mp_o1633 {a0 : Int} {a1 : Int} (h0 : a0 < a1) (h1 : (0 ≤ a1 ∧ a1 ≤ 6)) : (Int.toNat a0) < 6 := by omega
theorem mp_o1634 {a0 : Int} {a1 : Int} {a2 : Int} (h0 : a1 < 1000000) (h1 : a2 ≤ 1000000) (h2 : a0 = a2) : (a0 + a1) ≤ 2147483647 := by omega
theorem mp_o1635 {a0 : Int} {a1 : Int} {a2 : Int} {a3 : Int} (h0 : 0 ≤ a1) (h1 : 0 ≤ a2) (h2 : a3 = (6 * a1)) (h3 : a0 = (a3 + a2)) : a0 = ((6 * (((Int.toNat a1) : Nat) : Int)) + (((Int.toNat a2) : Nat) : Int)) := by omega
theorem mp_o1636 {a0 : Int} (h0 : a0 ≤ 5) : (Int.toNat a0) < 6 := by omega
theorem mp_o1637 {a0 : Int} {a1 : Int} (h0 : a1 < 1000000) (h1 : a1 = a0) : a0 < 1000000 := by omega
theorem mp_o1638 {a0 : Int} {a1 : Int} {a2 : Int} {a3 : Int} {a4 : Int} (h0 : a3 = a1) (h1 : a4 = a2) (h2 : a0 = (a3 + a4)) : a0 = (a1 + a2) := by omega
theorem mp_o1639 {a0 : Int} {a1 : Int} {a2 : Int} {a3 : Int} {a4 : Int} {a5 : Int} (h0 : a2 = a1) (h1 : a3 < a2) (h2 : a0 = (a4 + a5)) (h3 : a3 = (a4 + a5)) : a0 < a1 := by omega
theorem mp_o1640 {a0 : Nat} {a1 : Int} {a2 : Int} (h0 : (a1 - a2) < ((a0 : Nat) : Int)) (h1 : a2 ≤ a1) : (a0 - 1) < a0 := by omega
theorem mp_o1641 {a0 : Int} {a1 : Int} (h0 : a1 = (a0 + 1)) : ((Int.toNat a0) + 1) ≤ ((Int.toNat a1) + 1) := by omega
theorem mp_o1642 {a0 : Int} {a1 : Int} {a2 : Int} (h0 : 0 ≤ a2) (h1 : a1 = (a2 + 1)) : (a0 + a1) = ((a0 + (((Int.toNat a2) : Nat) : Int)) + 1) := by omega
theorem mp_o1643 {a0 : Int} {a1 : Int} {a2 : Nat} {a3 : Int} (h0 : (a0 - a3) < ((a2 : Nat) : Int)) (h1 : a1 = (a3 + 1)) : (a0 - a1) < ((((a2 - 1)) : Nat) : Int) := by omega
theorem mp_o1644 {a0 : Nat} {a1 : Int} {a2 : Int} (h0 : (a1 - a2) < ((a0 : Nat) : Int)) (h1 : a2 ≤ a1) : ((3 + (1 * ((a0 - 1)))) + 1) ≤ (3 + (1 * a0)) := by omega
theorem mp_o1645 {a0 : Nat} {a1 : Int} {a2 : Int} (h0 : (a1 - a2) < ((a0 : Nat) : Int)) (h1 : a2 ≤ a1) : ((8 + ((9 + 11))) + ((72 + (28 * ((a0 - 1)))))) ≤ (72 + (28 * a0)) := by omega
theorem mp_o1646 {a0 : Int} {a1 : Int} (h0 : a1 < 0) (h1 : a1 = a0) : a0 < 0 := by omega
theorem mp_o1647 {a0 : Int} {a1 : Int} (h0 : 0 ≤ a1) (h1 : a1 = a0) : a0 = (((Int.toNat a1) : Nat) : Int) := by omega
theorem mp_o1648 {a0 : Int} {a1 : Int} (h0 : 1 ≤ a1) (h1 : a0 = 0) : a0 ≤ a1 := by omega
theorem mp_o1649 {a0 : Nat} {a1 : Int} (h0 : 78 ≤ a1) (h1 : a0 < 78) : ((a0 : Nat) : Int) < a1 := by omega
theorem mp_o1650 {a0 : Int} {a1 : Int} (h0 : a0 ≤ 12) (h1 : a1 = 0) : (a0 - a1) < ((13 : Nat) : Int) := by omega
theorem mp_o1651 {a0 : Int} (h0 : (0 ≤ a0 ∧ a0 ≤ 5)) : ((0 ≤ a0 ∧ a0 < ((78 : Nat) : Int))) := by omega
theorem mp_o1652 {a0 : Int} {a1 : Int} (h0 : (0 ≤ a0 ∧ a0 ≤ 5)) (h1 : a0 = a1) : a0 = (((Int.toNat a1) : Nat) : Int) := by omega
theorem mp_o1653 {a0 : Int} (h0 : 0 ≤ a0) (h1 : a0 < 78) : ((0 ≤ a0 ∧ a0 < ((78 : Nat) : Int))) := by omega
theorem mp_o1654 {a0 : Int} (h0 : a0 < 78) : (a0 + 1) ≤ 2147483647 := by omega
theorem mp_o1655 {a0 : Nat} {a1 : Int} (h0 : ((-a1) + 78) ≤ ((a0 : Nat) : Int)) (h1 : a1 < 78) : (a0 - 1) < a0 := by omega
theorem mp_o1656 {a0 : Int} {a1 : Int} (h0 : a1 < 78) (h1 : a0 = (a1 + 1)) : a0 ≤ 78 := by omega
theorem mp_o1657 {a0 : Int} {a1 : Nat} {a2 : Int} (h0 : ((-a2) + 78) ≤ ((a1 : Nat) : Int)) (h1 : a0 = (a2 + 1)) : ((-a0) + 78) ≤ ((((a1 - 1)) : Nat) : Int) := by omega
theorem mp_o1658 {a0 : Int} (h0 : a0 ≤ 98) : a0 ≤ 99 := by omega
theorem mp_o1659 {a0 : Int} {a1 : Int} (h0 : (a0 + a1) ≤ 98) : (a0 + a1) ≤ 2147483647 := by omega
theorem mp_o1660 {a0 : Int} {a1 : Int} {a2 : Int} (h0 : (a1 + a2) ≤ 98) (h1 : a0 = (a1 + a2)) : (a0 + 1) ≤ 2147483647 := by omega
theorem mp_o1661 {a0 : Int} {a1 : Int} {a2 : Int} {a3 : Int} (h0 : a0 = (a1 + 1)) (h1 : (a2 + a3) ≤ 98) (h2 : a1 = (a2 + a3)) : a0 ≤ 99 := by omega
theorem mp_o1662 {a0 : Int} {a1 : Int} (h0 : 1000000 ≤ a0) (h1 : a1 < 1000000) (h2 : a0 = a1) : False := by omega
theorem mp_o1663 {a0 : Int} {a1 : Int} (h0 : a1 ≤ 11) (h1 : a0 = (a1 + 1)) : (6 * a0) ≤ 2147483647 := by omega
theorem mp_o1664 {a0 : Int} {a1 : Int} {a2 : Int} {a3 : Int} (h0 : a1 ≤ 5) (h1 : a2 ≤ 11) (h2 : a3 = (a2 + 1)) (h3 : a0 = (6 * a3)) : (a0 + a1) ≤ 2147483647 := by omega
theorem mp_o1665 {a0 : Int} {a1 : Int} {a2 : Int} {a3 : Int} {a4 : Int} (h0 : 0 ≤ a1) (h1 : a1 ≤ 11) (h2 : 0 ≤ a2) (h3 : a2 ≤ 5) (h4 : a3 = (a1 + 1)) (h5 : a4 = (6 * a3)) (h6 : a0 = (a4 + a2)) : ((0 ≤ a0 ∧ a0 < ((78 : Nat) : Int))) := by omega
theorem mp_o1666 {a0 : Int} {a1 : Int} {a2 : Int} (h0 : 0 ≤ a1) (h1 : a0 = a2) (h2 : (0 ≤ a2 ∧ a2 ≤ 1000000)) : (-2147483648) ≤ (a0 + a1) := by omega
theorem mp_o1667 {a0 : Int} {a1 : Int} {a2 : Int} (h0 : a1 < 1000000) (h1 : a0 = a2) (h2 : (0 ≤ a2 ∧ a2 ≤ 1000000)) : (a0 + a1) ≤ 2147483647 := by omega
theorem mp_o1668 {a0 : Int} (h0 : a0 ≤ 11) : (6 * a0) ≤ 2147483647 := by omega
theorem mp_o1669 {a0 : Int} {a1 : Int} {a2 : Int} (h0 : a1 ≤ 5) (h1 : a2 ≤ 11) (h2 : a0 = (6 * a2)) : (a0 + a1) ≤ 2147483647 := by omega
theorem mp_o1670 {a0 : Int} {a1 : Int} {a2 : Int} {a3 : Int} (h0 : 0 ≤ a1) (h1 : a1 ≤ 11) (h2 : 0 ≤ a2) (h3 : a2 ≤ 5) (h4 : a3 = (6 * a1)) (h5 : a0 = (a3 + a2)) : ((0 ≤ a0 ∧ a0 < ((78 : Nat) : Int))) := by omega
theorem mp_o1671 {a0 : Int} {a1 : Int} {a2 : Int} {a3 : Int} {a4 : Int} {a5 : Int} {a6 : Int} (h0 : a0 = a1) (h1 : (a2 + a1) = a3) (h2 : a4 = a2) (h3 : a5 = (a4 + a0)) (h4 : a6 = a3) (h5 : a5 ≠ a6) : False := by omega
theorem mp_o1672 {a0 : Int} {a1 : Int} {a2 : Int} {a3 : Int} {a4 : Int} {a5 : Int} {a6 : Int} (h0 : a3 = a0) (h1 : a4 = a1) (h2 : a5 = (a3 + a4)) (h3 : a6 = a2) (h4 : a5 = a6) : (a0 + a1) = a2 := by omega
theorem mp_o1673 {a0 : Int} {a1 : Int} {a2 : Int} {a3 : Int} {a4 : Int} {a5 : Int} {a6 : Int} (h0 : a2 = (a1 - 1)) (h1 : a3 = 0) (h2 : a4 = a2) (h3 : a5 ≤ a4) (h4 : a3 ≤ a5) (h5 : a0 ≤ a6) (h6 : a5 = a6) : (((Int.toNat a0) : Nat) : Int) < a1 := by omega
theorem mp_o1674 {a0 : Int} {a1 : Int} {a2 : Int} {a3 : Int} {a4 : Int} {a5 : Int} (h0 : a1 ≤ 12) (h1 : a2 = (a1 - 1)) (h2 : a3 = a2) (h3 : a4 ≤ a3) (h4 : a0 ≤ a5) (h5 : a4 = a5) : a0 ≤ 11 := by omega
theorem mp_o1675 {a0 : Int} {a1 : Int} {a2 : Int} {a3 : Int} {a4 : Int} {a5 : Int} {a6 : Int} (h0 : (a0 + a2) ≤ 99) (h1 : a3 = (a2 - 1)) (h2 : a4 = a3) (h3 : a5 ≤ a4) (h4 : a1 ≤ a6) (h5 : a5 = a6) : (a0 + a1) ≤ 98 := by omega
theorem mp_o1676 {a0 : Int} {a1 : Int} {a2 : Int} {a3 : Int} {a4 : Int} {a5 : Int} (h0 : a2 = (a1 - 1)) (h1 : a3 = a2) (h2 : a4 ≤ a3) (h3 : a0 ≤ a5) (h4 : a4 = a5) : a0 < a1 := by omega
theorem mp_o1677 {a0 : Int} {a1 : Int} (h0 : a0 < a1) (h1 : (0 ≤ a1 ∧ a1 ≤ 6)) : (a0 + 1) ≤ 2147483647 := by omega
theorem mp_o1678 {a0 : Nat} {a1 : Int} {a2 : Int} (h0 : (6 - a1) ≤ ((a0 : Nat) : Int)) (h1 : a1 < a2) (h2 : (0 ≤ a2 ∧ a2 ≤ 6)) : (a0 - 1) < a0 := by omega
theorem mp_o1679 {a0 : Int} {a1 : Int} {a2 : Int} (h0 : 0 ≤ a1) (h1 : 0 ≤ a2) (h2 : a0 = (a1 + a2)) : (-2147483648) ≤ (a0 + 1) := by omega
theorem mp_o1680 {a0 : Int} {a1 : Int} {a2 : Int} {a3 : Int} {a4 : Int} {a5 : Int} {a6 : Int} {a7 : Int} (h0 : (a1 + a2) ≤ 99) (h1 : a3 = (a2 - 1)) (h2 : a4 = a3) (h3 : a5 ≤ a4) (h4 : a0 = (a1 + a6)) (h5 : a5 = a7) (h6 : a6 ≤ a7) : (a0 + 1) ≤ 2147483647 := by omega
theorem mp_o1681 {a0 : Int} {a1 : Int} {a2 : Int} {a3 : Int} {a4 : Int} {a5 : Int} {a6 : Int} (h0 : a1 ≤ 12) (h1 : a2 = (a1 - 1)) (h2 : a3 = a2) (h3 : a4 ≤ a3) (h4 : a0 = (a5 + 1)) (h5 : a4 = a6) (h6 : a5 ≤ a6) : a0 ≤ 12 := by omega
theorem mp_o1682 {a0 : Int} {a1 : Int} {a2 : Int} {a3 : Int} {a4 : Int} {a5 : Int} (h0 : 0 ≤ a0) (h1 : a2 = (a1 - 1)) (h2 : a3 = a2) (h3 : a4 ≤ a3) (h4 : a0 ≤ a5) (h5 : a4 = a5) : (((Int.toNat a0) : Nat) : Int) < a1 := by omega
theorem mp_o1683 {a0 : Int} {a1 : Int} (h0 : a1 = a0) (h1 : (0 ≤ a1 ∧ a1 ≤ 5)) : (Int.toNat a0) < 6 := by omega
theorem mp_o1684 {a0 : Nat} {a1 : Nat} {a2 : Int} {a3 : Nat} (h0 : ((a1 : Nat) : Int) ≤ ((a0 : Nat) : Int)) (h1 : a2 ≠ 0) (h2 : (a2 = 0 ∨ ((a3 : Nat) : Int) < ((a1 : Nat) : Int))) : (a0 - 1) < a0 := by omega
theorem mp_o1685 {a0 : Nat} {a1 : Nat} {a2 : Nat} {a3 : Int} (h0 : ((a2 : Nat) : Int) ≤ ((a1 : Nat) : Int)) (h1 : (a3 = 0 ∨ ((a0 : Nat) : Int) < ((a2 : Nat) : Int))) (h2 : a3 ≠ 0) : ((a0 : Nat) : Int) ≤ ((((a1 - 1)) : Nat) : Int) := by omega
theorem mp_o1689 {a0 : Int} {a1 : Int} {a2 : Int} {a3 : Int} (h0 : 0 ≤ a0) (h1 : a2 = 0) (h2 : a3 = a1) (h3 : a2 ≤ a3) : (-2147483648) ≤ (a0 + a1) := by omega
theorem mp_o1690 {a0 : Int} {a1 : Int} {a2 : Int} {a3 : Int} (h0 : a0 ≤ 99) (h1 : a2 = 12) (h2 : a3 = a1) (h3 : a3 ≤ a2) : (a0 + a1) ≤ 2147483647 := by omega
theorem mp_o1691 {a0 : Int} {a1 : Int} (h0 : a1 = a0) (h1 : a1 ≤ 12) : a0 ≤ 12 := by omega
theorem mp_o1692 {a0 : Int} {a1 : Int} {a2 : Int} (h0 : a1 ≤ 9) (h1 : a0 = a2) (h2 : ((-1) ≤ a2 ∧ a2 < a1)) : a0 < ((10 : Nat) : Int) := by omega
theorem mp_o1693 {a0 : Int} {a1 : Int} (h0 : 0 ≤ a0) (h1 : a1 ≤ 99) : (-2147483648) ≤ (a0 - a1) := by omega
theorem mp_o1694 {a0 : Int} {a1 : Int} (h0 : 0 ≤ a1) (h1 : a0 ≤ 99) : (a0 - a1) ≤ 2147483647 := by omega
theorem mp_o1695 {a0 : Int} {a1 : Int} {a2 : Int} (h0 : 0 ≤ a1) (h1 : a2 ≤ 99) (h2 : a0 = (a1 - a2)) : (-2147483648) ≤ (a0 + 0) := by omega
theorem mp_o1696 {a0 : Int} {a1 : Int} {a2 : Int} (h0 : 0 ≤ a1) (h1 : a2 ≤ 99) (h2 : a0 = (a2 - a1)) : (a0 + 0) ≤ 2147483647 := by omega
theorem mp_o1697 {a0 : Int} {a1 : Int} {a2 : Int} {a3 : Int} (h0 : 0 ≤ a1) (h1 : a2 ≤ 99) (h2 : a3 = (a1 - a2)) (h3 : a0 = (a3 + 0)) : (-196) ≤ a0 := by omega
theorem mp_o1698 {a0 : Int} {a1 : Int} {a2 : Int} {a3 : Int} (h0 : 0 ≤ a1) (h1 : a2 ≤ 99) (h2 : a3 = (a2 - a1)) (h3 : a0 = (a3 + 0)) : a0 ≤ 198 := by omega
theorem mp_o1699 {a0 : Int} {a1 : Int} (h0 : a1 < a0) : (-2147483648) ≤ (a0 - a1) := by omega
theorem mp_o1700 {a0 : Int} {a1 : Int} (h0 : ((-1) ≤ a1 ∧ a1 ≤ 99)) (h1 : a0 ≤ 99) : (a0 - a1) ≤ 2147483647 := by omega
theorem mp_o1701 {a0 : Int} {a1 : Int} {a2 : Int} {a3 : Int} {a4 : Int} (h0 : 0 ≤ a2) (h1 : a3 < a2) (h2 : a1 = (a2 - a3)) (h3 : a4 ≤ 99) (h4 : a0 = (a2 - a4)) : (-2147483648) ≤ (a0 + a1) := by omega
theorem mp_o1702 {a0 : Int} {a1 : Int} {a2 : Int} {a3 : Int} {a4 : Int} (h0 : 0 ≤ a2) (h1 : a3 ≤ 99) (h2 : a0 = (a3 - a2)) (h3 : a1 = (a3 - a4)) (h4 : ((-1) ≤ a4 ∧ a4 ≤ 99)) : (a0 + a1) ≤ 2147483647 := by omega
theorem mp_o1703 {a0 : Int} {a1 : Int} {a2 : Int} {a3 : Int} {a4 : Int} {a5 : Int} (h0 : 0 ≤ a1) (h1 : a2 < a1) (h2 : a3 = (a1 - a2)) (h3 : a4 ≤ 99) (h4 : a5 = (a1 - a4)) (h5 : a0 = (a5 + a3)) : (-196) ≤ a0 := by omega
theorem mp_o1704 {a0 : Int} {a1 : Int} {a2 : Int} {a3 : Int} {a4 : Int} {a5 : Int} (h0 : 0 ≤ a1) (h1 : a2 ≠ (-1)) (h2 : ((-1) ≤ a2 ∧ a2 ≤ 99)) (h3 : a3 ≤ 99) (h4 : a4 = (a3 - a1)) (h5 : a5 = (a3 - a2)) (h6 : a0 = (a4 + a5)) : a0 ≤ 198 := by omega
theorem mp_o1705 {a0 : Int} {a1 : Int} {a2 : Int} (h0 : (a1 + a2) ≤ 99) (h1 : a0 = (a1 + a2)) : a0 ≤ 139 := by omega
theorem mp_o1706 {a0 : Int} {a1 : Int} {a2 : Int} (h0 : 0 ≤ a1) (h1 : 0 ≤ a2) (h2 : a0 = (a1 + a2)) : 0 ≤ a0 := by omega
theorem mp_o1707 {a0 : Int} {a1 : Int} {a2 : Int} {a3 : Int} (h0 : (a1 + a2) ≤ 99) (h1 : a3 ≤ a2) (h2 : a0 = (a1 + a3)) : a0 ≤ 99 := by omega
theorem mp_o1708 {a0 : Int} {a1 : Int} {a2 : Int} (h0 : (a1 + a2) ≤ 99) (h1 : a0 = (a1 + a2)) : a0 ≤ 99 := by omega
theorem mp_o1709 {a0 : Int} {a1 : Int} (h0 : a1 ≤ 1000000) (h1 : a0 < a1) : a0 ≤ 1000000 := by omega
theorem mp_o1710 {a0 : Int} {a1 : Int} {a2 : Int} (h0 : 0 < a1) (h1 : 0 ≤ a2) (h2 : a0 = (a2 + a1)) : 0 ≤ a0 := by omega
theorem mp_o1711 {a0 : Int} (h0 : a0 ≤ 6) : (6 * a0) ≤ 2147483647 := by omega
theorem mp_o1712 {a0 : Int} {a1 : Int} {a2 : Int} (h0 : a1 ≤ 6) (h1 : a2 ≤ 6) (h2 : a0 = (6 * a2)) : (a0 + a1) ≤ 2147483647 := by omega
theorem mp_o1713 {a0 : Int} {a1 : Int} {a2 : Int} {a3 : Int} (h0 : 0 ≤ a1) (h1 : a1 ≤ 6) (h2 : 0 ≤ a2) (h3 : a2 ≤ 6) (h4 : a3 = (6 * a2)) (h5 : a0 = (a3 + a1)) : ((0 ≤ a0 ∧ a0 < ((180 : Nat) : Int))) := by omega
theorem mp_o1714 {a0 : Int} {a1 : Int} {a2 : Int} {a3 : Int} (h0 : 0 ≤ a1) (h1 : 0 ≤ a2) (h2 : a3 = (6 * a2)) (h3 : a0 = (a3 + a1)) : 0 ≤ a0 := by omega
theorem mp_o1715 {a0 : Int} {a1 : Int} {a2 : Int} {a3 : Int} (h0 : a1 ≤ 6) (h1 : a2 ≤ 6) (h2 : a3 = (6 * a2)) (h3 : a0 = (a3 + a1)) : a0 < ((180 : Nat) : Int) := by omega
theorem mp_o1716 {a0 : Int} {a1 : Int} (h0 : ((-2147483648) ≤ a0 ∧ a0 ≤ 2147483647)) (h1 : (0 ≤ a1 ∧ a1 ≤ 20)) : (-2147483648) ≤ (a0 + a1) := by omega
theorem mp_o1717 {a0 : Int} {a1 : Int} (h0 : (0 ≤ a1 ∧ a1 ≤ 20)) (h1 : a0 < 1000000) : (a0 + a1) ≤ 2147483647 := by omega
theorem mp_o1718 {a0 : Int} (h0 : 0 ≤ a0) (h1 : a0 < 6) : ((0 ≤ a0 ∧ a0 < ((6 : Nat) : Int))) := by omega
theorem mp_o1719 {a0 : Int} (h0 : a0 < 6) : (a0 + 1) ≤ 2147483647 := by omega
theorem mp_o1720 {a0 : Nat} {a1 : Int} (h0 : ((-a1) + 6) ≤ ((a0 : Nat) : Int)) (h1 : a1 < 6) : (a0 - 1) < a0 := by omega
theorem mp_o1721 {a0 : Int} {a1 : Int} (h0 : a1 < 6) (h1 : a0 = (a1 + 1)) : a0 ≤ 6 := by omega
theorem mp_o1722 {a0 : Int} {a1 : Nat} {a2 : Int} (h0 : ((-a2) + 6) ≤ ((a1 : Nat) : Int)) (h1 : a0 = (a2 + 1)) : ((-a0) + 6) ≤ ((((a1 - 1)) : Nat) : Int) := by omega
theorem mp_o1723 {a0 : Int} {a1 : Int} (h0 : a0 = a1) (h1 : (0 ≤ a1 ∧ a1 ≤ 5)) : ((0 ≤ a0 ∧ a0 < ((6 : Nat) : Int))) := by omega
theorem mp_o1724 {a0 : Int} {a1 : Int} (h0 : a0 = a1) (h1 : (0 ≤ a1 ∧ a1 ≤ 5)) : (-2147483648) ≤ (a0 + 1) := by omega
theorem mp_o1725 {a0 : Int} {a1 : Int} (h0 : a0 = a1) (h1 : (0 ≤ a1 ∧ a1 ≤ 5)) : (a0 + 1) ≤ 2147483647 := by omega
theorem mp_o1726 {a0 : Nat} {a1 : Int} {a2 : Int} (h0 : ((-a1) + 6) ≤ ((a0 : Nat) : Int)) (h1 : a1 = a2) (h2 : (0 ≤ a2 ∧ a2 ≤ 5)) : (a0 - 1) < a0 := by omega
theorem mp_o1727 {a0 : Int} {a1 : Int} {a2 : Int} (h0 : a0 = (a1 + 1)) (h1 : a1 = a2) (h2 : (0 ≤ a2 ∧ a2 ≤ 5)) : 0 ≤ a0 := by omega
theorem mp_o1728 {a0 : Int} {a1 : Int} {a2 : Int} (h0 : a0 = (a1 + 1)) (h1 : a1 = a2) (h2 : (0 ≤ a2 ∧ a2 ≤ 5)) : a0 ≤ 6 := by omega
theorem mp_o1729 {a0 : Int} (h0 : a0 < 1000000) : a0 ≤ 999999 := by omega
theorem mp_o1730 {a0 : Int} {a1 : Int} (h0 : 1 ≤ a1) (h1 : a1 = a0) : (-2147483648) ≤ (a0 - 1) := by omega
theorem mp_o1731 {a0 : Int} {a1 : Int} (h0 : a1 = a0) (h1 : a1 ≤ 20) : (a0 - 1) ≤ 2147483647 := by omega
theorem mp_o1732 {a0 : Int} {a1 : Int} (h0 : (-1000000) ≤ a1) (h1 : a1 < a0) : (-1000000) ≤ a0 := by omega
theorem mp_o1733 {a0 : Int} {a1 : Int} {a2 : Int} {a3 : Int} {a4 : Int} (h0 : (0 ≤ a1 ∧ a1 ≤ 10)) (h1 : a2 < a1) (h2 : a3 < a1) (h3 : a4 = (10 * a2)) (h4 : a0 = (a4 + a3)) : a0 ≤ 100 := by omega
theorem mp_o1734 {a0 : Int} {a1 : Int} (h0 : 0 ≤ a1) (h1 : a1 = a0) (h2 : a1 ≤ 2) : ((0 ≤ a0 ∧ a0 < ((3 : Nat) : Int))) := by omega
theorem mp_o1738 {a0 : Int} {a1 : Int} {a2 : Int} (h0 : a1 ≤ 78) (h1 : a2 ≤ 3) (h2 : a0 = (60 * a2)) : (a0 + a1) ≤ 2147483647 := by omega
theorem mp_o1739 {a0 : Int} {a1 : Int} {a2 : Int} {a3 : Int} {a4 : Int} (h0 : 0 ≤ a1) (h1 : a1 ≤ 3) (h2 : 0 ≤ a2) (h3 : a3 = (60 * a1)) (h4 : a0 = (a3 + a2)) (h5 : a2 < a4) (h6 : (0 ≤ a4 ∧ a4 ≤ 60)) : ((0 ≤ a0 ∧ a0 < ((240 : Nat) : Int))) := by omega
theorem mp_o1754 {a0 : Int} {a1 : Int} {a2 : Int} {a3 : Int} (h0 : a3 = (60 * a1)) (h1 : a0 = (a3 + a2)) : a0 = ((60 * a1) + a2) := by omega
theorem mp_o1760 {a0 : Int} {a1 : Int} (h0 : a1 ≤ a0) : (-2147483648) ≤ (a0 - a1) := by omega
theorem mp_o1761 {a0 : Int} {a1 : Int} (h0 : 0 ≤ a1) (h1 : a0 ≤ 10) : (a0 - a1) ≤ 2147483647 := by omega
theorem mp_o1762 {a0 : Int} (h0 : 0 ≤ a0) (h1 : a0 ≠ 0) (h2 : a0 ≤ 0) : False := by omega
theorem mp_o1763 {a0 : Int} {a1 : Int} {a2 : Int} {a3 : Int} (h0 : 0 ≤ a1) (h1 : 0 ≤ a2) (h2 : a3 ≤ 0) (h3 : a0 = (a2 - a3)) : (-2147483648) ≤ (a0 + a1) := by omega
theorem mp_o1764 {a0 : Int} {a1 : Int} {a2 : Int} {a3 : Int} (h0 : a1 ≤ 1) (h1 : 0 ≤ a2) (h2 : a3 ≤ 10) (h3 : a0 = (a3 - a2)) : (a0 + a1) ≤ 2147483647 := by omega
theorem mp_o1765 {a0 : Int} {a1 : Int} {a2 : Int} {a3 : Int} {a4 : Int} (h0 : 0 ≤ a1) (h1 : a2 ≤ 1) (h2 : a3 ≤ 10) (h3 : a4 = (a3 - a1)) (h4 : a0 = (a4 + a2)) : (Int.toNat a0) ≤ 11 := by omega
theorem mp_o1766 {a0 : Int} {a1 : Int} {a2 : Int} {a3 : Int} {a4 : Int} (h0 : 0 ≤ a1) (h1 : 0 ≤ a2) (h2 : a3 ≤ 0) (h3 : a4 = (a1 - a3)) (h4 : a0 = (a4 + a2)) : 0 ≤ a0 := by omega
theorem mp_o1767 {a0 : Int} (h0 : 0 < a0) : (-2147483648) ≤ (a0 + (-1)) := by omega
theorem mp_o1768 {a0 : Int} (h0 : a0 ≤ 10) : (a0 + (-1)) ≤ 2147483647 := by omega
theorem mp_o1769 {a0 : Nat} {a1 : Int} (h0 : 0 < a1) (h1 : a1 ≤ ((a0 : Nat) : Int)) : (a0 - 1) < a0 := by omega
theorem mp_o1770 {a0 : Int} {a1 : Int} (h0 : 0 < a1) (h1 : a0 = (a1 + (-1))) : 0 ≤ a0 := by omega
theorem mp_o1771 {a0 : Int} {a1 : Int} (h0 : a1 ≤ 10) (h1 : a0 = (a1 + (-1))) : a0 ≤ 10 := by omega
theorem mp_o1772 {a0 : Int} {a1 : Int} {a2 : Int} (h0 : a2 ≤ a1) (h1 : a0 = (a2 + (-1))) : a0 ≤ a1 := by omega
theorem mp_o1773 {a0 : Int} {a1 : Nat} {a2 : Int} (h0 : a2 ≤ ((a1 : Nat) : Int)) (h1 : a0 = (a2 + (-1))) : a0 ≤ ((((a1 - 1)) : Nat) : Int) := by omega
theorem mp_o1774 {a0 : Int} {a1 : Int} (h0 : 0 < a1) (h1 : a0 ≤ 10) : (a0 - a1) ≤ 2147483647 := by omega
theorem mp_o1775 {a0 : Int} {a1 : Int} {a2 : Int} (h0 : a1 ≤ a2) (h1 : a0 = (a2 - a1)) : (-2147483648) ≤ (a0 + 0) := by omega
theorem mp_o1776 {a0 : Int} {a1 : Int} {a2 : Int} (h0 : 0 < a1) (h1 : a2 ≤ 10) (h2 : a0 = (a2 - a1)) : (a0 + 0) ≤ 2147483647 := by omega
theorem mp_o1777 {a0 : Int} {a1 : Int} {a2 : Int} {a3 : Int} (h0 : 0 < a1) (h1 : a2 ≤ 10) (h2 : a3 = (a2 - a1)) (h3 : a0 = (a3 + 0)) : (Int.toNat a0) ≤ 11 := by omega
theorem mp_o1778 {a0 : Int} {a1 : Int} {a2 : Int} {a3 : Int} (h0 : a0 = (a1 + 0)) (h1 : a2 ≤ a3) (h2 : a1 = (a3 - a2)) : 0 ≤ a0 := by omega
theorem mp_o1779 {a0 : Int} (h0 : 0 < a0) (h1 : a0 = 0) : False := by omega
theorem mp_o1780 {a0 : Int} (h0 : a0 ≤ 9) : ((6 * (Int.toNat a0)) + 3) < 300 := by omega
theorem mp_o1781 {a0 : Int} : ((((6 * (Int.toNat a0)) + 3)) % 6) = 3 := by omega
theorem mp_o1782 {a0 : Int} {a1 : Int} (h0 : (0 ≤ a1 ∧ a1 ≤ 99)) (h1 : (a1 ≤ a0 ∧ a0 ≤ (a1 + 10))) : (-2147483648) ≤ a0 := by omega
theorem mp_o1783 {a0 : Int} {a1 : Int} (h0 : (0 ≤ a1 ∧ a1 ≤ 99)) (h1 : (a1 ≤ a0 ∧ a0 ≤ (a1 + 10))) : a0 ≤ 2147483647 := by omega
theorem mp_o1784 {a0 : Int} {a1 : Int} {a2 : Int} {a3 : Int} (h0 : a0 = a2) (h1 : a1 = a3) (h2 : (a3 ≤ a2 ∧ a2 ≤ (a3 + 10))) : (-2147483648) ≤ (a0 - a1) := by omega
theorem mp_o1785 {a0 : Int} {a1 : Int} {a2 : Int} {a3 : Int} (h0 : a0 = a2) (h1 : a1 = a3) (h2 : (a3 ≤ a2 ∧ a2 ≤ (a3 + 10))) : (a0 - a1) ≤ 2147483647 := by omega
theorem mp_o1786 {a0 : Int} {a1 : Int} {a2 : Int} {a3 : Int} {a4 : Int} (h0 : a1 = a2) (h1 : a0 = (a1 - a3)) (h2 : a3 = a4) (h3 : (a4 ≤ a2 ∧ a2 ≤ (a4 + 10))) : 0 ≤ a0 := by omega
theorem mp_o1787 {a0 : Int} {a1 : Int} {a2 : Int} {a3 : Int} {a4 : Int} (h0 : a1 = a2) (h1 : a0 = (a1 - a3)) (h2 : a3 = a4) (h3 : (a4 ≤ a2 ∧ a2 ≤ (a4 + 10))) : a0 ≤ 10 := by omega
theorem mp_o1789 {a0 : Int} {a1 : Int} (h0 : a1 = a0) (h1 : a1 ≤ 1) : a0 ≤ 1 := by omega
theorem mp_o1850 {a0 : Int} {a1 : Int} (h0 : a1 = a0) (h1 : a1 ≤ 2000000000) : a0 ≤ 2000000000 := by omega
theorem mp_o1851 {a0 : Int} {a1 : Int} (h0 : a1 = a0) (h1 : a1 ≤ 40) : a0 ≤ 40 := by omega
theorem mp_o1852 {a0 : Int} {a1 : Int} {a2 : Int} {a3 : Int} (h0 : a2 = (a0 + a1)) (h1 : a3 ≤ 240) (h2 : a2 < a3) : (a0 + a1) ≤ 2147483647 := by omega
theorem mp_o1853 {a0 : Int} {a1 : Int} {a2 : Int} (h0 : 0 ≤ a1) (h1 : 1 ≤ a2) (h2 : a0 = (a1 + a2)) : 0 ≤ a0 := by omega
theorem mp_o1854 {a0 : Int} {a1 : Int} {a2 : Int} (h0 : a1 ≤ 40) (h1 : a2 ≤ 99) (h2 : a0 = (a2 + a1)) : a0 ≤ 139 := by omega
theorem mp_o1855 {a0 : Int} {a1 : Int} (h0 : 0 ≤ a1) (h1 : a0 = (3 * a1)) : (-2147483648) ≤ (a0 + 2) := by omega
theorem mp_o1856 {a0 : Int} {a1 : Int} (h0 : a1 ≤ 5) (h1 : a0 = (3 * a1)) : (a0 + 2) ≤ 2147483647 := by omega
theorem mp_o1857 {a0 : Int} {a1 : Int} {a2 : Int} (h0 : 0 ≤ a1) (h1 : a1 ≤ 5) (h2 : a2 = (3 * a1)) (h3 : a0 = (a2 + 2)) : ((0 ≤ a0 ∧ a0 < ((90 : Nat) : Int))) := by omega
theorem mp_o1858 {a0 : Int} (h0 : 0 ≤ a0) : (-2147483648) ≤ (150 * a0) := by omega
theorem mp_o1859 {a0 : Int} (h0 : a0 ≤ 10) : (150 * a0) ≤ 2147483647 := by omega
theorem mp_o1860 {a0 : Int} {a1 : Int} {a2 : Int} (h0 : 1 ≤ a1) (h1 : 0 ≤ a2) (h2 : a0 = (150 * a2)) : (-2147483648) ≤ (a0 + a1) := by omega
theorem mp_o1861 {a0 : Int} {a1 : Int} {a2 : Int} {a3 : Int} {a4 : Int} {a5 : Int} (h0 : a2 ≤ 10) (h1 : a0 = (150 * a2)) (h2 : a3 ≤ 40) (h3 : a4 ≤ 99) (h4 : a5 = (a4 + a3)) (h5 : a1 ≤ a5) : (a0 + a1) ≤ 2147483647 := by omega
theorem mp_o1862 {a0 : Int} {a1 : Int} {a2 : Int} {a3 : Int} {a4 : Int} {a5 : Int} {a6 : Int} {a7 : Int} (h0 : 0 ≤ a1) (h1 : 1 ≤ a2) (h2 : a3 = (150 * a1)) (h3 : a0 = (a3 + a2)) (h4 : a4 ≤ 40) (h5 : a5 ≤ 99) (h6 : a6 = (a5 + a4)) (h7 : a2 ≤ a6) (h8 : a1 < a7) (h9 : (0 ≤ a7 ∧ a7 ≤ 10)) : ((0 ≤ a0 ∧ a0 < ((1500 : Nat) : Int))) := by omega
theorem mp_o1863 {a0 : Int} {a1 : Int} {a2 : Int} {a3 : Int} (h0 : a2 ≤ 20) (h1 : a1 = a2) (h2 : a3 ≤ 2000000000) (h3 : a0 = a3) : (a0 + a1) ≤ 9223372036854775807 := by omega
theorem mp_o1864 {a0 : Int} {a1 : Int} {a2 : Int} {a3 : Int} {a4 : Int} (h0 : a1 = 20) (h1 : a2 ≤ a1) (h2 : a0 = (a3 + 1)) (h3 : a2 = a4) (h4 : a3 < a4) : a0 ≤ 20 := by omega
theorem mp_o1865 {a0 : Int} {a1 : Int} {a2 : Int} {a3 : Int} {a4 : Int} {a5 : Int} {a6 : Int} (h0 : a4 = 1) (h1 : a5 = 1000000) (h2 : a6 = a3) (h3 : (a6 < a4 ∨ a5 < a6)) : ((a0 < 0 ∨ (a1 ≤ a0 ∨ (a2 < 0 ∨ (a1 ≤ a2 ∨ (a0 = a2 ∨ (a3 < 1 ∨ 1000000 < a3))))))) := by omega
theorem mp_o1866 {a0 : Int} (h0 : (0 ≤ a0 ∧ a0 ≤ 10)) : (-2147483648) ≤ (6 * a0) := by omega
theorem mp_o1867 {a0 : Int} (h0 : (0 ≤ a0 ∧ a0 ≤ 10)) : (6 * a0) ≤ 2147483647 := by omega
theorem mp_o1868 {a0 : Int} {a1 : Int} (h0 : a0 = (6 * a1)) (h1 : (0 ≤ a1 ∧ a1 ≤ 10)) : ((0 ≤ a0 ∧ a0 < ((300 : Nat) : Int))) := by omega
theorem mp_o1869 {a0 : Int} {a1 : Int} (h0 : a0 = (6 * a1)) (h1 : (0 ≤ a1 ∧ a1 ≤ 10)) : 0 ≤ a0 := by omega
theorem mp_o1870 {a0 : Int} {a1 : Int} (h0 : a1 ≠ 10) (h1 : (0 ≤ a1 ∧ a1 ≤ 10)) (h2 : a0 = (6 * a1)) : a0 < ((60 : Nat) : Int) := by omega
theorem mp_o1871 {a0 : Int} {a1 : Int} (h0 : a0 = (6 * a1)) (h1 : (0 ≤ a1 ∧ a1 ≤ 10)) : (-2147483648) ≤ (a0 + 1) := by omega
theorem mp_o1872 {a0 : Int} {a1 : Int} (h0 : a0 = (6 * a1)) (h1 : (0 ≤ a1 ∧ a1 ≤ 10)) : (a0 + 1) ≤ 2147483647 := by omega
theorem mp_o1873 {a0 : Int} {a1 : Int} {a2 : Int} (h0 : a0 = (a1 + 1)) (h1 : a1 = (6 * a2)) (h2 : (0 ≤ a2 ∧ a2 ≤ 10)) : ((0 ≤ a0 ∧ a0 < ((300 : Nat) : Int))) := by omega
theorem mp_o1874 {a0 : Int} {a1 : Int} {a2 : Int} (h0 : a0 = (a1 + 1)) (h1 : a1 = (6 * a2)) (h2 : (0 ≤ a2 ∧ a2 ≤ 10)) : 0 ≤ a0 := by omega
theorem mp_o1875 {a0 : Int} {a1 : Int} {a2 : Int} (h0 : a1 ≠ 10) (h1 : (0 ≤ a1 ∧ a1 ≤ 10)) (h2 : a2 = (6 * a1)) (h3 : a0 = (a2 + 1)) : a0 < ((60 : Nat) : Int) := by omega
theorem mp_o1876 {a0 : Int} {a1 : Int} (h0 : a0 = (6 * a1)) (h1 : (0 ≤ a1 ∧ a1 ≤ 10)) : (-2147483648) ≤ (a0 + 2) := by omega
theorem mp_o1877 {a0 : Int} {a1 : Int} (h0 : a0 = (6 * a1)) (h1 : (0 ≤ a1 ∧ a1 ≤ 10)) : (a0 + 2) ≤ 2147483647 := by omega
theorem mp_o1878 {a0 : Int} {a1 : Int} {a2 : Int} (h0 : a0 = (a1 + 2)) (h1 : a1 = (6 * a2)) (h2 : (0 ≤ a2 ∧ a2 ≤ 10)) : ((0 ≤ a0 ∧ a0 < ((300 : Nat) : Int))) := by omega
theorem mp_o1879 {a0 : Int} {a1 : Int} {a2 : Int} (h0 : a0 = (a1 + 2)) (h1 : a1 = (6 * a2)) (h2 : (0 ≤ a2 ∧ a2 ≤ 10)) : 0 ≤ a0 := by omega
theorem mp_o1880 {a0 : Int} {a1 : Int} {a2 : Int} (h0 : a1 ≠ 10) (h1 : (0 ≤ a1 ∧ a1 ≤ 10)) (h2 : a2 = (6 * a1)) (h3 : a0 = (a2 + 2)) : a0 < ((60 : Nat) : Int) := by omega
theorem mp_o1881 {a0 : Int} {a1 : Int} (h0 : a0 = (6 * a1)) (h1 : (0 ≤ a1 ∧ a1 ≤ 10)) : (-2147483648) ≤ (a0 + 3) := by omega
theorem mp_o1882 {a0 : Int} {a1 : Int} (h0 : a0 = (6 * a1)) (h1 : (0 ≤ a1 ∧ a1 ≤ 10)) : (a0 + 3) ≤ 2147483647 := by omega
theorem mp_o1883 {a0 : Int} {a1 : Int} {a2 : Int} (h0 : a0 = (a1 + 3)) (h1 : a1 = (6 * a2)) (h2 : (0 ≤ a2 ∧ a2 ≤ 10)) : ((0 ≤ a0 ∧ a0 < ((300 : Nat) : Int))) := by omega
theorem mp_o1884 {a0 : Int} {a1 : Int} {a2 : Int} (h0 : a0 = (a1 + 3)) (h1 : a1 = (6 * a2)) (h2 : (0 ≤ a2 ∧ a2 ≤ 10)) : 0 ≤ a0 := by omega
theorem mp_o1885 {a0 : Int} (h0 : (0 ≤ a0 ∧ a0 ≤ 99)) : (¬ ((0 ≤ a0 ∧ a0 ≤ 99))) → ((0 ≤ a0 ∧ a0 ≤ 99)) := by omega
theorem mp_o1886 {a0 : Int} {a1 : Int} {a2 : Int} (h0 : a1 ≠ 10) (h1 : (0 ≤ a1 ∧ a1 ≤ 10)) (h2 : a2 = (6 * a1)) (h3 : a0 = (a2 + 3)) : a0 < ((60 : Nat) : Int) := by omega
theorem mp_o1887 {a0 : Int} {a1 : Int} (h0 : a0 = (6 * a1)) (h1 : (0 ≤ a1 ∧ a1 ≤ 10)) : (-2147483648) ≤ (a0 + 4) := by omega
theorem mp_o1888 {a0 : Int} {a1 : Int} (h0 : a0 = (6 * a1)) (h1 : (0 ≤ a1 ∧ a1 ≤ 10)) : (a0 + 4) ≤ 2147483647 := by omega
theorem mp_o1889 {a0 : Int} {a1 : Int} {a2 : Int} (h0 : a0 = (a1 + 4)) (h1 : a1 = (6 * a2)) (h2 : (0 ≤ a2 ∧ a2 ≤ 10)) : ((0 ≤ a0 ∧ a0 < ((300 : Nat) : Int))) := by omega
theorem mp_o1890 {a0 : Int} {a1 : Int} {a2 : Int} (h0 : a0 = (a1 + 4)) (h1 : a1 = (6 * a2)) (h2 : (0 ≤ a2 ∧ a2 ≤ 10)) : 0 ≤ a0 := by omega
theorem mp_o1891 {a0 : Int} {a1 : Int} {a2 : Int} (h0 : a1 ≠ 10) (h1 : (0 ≤ a1 ∧ a1 ≤ 10)) (h2 : a2 = (6 * a1)) (h3 : a0 = (a2 + 4)) : a0 < ((60 : Nat) : Int) := by omega
theorem mp_o1892 {a0 : Int} {a1 : Int} (h0 : a0 = (6 * a1)) (h1 : (0 ≤ a1 ∧ a1 ≤ 10)) : (-2147483648) ≤ (a0 + 5) := by omega
theorem mp_o1893 {a0 : Int} {a1 : Int} (h0 : a0 = (6 * a1)) (h1 : (0 ≤ a1 ∧ a1 ≤ 10)) : (a0 + 5) ≤ 2147483647 := by omega
theorem mp_o1894 {a0 : Int} {a1 : Int} {a2 : Int} (h0 : a0 = (a1 + 5)) (h1 : a1 = (6 * a2)) (h2 : (0 ≤ a2 ∧ a2 ≤ 10)) : ((0 ≤ a0 ∧ a0 < ((300 : Nat) : Int))) := by omega
theorem mp_o1895 {a0 : Int} {a1 : Int} {a2 : Int} (h0 : a0 = (a1 + 5)) (h1 : a1 = (6 * a2)) (h2 : (0 ≤ a2 ∧ a2 ≤ 10)) : 0 ≤ a0 := by omega
theorem mp_o1896 {a0 : Int} {a1 : Int} {a2 : Int} (h0 : a1 ≠ 10) (h1 : (0 ≤ a1 ∧ a1 ≤ 10)) (h2 : a2 = (6 * a1)) (h3 : a0 = (a2 + 5)) : a0 < ((60 : Nat) : Int) := by omega
theorem mp_o1897 {a0 : Int} (h0 : (0 ≤ a0 ∧ a0 ≤ 10)) : (-2147483648) ≤ (a0 + 1) := by omega
theorem mp_o1898 {a0 : Int} (h0 : (0 ≤ a0 ∧ a0 ≤ 10)) : (a0 + 1) ≤ 2147483647 := by omega
theorem mp_o1899 {a0 : Int} {a1 : Int} (h0 : a1 ≠ 10) (h1 : (0 ≤ a1 ∧ a1 ≤ 10)) (h2 : a0 = (a1 + 1)) : ((0 ≤ a0 ∧ a0 ≤ 10)) := by omega
theorem mp_o1900 {a0 : Int} {a1 : Int} (h0 : a1 = a0) (h1 : a1 ≤ 1000000) : a0 ≤ 1000000 := by omega
theorem mp_o1901 {a0 : Int} {a1 : Int} (h0 : a0 = (a1 - 1)) (h1 : (0 ≤ a1 ∧ a1 ≤ 10)) : (-1) ≤ a0 := by omega
theorem mp_o1902 {a0 : Int} {a1 : Int} (h0 : a0 = (a1 - 1)) (h1 : (0 ≤ a1 ∧ a1 ≤ 10)) : a0 ≤ 9 := by omega
theorem mp_o1903 {a0 : Int} {a1 : Int} {a2 : Int} {a3 : Int} {a4 : Int} {a5 : Int} {a6 : Int} {a7 : Int} (h0 : a2 = (a1 + 1)) (h1 : a3 = (a1 + 2)) (h2 : a4 = (a1 + 3)) (h3 : a5 = (a1 + 4)) (h4 : a6 = (a1 + 5)) (h5 : a7 = a0) (h6 : (0 ≤ a7 ∧ a7 ≤ 10)) (h7 : a1 = (6 * a7)) : ((0 ≤ a0 ∧ ((6 * a0) ≤ a1 ∧ ((6 * a0) ≤ a2 ∧ ((6 * a0) ≤ a3 ∧ ((6 * a0) ≤ a4 ∧ ((6 * a0) ≤ a5 ∧ a6 = ((6 * a0) + 5)))))))) := by omega
theorem mp_o1904 {a0 : Int} {a1 : Int} {a2 : Int} {a3 : Int} {a4 : Int} (h0 : (0 ≤ a0 ∧ (a0 < a1 ∧ (0 ≤ a2 ∧ (a2 < a1 ∧ a0 ≠ a2))))) (h1 : 1 ≤ a4) (h2 : a4 = a3) (h3 : a4 ≤ 1000000) : ((0 ≤ a0 ∧ (a0 < a1 ∧ (0 ≤ a2 ∧ (a2 < a1 ∧ (a0 ≠ a2 ∧ (1 ≤ a3 ∧ a3 ≤ 1000000))))))) := by omega
theorem mp_o1905 {a0 : Int} {a1 : Int} {a2 : Int} {a3 : Int} {a4 : Int} (h0 : a1 = a0) (h1 : a2 = (a1 + 1)) (h2 : a3 = a2) (h3 : a4 = a3) (h4 : (0 ≤ a4 ∧ a4 ≤ 10)) : a0 < 10 := by omega
theorem mp_o1906 {a0 : Int} {a1 : Int} {a2 : Int} {a3 : Int} {a4 : Int} {a5 : Int} (h0 : a2 = a1) (h1 : a3 = (a2 + 1)) (h2 : a4 = a3) (h3 : a5 = a4) (h4 : a0 = (a5 - 1)) : a0 = a1 := by omega
theorem mp_o1907 {a0 : Int} {a1 : Int} {a2 : Int} (h0 : a2 = a1) (h1 : a0 = (6 * a2)) : (Int.toNat a0) = (Int.toNat ((6 * a1))) := by omega
theorem mp_o1908 {a0 : Int} {a1 : Int} {a2 : Int} {a3 : Int} (h0 : a2 = a1) (h1 : a3 = (6 * a2)) (h2 : a0 = (a3 + 1)) : (Int.toNat a0) = (Int.toNat (((6 * a1) + 1))) := by omega
theorem mp_o1909 {a0 : Int} {a1 : Int} {a2 : Int} {a3 : Int} (h0 : a2 = a1) (h1 : a3 = (6 * a2)) (h2 : a0 = (a3 + 2)) : (Int.toNat a0) = (Int.toNat (((6 * a1) + 2))) := by omega
theorem mp_o1910 {a0 : Int} {a1 : Int} {a2 : Int} {a3 : Int} (h0 : a2 = a1) (h1 : a3 = (6 * a2)) (h2 : a0 = (a3 + 3)) : (Int.toNat a0) = (Int.toNat (((6 * a1) + 3))) := by omega
theorem mp_o1911 {a0 : Int} {a1 : Int} {a2 : Int} {a3 : Int} (h0 : a2 = a1) (h1 : a3 = (6 * a2)) (h2 : a0 = (a3 + 4)) : (Int.toNat a0) = (Int.toNat (((6 * a1) + 4))) := by omega
theorem mp_o1912 {a0 : Int} {a1 : Int} {a2 : Int} {a3 : Int} (h0 : a2 = a1) (h1 : a3 = (6 * a2)) (h2 : a0 = (a3 + 5)) : (Int.toNat a0) = (Int.toNat (((6 * a1) + 5))) := by omega
theorem mp_o1913 {a0 : Int} {a1 : Int} (h0 : a1 = 10) (h1 : a1 = a0) : 10 ≤ a0 := by omega
theorem mp_o1914 {a0 : Int} {a1 : Int} {a2 : Int} {a3 : Int} {a4 : Int} {a5 : Int} {a6 : Int} (h0 : a4 = 0) (h1 : a5 = 1) (h2 : a6 = a3) (h3 : (a6 < a4 ∨ a5 < a6)) : ((a0 < 0 ∨ (a1 ≤ a0 ∨ (a2 < 0 ∨ (99 < a2 ∨ (a3 < 0 ∨ 1 < a3)))))) := by omega
theorem mp_o1915 {a0 : Int} {a1 : Int} {a2 : Int} {a3 : Int} (h0 : a1 ≤ 5) (h1 : a2 = (100 * a1)) (h2 : a3 ≤ 99) (h3 : a0 = (a2 + a3)) : a0 < ((600 : Nat) : Int) := by omega
theorem mp_o1916 {a0 : Int} {a1 : Int} {a2 : Int} {a3 : Int} {a4 : Int} (h0 : 0 ≤ a0) (h1 : 0 ≤ a2) (h2 : a0 < a1) (h3 : a2 ≤ 99) (h4 : 0 ≤ a4) (h5 : a4 = a3) (h6 : a4 ≤ 1) : ((0 ≤ a0 ∧ (a0 < a1 ∧ (0 ≤ a2 ∧ (a2 ≤ 99 ∧ (0 ≤ a3 ∧ a3 ≤ 1)))))) := by omega
theorem mp_o1917 {a0 : Int} {a1 : Int} {a2 : Int} (h0 : a1 = 0) (h1 : a2 = 0) (h2 : a2 = a0) : (((a0 ≠ 0 ∧ a1 = 1) ∨ (a0 = 0 ∧ a1 = 0))) := by omega
theorem mp_o1918 {a0 : Int} {a1 : Int} {a2 : Int} {a3 : Int} (h0 : a3 = (100 * a1)) (h1 : a0 = (a3 + a2)) : (Int.toNat a0) = (Int.toNat (((100 * a1) + a2))) := by omega
theorem mp_o1919 {a0 : Int} {a1 : Int} {a2 : Int} (h0 : a1 = 1) (h1 : a2 = a0) (h2 : a2 ≠ 0) : (((a0 ≠ 0 ∧ a1 = 1) ∨ (a0 = 0 ∧ a1 = 0))) := by omega
theorem mp_o1920 {a0 : Int} (h0 : a0 = 1) : a0 ≤ 1 := by omega
theorem mp_o1921 {a0 : Int} {a1 : Int} {a2 : Int} {a3 : Int} {a4 : Int} {a5 : Int} (h0 : a3 = 0) (h1 : a4 = 100) (h2 : a5 = a2) (h3 : (a5 < a3 ∨ a4 < a5)) : ((a0 < 0 ∨ (a1 ≤ a0 ∨ (a2 < 0 ∨ 100 < a2)))) := by omega
theorem mp_o1922 {a0 : Int} {a1 : Int} {a2 : Int} (h0 : 0 ≤ a1) (h1 : a2 = (3 * a1)) (h2 : a0 = (a2 + 2)) : a0 = (((Int.toNat (((3 * a1) + 2))) : Nat) : Int) := by omega
theorem mp_o1923 {a0 : Int} {a1 : Int} {a2 : Int} (h0 : 0 ≤ a1) (h1 : a2 = (3 * a1)) (h2 : a0 = (a2 + 2)) : 0 ≤ a0 := by omega
theorem mp_o1924 {a0 : Int} {a1 : Int} {a2 : Int} (h0 : a1 ≤ 5) (h1 : a2 = (3 * a1)) (h2 : a0 = (a2 + 2)) : a0 < ((18 : Nat) : Int) := by omega
theorem mp_o1925 {a0 : Int} {a1 : Int} (h0 : a1 = a0) (h1 : a1 ≤ 100) : a0 ≤ 100 := by omega
theorem mp_o1926 {a0 : Int} {a1 : Int} {a2 : Int} {a3 : Int} (h0 : 0 ≤ a0) (h1 : a0 < a1) (h2 : 0 ≤ a3) (h3 : a3 = a2) (h4 : a3 ≤ 100) : ((0 ≤ a0 ∧ (a0 < a1 ∧ (0 ≤ a2 ∧ a2 ≤ 100)))) := by omega
theorem mp_o1927 {a0 : Int} {a1 : Int} {a2 : Int} (h0 : a2 = (3 * a1)) (h1 : a0 = (a2 + 2)) : (Int.toNat a0) = (Int.toNat (((3 * a1) + 2))) := by omega
theorem mp_o1932 {a0 : Int} (h0 : 0 ≤ a0) : (-2147483648) ≤ (1 + a0) := by omega
theorem mp_o1933 {a0 : Int} (h0 : a0 < 1) : (1 + a0) ≤ 2147483647 := by omega
theorem mp_o1934 {a0 : Int} {a1 : Int} (h0 : 0 ≤ a1) (h1 : a0 = (1 + a1)) (h2 : a1 < 1) : ((0 ≤ a0 ∧ a0 < ((5 : Nat) : Int))) := by omega
theorem mp_o1935 {a0 : Int} {a1 : Int} (h0 : 0 ≤ a1) (h1 : a0 = (1 + a1)) : a0 = (((1 : Nat) : Int) + (((Int.toNat a1) : Nat) : Int)) := by omega
theorem mp_o1936 : (((0 + 1) ≤ 1 ∨ (1 + 1) ≤ 0)) := by omega
theorem mp_o1937 {a0 : Int} (h0 : 0 ≤ a0) : (-2147483648) ≤ (5 + a0) := by omega
theorem mp_o1938 {a0 : Int} (h0 : a0 < 5) : (5 + a0) ≤ 2147483647 := by omega
theorem mp_o1939 {a0 : Int} (h0 : a0 < 5) : (0 + a0) ≤ 2147483647 := by omega
theorem mp_o1940 {a0 : Int} {a1 : Int} (h0 : 0 ≤ a1) (h1 : a0 = (0 + a1)) (h2 : a1 < 5) : ((0 ≤ a0 ∧ a0 < ((25 : Nat) : Int))) := by omega
theorem mp_o1941 {a0 : Int} {a1 : Int} (h0 : a1 < 5) (h1 : a0 = (0 + a1)) : a0 < ((25 : Nat) : Int) := by omega
theorem mp_o1942 {a0 : Int} {a1 : Int} (h0 : 0 ≤ a1) (h1 : a0 = (5 + a1)) (h2 : a1 < 5) : ((0 ≤ a0 ∧ a0 < ((25 : Nat) : Int))) := by omega
theorem mp_o1943 {a0 : Int} {a1 : Int} (h0 : 0 ≤ a1) (h1 : a0 = (5 + a1)) : 0 ≤ a0 := by omega
theorem mp_o1944 {a0 : Int} {a1 : Int} {a2 : Int} {a3 : Int} (h0 : (((a2 % 5) = 0 → (0 ≤ a1 ∧ a1 ≤ 6)))) (h1 : a0 = (5 + a3)) (h2 : a2 = (0 + a3)) : ((a0 % ((5 : Nat) : Int)) = ((0 : Nat) : Int)) → ((0 ≤ a1 ∧ a1 ≤ 6)) := by omega
theorem mp_o1945 {a0 : Int} {a1 : Int} {a2 : Int} {a3 : Int} (h0 : (((a2 % 5) = 1 → (0 ≤ a1 ∧ a1 ≤ 99)))) (h1 : a0 = (5 + a3)) (h2 : a2 = (0 + a3)) : ((a0 % ((5 : Nat) : Int)) = ((1 : Nat) : Int)) → ((0 ≤ a1 ∧ a1 ≤ 99)) := by omega
theorem mp_o1946 {a0 : Int} {a1 : Int} {a2 : Int} {a3 : Int} (h0 : (((a2 % 5) = 2 → (0 ≤ a1 ∧ a1 ≤ 6)))) (h1 : a0 = (5 + a3)) (h2 : a2 = (0 + a3)) : ((a0 % ((5 : Nat) : Int)) = ((2 : Nat) : Int)) → ((0 ≤ a1 ∧ a1 ≤ 6)) := by omega
theorem mp_o1947 {a0 : Int} {a1 : Int} {a2 : Int} {a3 : Int} (h0 : (((a2 % 5) = 3 → (0 ≤ a1 ∧ a1 ≤ 10)))) (h1 : a0 = (5 + a3)) (h2 : a2 = (0 + a3)) : ((a0 % ((5 : Nat) : Int)) = ((3 : Nat) : Int)) → ((0 ≤ a1 ∧ a1 ≤ 10)) := by omega
theorem mp_o1948 {a0 : Int} {a1 : Int} {a2 : Int} {a3 : Int} (h0 : (((a2 % 5) = 4 → (0 ≤ a1 ∧ a1 ≤ 60)))) (h1 : a0 = (5 + a3)) (h2 : a2 = (0 + a3)) : ((a0 % ((5 : Nat) : Int)) = ((4 : Nat) : Int)) → ((0 ≤ a1 ∧ a1 ≤ 60)) := by omega
theorem mp_o1949 {a0 : Int} (h0 : a0 < 5) : (a0 + 1) ≤ 2147483647 := by omega
theorem mp_o1950 {a0 : Int} {a1 : Int} (h0 : 0 ≤ a1) (h1 : a0 = (5 + a1)) : a0 = (((5 : Nat) : Int) + (((Int.toNat a1) : Nat) : Int)) := by omega
theorem mp_o1951 : (((0 + 5) ≤ 5 ∨ (5 + 5) ≤ 0)) := by omega
theorem mp_o1952 {a0 : Int} (h0 : a0 < 5) : (Int.toNat a0) < 5 := by omega
theorem mp_o1953 {a0 : Int} {a1 : Nat} {a2 : Int} (h0 : ((-a2) + 5) ≤ ((a1 : Nat) : Int)) (h1 : a0 = (a2 + 1)) : ((-a0) + 5) ≤ ((((a1 - 1)) : Nat) : Int) := by omega
theorem mp_o1954 {a0 : Int} (h0 : 0 ≤ a0) : (-2147483648) ≤ (36 + a0) := by omega
theorem mp_o1955 {a0 : Int} (h0 : a0 < 36) : (36 + a0) ≤ 2147483647 := by omega
theorem mp_o1956 {a0 : Int} (h0 : a0 < 36) : (0 + a0) ≤ 2147483647 := by omega
theorem mp_o1957 {a0 : Int} {a1 : Int} (h0 : a1 < 36) (h1 : a0 = (0 + a1)) : a0 < ((180 : Nat) : Int) := by omega
theorem mp_o1958 {a0 : Int} {a1 : Int} (h0 : 0 ≤ a1) (h1 : a0 = (36 + a1)) (h2 : a1 < 36) : ((0 ≤ a0 ∧ a0 < ((180 : Nat) : Int))) := by omega
theorem mp_o1959 {a0 : Int} {a1 : Int} (h0 : 0 ≤ a1) (h1 : a0 = (36 + a1)) : a0 = (((36 : Nat) : Int) + (((Int.toNat a1) : Nat) : Int)) := by omega
theorem mp_o1960 : (((0 + 36) ≤ 36 ∨ (36 + 36) ≤ 0)) := by omega
theorem mp_o1961 {a0 : Int} (h0 : a0 < 36) : (Int.toNat a0) < 36 := by omega
theorem mp_o1962 {a0 : Int} (h0 : 0 ≤ a0) : (-2147483648) ≤ (18 + a0) := by omega
theorem mp_o1963 {a0 : Int} (h0 : a0 < 18) : (18 + a0) ≤ 2147483647 := by omega
theorem mp_o1964 {a0 : Int} (h0 : a0 < 18) : (0 + a0) ≤ 2147483647 := by omega
theorem mp_o1965 {a0 : Int} {a1 : Int} (h0 : a1 < 18) (h1 : a0 = (0 + a1)) : a0 < ((90 : Nat) : Int) := by omega
theorem mp_o1966 {a0 : Int} {a1 : Int} (h0 : 0 ≤ a1) (h1 : a0 = (18 + a1)) (h2 : a1 < 18) : ((0 ≤ a0 ∧ a0 < ((90 : Nat) : Int))) := by omega
theorem mp_o1967 {a0 : Int} {a1 : Int} (h0 : 0 ≤ a1) (h1 : a0 = (18 + a1)) : 0 ≤ a0 := by omega
theorem mp_o1968 {a0 : Int} {a1 : Int} {a2 : Int} {a3 : Int} (h0 : (((a2 % 3) = 0 → (0 ≤ a1 ∧ a1 ≤ 5)))) (h1 : a0 = (18 + a3)) (h2 : a2 = (0 + a3)) : ((a0 % ((3 : Nat) : Int)) = ((0 : Nat) : Int)) → ((0 ≤ a1 ∧ a1 ≤ 5)) := by omega
theorem mp_o1969 {a0 : Int} {a1 : Int} {a2 : Int} {a3 : Int} (h0 : (((a2 % 3) = 1 → ((-1) ≤ a1 ∧ a1 ≤ 99)))) (h1 : a0 = (18 + a3)) (h2 : a2 = (0 + a3)) : ((a0 % ((3 : Nat) : Int)) = ((1 : Nat) : Int)) → (((-1) ≤ a1 ∧ a1 ≤ 99)) := by omega
theorem mp_o1970 {a0 : Int} (h0 : a0 < 18) : (a0 + 1) ≤ 2147483647 := by omega
theorem mp_o1971 {a0 : Int} {a1 : Int} (h0 : 0 ≤ a1) (h1 : a0 = (18 + a1)) : a0 = (((18 : Nat) : Int) + (((Int.toNat a1) : Nat) : Int)) := by omega
theorem mp_o1972 : (((0 + 18) ≤ 18 ∨ (18 + 18) ≤ 0)) := by omega
theorem mp_o1973 {a0 : Int} (h0 : a0 < 18) : (Int.toNat a0) < 18 := by omega
theorem mp_o1974 {a0 : Int} {a1 : Int} (h0 : a1 < 18) (h1 : a0 = (a1 + 1)) : a0 ≤ 18 := by omega
theorem mp_o1975 {a0 : Int} {a1 : Nat} {a2 : Int} (h0 : ((-a2) + 18) ≤ ((a1 : Nat) : Int)) (h1 : a0 = (a2 + 1)) : ((-a0) + 18) ≤ ((((a1 - 1)) : Nat) : Int) := by omega
theorem mp_o1976 {a0 : Int} (h0 : 0 ≤ a0) : (-2147483648) ≤ (60 + a0) := by omega
theorem mp_o1977 {a0 : Int} (h0 : a0 < 60) : (60 + a0) ≤ 2147483647 := by omega
theorem mp_o1978 {a0 : Int} (h0 : a0 < 60) : (0 + a0) ≤ 2147483647 := by omega
theorem mp_o1979 {a0 : Int} {a1 : Int} (h0 : 0 ≤ a1) (h1 : a0 = (0 + a1)) (h2 : a1 < 60) : ((0 ≤ a0 ∧ a0 < ((300 : Nat) : Int))) := by omega
theorem mp_o1980 {a0 : Int} {a1 : Int} (h0 : a1 < 60) (h1 : a0 = (0 + a1)) : a0 < ((300 : Nat) : Int) := by omega
theorem mp_o1981 {a0 : Int} {a1 : Int} (h0 : 0 ≤ a1) (h1 : a0 = (60 + a1)) (h2 : a1 < 60) : ((0 ≤ a0 ∧ a0 < ((300 : Nat) : Int))) := by omega
theorem mp_o1982 {a0 : Int} {a1 : Int} (h0 : 0 ≤ a1) (h1 : a0 = (60 + a1)) : 0 ≤ a0 := by omega
theorem mp_o1983 {a0 : Int} {a1 : Int} {a2 : Int} {a3 : Int} (h0 : (((a2 % 6) = 0 → (0 ≤ a1 ∧ a1 ≤ 5)))) (h1 : a0 = (60 + a3)) (h2 : a2 = (0 + a3)) : ((a0 % ((6 : Nat) : Int)) = ((0 : Nat) : Int)) → ((0 ≤ a1 ∧ a1 ≤ 5)) := by omega
theorem mp_o1984 {a0 : Int} {a1 : Int} {a2 : Int} {a3 : Int} (h0 : (((a2 % 6) = 1 → (0 ≤ a1 ∧ a1 ≤ 5)))) (h1 : a0 = (60 + a3)) (h2 : a2 = (0 + a3)) : ((a0 % ((6 : Nat) : Int)) = ((1 : Nat) : Int)) → ((0 ≤ a1 ∧ a1 ≤ 5)) := by omega
theorem mp_o1985 {a0 : Int} {a1 : Int} {a2 : Int} {a3 : Int} (h0 : (((a2 % 6) = 3 → (0 ≤ a1 ∧ a1 ≤ 99)))) (h1 : a0 = (60 + a3)) (h2 : a2 = (0 + a3)) : ((a0 % ((6 : Nat) : Int)) = ((3 : Nat) : Int)) → ((0 ≤ a1 ∧ a1 ≤ 99)) := by omega
theorem mp_o1986 {a0 : Int} {a1 : Int} {a2 : Int} {a3 : Int} (h0 : (((a2 % 6) = 4 → (0 ≤ a1 ∧ a1 ≤ 1)))) (h1 : a0 = (60 + a3)) (h2 : a2 = (0 + a3)) : ((a0 % ((6 : Nat) : Int)) = ((4 : Nat) : Int)) → ((0 ≤ a1 ∧ a1 ≤ 1)) := by omega
theorem mp_o1987 {a0 : Int} {a1 : Int} (h0 : 0 ≤ a1) (h1 : a0 = (60 + a1)) : a0 = (((60 : Nat) : Int) + (((Int.toNat a1) : Nat) : Int)) := by omega
theorem mp_o1988 : (((0 + 60) ≤ 60 ∨ (60 + 60) ≤ 0)) := by omega
theorem mp_o1989 {a0 : Int} (h0 : a0 < 60) : (Int.toNat a0) < 60 := by omega
theorem mp_o1990 {a0 : Int} {a1 : Nat} {a2 : Int} (h0 : ((-a2) + 60) ≤ ((a1 : Nat) : Int)) (h1 : a0 = (a2 + 1)) : ((-a0) + 60) ≤ ((((a1 - 1)) : Nat) : Int) := by omega
theorem mp_o1991 {a0 : Int} {a1 : Int} (h0 : a1 < 60) (h1 : a0 = (0 + a1)) : a0 < 300 := by omega
theorem mp_o1992 {a0 : Int} (h0 : 0 ≤ a0) : (-2147483648) ≤ (600 + a0) := by omega
theorem mp_o1993 {a0 : Int} (h0 : a0 < 600) : (600 + a0) ≤ 2147483647 := by omega
theorem mp_o1994 {a0 : Int} {a1 : Int} (h0 : a1 < 600) (h1 : a0 = (0 + a1)) : a0 < ((3000 : Nat) : Int) := by omega
theorem mp_o1995 {a0 : Int} {a1 : Int} (h0 : 0 ≤ a1) (h1 : a0 = (600 + a1)) (h2 : a1 < 600) : ((0 ≤ a0 ∧ a0 < ((3000 : Nat) : Int))) := by omega
theorem mp_o1996 {a0 : Int} {a1 : Int} (h0 : 0 ≤ a1) (h1 : a0 = (600 + a1)) : a0 = (((600 : Nat) : Int) + (((Int.toNat a1) : Nat) : Int)) := by omega
theorem mp_o1997 : (((0 + 600) ≤ 600 ∨ (600 + 600) ≤ 0)) := by omega
theorem mp_o1998 {a0 : Int} (h0 : 0 ≤ a0) : (-2147483648) ≤ (2 + a0) := by omega
theorem mp_o1999 {a0 : Int} (h0 : a0 < 1) : (2 + a0) ≤ 2147483647 := by omega
theorem mp_o2000 {a0 : Int} {a1 : Int} (h0 : 0 ≤ a1) (h1 : a0 = (2 + a1)) (h2 : a1 < 1) : ((0 ≤ a0 ∧ a0 < ((5 : Nat) : Int))) := by omega
theorem mp_o2001 {a0 : Int} {a1 : Int} (h0 : 0 ≤ a1) (h1 : a0 = (2 + a1)) : a0 = (((2 : Nat) : Int) + (((Int.toNat a1) : Nat) : Int)) := by omega
theorem mp_o2002 : (((0 + 1) ≤ 2 ∨ (2 + 1) ≤ 0)) := by omega
theorem mp_o2003 {a0 : Int} (h0 : a0 < 5) : (10 + a0) ≤ 2147483647 := by omega
theorem mp_o2004 {a0 : Int} {a1 : Int} (h0 : 0 ≤ a1) (h1 : a0 = (10 + a1)) (h2 : a1 < 5) : ((0 ≤ a0 ∧ a0 < ((25 : Nat) : Int))) := by omega
theorem mp_o2005 {a0 : Int} {a1 : Int} (h0 : 0 ≤ a1) (h1 : a0 = (10 + a1)) : 0 ≤ a0 := by omega
theorem mp_o2006 {a0 : Int} {a1 : Int} {a2 : Int} {a3 : Int} (h0 : (((a2 % 5) = 0 → (0 ≤ a1 ∧ a1 ≤ 6)))) (h1 : a0 = (10 + a3)) (h2 : a2 = (0 + a3)) : ((a0 % ((5 : Nat) : Int)) = ((0 : Nat) : Int)) → ((0 ≤ a1 ∧ a1 ≤ 6)) := by omega
theorem mp_o2007 {a0 : Int} {a1 : Int} {a2 : Int} {a3 : Int} (h0 : (((a2 % 5) = 1 → (0 ≤ a1 ∧ a1 ≤ 99)))) (h1 : a0 = (10 + a3)) (h2 : a2 = (0 + a3)) : ((a0 % ((5 : Nat) : Int)) = ((1 : Nat) : Int)) → ((0 ≤ a1 ∧ a1 ≤ 99)) := by omega
theorem mp_o2008 {a0 : Int} {a1 : Int} {a2 : Int} {a3 : Int} (h0 : (((a2 % 5) = 2 → (0 ≤ a1 ∧ a1 ≤ 6)))) (h1 : a0 = (10 + a3)) (h2 : a2 = (0 + a3)) : ((a0 % ((5 : Nat) : Int)) = ((2 : Nat) : Int)) → ((0 ≤ a1 ∧ a1 ≤ 6)) := by omega
theorem mp_o2009 {a0 : Int} {a1 : Int} {a2 : Int} {a3 : Int} (h0 : (((a2 % 5) = 3 → (0 ≤ a1 ∧ a1 ≤ 10)))) (h1 : a0 = (10 + a3)) (h2 : a2 = (0 + a3)) : ((a0 % ((5 : Nat) : Int)) = ((3 : Nat) : Int)) → ((0 ≤ a1 ∧ a1 ≤ 10)) := by omega
theorem mp_o2010 {a0 : Int} {a1 : Int} {a2 : Int} {a3 : Int} (h0 : (((a2 % 5) = 4 → (0 ≤ a1 ∧ a1 ≤ 60)))) (h1 : a0 = (10 + a3)) (h2 : a2 = (0 + a3)) : ((a0 % ((5 : Nat) : Int)) = ((4 : Nat) : Int)) → ((0 ≤ a1 ∧ a1 ≤ 60)) := by omega
theorem mp_o2011 {a0 : Int} {a1 : Int} (h0 : 0 ≤ a1) (h1 : a0 = (10 + a1)) : a0 = (((10 : Nat) : Int) + (((Int.toNat a1) : Nat) : Int)) := by omega
theorem mp_o2012 : (((0 + 5) ≤ 10 ∨ (10 + 5) ≤ 0)) := by omega
theorem mp_o2013 {a0 : Int} (h0 : a0 < 36) : (72 + a0) ≤ 2147483647 := by omega
theorem mp_o2014 {a0 : Int} {a1 : Int} (h0 : 0 ≤ a1) (h1 : a0 = (72 + a1)) (h2 : a1 < 36) : ((0 ≤ a0 ∧ a0 < ((180 : Nat) : Int))) := by omega
theorem mp_o2015 {a0 : Int} {a1 : Int} (h0 : 0 ≤ a1) (h1 : a0 = (72 + a1)) : a0 = (((72 : Nat) : Int) + (((Int.toNat a1) : Nat) : Int)) := by omega
theorem mp_o2016 : (((0 + 36) ≤ 72 ∨ (72 + 36) ≤ 0)) := by omega
theorem mp_o2017 {a0 : Int} (h0 : a0 < 18) : (36 + a0) ≤ 2147483647 := by omega
theorem mp_o2018 {a0 : Int} {a1 : Int} (h0 : 0 ≤ a1) (h1 : a0 = (36 + a1)) (h2 : a1 < 18) : ((0 ≤ a0 ∧ a0 < ((90 : Nat) : Int))) := by omega
theorem mp_o2019 {a0 : Int} {a1 : Int} (h0 : 0 ≤ a1) (h1 : a0 = (36 + a1)) : 0 ≤ a0 := by omega
theorem mp_o2020 {a0 : Int} {a1 : Int} {a2 : Int} {a3 : Int} (h0 : (((a2 % 3) = 0 → (0 ≤ a1 ∧ a1 ≤ 5)))) (h1 : a0 = (36 + a3)) (h2 : a2 = (0 + a3)) : ((a0 % ((3 : Nat) : Int)) = ((0 : Nat) : Int)) → ((0 ≤ a1 ∧ a1 ≤ 5)) := by omega
theorem mp_o2021 {a0 : Int} {a1 : Int} {a2 : Int} {a3 : Int} (h0 : (((a2 % 3) = 1 → ((-1) ≤ a1 ∧ a1 ≤ 99)))) (h1 : a0 = (36 + a3)) (h2 : a2 = (0 + a3)) : ((a0 % ((3 : Nat) : Int)) = ((1 : Nat) : Int)) → (((-1) ≤ a1 ∧ a1 ≤ 99)) := by omega
theorem mp_o2022 : (((0 + 18) ≤ 36 ∨ (36 + 18) ≤ 0)) := by omega
theorem mp_o2023 {a0 : Int} (h0 : 0 ≤ a0) : (-2147483648) ≤ (120 + a0) := by omega
theorem mp_o2024 {a0 : Int} (h0 : a0 < 60) : (120 + a0) ≤ 2147483647 := by omega
theorem mp_o2025 {a0 : Int} {a1 : Int} (h0 : 0 ≤ a1) (h1 : a0 = (120 + a1)) (h2 : a1 < 60) : ((0 ≤ a0 ∧ a0 < ((300 : Nat) : Int))) := by omega
theorem mp_o2026 {a0 : Int} {a1 : Int} (h0 : 0 ≤ a1) (h1 : a0 = (120 + a1)) : 0 ≤ a0 := by omega
theorem mp_o2027 {a0 : Int} {a1 : Int} {a2 : Int} {a3 : Int} (h0 : (((a2 % 6) = 0 → (0 ≤ a1 ∧ a1 ≤ 5)))) (h1 : a0 = (120 + a3)) (h2 : a2 = (0 + a3)) : ((a0 % ((6 : Nat) : Int)) = ((0 : Nat) : Int)) → ((0 ≤ a1 ∧ a1 ≤ 5)) := by omega
theorem mp_o2028 {a0 : Int} {a1 : Int} {a2 : Int} {a3 : Int} (h0 : (((a2 % 6) = 1 → (0 ≤ a1 ∧ a1 ≤ 5)))) (h1 : a0 = (120 + a3)) (h2 : a2 = (0 + a3)) : ((a0 % ((6 : Nat) : Int)) = ((1 : Nat) : Int)) → ((0 ≤ a1 ∧ a1 ≤ 5)) := by omega
theorem mp_o2029 {a0 : Int} {a1 : Int} {a2 : Int} {a3 : Int} (h0 : (((a2 % 6) = 3 → (0 ≤ a1 ∧ a1 ≤ 99)))) (h1 : a0 = (120 + a3)) (h2 : a2 = (0 + a3)) : ((a0 % ((6 : Nat) : Int)) = ((3 : Nat) : Int)) → ((0 ≤ a1 ∧ a1 ≤ 99)) := by omega
theorem mp_o2030 {a0 : Int} {a1 : Int} {a2 : Int} {a3 : Int} (h0 : (((a2 % 6) = 4 → (0 ≤ a1 ∧ a1 ≤ 1)))) (h1 : a0 = (120 + a3)) (h2 : a2 = (0 + a3)) : ((a0 % ((6 : Nat) : Int)) = ((4 : Nat) : Int)) → ((0 ≤ a1 ∧ a1 ≤ 1)) := by omega
theorem mp_o2031 {a0 : Int} {a1 : Int} (h0 : 0 ≤ a1) (h1 : a0 = (120 + a1)) : a0 = (((120 : Nat) : Int) + (((Int.toNat a1) : Nat) : Int)) := by omega
theorem mp_o2032 : (((0 + 60) ≤ 120 ∨ (120 + 60) ≤ 0)) := by omega
theorem mp_o2033 {a0 : Int} (h0 : 0 ≤ a0) : (-2147483648) ≤ (1200 + a0) := by omega
theorem mp_o2034 {a0 : Int} (h0 : a0 < 600) : (1200 + a0) ≤ 2147483647 := by omega
theorem mp_o2035 {a0 : Int} {a1 : Int} (h0 : 0 ≤ a1) (h1 : a0 = (1200 + a1)) (h2 : a1 < 600) : ((0 ≤ a0 ∧ a0 < ((3000 : Nat) : Int))) := by omega
theorem mp_o2036 {a0 : Int} {a1 : Int} (h0 : 0 ≤ a1) (h1 : a0 = (1200 + a1)) : a0 = (((1200 : Nat) : Int) + (((Int.toNat a1) : Nat) : Int)) := by omega
theorem mp_o2037 : (((0 + 600) ≤ 1200 ∨ (1200 + 600) ≤ 0)) := by omega
theorem mp_o2038 {a0 : Int} (h0 : 0 ≤ a0) : (-2147483648) ≤ (3 + a0) := by omega
theorem mp_o2039 {a0 : Int} (h0 : a0 < 1) : (3 + a0) ≤ 2147483647 := by omega
theorem mp_o2040 {a0 : Int} {a1 : Int} (h0 : 0 ≤ a1) (h1 : a0 = (3 + a1)) (h2 : a1 < 1) : ((0 ≤ a0 ∧ a0 < ((5 : Nat) : Int))) := by omega
theorem mp_o2041 {a0 : Int} {a1 : Int} (h0 : 0 ≤ a1) (h1 : a0 = (3 + a1)) : a0 = (((3 : Nat) : Int) + (((Int.toNat a1) : Nat) : Int)) := by omega
theorem mp_o2042 : (((0 + 1) ≤ 3 ∨ (3 + 1) ≤ 0)) := by omega
theorem mp_o2043 {a0 : Int} (h0 : 0 ≤ a0) : (-2147483648) ≤ (15 + a0) := by omega
theorem mp_o2044 {a0 : Int} (h0 : a0 < 5) : (15 + a0) ≤ 2147483647 := by omega
theorem mp_o2045 {a0 : Int} {a1 : Int} (h0 : 0 ≤ a1) (h1 : a0 = (15 + a1)) (h2 : a1 < 5) : ((0 ≤ a0 ∧ a0 < ((25 : Nat) : Int))) := by omega
theorem mp_o2046 {a0 : Int} {a1 : Int} (h0 : 0 ≤ a1) (h1 : a0 = (15 + a1)) : 0 ≤ a0 := by omega
theorem mp_o2047 {a0 : Int} {a1 : Int} {a2 : Int} {a3 : Int} (h0 : (((a2 % 5) = 0 → (0 ≤ a1 ∧ a1 ≤ 6)))) (h1 : a0 = (15 + a3)) (h2 : a2 = (0 + a3)) : ((a0 % ((5 : Nat) : Int)) = ((0 : Nat) : Int)) → ((0 ≤ a1 ∧ a1 ≤ 6)) := by omega
theorem mp_o2048 {a0 : Int} {a1 : Int} {a2 : Int} {a3 : Int} (h0 : (((a2 % 5) = 1 → (0 ≤ a1 ∧ a1 ≤ 99)))) (h1 : a0 = (15 + a3)) (h2 : a2 = (0 + a3)) : ((a0 % ((5 : Nat) : Int)) = ((1 : Nat) : Int)) → ((0 ≤ a1 ∧ a1 ≤ 99)) := by omega
theorem mp_o2049 {a0 : Int} {a1 : Int} {a2 : Int} {a3 : Int} (h0 : (((a2 % 5) = 2 → (0 ≤ a1 ∧ a1 ≤ 6)))) (h1 : a0 = (15 + a3)) (h2 : a2 = (0 + a3)) : ((a0 % ((5 : Nat) : Int)) = ((2 : Nat) : Int)) → ((0 ≤ a1 ∧ a1 ≤ 6)) := by omega
theorem mp_o2050 {a0 : Int} {a1 : Int} {a2 : Int} {a3 : Int} (h0 : (((a2 % 5) = 3 → (0 ≤ a1 ∧ a1 ≤ 10)))) (h1 : a0 = (15 + a3)) (h2 : a2 = (0 + a3)) : ((a0 % ((5 : Nat) : Int)) = ((3 : Nat) : Int)) → ((0 ≤ a1 ∧ a1 ≤ 10)) := by omega
theorem mp_o2051 {a0 : Int} {a1 : Int} {a2 : Int} {a3 : Int} (h0 : (((a2 % 5) = 4 → (0 ≤ a1 ∧ a1 ≤ 60)))) (h1 : a0 = (15 + a3)) (h2 : a2 = (0 + a3)) : ((a0 % ((5 : Nat) : Int)) = ((4 : Nat) : Int)) → ((0 ≤ a1 ∧ a1 ≤ 60)) := by omega
theorem mp_o2052 {a0 : Int} {a1 : Int} (h0 : 0 ≤ a1) (h1 : a0 = (15 + a1)) : a0 = (((15 : Nat) : Int) + (((Int.toNat a1) : Nat) : Int)) := by omega
theorem mp_o2053 : (((0 + 5) ≤ 15 ∨ (15 + 5) ≤ 0)) := by omega
theorem mp_o2054 {a0 : Int} (h0 : 0 ≤ a0) : (-2147483648) ≤ (108 + a0) := by omega
theorem mp_o2055 {a0 : Int} (h0 : a0 < 36) : (108 + a0) ≤ 2147483647 := by omega
theorem mp_o2056 {a0 : Int} {a1 : Int} (h0 : 0 ≤ a1) (h1 : a0 = (108 + a1)) (h2 : a1 < 36) : ((0 ≤ a0 ∧ a0 < ((180 : Nat) : Int))) := by omega
theorem mp_o2057 {a0 : Int} {a1 : Int} (h0 : 0 ≤ a1) (h1 : a0 = (108 + a1)) : a0 = (((108 : Nat) : Int) + (((Int.toNat a1) : Nat) : Int)) := by omega
theorem mp_o2058 : (((0 + 36) ≤ 108 ∨ (108 + 36) ≤ 0)) := by omega
theorem mp_o2059 {a0 : Int} (h0 : 0 ≤ a0) : (-2147483648) ≤ (54 + a0) := by omega
theorem mp_o2060 {a0 : Int} (h0 : a0 < 18) : (54 + a0) ≤ 2147483647 := by omega
theorem mp_o2061 {a0 : Int} {a1 : Int} (h0 : 0 ≤ a1) (h1 : a0 = (54 + a1)) (h2 : a1 < 18) : ((0 ≤ a0 ∧ a0 < ((90 : Nat) : Int))) := by omega
theorem mp_o2062 {a0 : Int} {a1 : Int} (h0 : 0 ≤ a1) (h1 : a0 = (54 + a1)) : 0 ≤ a0 := by omega
theorem mp_o2063 {a0 : Int} {a1 : Int} {a2 : Int} {a3 : Int} (h0 : (((a2 % 3) = 0 → (0 ≤ a1 ∧ a1 ≤ 5)))) (h1 : a0 = (54 + a3)) (h2 : a2 = (0 + a3)) : ((a0 % ((3 : Nat) : Int)) = ((0 : Nat) : Int)) → ((0 ≤ a1 ∧ a1 ≤ 5)) := by omega
theorem mp_o2064 {a0 : Int} {a1 : Int} {a2 : Int} {a3 : Int} (h0 : (((a2 % 3) = 1 → ((-1) ≤ a1 ∧ a1 ≤ 99)))) (h1 : a0 = (54 + a3)) (h2 : a2 = (0 + a3)) : ((a0 % ((3 : Nat) : Int)) = ((1 : Nat) : Int)) → (((-1) ≤ a1 ∧ a1 ≤ 99)) := by omega
theorem mp_o2065 {a0 : Int} {a1 : Int} (h0 : 0 ≤ a1) (h1 : a0 = (54 + a1)) : a0 = (((54 : Nat) : Int) + (((Int.toNat a1) : Nat) : Int)) := by omega
theorem mp_o2066 : (((0 + 18) ≤ 54 ∨ (54 + 18) ≤ 0)) := by omega
theorem mp_o2067 {a0 : Int} (h0 : 0 ≤ a0) : (-2147483648) ≤ (180 + a0) := by omega
theorem mp_o2068 {a0 : Int} (h0 : a0 < 60) : (180 + a0) ≤ 2147483647 := by omega
theorem mp_o2069 {a0 : Int} {a1 : Int} (h0 : 0 ≤ a1) (h1 : a0 = (180 + a1)) (h2 : a1 < 60) : ((0 ≤ a0 ∧ a0 < ((300 : Nat) : Int))) := by omega
theorem mp_o2070 {a0 : Int} {a1 : Int} (h0 : 0 ≤ a1) (h1 : a0 = (180 + a1)) : 0 ≤ a0 := by omega
theorem mp_o2071 {a0 : Int} {a1 : Int} {a2 : Int} {a3 : Int} (h0 : (((a2 % 6) = 0 → (0 ≤ a1 ∧ a1 ≤ 5)))) (h1 : a0 = (180 + a3)) (h2 : a2 = (0 + a3)) : ((a0 % ((6 : Nat) : Int)) = ((0 : Nat) : Int)) → ((0 ≤ a1 ∧ a1 ≤ 5)) := by omega
theorem mp_o2072 {a0 : Int} {a1 : Int} {a2 : Int} {a3 : Int} (h0 : (((a2 % 6) = 1 → (0 ≤ a1 ∧ a1 ≤ 5)))) (h1 : a0 = (180 + a3)) (h2 : a2 = (0 + a3)) : ((a0 % ((6 : Nat) : Int)) = ((1 : Nat) : Int)) → ((0 ≤ a1 ∧ a1 ≤ 5)) := by omega
theorem mp_o2073 {a0 : Int} {a1 : Int} {a2 : Int} {a3 : Int} (h0 : (((a2 % 6) = 3 → (0 ≤ a1 ∧ a1 ≤ 99)))) (h1 : a0 = (180 + a3)) (h2 : a2 = (0 + a3)) : ((a0 % ((6 : Nat) : Int)) = ((3 : Nat) : Int)) → ((0 ≤ a1 ∧ a1 ≤ 99)) := by omega
theorem mp_o2074 {a0 : Int} {a1 : Int} {a2 : Int} {a3 : Int} (h0 : (((a2 % 6) = 4 → (0 ≤ a1 ∧ a1 ≤ 1)))) (h1 : a0 = (180 + a3)) (h2 : a2 = (0 + a3)) : ((a0 % ((6 : Nat) : Int)) = ((4 : Nat) : Int)) → ((0 ≤ a1 ∧ a1 ≤ 1)) := by omega
theorem mp_o2075 {a0 : Int} {a1 : Int} (h0 : 0 ≤ a1) (h1 : a0 = (180 + a1)) : a0 = (((180 : Nat) : Int) + (((Int.toNat a1) : Nat) : Int)) := by omega
theorem mp_o2076 : (((0 + 60) ≤ 180 ∨ (180 + 60) ≤ 0)) := by omega
theorem mp_o2077 {a0 : Int} (h0 : 0 ≤ a0) : (-2147483648) ≤ (1800 + a0) := by omega
theorem mp_o2078 {a0 : Int} (h0 : a0 < 600) : (1800 + a0) ≤ 2147483647 := by omega
theorem mp_o2079 {a0 : Int} {a1 : Int} (h0 : 0 ≤ a1) (h1 : a0 = (1800 + a1)) (h2 : a1 < 600) : ((0 ≤ a0 ∧ a0 < ((3000 : Nat) : Int))) := by omega
theorem mp_o2080 {a0 : Int} {a1 : Int} (h0 : 0 ≤ a1) (h1 : a0 = (1800 + a1)) : a0 = (((1800 : Nat) : Int) + (((Int.toNat a1) : Nat) : Int)) := by omega
theorem mp_o2081 : (((0 + 600) ≤ 1800 ∨ (1800 + 600) ≤ 0)) := by omega
theorem mp_o2082 {a0 : Int} {a1 : Int} {a2 : Int} {a3 : Int} (h0 : a1 = 0) (h1 : a2 = 2) (h2 : a3 = a0) (h3 : (a3 < a1 ∨ a2 < a3)) : ((a0 < 0 ∨ 2 < a0)) := by omega
theorem mp_o2083 {a0 : Int} {a1 : Int} (h0 : 0 ≤ a1) (h1 : a1 = a0) (h2 : a1 ≤ 2) : ((a0 = 0 ∨ (a0 = 1 ∨ a0 = 2))) := by omega
theorem mp_o2084 {a0 : Int} (h0 : a0 = 0) : a0 ≤ 2 := by omega
theorem mp_o2085 {a0 : Int} (h0 : a0 = 0) : ((0 ≤ a0 ∧ a0 ≤ 2)) := by omega
theorem mp_o2086 {a0 : Int} (h0 : a0 = 1) : a0 ≤ 2 := by omega
theorem mp_o2087 {a0 : Int} (h0 : a0 = 1) : ((0 ≤ a0 ∧ a0 ≤ 2)) := by omega
theorem mp_o2088 {a0 : Int} (h0 : a0 = 2) : 0 ≤ a0 := by omega
theorem mp_o2089 {a0 : Int} (h0 : a0 = 2) : a0 ≤ 2 := by omega
theorem mp_o2090 {a0 : Int} (h0 : a0 = 2) : ((0 ≤ a0 ∧ a0 ≤ 2)) := by omega
theorem mp_o2091 : (((1 + 1) ≤ 0 ∨ (0 + 1) ≤ 1)) := by omega
theorem mp_o2092 {a0 : Int} {a1 : Int} (h0 : a1 < 5) (h1 : a0 = (5 + a1)) : a0 < ((25 : Nat) : Int) := by omega
theorem mp_o2093 {a0 : Int} {a1 : Int} {a2 : Int} {a3 : Int} (h0 : (((a2 % 5) = 0 → (0 ≤ a1 ∧ a1 ≤ 6)))) (h1 : a0 = (0 + a3)) (h2 : a2 = (5 + a3)) : ((a0 % ((5 : Nat) : Int)) = ((0 : Nat) : Int)) → ((0 ≤ a1 ∧ a1 ≤ 6)) := by omega
theorem mp_o2094 {a0 : Int} {a1 : Int} {a2 : Int} {a3 : Int} (h0 : (((a2 % 5) = 1 → (0 ≤ a1 ∧ a1 ≤ 99)))) (h1 : a0 = (0 + a3)) (h2 : a2 = (5 + a3)) : ((a0 % ((5 : Nat) : Int)) = ((1 : Nat) : Int)) → ((0 ≤ a1 ∧ a1 ≤ 99)) := by omega
theorem mp_o2095 {a0 : Int} {a1 : Int} {a2 : Int} {a3 : Int} (h0 : (((a2 % 5) = 2 → (0 ≤ a1 ∧ a1 ≤ 6)))) (h1 : a0 = (0 + a3)) (h2 : a2 = (5 + a3)) : ((a0 % ((5 : Nat) : Int)) = ((2 : Nat) : Int)) → ((0 ≤ a1 ∧ a1 ≤ 6)) := by omega
theorem mp_o2096 {a0 : Int} {a1 : Int} {a2 : Int} {a3 : Int} (h0 : (((a2 % 5) = 3 → (0 ≤ a1 ∧ a1 ≤ 10)))) (h1 : a0 = (0 + a3)) (h2 : a2 = (5 + a3)) : ((a0 % ((5 : Nat) : Int)) = ((3 : Nat) : Int)) → ((0 ≤ a1 ∧ a1 ≤ 10)) := by omega
theorem mp_o2097 {a0 : Int} {a1 : Int} {a2 : Int} {a3 : Int} (h0 : (((a2 % 5) = 4 → (0 ≤ a1 ∧ a1 ≤ 60)))) (h1 : a0 = (0 + a3)) (h2 : a2 = (5 + a3)) : ((a0 % ((5 : Nat) : Int)) = ((4 : Nat) : Int)) → ((0 ≤ a1 ∧ a1 ≤ 60)) := by omega
theorem mp_o2098 : (((5 + 5) ≤ 0 ∨ (0 + 5) ≤ 5)) := by omega
theorem mp_o2099 {a0 : Int} {a1 : Int} (h0 : a1 < 36) (h1 : a0 = (36 + a1)) : a0 < ((180 : Nat) : Int) := by omega
theorem mp_o2100 : (((36 + 36) ≤ 0 ∨ (0 + 36) ≤ 36)) := by omega
theorem mp_o2101 {a0 : Int} {a1 : Int} (h0 : a1 < 18) (h1 : a0 = (18 + a1)) : a0 < ((90 : Nat) : Int) := by omega
theorem mp_o2102 {a0 : Int} {a1 : Int} {a2 : Int} {a3 : Int} (h0 : (((a2 % 3) = 0 → (0 ≤ a1 ∧ a1 ≤ 5)))) (h1 : a0 = (0 + a3)) (h2 : a2 = (18 + a3)) : ((a0 % ((3 : Nat) : Int)) = ((0 : Nat) : Int)) → ((0 ≤ a1 ∧ a1 ≤ 5)) := by omega
theorem mp_o2103 {a0 : Int} {a1 : Int} {a2 : Int} {a3 : Int} (h0 : (((a2 % 3) = 1 → ((-1) ≤ a1 ∧ a1 ≤ 99)))) (h1 : a0 = (0 + a3)) (h2 : a2 = (18 + a3)) : ((a0 % ((3 : Nat) : Int)) = ((1 : Nat) : Int)) → (((-1) ≤ a1 ∧ a1 ≤ 99)) := by omega
theorem mp_o2104 : (((18 + 18) ≤ 0 ∨ (0 + 18) ≤ 18)) := by omega
theorem mp_o2105 {a0 : Int} {a1 : Int} (h0 : a1 < 60) (h1 : a0 = (60 + a1)) : a0 < ((300 : Nat) : Int) := by omega
theorem mp_o2106 {a0 : Int} {a1 : Int} {a2 : Int} {a3 : Int} (h0 : (((a2 % 6) = 0 → (0 ≤ a1 ∧ a1 ≤ 5)))) (h1 : a0 = (0 + a3)) (h2 : a2 = (60 + a3)) : ((a0 % ((6 : Nat) : Int)) = ((0 : Nat) : Int)) → ((0 ≤ a1 ∧ a1 ≤ 5)) := by omega
theorem mp_o2107 {a0 : Int} {a1 : Int} {a2 : Int} {a3 : Int} (h0 : (((a2 % 6) = 1 → (0 ≤ a1 ∧ a1 ≤ 5)))) (h1 : a0 = (0 + a3)) (h2 : a2 = (60 + a3)) : ((a0 % ((6 : Nat) : Int)) = ((1 : Nat) : Int)) → ((0 ≤ a1 ∧ a1 ≤ 5)) := by omega
theorem mp_o2108 {a0 : Int} {a1 : Int} {a2 : Int} {a3 : Int} (h0 : (((a2 % 6) = 3 → (0 ≤ a1 ∧ a1 ≤ 99)))) (h1 : a0 = (0 + a3)) (h2 : a2 = (60 + a3)) : ((a0 % ((6 : Nat) : Int)) = ((3 : Nat) : Int)) → ((0 ≤ a1 ∧ a1 ≤ 99)) := by omega
theorem mp_o2109 {a0 : Int} {a1 : Int} {a2 : Int} {a3 : Int} (h0 : (((a2 % 6) = 4 → (0 ≤ a1 ∧ a1 ≤ 1)))) (h1 : a0 = (0 + a3)) (h2 : a2 = (60 + a3)) : ((a0 % ((6 : Nat) : Int)) = ((4 : Nat) : Int)) → ((0 ≤ a1 ∧ a1 ≤ 1)) := by omega
theorem mp_o2110 : (((60 + 60) ≤ 0 ∨ (0 + 60) ≤ 60)) := by omega
theorem mp_o2111 {a0 : Int} {a1 : Int} (h0 : a1 < 60) (h1 : a0 = (60 + a1)) : a0 < 300 := by omega
theorem mp_o2112 {a0 : Int} {a1 : Int} (h0 : 0 ≤ a1) (h1 : a0 = (600 + a1)) : 0 ≤ a0 := by omega
theorem mp_o2113 {a0 : Int} {a1 : Int} (h0 : a1 < 600) (h1 : a0 = (600 + a1)) : a0 < ((3000 : Nat) : Int) := by omega
theorem mp_o2114 : (((600 + 600) ≤ 0 ∨ (0 + 600) ≤ 600)) := by omega
theorem mp_o2115 : (((2 + 1) ≤ 0 ∨ (0 + 1) ≤ 2)) := by omega
theorem mp_o2116 {a0 : Int} {a1 : Int} (h0 : a1 < 5) (h1 : a0 = (10 + a1)) : a0 < ((25 : Nat) : Int) := by omega
theorem mp_o2117 {a0 : Int} {a1 : Int} {a2 : Int} {a3 : Int} (h0 : (((a2 % 5) = 0 → (0 ≤ a1 ∧ a1 ≤ 6)))) (h1 : a0 = (0 + a3)) (h2 : a2 = (10 + a3)) : ((a0 % ((5 : Nat) : Int)) = ((0 : Nat) : Int)) → ((0 ≤ a1 ∧ a1 ≤ 6)) := by omega
theorem mp_o2118 {a0 : Int} {a1 : Int} {a2 : Int} {a3 : Int} (h0 : (((a2 % 5) = 1 → (0 ≤ a1 ∧ a1 ≤ 99)))) (h1 : a0 = (0 + a3)) (h2 : a2 = (10 + a3)) : ((a0 % ((5 : Nat) : Int)) = ((1 : Nat) : Int)) → ((0 ≤ a1 ∧ a1 ≤ 99)) := by omega
theorem mp_o2119 {a0 : Int} {a1 : Int} {a2 : Int} {a3 : Int} (h0 : (((a2 % 5) = 2 → (0 ≤ a1 ∧ a1 ≤ 6)))) (h1 : a0 = (0 + a3)) (h2 : a2 = (10 + a3)) : ((a0 % ((5 : Nat) : Int)) = ((2 : Nat) : Int)) → ((0 ≤ a1 ∧ a1 ≤ 6)) := by omega
theorem mp_o2120 {a0 : Int} {a1 : Int} {a2 : Int} {a3 : Int} (h0 : (((a2 % 5) = 3 → (0 ≤ a1 ∧ a1 ≤ 10)))) (h1 : a0 = (0 + a3)) (h2 : a2 = (10 + a3)) : ((a0 % ((5 : Nat) : Int)) = ((3 : Nat) : Int)) → ((0 ≤ a1 ∧ a1 ≤ 10)) := by omega
theorem mp_o2121 {a0 : Int} {a1 : Int} {a2 : Int} {a3 : Int} (h0 : (((a2 % 5) = 4 → (0 ≤ a1 ∧ a1 ≤ 60)))) (h1 : a0 = (0 + a3)) (h2 : a2 = (10 + a3)) : ((a0 % ((5 : Nat) : Int)) = ((4 : Nat) : Int)) → ((0 ≤ a1 ∧ a1 ≤ 60)) := by omega
theorem mp_o2122 : (((10 + 5) ≤ 0 ∨ (0 + 5) ≤ 10)) := by omega
theorem mp_o2123 {a0 : Int} {a1 : Int} (h0 : 0 ≤ a1) (h1 : a0 = (72 + a1)) : 0 ≤ a0 := by omega
theorem mp_o2124 {a0 : Int} {a1 : Int} (h0 : a1 < 36) (h1 : a0 = (72 + a1)) : a0 < ((180 : Nat) : Int) := by omega
theorem mp_o2125 : (((72 + 36) ≤ 0 ∨ (0 + 36) ≤ 72)) := by omega
theorem mp_o2126 {a0 : Int} {a1 : Int} (h0 : a1 < 18) (h1 : a0 = (36 + a1)) : a0 < ((90 : Nat) : Int) := by omega
theorem mp_o2127 {a0 : Int} {a1 : Int} {a2 : Int} {a3 : Int} (h0 : (((a2 % 3) = 0 → (0 ≤ a1 ∧ a1 ≤ 5)))) (h1 : a0 = (0 + a3)) (h2 : a2 = (36 + a3)) : ((a0 % ((3 : Nat) : Int)) = ((0 : Nat) : Int)) → ((0 ≤ a1 ∧ a1 ≤ 5)) := by omega
theorem mp_o2128 {a0 : Int} {a1 : Int} {a2 : Int} {a3 : Int} (h0 : (((a2 % 3) = 1 → ((-1) ≤ a1 ∧ a1 ≤ 99)))) (h1 : a0 = (0 + a3)) (h2 : a2 = (36 + a3)) : ((a0 % ((3 : Nat) : Int)) = ((1 : Nat) : Int)) → (((-1) ≤ a1 ∧ a1 ≤ 99)) := by omega
theorem mp_o2129 : (((36 + 18) ≤ 0 ∨ (0 + 18) ≤ 36)) := by omega
theorem mp_o2130 {a0 : Int} {a1 : Int} (h0 : a1 < 60) (h1 : a0 = (120 + a1)) : a0 < ((300 : Nat) : Int) := by omega
theorem mp_o2131 {a0 : Int} {a1 : Int} {a2 : Int} {a3 : Int} (h0 : (((a2 % 6) = 0 → (0 ≤ a1 ∧ a1 ≤ 5)))) (h1 : a0 = (0 + a3)) (h2 : a2 = (120 + a3)) : ((a0 % ((6 : Nat) : Int)) = ((0 : Nat) : Int)) → ((0 ≤ a1 ∧ a1 ≤ 5)) := by omega
theorem mp_o2132 {a0 : Int} {a1 : Int} {a2 : Int} {a3 : Int} (h0 : (((a2 % 6) = 1 → (0 ≤ a1 ∧ a1 ≤ 5)))) (h1 : a0 = (0 + a3)) (h2 : a2 = (120 + a3)) : ((a0 % ((6 : Nat) : Int)) = ((1 : Nat) : Int)) → ((0 ≤ a1 ∧ a1 ≤ 5)) := by omega
theorem mp_o2133 {a0 : Int} {a1 : Int} {a2 : Int} {a3 : Int} (h0 : (((a2 % 6) = 3 → (0 ≤ a1 ∧ a1 ≤ 99)))) (h1 : a0 = (0 + a3)) (h2 : a2 = (120 + a3)) : ((a0 % ((6 : Nat) : Int)) = ((3 : Nat) : Int)) → ((0 ≤ a1 ∧ a1 ≤ 99)) := by omega
theorem mp_o2134 {a0 : Int} {a1 : Int} {a2 : Int} {a3 : Int} (h0 : (((a2 % 6) = 4 → (0 ≤ a1 ∧ a1 ≤ 1)))) (h1 : a0 = (0 + a3)) (h2 : a2 = (120 + a3)) : ((a0 % ((6 : Nat) : Int)) = ((4 : Nat) : Int)) → ((0 ≤ a1 ∧ a1 ≤ 1)) := by omega
theorem mp_o2135 : (((120 + 60) ≤ 0 ∨ (0 + 60) ≤ 120)) := by omega
theorem mp_o2136 {a0 : Int} {a1 : Int} (h0 : a1 < 60) (h1 : a0 = (120 + a1)) : a0 < 300 := by omega
theorem mp_o2137 {a0 : Int} {a1 : Int} (h0 : 0 ≤ a1) (h1 : a0 = (1200 + a1)) : 0 ≤ a0 := by omega
theorem mp_o2138 {a0 : Int} {a1 : Int} (h0 : a1 < 600) (h1 : a0 = (1200 + a1)) : a0 < ((3000 : Nat) : Int) := by omega
theorem mp_o2139 : (((1200 + 600) ≤ 0 ∨ (0 + 600) ≤ 1200)) := by omega
theorem mp_o2140 : (((3 + 1) ≤ 0 ∨ (0 + 1) ≤ 3)) := by omega
theorem mp_o2141 {a0 : Int} {a1 : Int} (h0 : a1 < 5) (h1 : a0 = (15 + a1)) : a0 < ((25 : Nat) : Int) := by omega
theorem mp_o2142 {a0 : Int} {a1 : Int} {a2 : Int} {a3 : Int} (h0 : (((a2 % 5) = 0 → (0 ≤ a1 ∧ a1 ≤ 6)))) (h1 : a0 = (0 + a3)) (h2 : a2 = (15 + a3)) : ((a0 % ((5 : Nat) : Int)) = ((0 : Nat) : Int)) → ((0 ≤ a1 ∧ a1 ≤ 6)) := by omega
theorem mp_o2143 {a0 : Int} {a1 : Int} {a2 : Int} {a3 : Int} (h0 : (((a2 % 5) = 1 → (0 ≤ a1 ∧ a1 ≤ 99)))) (h1 : a0 = (0 + a3)) (h2 : a2 = (15 + a3)) : ((a0 % ((5 : Nat) : Int)) = ((1 : Nat) : Int)) → ((0 ≤ a1 ∧ a1 ≤ 99)) := by omega
theorem mp_o2144 {a0 : Int} {a1 : Int} {a2 : Int} {a3 : Int} (h0 : (((a2 % 5) = 2 → (0 ≤ a1 ∧ a1 ≤ 6)))) (h1 : a0 = (0 + a3)) (h2 : a2 = (15 + a3)) : ((a0 % ((5 : Nat) : Int)) = ((2 : Nat) : Int)) → ((0 ≤ a1 ∧ a1 ≤ 6)) := by omega
theorem mp_o2145 {a0 : Int} {a1 : Int} {a2 : Int} {a3 : Int} (h0 : (((a2 % 5) = 3 → (0 ≤ a1 ∧ a1 ≤ 10)))) (h1 : a0 = (0 + a3)) (h2 : a2 = (15 + a3)) : ((a0 % ((5 : Nat) : Int)) = ((3 : Nat) : Int)) → ((0 ≤ a1 ∧ a1 ≤ 10)) := by omega
theorem mp_o2146 {a0 : Int} {a1 : Int} {a2 : Int} {a3 : Int} (h0 : (((a2 % 5) = 4 → (0 ≤ a1 ∧ a1 ≤ 60)))) (h1 : a0 = (0 + a3)) (h2 : a2 = (15 + a3)) : ((a0 % ((5 : Nat) : Int)) = ((4 : Nat) : Int)) → ((0 ≤ a1 ∧ a1 ≤ 60)) := by omega
theorem mp_o2147 : (((15 + 5) ≤ 0 ∨ (0 + 5) ≤ 15)) := by omega
theorem mp_o2148 {a0 : Int} {a1 : Int} (h0 : 0 ≤ a1) (h1 : a0 = (108 + a1)) : 0 ≤ a0 := by omega
theorem mp_o2149 {a0 : Int} {a1 : Int} (h0 : a1 < 36) (h1 : a0 = (108 + a1)) : a0 < ((180 : Nat) : Int) := by omega
theorem mp_o2150 : (((108 + 36) ≤ 0 ∨ (0 + 36) ≤ 108)) := by omega
theorem mp_o2151 {a0 : Int} {a1 : Int} (h0 : a1 < 18) (h1 : a0 = (54 + a1)) : a0 < ((90 : Nat) : Int) := by omega
theorem mp_o2152 {a0 : Int} {a1 : Int} {a2 : Int} {a3 : Int} (h0 : (((a2 % 3) = 0 → (0 ≤ a1 ∧ a1 ≤ 5)))) (h1 : a0 = (0 + a3)) (h2 : a2 = (54 + a3)) : ((a0 % ((3 : Nat) : Int)) = ((0 : Nat) : Int)) → ((0 ≤ a1 ∧ a1 ≤ 5)) := by omega
theorem mp_o2153 {a0 : Int} {a1 : Int} {a2 : Int} {a3 : Int} (h0 : (((a2 % 3) = 1 → ((-1) ≤ a1 ∧ a1 ≤ 99)))) (h1 : a0 = (0 + a3)) (h2 : a2 = (54 + a3)) : ((a0 % ((3 : Nat) : Int)) = ((1 : Nat) : Int)) → (((-1) ≤ a1 ∧ a1 ≤ 99)) := by omega
theorem mp_o2154 : (((54 + 18) ≤ 0 ∨ (0 + 18) ≤ 54)) := by omega
theorem mp_o2155 {a0 : Int} {a1 : Int} (h0 : a1 < 60) (h1 : a0 = (180 + a1)) : a0 < ((300 : Nat) : Int) := by omega
theorem mp_o2156 {a0 : Int} {a1 : Int} {a2 : Int} {a3 : Int} (h0 : (((a2 % 6) = 0 → (0 ≤ a1 ∧ a1 ≤ 5)))) (h1 : a0 = (0 + a3)) (h2 : a2 = (180 + a3)) : ((a0 % ((6 : Nat) : Int)) = ((0 : Nat) : Int)) → ((0 ≤ a1 ∧ a1 ≤ 5)) := by omega
theorem mp_o2157 {a0 : Int} {a1 : Int} {a2 : Int} {a3 : Int} (h0 : (((a2 % 6) = 1 → (0 ≤ a1 ∧ a1 ≤ 5)))) (h1 : a0 = (0 + a3)) (h2 : a2 = (180 + a3)) : ((a0 % ((6 : Nat) : Int)) = ((1 : Nat) : Int)) → ((0 ≤ a1 ∧ a1 ≤ 5)) := by omega
theorem mp_o2158 {a0 : Int} {a1 : Int} {a2 : Int} {a3 : Int} (h0 : (((a2 % 6) = 3 → (0 ≤ a1 ∧ a1 ≤ 99)))) (h1 : a0 = (0 + a3)) (h2 : a2 = (180 + a3)) : ((a0 % ((6 : Nat) : Int)) = ((3 : Nat) : Int)) → ((0 ≤ a1 ∧ a1 ≤ 99)) := by omega
theorem mp_o2159 {a0 : Int} {a1 : Int} {a2 : Int} {a3 : Int} (h0 : (((a2 % 6) = 4 → (0 ≤ a1 ∧ a1 ≤ 1)))) (h1 : a0 = (0 + a3)) (h2 : a2 = (180 + a3)) : ((a0 % ((6 : Nat) : Int)) = ((4 : Nat) : Int)) → ((0 ≤ a1 ∧ a1 ≤ 1)) := by omega
theorem mp_o2160 : (((180 + 60) ≤ 0 ∨ (0 + 60) ≤ 180)) := by omega
theorem mp_o2161 {a0 : Int} {a1 : Int} (h0 : a1 < 60) (h1 : a0 = (180 + a1)) : a0 < 300 := by omega
theorem mp_o2162 {a0 : Int} {a1 : Int} (h0 : 0 ≤ a1) (h1 : a0 = (1800 + a1)) : 0 ≤ a0 := by omega
theorem mp_o2163 {a0 : Int} {a1 : Int} (h0 : a1 < 600) (h1 : a0 = (1800 + a1)) : a0 < ((3000 : Nat) : Int) := by omega
theorem mp_o2164 : (((1800 + 600) ≤ 0 ∨ (0 + 600) ≤ 1800)) := by omega
theorem mp_o2165 {a0 : Int} {a1 : Int} {a2 : Int} (h0 : a0 = 0) (h1 : a2 = a1) (h2 : a2 ≠ 0) : ((0 ≤ a0 ∧ (a0 ≤ 2 ∧ a1 ≠ 0))) := by omega
theorem mp_o2166 {a0 : Int} {a1 : Int} {a2 : Int} (h0 : a0 = 0) (h1 : a2 = 0) (h2 : a2 = a1) : ((0 ≤ a0 ∧ (a0 ≤ 2 ∧ a1 = 0))) := by omega
theorem mp_o2167 {a0 : Int} {a1 : Int} {a2 : Int} (h0 : a0 = 1) (h1 : a2 = a1) (h2 : a2 ≠ 0) : ((0 ≤ a0 ∧ (a0 ≤ 2 ∧ a1 ≠ 0))) := by omega
theorem mp_o2168 {a0 : Int} {a1 : Int} {a2 : Int} (h0 : a0 = 1) (h1 : a2 = 0) (h2 : a2 = a1) : ((0 ≤ a0 ∧ (a0 ≤ 2 ∧ a1 = 0))) := by omega
theorem mp_o2169 {a0 : Int} {a1 : Int} {a2 : Int} (h0 : a0 = 2) (h1 : a2 = a1) (h2 : a2 ≠ 0) : ((0 ≤ a0 ∧ (a0 ≤ 2 ∧ a1 ≠ 0))) := by omega
theorem mp_o2170 {a0 : Int} {a1 : Int} {a2 : Int} (h0 : a0 = 2) (h1 : a2 = 0) (h2 : a2 = a1) : ((0 ≤ a0 ∧ (a0 ≤ 2 ∧ a1 = 0))) := by omega
theorem mp_o2171 {a0 : Nat} (h0 : a0 < 4) : ((a0 = 0 ∨ (a0 = 1 ∨ (a0 = 2 ∨ a0 = 3)))) := by omega
theorem mp_cwa1 {a : Int} (h : 0 ≤ a) : -2147483648 ≤ a + 1 := by omega
theorem mp_cwb1 {a : Int} {L : Nat} (h3 : L ≤ 3072) (h6 : a + 6 ≤ L) : a + 1 ≤ 2147483647 := by omega
theorem mp_cwc1 {z a : Int} (h : 0 ≤ a) (e : z = a + 1) : 0 ≤ z := by omega
theorem mp_cwd1 {z a : Int} {L : Nat} (h6 : a + 6 ≤ L) (e : z = a + 1) : z < L := by omega
theorem mp_cwa2 {a : Int} (h : 0 ≤ a) : -2147483648 ≤ a + 2 := by omega
theorem mp_cwb2 {a : Int} {L : Nat} (h3 : L ≤ 3072) (h6 : a + 6 ≤ L) : a + 2 ≤ 2147483647 := by omega
theorem mp_cwc2 {z a : Int} (h : 0 ≤ a) (e : z = a + 2) : 0 ≤ z := by omega
theorem mp_cwd2 {z a : Int} {L : Nat} (h6 : a + 6 ≤ L) (e : z = a + 2) : z < L := by omega
theorem mp_cwa3 {a : Int} (h : 0 ≤ a) : -2147483648 ≤ a + 3 := by omega
theorem mp_cwb3 {a : Int} {L : Nat} (h3 : L ≤ 3072) (h6 : a + 6 ≤ L) : a + 3 ≤ 2147483647 := by omega
theorem mp_cwc3 {z a : Int} (h : 0 ≤ a) (e : z = a + 3) : 0 ≤ z := by omega
theorem mp_cwd3 {z a : Int} {L : Nat} (h6 : a + 6 ≤ L) (e : z = a + 3) : z < L := by omega
theorem mp_cwa4 {a : Int} (h : 0 ≤ a) : -2147483648 ≤ a + 4 := by omega
theorem mp_cwb4 {a : Int} {L : Nat} (h3 : L ≤ 3072) (h6 : a + 6 ≤ L) : a + 4 ≤ 2147483647 := by omega
theorem mp_cwc4 {z a : Int} (h : 0 ≤ a) (e : z = a + 4) : 0 ≤ z := by omega
theorem mp_cwd4 {z a : Int} {L : Nat} (h6 : a + 6 ≤ L) (e : z = a + 4) : z < L := by omega
theorem mp_cwa5 {a : Int} (h : 0 ≤ a) : -2147483648 ≤ a + 5 := by omega
theorem mp_cwb5 {a : Int} {L : Nat} (h3 : L ≤ 3072) (h6 : a + 6 ≤ L) : a + 5 ≤ 2147483647 := by omega
theorem mp_cwc5 {z a : Int} (h : 0 ≤ a) (e : z = a + 5) : 0 ≤ z := by omega
theorem mp_cwd5 {z a : Int} {L : Nat} (h6 : a + 6 ≤ L) (e : z = a + 5) : z < L := by omega
