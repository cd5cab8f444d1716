theorem mp_o0 {a0 : Int} (h0 : 0 ≤ a0) (h1 : a0 ≤ 1596) (h2 : 1600 ≤ a0) : False := by omega
theorem mp_o1 {a0 : Int} (h0 : 0 ≤ a0) (h1 : a0 ≤ 1596) : ((0 ≤ a0 ∧ a0 < ((1600 : Nat) : Int))) := by omega
theorem mp_o2 {a0 : Int} (h0 : 0 ≤ a0) (h1 : a0 ≤ 1596) : (-2147483648) ≤ (a0 + 1) := by omega
theorem mp_o3 {a0 : Int} (h0 : 0 ≤ a0) (h1 : a0 ≤ 1596) : (a0 + 1) ≤ 2147483647 := by omega
theorem mp_o4 {a0 : Int} {a1 : Int} (h0 : 0 ≤ a0) (h1 : a0 ≤ 1596) (h2 : a1 = (a0 + 1)) (h3 : 1600 ≤ a1) : False := by omega
theorem mp_o5 {a0 : Int} {a1 : Int} (h0 : 0 ≤ a0) (h1 : a0 ≤ 1596) (h2 : a1 = (a0 + 1)) : ((0 ≤ a1 ∧ a1 < ((1600 : Nat) : Int))) := by omega
theorem mp_o6 {a0 : Int} {a1 : Int} (h0 : 0 ≤ a0) (h1 : a0 ≤ 1596) (h2 : a1 = (a0 + 1)) : (-2147483648) ≤ (a1 + 1) := by omega
theorem mp_o7 {a0 : Int} {a1 : Int} (h0 : 0 ≤ a0) (h1 : a0 ≤ 1596) (h2 : a1 = (a0 + 1)) : (a1 + 1) ≤ 2147483647 := by omega
theorem mp_o8 {a0 : Int} {a1 : Int} {a2 : Int} (h0 : 0 ≤ a0) (h1 : a0 ≤ 1596) (h2 : a1 = (a0 + 1)) (h3 : a2 = (a1 + 1)) (h4 : 1600 ≤ a2) : False := by omega
theorem mp_o9 {a0 : Int} {a1 : Int} {a2 : Int} (h0 : 0 ≤ a0) (h1 : a0 ≤ 1596) (h2 : a1 = (a0 + 1)) (h3 : a2 = (a1 + 1)) : ((0 ≤ a2 ∧ a2 < ((1600 : Nat) : Int))) := by omega
theorem mp_o10 {a0 : Int} {a1 : Int} {a2 : Int} (h0 : 0 ≤ a0) (h1 : a0 ≤ 1596) (h2 : a1 = (a0 + 1)) (h3 : a2 = (a1 + 1)) : (-2147483648) ≤ (a2 + 1) := by omega
theorem mp_o11 {a0 : Int} {a1 : Int} {a2 : Int} (h0 : 0 ≤ a0) (h1 : a0 ≤ 1596) (h2 : a1 = (a0 + 1)) (h3 : a2 = (a1 + 1)) : (a2 + 1) ≤ 2147483647 := by omega
theorem mp_o12 {a0 : Int} {a1 : Int} {a2 : Int} {a3 : Int} (h0 : 0 ≤ a0) (h1 : a0 ≤ 1596) (h2 : a1 = (a0 + 1)) (h3 : a2 = (a1 + 1)) (h4 : a3 = (a2 + 1)) (h5 : 1600 ≤ a3) : False := by omega
theorem mp_o13 {a0 : Int} {a1 : Int} {a2 : Int} {a3 : Int} (h0 : 0 ≤ a0) (h1 : a0 ≤ 1596) (h2 : a1 = (a0 + 1)) (h3 : a2 = (a1 + 1)) (h4 : a3 = (a2 + 1)) : ((0 ≤ a3 ∧ a3 < ((1600 : Nat) : Int))) := by omega
theorem mp_o14 {a0 : Int} {a1 : Int} {a2 : Int} {a3 : Int} (h0 : 0 ≤ a0) (h1 : a0 ≤ 1596) (h2 : a1 = (a0 + 1)) (h3 : a2 = (a1 + 1)) (h4 : a3 = (a2 + 1)) : (-2147483648) ≤ (a3 + 1) := by omega
theorem mp_o15 {a0 : Int} {a1 : Int} {a2 : Int} {a3 : Int} (h0 : 0 ≤ a0) (h1 : a0 ≤ 1596) (h2 : a1 = (a0 + 1)) (h3 : a2 = (a1 + 1)) (h4 : a3 = (a2 + 1)) : (a3 + 1) ≤ 2147483647 := by omega
theorem mp_o16 {a0 : Int} {a1 : Int} {a2 : Int} {a3 : Int} {a4 : Int} (h0 : 0 ≤ a0) (h1 : a0 ≤ 1596) (h2 : a1 = (a0 + 1)) (h3 : a2 = (a1 + 1)) (h4 : a3 = (a2 + 1)) (h5 : a4 = (a3 + 1)) : 4 ≤ a4 := by omega
theorem mp_o17 {a0 : Int} {a1 : Int} {a2 : Int} {a3 : Int} {a4 : Int} (h0 : 0 ≤ a0) (h1 : a0 ≤ 1596) (h2 : a1 = (a0 + 1)) (h3 : a2 = (a1 + 1)) (h4 : a3 = (a2 + 1)) (h5 : a4 = (a3 + 1)) : a4 ≤ 1600 := by omega
theorem mp_o18 {a0 : Int} {a1 : Int} {a2 : Int} {a3 : Int} {a4 : Int} (h0 : a0 = (a1 + 1)) (h1 : a2 = (a0 + 1)) (h2 : a3 = (a2 + 1)) (h3 : a4 = (a3 + 1)) : a4 = (a1 + 4) := by omega
theorem mp_o19 {a0 : Int} : a0 = a0 := by omega
theorem mp_o20 {a0 : Int} {a1 : Int} {a2 : Int} (h0 : a0 = (a1 + 1)) (h1 : a2 = (a0 + 1)) : a2 = (a1 + 2) := by omega
theorem mp_o21 {a0 : Int} {a1 : Int} {a2 : Int} {a3 : Int} {a4 : Int} (h0 : 0 ≤ a0) (h1 : a0 ≤ 1596) (h2 : a1 = (a0 + 1)) (h3 : a2 = (a1 + 1)) (h4 : a3 = (a2 + 1)) (h5 : a4 = (a3 + 1)) : ((a3 = (a0 + 3) ∧ 0 ≤ a0)) := by omega
theorem mp_o22 {a0 : Int} (h0 : 0 ≤ a0) (h1 : a0 ≤ 1600) : (-2147483648) ≤ (a0 + 20) := by omega
theorem mp_o23 {a0 : Int} (h0 : 0 ≤ a0) (h1 : a0 ≤ 1600) : (a0 + 20) ≤ 2147483647 := by omega
theorem mp_o24 {a0 : Int} {a1 : Int} (h0 : 0 ≤ a0) (h1 : a0 ≤ 1600) (h2 : a1 = (a0 + 20)) (h3 : a1 ≤ 1600) : a0 ≤ 1596 := by omega
theorem mp_o25 {a0 : Int} {a1 : Int} {a2 : Int} (h0 : 0 ≤ a0) (h1 : a0 ≤ 1600) (h2 : a1 = (a0 + 20)) (h3 : a1 ≤ 1600) (h4 : a2 = (a0 + 4)) : 0 ≤ a2 := by omega
theorem mp_o26 {a0 : Int} {a1 : Int} {a2 : Int} (h0 : 0 ≤ a0) (h1 : a0 ≤ 1600) (h2 : a1 = (a0 + 20)) (h3 : a1 ≤ 1600) (h4 : a2 = (a0 + 4)) : a2 ≤ 1596 := by omega
theorem mp_o27 {a0 : Int} {a1 : Int} {a2 : Int} {a3 : Int} (h0 : 0 ≤ a0) (h1 : a0 ≤ 1600) (h2 : a1 = (a0 + 20)) (h3 : a1 ≤ 1600) (h4 : a2 = (a0 + 4)) (h5 : a3 = (a2 + 4)) : 0 ≤ a3 := by omega
theorem mp_o28 {a0 : Int} {a1 : Int} {a2 : Int} {a3 : Int} (h0 : 0 ≤ a0) (h1 : a0 ≤ 1600) (h2 : a1 = (a0 + 20)) (h3 : a1 ≤ 1600) (h4 : a2 = (a0 + 4)) (h5 : a3 = (a2 + 4)) : a3 ≤ 1596 := by omega
theorem mp_o29 {a0 : Int} {a1 : Int} {a2 : Int} {a3 : Int} {a4 : Int} (h0 : 0 ≤ a0) (h1 : a0 ≤ 1600) (h2 : a1 = (a0 + 20)) (h3 : a1 ≤ 1600) (h4 : a2 = (a0 + 4)) (h5 : a3 = (a2 + 4)) (h6 : a4 = (a3 + 4)) : 0 ≤ a4 := by omega
theorem mp_o30 {a0 : Int} {a1 : Int} {a2 : Int} {a3 : Int} {a4 : Int} (h0 : 0 ≤ a0) (h1 : a0 ≤ 1600) (h2 : a1 = (a0 + 20)) (h3 : a1 ≤ 1600) (h4 : a2 = (a0 + 4)) (h5 : a3 = (a2 + 4)) (h6 : a4 = (a3 + 4)) : a4 ≤ 1596 := by omega
theorem mp_o31 {a0 : Int} {a1 : Int} {a2 : Int} {a3 : Int} {a4 : Int} {a5 : Int} (h0 : 0 ≤ a0) (h1 : a0 ≤ 1600) (h2 : a1 = (a0 + 20)) (h3 : a1 ≤ 1600) (h4 : a2 = (a0 + 4)) (h5 : a3 = (a2 + 4)) (h6 : a4 = (a3 + 4)) (h7 : a5 = (a4 + 4)) : 0 ≤ a5 := by omega
theorem mp_o32 {a0 : Int} {a1 : Int} {a2 : Int} {a3 : Int} {a4 : Int} {a5 : Int} (h0 : 0 ≤ a0) (h1 : a0 ≤ 1600) (h2 : a1 = (a0 + 20)) (h3 : a1 ≤ 1600) (h4 : a2 = (a0 + 4)) (h5 : a3 = (a2 + 4)) (h6 : a4 = (a3 + 4)) (h7 : a5 = (a4 + 4)) : a5 ≤ 1596 := by omega
theorem mp_o33 {a0 : Int} {a1 : Int} {a2 : Int} {a3 : Int} {a4 : Int} {a5 : Int} {a6 : Int} (h0 : 0 ≤ a0) (h1 : a0 ≤ 1600) (h2 : a1 = (a0 + 20)) (h3 : a1 ≤ 1600) (h4 : a2 = (a0 + 4)) (h5 : a3 = (a2 + 4)) (h6 : a4 = (a3 + 4)) (h7 : a5 = (a4 + 4)) (h8 : a6 = (a5 + 4)) : (-1) ≤ a6 := by omega
theorem mp_o34 {a0 : Int} {a1 : Int} {a2 : Int} {a3 : Int} {a4 : Int} {a5 : Int} {a6 : Int} (h0 : 0 ≤ a0) (h1 : a0 ≤ 1600) (h2 : a1 = (a0 + 20)) (h3 : a1 ≤ 1600) (h4 : a2 = (a0 + 4)) (h5 : a3 = (a2 + 4)) (h6 : a4 = (a3 + 4)) (h7 : a5 = (a4 + 4)) (h8 : a6 = (a5 + 4)) : (((1600 < (a0 + 20) ∧ (a6 = a0 ∧ a6 = (-1))) ∨ ((a0 + 20) ≤ 1600 ∧ (a6 = (a0 + 20) ∧ a6 = a6)))) := by omega
theorem mp_o35 {a0 : Int} {a1 : Int} {a2 : Int} {a3 : Int} {a4 : Int} {a5 : Int} {a6 : Int} (h0 : 0 ≤ a0) (h1 : a0 ≤ 1600) (h2 : a1 = (a0 + 20)) (h3 : a1 ≤ 1600) (h4 : a2 = (a0 + 4)) (h5 : a3 = (a2 + 4)) (h6 : a4 = (a3 + 4)) (h7 : a5 = (a4 + 4)) (h8 : a6 = (a5 + 4)) : (a0 + 20) ≤ 1600 := by omega
theorem mp_o36 {a0 : Int} {a1 : Int} {a2 : Int} {a3 : Int} (h0 : a0 = (a1 + 20)) (h1 : a2 = (a1 + 4)) (h2 : a3 = (a2 + 4)) : a3 = (a1 + 8) := by omega
theorem mp_o37 {a0 : Int} {a1 : Int} {a2 : Int} {a3 : Int} {a4 : Int} (h0 : a0 = (a1 + 20)) (h1 : a2 = (a1 + 4)) (h2 : a3 = (a2 + 4)) (h3 : a4 = (a3 + 4)) : a4 = (a1 + 12) := by omega
theorem mp_o38 {a0 : Int} {a1 : Int} {a2 : Int} {a3 : Int} {a4 : Int} {a5 : Int} {a6 : Int} (h0 : 0 ≤ a0) (h1 : a0 ≤ 1600) (h2 : a1 = (a0 + 20)) (h3 : a1 ≤ 1600) (h4 : a2 = (a0 + 4)) (h5 : a3 = (a2 + 4)) (h6 : a4 = (a3 + 4)) (h7 : a5 = (a4 + 4)) (h8 : a6 = (a5 + 4)) : ((a5 = (a0 + 16) ∧ 0 ≤ a0)) := by omega
theorem mp_o39 {a0 : Int} {a1 : Int} (h0 : 0 ≤ a0) (h1 : a0 ≤ 1600) (h2 : a1 = (a0 + 20)) (h3 : 1600 < a1) : 4 ≤ a0 := by omega
theorem mp_o40 {a0 : Int} {a1 : Int} {a2 : Int} (h0 : 0 ≤ a0) (h1 : a0 ≤ 1600) (h2 : a1 = (a0 + 20)) (h3 : 1600 < a1) (h4 : a2 = (-1)) : (((1600 < (a0 + 20) ∧ (a0 = a0 ∧ a2 = (-1))) ∨ ((a0 + 20) ≤ 1600 ∧ (a0 = (a0 + 20) ∧ a2 = a0)))) := by omega
theorem mp_o41 {a0 : Int} {a1 : Int} (h0 : 0 ≤ a0) (h1 : a0 ≤ 1600) (h2 : a1 = (a0 + 20)) (h3 : 1600 < a1) : 1600 < (a0 + 20) := by omega
theorem mp_o42 {a0 : Int} {a1 : Int} {a2 : Int} (h0 : a0 < 0) (h1 : a1 = (-1)) : (((0 ≤ a0 ∧ (a0 ≤ a2 ∧ (a1 = a0 ∧ a2 = a0))) ∨ (((a0 < 0 ∨ a2 < a0)) ∧ (a1 = (-1) ∧ a2 = a2)))) := by omega
theorem mp_o43 {a0 : Int} {a1 : Int} (h0 : 0 ≤ a0) (h1 : a0 ≤ 1600) (h2 : a1 ≤ a0) : a1 ≤ 1600 := by omega
theorem mp_o44 {a0 : Int} (h0 : 0 ≤ a0) : (-1) ≤ a0 := by omega
theorem mp_o45 {a0 : Int} {a1 : Int} (h0 : 0 ≤ a0) (h1 : a0 ≤ a1) : (((0 ≤ a0 ∧ (a0 ≤ a1 ∧ (a0 = a0 ∧ a0 = a0))) ∨ (((a0 < 0 ∨ a1 < a0)) ∧ (a0 = (-1) ∧ a0 = a1)))) := by omega
theorem mp_o46 {a0 : Int} {a1 : Int} {a2 : Int} (h0 : a0 < a1) (h1 : a2 = (-1)) : (((0 ≤ a1 ∧ (a1 ≤ a0 ∧ (a2 = a1 ∧ a0 = a1))) ∨ (((a1 < 0 ∨ a0 < a1)) ∧ (a2 = (-1) ∧ a0 = a0)))) := by omega
theorem mp_o47 {a0 : Int} {a1 : Nat} (h0 : 0 ≤ a0) (h1 : a0 ≤ 36) (h2 : 36 ≤ a0) (h3 : ((a1 : Nat) : Int) < 36) : ((a1 : Nat) : Int) < a0 := by omega
theorem mp_o48 {a0 : Int} (h0 : 0 ≤ a0) (h1 : a0 ≤ 36) (h2 : a0 < 36) : ((0 ≤ a0 ∧ a0 < ((36 : Nat) : Int))) := by omega
theorem mp_o49 {a0 : Int} (h0 : 0 ≤ a0) (h1 : a0 ≤ 36) (h2 : a0 < 36) : (-2147483648) ≤ (a0 + 1) := by omega
theorem mp_o50 {a0 : Int} (h0 : 0 ≤ a0) (h1 : a0 ≤ 36) (h2 : a0 < 36) : (a0 + 1) ≤ 2147483647 := by omega
theorem mp_o51 {a0 : Int} {a1 : Nat} {a2 : Int} (h0 : 0 ≤ a0) (h1 : a0 ≤ 36) (h2 : ((-a0) + 36) ≤ ((a1 : Nat) : Int)) (h3 : a0 < 36) (h4 : a2 = (a0 + 1)) : (a1 - 1) < a1 := by omega
theorem mp_o52 {a0 : Int} {a1 : Int} (h0 : 0 ≤ a0) (h1 : a0 ≤ 36) (h2 : a0 < 36) (h3 : a1 = (a0 + 1)) : 0 ≤ a1 := by omega
theorem mp_o53 {a0 : Int} {a1 : Int} (h0 : 0 ≤ a0) (h1 : a0 ≤ 36) (h2 : a0 < 36) (h3 : a1 = (a0 + 1)) : a1 ≤ 36 := by omega
theorem mp_o54 {a0 : Int} {a1 : Int} (h0 : 0 ≤ a0) (h1 : a0 ≤ 36) (h2 : a0 < 36) (h3 : a1 = (a0 + 1)) : ((0 ≤ a0 ∧ a1 = (a0 + 1))) := by omega
theorem mp_o55 {a0 : Int} {a1 : Nat} {a2 : Int} (h0 : 0 ≤ a0) (h1 : a0 ≤ 36) (h2 : ((-a0) + 36) ≤ ((a1 : Nat) : Int)) (h3 : a0 < 36) (h4 : a2 = (a0 + 1)) : ((-a2) + 36) ≤ ((((a1 - 1)) : Nat) : Int) := by omega
theorem mp_o56 {a0 : Int} {a1 : Nat} (h0 : 0 ≤ a0) (h1 : a0 ≤ 12) (h2 : 12 ≤ a0) (h3 : ((a1 : Nat) : Int) < 12) : ((a1 : Nat) : Int) < a0 := by omega
theorem mp_o57 {a0 : Int} (h0 : 0 ≤ a0) (h1 : a0 ≤ 12) (h2 : a0 < 12) : ((0 ≤ a0 ∧ a0 < ((12 : Nat) : Int))) := by omega
theorem mp_o58 {a0 : Int} (h0 : 0 ≤ a0) (h1 : a0 ≤ 12) (h2 : a0 < 12) : (-2147483648) ≤ (a0 + 1) := by omega
theorem mp_o59 {a0 : Int} (h0 : 0 ≤ a0) (h1 : a0 ≤ 12) (h2 : a0 < 12) : (a0 + 1) ≤ 2147483647 := by omega
theorem mp_o60 {a0 : Int} {a1 : Nat} {a2 : Int} (h0 : 0 ≤ a0) (h1 : a0 ≤ 12) (h2 : ((-a0) + 12) ≤ ((a1 : Nat) : Int)) (h3 : a0 < 12) (h4 : a2 = (a0 + 1)) : (a1 - 1) < a1 := by omega
theorem mp_o61 {a0 : Int} {a1 : Int} (h0 : 0 ≤ a0) (h1 : a0 ≤ 12) (h2 : a0 < 12) (h3 : a1 = (a0 + 1)) : 0 ≤ a1 := by omega
theorem mp_o62 {a0 : Int} {a1 : Int} (h0 : 0 ≤ a0) (h1 : a0 ≤ 12) (h2 : a0 < 12) (h3 : a1 = (a0 + 1)) : a1 ≤ 12 := by omega
theorem mp_o63 {a0 : Int} {a1 : Int} (h0 : 0 ≤ a0) (h1 : a0 ≤ 12) (h2 : a0 < 12) (h3 : a1 = (a0 + 1)) : ((0 ≤ a0 ∧ a1 = (a0 + 1))) := by omega
theorem mp_o64 {a0 : Int} {a1 : Nat} {a2 : Int} (h0 : 0 ≤ a0) (h1 : a0 ≤ 12) (h2 : ((-a0) + 12) ≤ ((a1 : Nat) : Int)) (h3 : a0 < 12) (h4 : a2 = (a0 + 1)) : ((-a2) + 12) ≤ ((((a1 - 1)) : Nat) : Int) := by omega
theorem mp_o65 {a0 : Int} (h0 : 0 ≤ a0) (h1 : a0 ≤ 1599) : ((0 ≤ a0 ∧ a0 < ((1600 : Nat) : Int))) := by omega
theorem mp_o66 {a0 : Int} {a1 : Int} (h0 : a0 = a1) (h1 : a0 < 97) : ((a1 < 97 ∨ 122 < a1)) := by omega
theorem mp_o67 {a0 : Int} {a1 : Int} (h0 : a0 = a1) (h1 : 122 < a0) : ((a1 < 97 ∨ 122 < a1)) := by omega
theorem mp_o68 {a0 : Int} {a1 : Int} (h0 : a0 = a1) (h1 : 97 ≤ a0) (h2 : a0 ≤ 122) : ((97 ≤ a1 ∧ a1 ≤ 122)) := by omega
theorem mp_o69 {a0 : Int} {a1 : Int} (h0 : a0 = a1) (h1 : a0 < 48) : ((a1 < 48 ∨ 57 < a1)) := by omega
theorem mp_o70 {a0 : Int} {a1 : Int} (h0 : a0 = a1) (h1 : 57 < a0) : ((a1 < 48 ∨ 57 < a1)) := by omega
theorem mp_o71 {a0 : Int} {a1 : Int} (h0 : a0 = a1) (h1 : 48 ≤ a0) (h2 : a0 ≤ 57) : ((48 ≤ a1 ∧ a1 ≤ 57)) := by omega
theorem mp_o72 {a0 : Int} {a1 : Nat} {a2 : Nat} (h0 : 0 ≤ a0) (h1 : a0 ≤ 1600) (h2 : a1 = (Int.toNat a0)) (h3 : a2 = (Int.toNat a0)) : a0 = ((a1 : Nat) : Int) := by omega
theorem mp_o73 {a0 : Int} {a1 : Nat} {a2 : Nat} {a3 : Int} {a4 : Nat} (h0 : 0 ≤ a0) (h1 : a0 ≤ 1600) (h2 : a1 = (Int.toNat a0)) (h3 : a2 = (Int.toNat a0)) (h4 : (a3 = 0 ∧ a4 = (Int.toNat a0))) : a0 = ((a4 : Nat) : Int) := by omega
theorem mp_o74 {a0 : Int} {a1 : Int} (h0 : 0 ≤ a0) (h1 : a0 ≤ 1600) (h2 : 0 ≤ a1) (h3 : a1 ≤ 1600) (h4 : a1 < a0) : ((0 ≤ a1 ∧ a1 < ((1600 : Nat) : Int))) := by omega
theorem mp_o75 {a0 : Int} (h0 : 0 ≤ a0) (h1 : a0 ≤ 1600) : (-2147483648) ≤ (a0 + 1) := by omega
theorem mp_o76 {a0 : Int} (h0 : 0 ≤ a0) (h1 : a0 ≤ 1600) : (a0 + 1) ≤ 2147483647 := by omega
theorem mp_o77 {a0 : Int} {a1 : Int} {a2 : Nat} {a3 : Int} (h0 : (a0 - a1) ≤ ((a2 : Nat) : Int)) (h1 : a1 < a0) (h2 : a3 = (a1 + 1)) : (a2 - 1) < a2 := by omega
theorem mp_o78 {a0 : Int} {a1 : Int} (h0 : 0 ≤ a0) (h1 : a0 ≤ 1600) (h2 : a1 = (a0 + 1)) : 0 ≤ a1 := by omega
theorem mp_o79 {a0 : Int} {a1 : Int} {a2 : Int} (h0 : 0 ≤ a0) (h1 : a0 ≤ 1600) (h2 : 0 ≤ a1) (h3 : a1 ≤ 1600) (h4 : a1 < a0) (h5 : a2 = (a1 + 1)) : a2 ≤ 1600 := by omega
theorem mp_o80 {a0 : Int} {a1 : Int} (h0 : a0 = a1) (h1 : a0 = 32) : ((a1 = 32 ∨ a1 = 10)) := by omega
theorem mp_o81 {a0 : Int} {a1 : Int} (h0 : 0 ≤ a0) (h1 : a0 ≤ 1600) (h2 : a1 = (a0 + 1)) : ((0 ≤ a0 ∧ a1 = (a0 + 1))) := by omega
theorem mp_o82 {a0 : Int} {a1 : Int} {a2 : Int} (h0 : a0 ≤ a1) (h1 : a2 = (a1 + 1)) : a0 ≤ a2 := by omega
theorem mp_o83 {a0 : Int} {a1 : Int} {a2 : Int} {a3 : Int} (h0 : a0 < a1) (h1 : a2 = (a0 + 1)) : ((a2 ≤ a1 ∨ a2 = a3)) := by omega
theorem mp_o84 {a0 : Int} {a1 : Int} {a2 : Nat} {a3 : Int} (h0 : (a0 - a1) ≤ ((a2 : Nat) : Int)) (h1 : a1 < a0) (h2 : a3 = (a1 + 1)) : (a0 - a3) ≤ ((((a2 - 1)) : Nat) : Int) := by omega
theorem mp_o85 {a0 : Int} {a1 : Int} {a2 : Int} (h0 : a0 = a1) (h1 : a0 ≠ 32) (h2 : a0 ≠ a2) (h3 : a0 ≠ 10) : ((a1 ≠ 32 ∧ a1 ≠ 10)) := by omega
theorem mp_o86 {a0 : Int} {a1 : Int} (h0 : 0 ≤ a0) (h1 : a0 ≤ 1600) (h2 : 0 ≤ a1) (h3 : a1 ≤ 1600) (h4 : a1 < a0) : a1 ≤ 1599 := by omega
theorem mp_o87 {a0 : Int} {a1 : Int} {a2 : Int} {a3 : Nat} {a4 : Nat} {a5 : Int} {a6 : Int} (h0 : 0 ≤ a0) (h1 : a0 ≤ 1600) (h2 : a1 = a2) (h3 : a3 = (Int.toNat a0)) (h4 : a4 = (Int.toNat a0)) (h5 : (a2 < 97 ∨ 122 < a2)) (h6 : (a2 < 48 ∨ 57 < a2)) (h7 : a1 ≠ a5) (h8 : a1 ≠ 59) (h9 : a6 = (a0 + 1)) : a0 = ((a3 : Nat) : Int) := by omega
theorem mp_o88 {a0 : Int} {a1 : Int} {a2 : Int} (h0 : 0 ≤ a0) (h1 : a0 ≤ 1600) (h2 : a0 < a1) (h3 : a2 = (a0 + 1)) : ((0 ≤ a0 ∧ a0 < a1)) := by omega
theorem mp_o89 {a0 : Int} {a1 : Int} (h0 : a0 = a1) (h1 : a0 ≠ 59) : (((a1 = 59 ∧ 4 = 3) ∨ (a1 ≠ 59 ∧ 4 = 4))) := by omega
theorem mp_o90 {a0 : Int} {a1 : Int} {a2 : Int} {a3 : Nat} (h0 : 0 ≤ a0) (h1 : a0 ≤ 1600) (h2 : a1 = (a0 + 1)) (h3 : (a2 = 4 ∧ a3 = (Int.toNat ((a0 + 1))))) : a1 = ((a3 : Nat) : Int) := by omega
theorem mp_o91 {a0 : Int} {a1 : Int} {a2 : Int} {a3 : Nat} {a4 : Nat} {a5 : Int} (h0 : 0 ≤ a0) (h1 : a0 ≤ 1600) (h2 : a1 = a2) (h3 : a3 = (Int.toNat a0)) (h4 : a4 = (Int.toNat a0)) (h5 : (a2 < 97 ∨ 122 < a2)) (h6 : (a2 < 48 ∨ 57 < a2)) (h7 : a1 = 59) (h8 : a5 = (a0 + 1)) : a0 = ((a3 : Nat) : Int) := by omega
theorem mp_o92 {a0 : Int} {a1 : Int} (h0 : a0 = a1) (h1 : a0 = 59) : (((a1 = 59 ∧ 3 = 3) ∨ (a1 ≠ 59 ∧ 3 = 4))) := by omega
theorem mp_o93 {a0 : Int} {a1 : Int} {a2 : Int} {a3 : Nat} (h0 : 0 ≤ a0) (h1 : a0 ≤ 1600) (h2 : a1 = (a0 + 1)) (h3 : (a2 = 3 ∧ a3 = (Int.toNat ((a0 + 1))))) : a1 = ((a3 : Nat) : Int) := by omega
theorem mp_o94 {a0 : Int} {a1 : Int} (h0 : a0 ≤ 100000000) (h1 : a0 = a1) (h2 : (0 ≤ a0 ∧ a0 ≤ 100000000)) : 0 ≤ a0 := by omega
theorem mp_o95 {a0 : Int} {a1 : Nat} {a2 : Nat} {a3 : Int} {a4 : Int} (h0 : 0 ≤ a0) (h1 : a0 ≤ 1600) (h2 : a1 = (Int.toNat a0)) (h3 : a2 = (Int.toNat a0)) (h4 : (a3 < 97 ∨ 122 < a3)) (h5 : (48 ≤ a3 ∧ a3 ≤ 57)) (h6 : a4 ≠ 0) : a0 = ((a1 : Nat) : Int) := by omega
theorem mp_o96 {a0 : Int} {a1 : Int} {a2 : Int} (h0 : 0 ≤ a0) (h1 : a0 ≤ 1600) (h2 : a0 < a1) (h3 : a2 ≤ a1) (h4 : a1 ≤ a2) : ((0 ≤ a0 ∧ a0 < a1)) := by omega
theorem mp_o97 {a0 : Int} {a1 : Int} {a2 : Int} (h0 : a0 ≤ a1) (h1 : a1 ≤ a0) : ((a0 ≤ a1 ∨ a0 = a2)) := by omega
theorem mp_o98 {a0 : Int} {a1 : Int} {a2 : Nat} (h0 : 0 ≤ a0) (h1 : a0 ≤ 1600) (h2 : (a1 = 2 ∧ a2 = (Int.toNat a0))) : a0 = ((a2 : Nat) : Int) := by omega
theorem mp_o99 {a0 : Int} {a1 : Int} {a2 : Int} (h0 : 0 ≤ a0) (h1 : a0 ≤ 1600) (h2 : a0 < a1) (h3 : a2 ≤ a1) (h4 : a1 ≤ a2) : ((0 ≤ a0 ∧ a0 ≤ a2)) := by omega
theorem mp_o100 {a0 : Int} {a1 : Nat} {a2 : Nat} {a3 : Int} {a4 : Int} {a5 : Int} (h0 : 0 ≤ a0) (h1 : a0 ≤ 1600) (h2 : a1 = (Int.toNat a0)) (h3 : a2 = (Int.toNat a0)) (h4 : (a3 < 97 ∨ 122 < a3)) (h5 : (48 ≤ a3 ∧ a3 ≤ 57)) (h6 : a4 ≠ 0) (h7 : (a5 < 48 ∨ 57 < a5)) : a0 = ((a1 : Nat) : Int) := by omega
theorem mp_o101 {a0 : Int} {a1 : Int} (h0 : 0 ≤ a0) (h1 : a0 ≤ 1600) (h2 : a0 < a1) : ((0 ≤ a0 ∧ a0 < a1)) := by omega
theorem mp_o102 {a0 : Int} {a1 : Int} {a2 : Int} (h0 : a0 < a1) : ((a0 ≤ a1 ∨ a0 = a2)) := by omega
theorem mp_o103 {a0 : Int} {a1 : Int} (h0 : 0 ≤ a0) (h1 : a0 ≤ 1600) (h2 : a0 ≤ a1) : ((0 ≤ a0 ∧ a0 ≤ a1)) := by omega
theorem mp_o104 {a0 : Int} {a1 : Int} (h0 : a0 ≤ 100000000) (h1 : a0 = a1) (h2 : (0 ≤ a0 ∧ a0 ≤ 100000000)) : (-2147483648) ≤ (10 * a0) := by omega
theorem mp_o105 {a0 : Int} {a1 : Int} (h0 : a0 ≤ 100000000) (h1 : a0 = a1) (h2 : (0 ≤ a0 ∧ a0 ≤ 100000000)) : (10 * a0) ≤ 2147483647 := by omega
theorem mp_o106 {a0 : Int} {a1 : Int} {a2 : Int} {a3 : Int} {a4 : Int} (h0 : a0 ≤ 100000000) (h1 : a0 = a1) (h2 : (0 ≤ a0 ∧ a0 ≤ 100000000)) (h3 : (48 ≤ a2 ∧ a2 ≤ 57)) (h4 : a3 = (10 * a0)) (h5 : a4 = a2) : (-2147483648) ≤ (a3 + a4) := by omega
theorem mp_o107 {a0 : Int} {a1 : Int} {a2 : Int} {a3 : Int} {a4 : Int} (h0 : a0 ≤ 100000000) (h1 : a0 = a1) (h2 : (0 ≤ a0 ∧ a0 ≤ 100000000)) (h3 : (48 ≤ a2 ∧ a2 ≤ 57)) (h4 : a3 = (10 * a0)) (h5 : a4 = a2) : (a3 + a4) ≤ 2147483647 := by omega
theorem mp_o108 {a0 : Int} {a1 : Int} {a2 : Int} {a3 : Int} {a4 : Int} {a5 : Int} (h0 : a0 ≤ 100000000) (h1 : a0 = a1) (h2 : (0 ≤ a0 ∧ a0 ≤ 100000000)) (h3 : (48 ≤ a2 ∧ a2 ≤ 57)) (h4 : a3 = (10 * a0)) (h5 : a4 = a2) (h6 : a5 = (a3 + a4)) : (-2147483648) ≤ (a5 - 48) := by omega
theorem mp_o109 {a0 : Int} {a1 : Int} {a2 : Int} {a3 : Int} {a4 : Int} {a5 : Int} (h0 : a0 ≤ 100000000) (h1 : a0 = a1) (h2 : (0 ≤ a0 ∧ a0 ≤ 100000000)) (h3 : (48 ≤ a2 ∧ a2 ≤ 57)) (h4 : a3 = (10 * a0)) (h5 : a4 = a2) (h6 : a5 = (a3 + a4)) : (a5 - 48) ≤ 2147483647 := by omega
theorem mp_o110 {a0 : Int} {a1 : Int} {a2 : Int} (h0 : a0 < a1) (h1 : a2 = (a0 + 1)) : a2 ≤ a1 := by omega
theorem mp_o111 {a0 : Int} {a1 : Int} {a2 : Int} (h0 : 0 ≤ a0) (h1 : a0 ≤ 1600) (h2 : a0 ≤ a1) (h3 : a2 = (a1 + 1)) : ((0 ≤ a0 ∧ (a0 ≤ a1 ∧ a2 = (a1 + 1)))) := by omega
theorem mp_o112 {a0 : Int} {a1 : Int} {a2 : Int} {a3 : Int} {a4 : Int} {a5 : Int} {a6 : Int} (h0 : a0 = a1) (h1 : (48 ≤ a2 ∧ a2 ≤ 57)) (h2 : a3 = (10 * a0)) (h3 : a4 = a2) (h4 : a5 = (a3 + a4)) (h5 : a6 = (a5 - 48)) : 0 ≤ (a2 - 48) := by omega
theorem mp_o113 {a0 : Int} {a1 : Int} {a2 : Int} (h0 : 0 ≤ a0) (h1 : a0 ≤ 1600) (h2 : a0 ≤ a1) (h3 : a2 = (a1 + 1)) : ((0 ≤ a0 ∧ a0 ≤ a1)) := by omega
theorem mp_o114 {a0 : Int} {a1 : Int} {a2 : Int} {a3 : Int} {a4 : Int} {a5 : Int} {a6 : Int} {a7 : Int} (h0 : a0 = a1) (h1 : a2 = (10 * a0)) (h2 : a3 = a4) (h3 : a5 = (a2 + a3)) (h4 : a6 = (a5 - 48)) (h5 : a7 ≤ a6) (h6 : a7 ≤ 100000000) (h7 : (a7 = 100000000 ∨ a7 = a6)) : (((a7 = 100000000 ∧ 100000000 ≤ ((10 * a0) + ((a4 - 48)))) ∨ (a7 = ((10 * a0) + ((a4 - 48))) ∧ ((10 * a0) + ((a4 - 48))) ≤ 100000000))) := by omega
theorem mp_o115 {a0 : Int} {a1 : Int} {a2 : Int} {a3 : Int} {a4 : Int} {a5 : Int} {a6 : Int} {a7 : Int} (h0 : a0 ≤ 100000000) (h1 : a0 = a1) (h2 : (0 ≤ a0 ∧ a0 ≤ 100000000)) (h3 : (48 ≤ a2 ∧ a2 ≤ 57)) (h4 : a3 = (10 * a0)) (h5 : a4 = a2) (h6 : a5 = (a3 + a4)) (h7 : a6 = (a5 - 48)) (h8 : a7 ≤ 100000000) (h9 : (a7 = 100000000 ∨ a7 = a6)) : ((0 ≤ a7 ∧ a7 ≤ 100000000)) := by omega
theorem mp_o116 {a0 : Int} : a0 ≤ a0 := by omega
theorem mp_o117 {a0 : Int} {a1 : Int} (h0 : a0 < a1) : a0 ≤ a1 := by omega
theorem mp_o118 {a0 : Int} : (Int.toNat ((a0 - a0))) = 0 := by omega
theorem mp_o119 {a0 : Int} {a1 : Nat} {a2 : Nat} {a3 : Int} (h0 : 0 ≤ a0) (h1 : a0 ≤ 1600) (h2 : a1 = (Int.toNat a0)) (h3 : a2 = (Int.toNat a0)) (h4 : a3 ≠ 0) : a0 = ((a1 : Nat) : Int) := by omega
theorem mp_o120 {a0 : Int} {a1 : Int} {a2 : Nat} (h0 : 0 ≤ a0) (h1 : a0 ≤ 1600) (h2 : (a1 = 1 ∧ a2 = (Int.toNat a0))) : a0 = ((a2 : Nat) : Int) := by omega
theorem mp_o121 {a0 : Int} {a1 : Nat} {a2 : Nat} {a3 : Int} {a4 : Int} (h0 : 0 ≤ a0) (h1 : a0 ≤ 1600) (h2 : a1 = (Int.toNat a0)) (h3 : a2 = (Int.toNat a0)) (h4 : a3 ≠ 0) (h5 : (a4 < 97 ∨ 122 < a4)) : a0 = ((a1 : Nat) : Int) := by omega
theorem mp_o122 {a0 : Int} {a1 : Int} (h0 : a0 = a1) (h1 : a0 = 10) : ((a1 = 32 ∨ a1 = 10)) := by omega
theorem mp_o123 {a0 : Int} {a1 : Int} : ((a0 ≤ a1 ∨ a0 = a0)) := by omega
theorem mp_o124 {a0 : Int} {a1 : Int} (h0 : 0 ≤ a0) (h1 : a0 ≤ 7) (h2 : a1 = a0) : 0 ≤ a1 := by omega
theorem mp_o125 {a0 : Int} {a1 : Int} (h0 : 0 ≤ a0) (h1 : a0 ≤ 7) (h2 : a1 = a0) : a1 ≤ 7 := by omega
theorem mp_o126 {a0 : Int} (h0 : 0 ≤ a0) (h1 : a0 ≤ 6) (h2 : a0 < 0) : False := by omega
theorem mp_o127 {a0 : Int} {a1 : Int} (h0 : a0 < a1) (h1 : a1 ≤ a0) : False := by omega
theorem mp_o128 {a0 : Int} {a1 : Int} (h0 : 0 ≤ a0) (h1 : a0 ≤ 1600) (h2 : 0 ≤ a1) (h3 : a1 ≤ 1600) : (-2147483648) ≤ (a1 - a0) := by omega
theorem mp_o129 {a0 : Int} {a1 : Int} (h0 : 0 ≤ a0) (h1 : a0 ≤ 1600) (h2 : 0 ≤ a1) (h3 : a1 ≤ 1600) : (a1 - a0) ≤ 2147483647 := by omega
theorem mp_o130 {a0 : Int} {a1 : Int} {a2 : Int} {a3 : Int} {a4 : Nat} (h0 : a0 = (a1 - a2)) (h1 : a3 = ((a4 : Nat) : Int)) (h2 : a0 = a3) : (a1 - a2) = ((a4 : Nat) : Int) := by omega
theorem mp_o131 {a0 : Int} {a1 : Nat} {a2 : Int} (h0 : a0 = ((a1 : Nat) : Int)) (h1 : a0 ≤ a2) : ((a1 : Nat) : Int) ≤ a2 := by omega
theorem mp_o132 {a0 : Int} {a1 : Int} {a2 : Int} {a3 : Int} {a4 : Nat} {a5 : Int} {a6 : Int} (h0 : 0 ≤ a0) (h1 : a0 ≤ 1600) (h2 : a1 = (a2 - a0)) (h3 : a3 = ((a4 : Nat) : Int)) (h4 : a1 = a3) (h5 : 0 ≤ a5) (h6 : a5 ≤ 9) (h7 : a6 = ((a4 : Nat) : Int)) : (-2147483648) ≤ (a0 + a5) := by omega
theorem mp_o133 {a0 : Int} {a1 : Int} {a2 : Int} {a3 : Int} {a4 : Nat} {a5 : Int} {a6 : Int} (h0 : 0 ≤ a0) (h1 : a0 ≤ 1600) (h2 : a1 = (a2 - a0)) (h3 : a3 = ((a4 : Nat) : Int)) (h4 : a1 = a3) (h5 : 0 ≤ a5) (h6 : a5 ≤ 9) (h7 : a6 = ((a4 : Nat) : Int)) : (a0 + a5) ≤ 2147483647 := by omega
theorem mp_o134 {a0 : Int} {a1 : Int} {a2 : Int} {a3 : Int} {a4 : Nat} {a5 : Int} {a6 : Int} {a7 : Int} (h0 : 0 ≤ a0) (h1 : a0 ≤ 1600) (h2 : 0 ≤ a1) (h3 : a1 ≤ 1600) (h4 : a2 = (a1 - a0)) (h5 : a3 = ((a4 : Nat) : Int)) (h6 : a2 = a3) (h7 : 0 ≤ a5) (h8 : a5 ≤ 9) (h9 : a6 = ((a4 : Nat) : Int)) (h10 : a5 < a6) (h11 : a7 = (a0 + a5)) : ((0 ≤ a7 ∧ a7 < ((1600 : Nat) : Int))) := by omega
theorem mp_o135 {a0 : Int} {a1 : Int} {a2 : Int} {a3 : Int} {a4 : Nat} {a5 : Int} {a6 : Int} {a7 : Int} (h0 : 0 ≤ a0) (h1 : a0 ≤ 1600) (h2 : a1 = (a2 - a0)) (h3 : a3 = ((a4 : Nat) : Int)) (h4 : a1 = a3) (h5 : 0 ≤ a5) (h6 : a5 ≤ 9) (h7 : a6 = ((a4 : Nat) : Int)) (h8 : a7 = (a0 + a5)) : ((0 ≤ a0 ∧ 0 ≤ a5)) := by omega
theorem mp_o136 {a0 : Int} {a1 : Nat} {a2 : Int} {a3 : Int} (h0 : 0 ≤ a0) (h1 : a0 ≤ 7) (h2 : a0 = ((a1 : Nat) : Int)) (h3 : 0 ≤ a2) (h4 : a2 ≤ 9) (h5 : a3 = ((a1 : Nat) : Int)) (h6 : a2 < a3) : a2 ≤ 6 := by omega
theorem mp_o137 {a0 : Int} (h0 : 0 ≤ a0) (h1 : a0 ≤ 9) : (-2147483648) ≤ (a0 + 1) := by omega
theorem mp_o138 {a0 : Int} (h0 : 0 ≤ a0) (h1 : a0 ≤ 9) : (a0 + 1) ≤ 2147483647 := by omega
theorem mp_o139 {a0 : Nat} {a1 : Int} {a2 : Nat} {a3 : Int} {a4 : Int} (h0 : (((a0 : Nat) : Int) - a1) ≤ ((a2 : Nat) : Int)) (h1 : a3 = ((a0 : Nat) : Int)) (h2 : a1 < a3) (h3 : a4 = (a1 + 1)) : (a2 - 1) < a2 := by omega
theorem mp_o140 {a0 : Int} {a1 : Int} (h0 : 0 ≤ a0) (h1 : a0 ≤ 9) (h2 : a1 = (a0 + 1)) : 0 ≤ a1 := by omega
theorem mp_o141 {a0 : Int} {a1 : Int} {a2 : Int} {a3 : Int} {a4 : Nat} {a5 : Int} {a6 : Int} {a7 : Int} {a8 : Int} (h0 : 0 ≤ a0) (h1 : a0 ≤ 1600) (h2 : 0 ≤ a1) (h3 : a1 ≤ 1600) (h4 : a2 = (a1 - a0)) (h5 : 0 ≤ a3) (h6 : a3 ≤ 7) (h7 : a3 = ((a4 : Nat) : Int)) (h8 : a2 = a3) (h9 : 0 ≤ a5) (h10 : a5 ≤ 9) (h11 : a6 = ((a4 : Nat) : Int)) (h12 : a5 < a6) (h13 : a7 = (a0 + a5)) (h14 : a8 = (a5 + 1)) : a8 ≤ 9 := by omega
theorem mp_o142 {a0 : Int} {a1 : Int} (h0 : 0 ≤ a0) (h1 : a0 ≤ 9) (h2 : a1 = (a0 + 1)) : ((0 ≤ a0 ∧ a1 = (a0 + 1))) := by omega
theorem mp_o143 {a0 : Nat} {a1 : Int} {a2 : Nat} {a3 : Int} {a4 : Int} (h0 : (((a0 : Nat) : Int) - a1) ≤ ((a2 : Nat) : Int)) (h1 : a3 = ((a0 : Nat) : Int)) (h2 : a1 < a3) (h3 : a4 = (a1 + 1)) : (((a0 : Nat) : Int) - a4) ≤ ((((a2 - 1)) : Nat) : Int) := by omega
theorem mp_o144 {a0 : Int} {a1 : Nat} {a2 : Int} {a3 : Int} (h0 : 0 ≤ a0) (h1 : a0 ≤ 7) (h2 : a0 = ((a1 : Nat) : Int)) (h3 : 0 ≤ a2) (h4 : a2 ≤ 9) (h5 : a3 = ((a1 : Nat) : Int)) (h6 : a2 < a3) : (((Int.toNat a2) : Nat) : Int) < ((a1 : Nat) : Int) := by omega
theorem mp_o145 {a0 : Int} {a1 : Int} {a2 : Int} (h0 : a0 = a1) (h1 : a0 ≠ a2) : (a1 = a2) → False := by omega
theorem mp_o146 {a0 : Int} {a1 : Int} {a2 : Int} {a3 : Int} {a4 : Nat} (h0 : a0 = (a1 - a2)) (h1 : a3 = ((a4 : Nat) : Int)) (h2 : a0 ≠ a3) : ((a1 - a2) = ((a4 : Nat) : Int)) → False := by omega
theorem mp_o147 {a0 : Int} : ((1 = 1 ∧ a0 = a0)) := by omega
theorem mp_o148 {a0 : Int} {a1 : Nat} {a2 : Int} {a3 : Int} (h0 : a0 = ((a1 : Nat) : Int)) (h1 : a2 ≤ a0) (h2 : a3 ≤ a2) : a3 ≤ a0 := by omega
theorem mp_o149 {a0 : Int} {a1 : Int} {a2 : Int} {a3 : Int} {a4 : Int} {a5 : Int} (h0 : a0 = 2) (h1 : a0 = a1) (h2 : a2 = 2) (h3 : a0 ≠ 2) : (((a1 ≠ 2 ∧ a2 = 1) ∨ (a1 = 2 ∧ (((a3 < 0 ∨ (a4 < a3 ∨ a3 = a5))) ∧ a2 = 2)))) := by omega
theorem mp_o150 {a0 : Int} {a1 : Int} {a2 : Int} {a3 : Int} {a4 : Int} {a5 : Int} {a6 : Int} {a7 : Int} (h0 : a0 = 2) (h1 : a1 < 0) (h2 : a0 = a2) (h3 : a3 = 2) (h4 : a1 = a4) (h5 : ((a1 = a5 ∧ a5 ≤ 100000000) ∨ (a1 = 100000000 ∧ 100000000 < a5))) : (((a2 ≠ 2 ∧ a3 = 1) ∨ (a2 = 2 ∧ (((a5 < 0 ∨ (a6 < a5 ∨ a5 = a7))) ∧ a3 = 2)))) := by omega
theorem mp_o151 {a0 : Int} {a1 : Int} {a2 : Int} {a3 : Int} {a4 : Int} {a5 : Int} {a6 : Int} {a7 : Int} (h0 : a0 ≤ 1000000) (h1 : a1 = 2) (h2 : a2 < a3) (h3 : a1 = a4) (h4 : a5 = 2) (h5 : a3 = a6) (h6 : ((a3 = a7 ∧ a7 ≤ 100000000) ∨ (a3 = 100000000 ∧ 100000000 < a7))) : (((a4 ≠ 2 ∧ a5 = 1) ∨ (a4 = 2 ∧ (((a7 < 0 ∨ (a2 < a7 ∨ a7 = a0))) ∧ a5 = 2)))) := by omega
theorem mp_o152 {a0 : Int} {a1 : Int} {a2 : Int} {a3 : Int} {a4 : Int} (h0 : a0 = 2) (h1 : a0 = a1) (h2 : a0 ≠ 2) : ((a1 = 2 ∧ (0 ≤ a2 ∧ (a2 ≤ a3 ∧ a2 ≠ a4)))) := by omega
theorem mp_o153 {a0 : Int} {a1 : Int} {a2 : Int} {a3 : Int} {a4 : Int} {a5 : Int} {a6 : Int} (h0 : (-1) ≤ a0) (h1 : a0 ≤ 5) (h2 : a1 ≤ 1000000) (h3 : a2 = 2) (h4 : 0 ≤ a3) (h5 : a3 ≤ a0) (h6 : a3 ≠ a1) (h7 : a2 = a4) (h8 : a3 = a5) (h9 : ((a3 = a6 ∧ a6 ≤ 100000000) ∨ (a3 = 100000000 ∧ 100000000 < a6))) : ((a4 = 2 ∧ (0 ≤ a6 ∧ (a6 ≤ a0 ∧ a6 ≠ a1)))) := by omega
theorem mp_o154 {a0 : Int} {a1 : Int} {a2 : Int} (h0 : a0 = 2) (h1 : a0 ≠ 2) : a1 = a2 := by omega
theorem mp_o155 {a0 : Int} {a1 : Int} {a2 : Int} {a3 : Int} (h0 : (-1) ≤ a0) (h1 : a0 ≤ 5) (h2 : a1 ≤ a0) (h3 : a1 = a2) (h4 : ((a1 = a3 ∧ a3 ≤ 100000000) ∨ (a1 = 100000000 ∧ 100000000 < a3))) : a1 = a3 := by omega
theorem mp_o156 {a0 : Int} {a1 : Int} {a2 : Int} {a3 : Int} {a4 : Int} {a5 : Int} {a6 : Int} {a7 : Int} (h0 : a0 ≤ 1000000) (h1 : a1 = 2) (h2 : 0 ≤ a2) (h3 : a2 = a0) (h4 : a1 = a3) (h5 : a4 = 2) (h6 : a2 = a5) (h7 : ((a2 = a6 ∧ a6 ≤ 100000000) ∨ (a2 = 100000000 ∧ 100000000 < a6))) : (((a3 ≠ 2 ∧ a4 = 1) ∨ (a3 = 2 ∧ (((a6 < 0 ∨ (a7 < a6 ∨ a6 = a0))) ∧ a4 = 2)))) := by omega
theorem mp_o157 {a0 : Int} {a1 : Int} {a2 : Int} {a3 : Int} {a4 : Int} {a5 : Int} (h0 : a0 = a1) (h1 : a2 = 1) (h2 : a0 ≠ 2) : (((a1 ≠ 2 ∧ a2 = 1) ∨ (a1 = 2 ∧ (((a3 < 0 ∨ (a4 < a3 ∨ a3 = a5))) ∧ a2 = 2)))) := by omega
theorem mp_o158 {a0 : Int} {a1 : Int} {a2 : Int} {a3 : Int} {a4 : Int} {a5 : Int} {a6 : Int} (h0 : (-1) ≤ a0) (h1 : a0 ≤ 5) (h2 : a1 ≤ 1000000) (h3 : a2 ≠ 2) (h4 : a2 = a3) (h5 : a4 = 1) (h6 : ((a5 = a6 ∧ a6 ≤ 100000000) ∨ (a5 = 100000000 ∧ 100000000 < a6))) : (((a3 ≠ 2 ∧ a4 = 1) ∨ (a3 = 2 ∧ (((a6 < 0 ∨ (a0 < a6 ∨ a6 = a1))) ∧ a4 = 2)))) := by omega
theorem mp_o159 {a0 : Int} {a1 : Int} {a2 : Int} {a3 : Int} {a4 : Int} (h0 : a0 = 2) (h1 : a0 = a1) (h2 : a2 = 2) (h3 : a0 ≠ 2) : (((a1 ≠ 2 ∧ a2 = 1) ∨ (a1 = 2 ∧ (((a3 < 0 ∨ (99 < a3 ∨ a3 = a4))) ∧ a2 = 2)))) := by omega
theorem mp_o160 {a0 : Int} {a1 : Int} {a2 : Int} {a3 : Int} {a4 : Int} {a5 : Int} {a6 : Int} (h0 : a0 = 2) (h1 : a1 < 0) (h2 : a0 = a2) (h3 : a3 = 2) (h4 : a1 = a4) (h5 : ((a1 = a5 ∧ a5 ≤ 100000000) ∨ (a1 = 100000000 ∧ 100000000 < a5))) : (((a2 ≠ 2 ∧ a3 = 1) ∨ (a2 = 2 ∧ (((a5 < 0 ∨ (99 < a5 ∨ a5 = a6))) ∧ a3 = 2)))) := by omega
theorem mp_o161 {a0 : Int} {a1 : Int} {a2 : Int} {a3 : Int} {a4 : Int} {a5 : Int} {a6 : Int} (h0 : a0 = 2) (h1 : 99 < a1) (h2 : a0 = a2) (h3 : a3 = 2) (h4 : a1 = a4) (h5 : ((a1 = a5 ∧ a5 ≤ 100000000) ∨ (a1 = 100000000 ∧ 100000000 < a5))) : (((a2 ≠ 2 ∧ a3 = 1) ∨ (a2 = 2 ∧ (((a5 < 0 ∨ (99 < a5 ∨ a5 = a6))) ∧ a3 = 2)))) := by omega
theorem mp_o162 {a0 : Int} {a1 : Int} {a2 : Int} {a3 : Int} (h0 : a0 = 2) (h1 : a0 = a1) (h2 : a0 ≠ 2) : ((a1 = 2 ∧ (0 ≤ a2 ∧ (a2 ≤ 99 ∧ a2 ≠ a3)))) := by omega
theorem mp_o163 {a0 : Int} {a1 : Int} {a2 : Int} {a3 : Int} {a4 : Int} {a5 : Int} (h0 : a0 = 2) (h1 : 0 ≤ a1) (h2 : a1 ≤ 99) (h3 : a1 ≠ a2) (h4 : a0 = a3) (h5 : a1 = a4) (h6 : ((a1 = a5 ∧ a5 ≤ 100000000) ∨ (a1 = 100000000 ∧ 100000000 < a5))) : ((a3 = 2 ∧ (0 ≤ a5 ∧ (a5 ≤ 99 ∧ a5 ≠ a2)))) := by omega
theorem mp_o164 {a0 : Int} {a1 : Int} {a2 : Int} (h0 : 0 ≤ a0) (h1 : a0 ≤ 99) (h2 : a0 = a1) (h3 : ((a0 = a2 ∧ a2 ≤ 100000000) ∨ (a0 = 100000000 ∧ 100000000 < a2))) : a0 = a2 := by omega
theorem mp_o165 {a0 : Int} {a1 : Int} {a2 : Int} {a3 : Int} {a4 : Int} {a5 : Int} {a6 : Int} (h0 : a0 = 2) (h1 : 0 ≤ a1) (h2 : a1 ≤ 99) (h3 : a1 = a2) (h4 : a0 = a3) (h5 : a4 = 2) (h6 : a1 = a5) (h7 : ((a1 = a6 ∧ a6 ≤ 100000000) ∨ (a1 = 100000000 ∧ 100000000 < a6))) : (((a3 ≠ 2 ∧ a4 = 1) ∨ (a3 = 2 ∧ (((a6 < 0 ∨ (99 < a6 ∨ a6 = a2))) ∧ a4 = 2)))) := by omega
theorem mp_o166 {a0 : Int} {a1 : Int} {a2 : Int} {a3 : Int} {a4 : Int} (h0 : a0 = a1) (h1 : a2 = 1) (h2 : a0 ≠ 2) : (((a1 ≠ 2 ∧ a2 = 1) ∨ (a1 = 2 ∧ (((a3 < 0 ∨ (99 < a3 ∨ a3 = a4))) ∧ a2 = 2)))) := by omega
theorem mp_o167 {a0 : Int} {a1 : Int} {a2 : Int} {a3 : Int} {a4 : Int} {a5 : Int} (h0 : a0 ≠ 2) (h1 : a0 = a1) (h2 : a2 = 1) (h3 : ((a3 = a4 ∧ a4 ≤ 100000000) ∨ (a3 = 100000000 ∧ 100000000 < a4))) : (((a1 ≠ 2 ∧ a2 = 1) ∨ (a1 = 2 ∧ (((a4 < 0 ∨ (99 < a4 ∨ a4 = a5))) ∧ a2 = 2)))) := by omega
theorem mp_o168 {a0 : Int} (h0 : 0 ≤ a0) (h1 : a0 ≤ 5) : (-2147483648) ≤ (2 * a0) := by omega
theorem mp_o169 {a0 : Int} (h0 : 0 ≤ a0) (h1 : a0 ≤ 5) : (2 * a0) ≤ 2147483647 := by omega
theorem mp_o170 {a0 : Int} {a1 : Int} {a2 : Int} {a3 : Int} {a4 : Int} (h0 : 0 ≤ a0) (h1 : a0 ≤ 5) (h2 : 0 ≤ a1) (h3 : a1 ≤ 99) (h4 : a2 = (a1 % 50)) (h5 : a3 = (2 * a0)) (h6 : a4 = (a1 / 50)) : (-2147483648) ≤ (a3 + a4) := by omega
theorem mp_o171 {a0 : Int} {a1 : Int} {a2 : Int} {a3 : Int} {a4 : Int} (h0 : 0 ≤ a0) (h1 : a0 ≤ 5) (h2 : 0 ≤ a1) (h3 : a1 ≤ 99) (h4 : a2 = (a1 % 50)) (h5 : a3 = (2 * a0)) (h6 : a4 = (a1 / 50)) : (a3 + a4) ≤ 2147483647 := by omega
theorem mp_o172 {a0 : Int} {a1 : Int} {a2 : Int} {a3 : Int} {a4 : Int} {a5 : Int} (h0 : 0 ≤ a0) (h1 : a0 ≤ 5) (h2 : 0 ≤ a1) (h3 : a1 ≤ 99) (h4 : a2 = (a1 % 50)) (h5 : a3 = (2 * a0)) (h6 : a4 = (a1 / 50)) (h7 : a5 = (a3 + a4)) : ((0 ≤ a5 ∧ a5 < ((12 : Nat) : Int))) := by omega
theorem mp_o173 {a0 : Int} {a1 : Int} {a2 : Int} {a3 : Int} {a4 : Int} {a5 : Int} (h0 : 0 ≤ a0) (h1 : a0 ≤ 5) (h2 : 0 ≤ a1) (h3 : a1 ≤ 99) (h4 : a2 = (a1 % 50)) (h5 : a3 = (2 * a0)) (h6 : a4 = (a1 / 50)) (h7 : a5 = (a3 + a4)) : (((Int.toNat a5) : Nat) : Int) = ((2 * a0) + (a1 / 50)) := by omega
theorem mp_o174 {a0 : Int} {a1 : Int} (h0 : a0 = (a1 % 50)) : ((0 ≤ (a1 % 50) ∧ (a1 % 50) < 64)) := by omega
theorem mp_o175 {a0 : Int} {a1 : Int} {a2 : Int} {a3 : Int} {a4 : Int} {a5 : Int} (h0 : 0 ≤ a0) (h1 : a0 ≤ 99) (h2 : a1 = (a0 % 50)) (h3 : a2 = (2 * a3)) (h4 : a4 = (a0 / 50)) (h5 : a5 = (a2 + a4)) : ((0 ≤ a0 ∧ a0 < 100)) := by omega
theorem mp_o176 {a0 : Int} (h0 : a0 = 1) : 1 = a0 := by omega
theorem mp_o177 {a0 : Int} (h0 : 0 ≤ a0) (h1 : a0 ≤ 1600) : (((Int.toNat a0) : Nat) : Int) = a0 := by omega
theorem mp_o178 {a0 : Int} (h0 : 0 ≤ a0) (h1 : a0 ≤ 6) : (-2147483648) ≤ (a0 - 1) := by omega
theorem mp_o179 {a0 : Int} (h0 : 0 ≤ a0) (h1 : a0 ≤ 6) : (a0 - 1) ≤ 2147483647 := by omega
theorem mp_o180 {a0 : Int} {a1 : Int} (h0 : 0 ≤ a0) (h1 : a0 ≤ 6) (h2 : a1 = (a0 - 1)) : (-1) ≤ a1 := by omega
theorem mp_o181 {a0 : Int} {a1 : Int} (h0 : 0 ≤ a0) (h1 : a0 ≤ 6) (h2 : a1 = (a0 - 1)) : a1 ≤ 5 := by omega
theorem mp_o182 {a0 : Int} {a1 : Int} (h0 : 0 ≤ a0) (h1 : a0 ≤ 6) (h2 : a1 = (a0 - 1)) : a1 ≤ 1000000 := by omega
theorem mp_o183 {a0 : Int} {a1 : Nat} (h0 : 0 ≤ a0) (h1 : a0 ≤ 1600) (h2 : a0 = ((a1 : Nat) : Int)) : (((Int.toNat a0) : Nat) : Int) = a0 := by omega
theorem mp_o185 {a0 : Int} (h0 : a0 = 2) : 2 = a0 := by omega
theorem mp_o186 : 99 ≤ 1000000 := by omega
theorem mp_o187 {a0 : Int} {a1 : Int} {a2 : Int} {a3 : Int} (h0 : (a0 = 2 ∧ (0 ≤ a1 ∧ (a1 ≤ a2 ∧ a1 ≠ a3)))) : a0 = 2 := by omega
theorem mp_o189 {a0 : Int} {a1 : Int} (h0 : a0 = (-1)) (h1 : (a1 < 0 ∨ (99 < a1 ∨ a1 = a0))) : ((a1 < 0 ∨ (99 < a1 ∨ a1 = (-1)))) := by omega
theorem mp_o190 {a0 : Int} {a1 : Int} {a2 : Int} {a3 : Int} {a4 : Int} {a5 : Int} (h0 : 0 ≤ a0) (h1 : a0 ≤ 6) (h2 : 0 ≤ a1) (h3 : a1 ≤ 100000000) (h4 : a2 = (a0 - 1)) (h5 : (a3 = 2 ∧ (0 ≤ a4 ∧ (a4 ≤ a2 ∧ a4 ≠ a5)))) (h6 : a1 = a4) : a1 ≤ 5 := by omega
theorem mp_o191 {a0 : Int} {a1 : Int} {a2 : Int} (h0 : (a0 = 2 ∧ (0 ≤ a1 ∧ (a1 ≤ 99 ∧ a1 ≠ a2)))) : a0 = 2 := by omega
theorem mp_o192 {a0 : Int} {a1 : Int} {a2 : Int} (h0 : (a0 = 2 ∧ (0 ≤ a1 ∧ (a1 ≤ 99 ∧ a1 ≠ a2)))) : ((0 ≤ a1 ∧ (a1 ≤ 99 ∧ a1 ≠ (-1)))) := by omega
theorem mp_o193 {a0 : Int} : (Int.toNat a0) = (Int.toNat a0) := by omega
theorem mp_o194 {a0 : Int} {a1 : Nat} {a2 : Int} {a3 : Int} {a4 : Nat} {a5 : Int} {a6 : Nat} (h0 : a0 = ((a1 : Nat) : Int)) (h1 : a2 ≤ a0) (h2 : a3 = ((a4 : Nat) : Int)) (h3 : a0 ≤ a3) (h4 : a5 = ((a6 : Nat) : Int)) (h5 : a3 ≤ a5) : a2 ≤ a5 := by omega
theorem mp_o195 {a0 : Int} {a1 : Int} {a2 : Int} {a3 : Int} {a4 : Int} {a5 : Int} {a6 : Int} (h0 : 0 ≤ a0) (h1 : a0 ≤ 5) (h2 : a1 ≤ 1000000) (h3 : a2 = 2) (h4 : 0 ≤ a3) (h5 : a3 ≤ a0) (h6 : a3 ≠ a1) (h7 : a2 = a4) (h8 : a3 = a5) (h9 : ((a3 = a6 ∧ a6 ≤ 100000000) ∨ (a3 = 100000000 ∧ 100000000 < a6))) : ((a4 = 2 ∧ (0 ≤ a6 ∧ (a6 ≤ a0 ∧ a6 ≠ a1)))) := by omega
theorem mp_o196 {a0 : Int} {a1 : Int} {a2 : Int} {a3 : Int} (h0 : 0 ≤ a0) (h1 : a0 ≤ 5) (h2 : a1 ≤ a0) (h3 : a1 = a2) (h4 : ((a1 = a3 ∧ a3 ≤ 100000000) ∨ (a1 = 100000000 ∧ 100000000 < a3))) : a1 = a3 := by omega
theorem mp_o197 {a0 : Int} {a1 : Int} {a2 : Int} {a3 : Int} {a4 : Int} {a5 : Int} {a6 : Int} (h0 : 0 ≤ a0) (h1 : a0 ≤ 5) (h2 : a1 ≤ 1000000) (h3 : a2 ≠ 2) (h4 : a2 = a3) (h5 : a4 = 1) (h6 : ((a5 = a6 ∧ a6 ≤ 100000000) ∨ (a5 = 100000000 ∧ 100000000 < a6))) : (((a3 ≠ 2 ∧ a4 = 1) ∨ (a3 = 2 ∧ (((a6 < 0 ∨ (a0 < a6 ∨ a6 = a1))) ∧ a4 = 2)))) := by omega
theorem mp_o198 {a0 : Int} {a1 : Int} {a2 : Int} {a3 : Int} {a4 : Int} (h0 : a0 = 2) (h1 : a0 = a1) (h2 : a2 = 2) (h3 : a0 ≠ 2) : (((a1 ≠ 2 ∧ a2 = 1) ∨ (a1 = 2 ∧ (((a3 < 1 ∨ (1000000 < a3 ∨ a3 = a4))) ∧ a2 = 2)))) := by omega
theorem mp_o199 {a0 : Int} {a1 : Int} {a2 : Int} {a3 : Int} {a4 : Int} {a5 : Int} {a6 : Int} (h0 : a0 = 2) (h1 : a1 < 1) (h2 : a0 = a2) (h3 : a3 = 2) (h4 : a1 = a4) (h5 : ((a1 = a5 ∧ a5 ≤ 100000000) ∨ (a1 = 100000000 ∧ 100000000 < a5))) : (((a2 ≠ 2 ∧ a3 = 1) ∨ (a2 = 2 ∧ (((a5 < 1 ∨ (1000000 < a5 ∨ a5 = a6))) ∧ a3 = 2)))) := by omega
theorem mp_o200 {a0 : Int} {a1 : Int} {a2 : Int} {a3 : Int} {a4 : Int} {a5 : Int} {a6 : Int} (h0 : a0 = 2) (h1 : 1000000 < a1) (h2 : a0 = a2) (h3 : a3 = 2) (h4 : a1 = a4) (h5 : ((a1 = a5 ∧ a5 ≤ 100000000) ∨ (a1 = 100000000 ∧ 100000000 < a5))) : (((a2 ≠ 2 ∧ a3 = 1) ∨ (a2 = 2 ∧ (((a5 < 1 ∨ (1000000 < a5 ∨ a5 = a6))) ∧ a3 = 2)))) := by omega
theorem mp_o201 {a0 : Int} {a1 : Int} {a2 : Int} {a3 : Int} (h0 : a0 = 2) (h1 : a0 = a1) (h2 : a0 ≠ 2) : ((a1 = 2 ∧ (1 ≤ a2 ∧ (a2 ≤ 1000000 ∧ a2 ≠ a3)))) := by omega
theorem mp_o202 {a0 : Int} {a1 : Int} {a2 : Int} {a3 : Int} {a4 : Int} {a5 : Int} (h0 : a0 = 2) (h1 : 1 ≤ a1) (h2 : a1 ≤ 1000000) (h3 : a1 ≠ a2) (h4 : a0 = a3) (h5 : a1 = a4) (h6 : ((a1 = a5 ∧ a5 ≤ 100000000) ∨ (a1 = 100000000 ∧ 100000000 < a5))) : ((a3 = 2 ∧ (1 ≤ a5 ∧ (a5 ≤ 1000000 ∧ a5 ≠ a2)))) := by omega
theorem mp_o203 {a0 : Int} {a1 : Int} {a2 : Int} (h0 : 1 ≤ a0) (h1 : a0 ≤ 1000000) (h2 : a0 = a1) (h3 : ((a0 = a2 ∧ a2 ≤ 100000000) ∨ (a0 = 100000000 ∧ 100000000 < a2))) : a0 = a2 := by omega
theorem mp_o204 {a0 : Int} {a1 : Int} {a2 : Int} {a3 : Int} {a4 : Int} {a5 : Int} {a6 : Int} (h0 : a0 = 2) (h1 : 1 ≤ a1) (h2 : a1 ≤ 1000000) (h3 : a1 = a2) (h4 : a0 = a3) (h5 : a4 = 2) (h6 : a1 = a5) (h7 : ((a1 = a6 ∧ a6 ≤ 100000000) ∨ (a1 = 100000000 ∧ 100000000 < a6))) : (((a3 ≠ 2 ∧ a4 = 1) ∨ (a3 = 2 ∧ (((a6 < 1 ∨ (1000000 < a6 ∨ a6 = a2))) ∧ a4 = 2)))) := by omega
theorem mp_o205 {a0 : Int} {a1 : Int} {a2 : Int} {a3 : Int} {a4 : Int} (h0 : a0 = a1) (h1 : a2 = 1) (h2 : a0 ≠ 2) : (((a1 ≠ 2 ∧ a2 = 1) ∨ (a1 = 2 ∧ (((a3 < 1 ∨ (1000000 < a3 ∨ a3 = a4))) ∧ a2 = 2)))) := by omega
theorem mp_o206 {a0 : Int} {a1 : Int} {a2 : Int} {a3 : Int} {a4 : Int} {a5 : Int} (h0 : a0 ≠ 2) (h1 : a0 = a1) (h2 : a2 = 1) (h3 : ((a3 = a4 ∧ a4 ≤ 100000000) ∨ (a3 = 100000000 ∧ 100000000 < a4))) : (((a1 ≠ 2 ∧ a2 = 1) ∨ (a1 = 2 ∧ (((a4 < 1 ∨ (1000000 < a4 ∨ a4 = a5))) ∧ a2 = 2)))) := by omega
theorem mp_o207 {a0 : Int} {a1 : Int} {a2 : Int} {a3 : Int} {a4 : Int} {a5 : Int} {a6 : Int} (h0 : 0 ≤ a0) (h1 : a0 ≤ 99) (h2 : a1 ≤ 1000000) (h3 : a2 = 2) (h4 : 0 ≤ a3) (h5 : a3 ≤ a0) (h6 : a3 ≠ a1) (h7 : a2 = a4) (h8 : a3 = a5) (h9 : ((a3 = a6 ∧ a6 ≤ 100000000) ∨ (a3 = 100000000 ∧ 100000000 < a6))) : ((a4 = 2 ∧ (0 ≤ a6 ∧ (a6 ≤ a0 ∧ a6 ≠ a1)))) := by omega
theorem mp_o208 {a0 : Int} {a1 : Int} {a2 : Int} {a3 : Int} (h0 : 0 ≤ a0) (h1 : a0 ≤ 99) (h2 : a1 ≤ a0) (h3 : a1 = a2) (h4 : ((a1 = a3 ∧ a3 ≤ 100000000) ∨ (a1 = 100000000 ∧ 100000000 < a3))) : a1 = a3 := by omega
theorem mp_o209 {a0 : Int} {a1 : Int} {a2 : Int} {a3 : Int} {a4 : Int} {a5 : Int} {a6 : Int} (h0 : 0 ≤ a0) (h1 : a0 ≤ 99) (h2 : a1 ≤ 1000000) (h3 : a2 ≠ 2) (h4 : a2 = a3) (h5 : a4 = 1) (h6 : ((a5 = a6 ∧ a6 ≤ 100000000) ∨ (a5 = 100000000 ∧ 100000000 < a6))) : (((a3 ≠ 2 ∧ a4 = 1) ∨ (a3 = 2 ∧ (((a6 < 0 ∨ (a0 < a6 ∨ a6 = a1))) ∧ a4 = 2)))) := by omega
theorem mp_o210 {a0 : Int} (h0 : 0 ≤ a0) (h1 : a0 ≤ 9) : ((0 ≤ a0 ∧ a0 < ((10 : Nat) : Int))) := by omega
theorem mp_o211 {a0 : Int} {a1 : Int} (h0 : 0 ≤ a0) (h1 : a0 ≤ 9) (h2 : a1 = (a0 + 1)) : 1 ≤ a1 := by omega
theorem mp_o212 {a0 : Int} {a1 : Int} (h0 : 0 ≤ a0) (h1 : a0 ≤ 9) (h2 : a1 = (a0 + 1)) : a1 ≤ 10 := by omega
theorem mp_o213 {a0 : Int} (h0 : 1 ≤ a0) (h1 : a0 ≤ 2) : a0 ≤ 3 := by omega
theorem mp_o214 {a0 : Int} (h0 : 0 ≤ a0) (h1 : a0 ≤ 10) (h2 : a0 < 10) : (10 ≤ a0) → False := by omega
theorem mp_o215 {a0 : Int} {a1 : Int} {a2 : Int} {a3 : Int} (h0 : a0 = (a1 - 1)) (h1 : a2 = (-1)) (h2 : (a3 < 0 ∨ (a0 < a3 ∨ a3 = a2))) : ((a3 < 0 ∨ ((a1 - 1) < a3 ∨ a3 = (-1)))) := by omega
theorem mp_o216 {a0 : Int} {a1 : Int} {a2 : Int} {a3 : Int} {a4 : Int} {a5 : Int} (h0 : 0 ≤ a0) (h1 : a0 ≤ 100000000) (h2 : a1 = (a2 - 1)) (h3 : (a3 = 2 ∧ (0 ≤ a4 ∧ (a4 ≤ a1 ∧ a4 ≠ a5)))) (h4 : a0 = a4) : ((0 ≤ a4 ∧ (a4 ≤ (a2 - 1) ∧ a4 ≠ (-1)))) := by omega
theorem mp_o217 {a0 : Int} {a1 : Int} (h0 : 0 ≤ a0) (h1 : a0 ≤ 6) (h2 : a1 = (a0 - 1)) : (-2147483648) ≤ (a0 - 1) := by omega
theorem mp_o218 {a0 : Int} {a1 : Int} (h0 : 0 ≤ a0) (h1 : a0 ≤ 6) (h2 : a1 = (a0 - 1)) : (a0 - 1) ≤ 2147483647 := by omega
theorem mp_o219 {a0 : Int} {a1 : Int} {a2 : Int} {a3 : Int} {a4 : Int} {a5 : Int} {a6 : Int} (h0 : 0 ≤ a0) (h1 : a0 ≤ 6) (h2 : 0 ≤ a1) (h3 : a1 ≤ 100000000) (h4 : a2 = (a0 - 1)) (h5 : (a3 = 2 ∧ (0 ≤ a4 ∧ (a4 ≤ a2 ∧ a4 ≠ a5)))) (h6 : a1 = a4) (h7 : a6 = (a0 - 1)) : 0 ≤ a6 := by omega
theorem mp_o220 {a0 : Int} {a1 : Int} {a2 : Int} (h0 : 0 ≤ a0) (h1 : a0 ≤ 6) (h2 : a1 = (a0 - 1)) (h3 : a2 = (a0 - 1)) : a2 ≤ 5 := by omega
theorem mp_o221 {a0 : Int} {a1 : Int} {a2 : Int} (h0 : 0 ≤ a0) (h1 : a0 ≤ 6) (h2 : a1 = (a0 - 1)) (h3 : a2 = (a0 - 1)) : a2 ≤ 1000000 := by omega
theorem mp_o222 {a0 : Int} {a1 : Int} {a2 : Int} {a3 : Int} {a4 : Int} {a5 : Int} {a6 : Int} (h0 : 0 ≤ a0) (h1 : a0 ≤ 6) (h2 : 0 ≤ a1) (h3 : a1 ≤ 100000000) (h4 : a2 = (a0 - 1)) (h5 : (a3 = 2 ∧ (0 ≤ a4 ∧ (a4 ≤ a2 ∧ a4 ≠ a5)))) (h6 : a1 = a4) (h7 : a6 = (a0 - 1)) : a1 ≤ 1000000 := by omega
theorem mp_o223 {a0 : Int} {a1 : Int} {a2 : Int} {a3 : Int} {a4 : Int} {a5 : Int} {a6 : Int} (h0 : 0 ≤ a0) (h1 : a0 ≤ 100000000) (h2 : a1 = (a2 - 1)) (h3 : (a3 = 2 ∧ (0 ≤ a4 ∧ (a4 ≤ a1 ∧ a4 ≠ a5)))) (h4 : a0 = a4) (h5 : a6 = (a2 - 1)) : ((0 ≤ a4 ∧ (a4 ≤ (a2 - 1) ∧ a4 ≠ (-1)))) := by omega
theorem mp_o224 {a0 : Int} {a1 : Int} {a2 : Int} {a3 : Int} {a4 : Int} {a5 : Int} (h0 : a0 = (a1 - 1)) (h1 : a2 = a3) (h2 : a4 = (a1 - 1)) (h3 : (a5 < 0 ∨ (a4 < a5 ∨ a5 = a2))) : ((a5 < 0 ∨ ((a1 - 1) < a5 ∨ a5 = a3))) := by omega
theorem mp_o225 {a0 : Int} {a1 : Int} {a2 : Int} {a3 : Int} {a4 : Int} {a5 : Int} {a6 : Int} {a7 : Int} {a8 : Int} {a9 : Int} {a10 : Int} {a11 : Int} (h0 : a0 = (a1 - 1)) (h1 : a2 = a3) (h2 : 0 ≤ a4) (h3 : a4 ≤ 100000000) (h4 : a5 = (a1 - 1)) (h5 : (a6 = 2 ∧ (0 ≤ a7 ∧ (a7 ≤ a5 ∧ a7 ≠ a2)))) (h6 : a4 = a7) (h7 : a4 ≠ a2) (h8 : a8 ≠ 0) (h9 : ¬ ((a9 = 1 ∧ a10 = a11))) (h10 : a8 = 1) : ((0 ≤ a7 ∧ (a7 ≤ (a1 - 1) ∧ a7 ≠ a3))) := by omega
theorem mp_o226 : 1000000 ≤ 1000000 := by omega
theorem mp_o227 {a0 : Int} {a1 : Int} {a2 : Int} {a3 : Int} {a4 : Int} {a5 : Int} {a6 : Int} {a7 : Int} {a8 : Int} {a9 : Int} {a10 : Int} {a11 : Int} {a12 : Int} (h0 : a0 = (a1 - 1)) (h1 : a2 = a3) (h2 : 0 ≤ a4) (h3 : a4 ≤ 100000000) (h4 : a5 = (a1 - 1)) (h5 : (a6 = 2 ∧ (0 ≤ a7 ∧ (a7 ≤ a5 ∧ a7 ≠ a2)))) (h6 : a4 = a7) (h7 : a4 ≠ a2) (h8 : a8 ≠ 0) (h9 : a8 ≠ 0) (h10 : ((a9 ≠ 2 ∧ a10 = 1) ∨ (a9 = 2 ∧ (((a11 < 1 ∨ (1000000 < a11 ∨ a11 = a12))) ∧ a10 = 2)))) (h11 : a8 = 1) : ((0 ≤ a7 ∧ (a7 ≤ (a1 - 1) ∧ a7 ≠ a3))) := by omega
theorem mp_o228 {a0 : Int} {a1 : Int} (h0 : a0 = (-1)) (h1 : (a1 < 1 ∨ (1000000 < a1 ∨ a1 = a0))) : ((a1 < 1 ∨ (1000000 < a1 ∨ a1 = (-1)))) := by omega
theorem mp_o229 {a0 : Int} {a1 : Int} {a2 : Int} {a3 : Int} {a4 : Int} {a5 : Int} {a6 : Int} {a7 : Int} {a8 : Int} {a9 : Int} {a10 : Int} {a11 : Int} {a12 : Int} {a13 : Int} {a14 : Int} {a15 : Int} (h0 : a0 = (a1 - 1)) (h1 : a2 = a3) (h2 : 0 ≤ a4) (h3 : a4 ≤ 100000000) (h4 : a5 = (a1 - 1)) (h5 : (a6 = 2 ∧ (0 ≤ a7 ∧ (a7 ≤ a5 ∧ a7 ≠ a2)))) (h6 : a4 = a7) (h7 : a4 ≠ a2) (h8 : a8 ≠ 0) (h9 : 0 ≤ a9) (h10 : a9 ≤ 100000000) (h11 : a8 ≠ 0) (h12 : 1 ≤ a9) (h13 : a9 ≤ 1000000) (h14 : a9 ≠ a10) (h15 : (a11 = 2 ∧ (1 ≤ a12 ∧ (a12 ≤ 1000000 ∧ a12 ≠ a10)))) (h16 : a9 = a12) (h17 : a9 ≠ (-1)) (h18 : a8 ≠ 0) (h19 : ¬ ((a13 = 1 ∧ a14 = a15))) (h20 : a8 = 1) (h21 : a10 = (-1)) : ((0 ≤ a7 ∧ (a7 ≤ (a1 - 1) ∧ a7 ≠ a3))) := by omega
theorem mp_o230 {a0 : Int} {a1 : Int} {a2 : Int} (h0 : (a0 = 2 ∧ (1 ≤ a1 ∧ (a1 ≤ 1000000 ∧ a1 ≠ a2)))) : a0 = 2 := by omega
theorem mp_o231 {a0 : Int} {a1 : Int} (h0 : 0 ≤ a0) (h1 : a0 ≤ 100000000) (h2 : 1 ≤ a0) (h3 : a0 ≤ 1000000) (h4 : a0 = a1) : ((1 ≤ a1 ∧ (a1 ≤ 1000000 ∧ a1 ≠ (-1)))) := by omega
theorem mp_o232 {a0 : Int} (h0 : 0 ≤ a0) (h1 : a0 ≤ 99) : a0 ≤ 1000000 := by omega
theorem mp_o233 {a0 : Int} {a1 : Int} {a2 : Int} {a3 : Int} {a4 : Int} {a5 : Int} {a6 : Int} {a7 : Int} {a8 : Int} {a9 : Int} {a10 : Int} {a11 : Int} {a12 : Int} {a13 : Int} {a14 : Int} {a15 : Int} {a16 : Int} (h0 : a0 = (a1 - 1)) (h1 : a2 = a3) (h2 : 0 ≤ a4) (h3 : a4 ≤ 100000000) (h4 : a5 = (a1 - 1)) (h5 : (a6 = 2 ∧ (0 ≤ a7 ∧ (a7 ≤ a5 ∧ a7 ≠ a2)))) (h6 : a4 = a7) (h7 : a4 ≠ a2) (h8 : a8 ≠ 0) (h9 : 0 ≤ a9) (h10 : a9 ≤ 100000000) (h11 : a8 ≠ 0) (h12 : 1 ≤ a9) (h13 : a9 ≤ 1000000) (h14 : a9 ≠ a10) (h15 : (a11 = 2 ∧ (1 ≤ a12 ∧ (a12 ≤ 1000000 ∧ a12 ≠ a10)))) (h16 : a9 = a12) (h17 : a9 ≠ (-1)) (h18 : a8 ≠ 0) (h19 : a8 ≠ 0) (h20 : ((a13 ≠ 2 ∧ a14 = 1) ∨ (a13 = 2 ∧ (((a15 < 0 ∨ (a16 < a15 ∨ a15 = a10))) ∧ a14 = 2)))) (h21 : a8 = 1) (h22 : a10 = (-1)) : ((0 ≤ a7 ∧ (a7 ≤ (a1 - 1) ∧ a7 ≠ a3))) := by omega
theorem mp_o234 {a0 : Int} {a1 : Int} {a2 : Int} (h0 : a0 = (-1)) (h1 : (a1 < 0 ∨ (a2 < a1 ∨ a1 = a0))) : ((a1 < 0 ∨ (a2 < a1 ∨ a1 = (-1)))) := by omega
theorem mp_o235 {a0 : Int} {a1 : Int} {a2 : Int} {a3 : Int} {a4 : Int} {a5 : Int} {a6 : Int} (h0 : 0 ≤ a0) (h1 : a0 ≤ 6) (h2 : 0 ≤ a1) (h3 : a1 ≤ 100000000) (h4 : a2 = (a0 - 1)) (h5 : (a3 = 2 ∧ (0 ≤ a4 ∧ (a4 ≤ a2 ∧ a4 ≠ a5)))) (h6 : a1 = a4) (h7 : a6 = (a0 - 1)) : a1 ≤ 5 := by omega
theorem mp_o236 {a0 : Int} {a1 : Int} {a2 : Int} {a3 : Int} {a4 : Int} {a5 : Int} {a6 : Int} {a7 : Int} {a8 : Int} {a9 : Int} (h0 : 0 ≤ a0) (h1 : a0 ≤ 6) (h2 : 0 ≤ a1) (h3 : a1 ≤ 100000000) (h4 : a2 = (a0 - 1)) (h5 : (a3 = 2 ∧ (0 ≤ a4 ∧ (a4 ≤ a2 ∧ a4 ≠ a5)))) (h6 : a1 = a4) (h7 : 0 ≤ a6) (h8 : a6 ≤ 100000000) (h9 : a7 = (a0 - 1)) (h10 : (a8 = 2 ∧ (0 ≤ a9 ∧ (a9 ≤ a7 ∧ a9 ≠ a1)))) (h11 : a6 = a9) : a6 ≤ 5 := by omega
theorem mp_o237 {a0 : Int} {a1 : Int} {a2 : Int} (h0 : 0 ≤ a0) (h1 : a0 ≤ 99) (h2 : 0 ≤ a1) (h3 : a1 ≤ 100000000) (h4 : a1 ≤ a0) (h5 : a1 = a2) : a1 ≤ 99 := by omega
theorem mp_o238 {a0 : Int} (h0 : 0 ≤ a0) (h1 : a0 ≤ 10) (h2 : a0 < 10) : a0 ≤ 9 := by omega
theorem mp_o239 {a0 : Int} {a1 : Int} (h0 : 0 ≤ a0) (h1 : a0 ≤ 10) (h2 : a0 < 10) (h3 : a1 = (a0 + 1)) : (10 ≤ a0) → False := by omega
theorem mp_o240 {a0 : Int} {a1 : Int} {a2 : Int} {a3 : Int} {a4 : Int} {a5 : Int} {a6 : Int} {a7 : Int} {a8 : Int} {a9 : Int} {a10 : Int} {a11 : Int} {a12 : Int} {a13 : Int} {a14 : Int} {a15 : Int} {a16 : Int} (h0 : 0 ≤ a0) (h1 : a0 ≤ 99) (h2 : a1 = (a2 - 1)) (h3 : a3 = a4) (h4 : 0 ≤ a5) (h5 : a5 ≤ 100000000) (h6 : a6 = (a2 - 1)) (h7 : (a7 = 2 ∧ (0 ≤ a8 ∧ (a8 ≤ a6 ∧ a8 ≠ a3)))) (h8 : a5 = a8) (h9 : a5 ≠ a3) (h10 : a9 ≠ 0) (h11 : 0 ≤ a10) (h12 : a10 ≤ 100000000) (h13 : a9 ≠ 0) (h14 : 1 ≤ a10) (h15 : a10 ≤ 1000000) (h16 : a10 ≠ a11) (h17 : (a12 = 2 ∧ (1 ≤ a13 ∧ (a13 ≤ 1000000 ∧ a13 ≠ a11)))) (h18 : a10 = a13) (h19 : a10 ≠ (-1)) (h20 : a9 ≠ 0) (h21 : 0 ≤ a14) (h22 : a14 ≤ 100000000) (h23 : a9 ≠ 0) (h24 : a14 ≤ a0) (h25 : a14 ≠ a11) (h26 : (a15 = 2 ∧ (0 ≤ a16 ∧ (a16 ≤ a0 ∧ a16 ≠ a11)))) (h27 : a14 = a16) (h28 : a14 ≠ (-1)) (h29 : a9 ≠ 0) (h30 : a9 = 1) (h31 : a11 = (-1)) : ((0 ≤ a8 ∧ (a8 ≤ (a2 - 1) ∧ a8 ≠ a4))) := by omega
theorem mp_o241 {a0 : Int} {a1 : Int} {a2 : Int} (h0 : 0 ≤ a0) (h1 : a0 ≤ 100000000) (h2 : a0 ≤ a1) (h3 : a0 = a2) : ((0 ≤ a2 ∧ (a2 ≤ a1 ∧ a2 ≠ (-1)))) := by omega
theorem mp_o242 {a0 : Int} {a1 : Int} (h0 : a0 = (a1 + 1)) : (a1 + 1) = a0 := by omega
theorem mp_o243 {a0 : Int} {a1 : Nat} {a2 : Int} {a3 : Int} {a4 : Nat} {a5 : Int} {a6 : Nat} {a7 : Int} {a8 : Nat} {a9 : Int} {a10 : Nat} {a11 : Int} {a12 : Nat} {a13 : Int} {a14 : Nat} {a15 : Int} {a16 : Nat} {a17 : Int} (h0 : a0 = ((a1 : Nat) : Int)) (h1 : a2 ≤ a0) (h2 : a3 = ((a4 : Nat) : Int)) (h3 : a0 ≤ a3) (h4 : a5 = ((a6 : Nat) : Int)) (h5 : a3 ≤ a5) (h6 : a7 = ((a8 : Nat) : Int)) (h7 : a5 ≤ a7) (h8 : a9 = ((a10 : Nat) : Int)) (h9 : a7 ≤ a9) (h10 : a11 = ((a12 : Nat) : Int)) (h11 : a9 ≤ a11) (h12 : a13 = ((a14 : Nat) : Int)) (h13 : a11 ≤ a13) (h14 : a15 = ((a16 : Nat) : Int)) (h15 : a13 ≤ a15) (h16 : a17 ≤ a2) : a17 ≤ a15 := by omega
theorem mp_o244 {a0 : Int} (h0 : a0 = 3) : 3 = a0 := by omega
theorem mp_o245 {a0 : Int} {a1 : Int} {a2 : Int} {a3 : Int} {a4 : Int} {a5 : Int} {a6 : Int} (h0 : (-1) ≤ a0) (h1 : a0 ≤ 8) (h2 : a1 ≤ 1000000) (h3 : a2 = 2) (h4 : 0 ≤ a3) (h5 : a3 ≤ a0) (h6 : a3 ≠ a1) (h7 : a2 = a4) (h8 : a3 = a5) (h9 : ((a3 = a6 ∧ a6 ≤ 100000000) ∨ (a3 = 100000000 ∧ 100000000 < a6))) : ((a4 = 2 ∧ (0 ≤ a6 ∧ (a6 ≤ a0 ∧ a6 ≠ a1)))) := by omega
theorem mp_o246 {a0 : Int} {a1 : Int} {a2 : Int} {a3 : Int} (h0 : (-1) ≤ a0) (h1 : a0 ≤ 8) (h2 : a1 ≤ a0) (h3 : a1 = a2) (h4 : ((a1 = a3 ∧ a3 ≤ 100000000) ∨ (a1 = 100000000 ∧ 100000000 < a3))) : a1 = a3 := by omega
theorem mp_o247 {a0 : Int} {a1 : Int} {a2 : Int} {a3 : Int} {a4 : Int} {a5 : Int} {a6 : Int} (h0 : (-1) ≤ a0) (h1 : a0 ≤ 8) (h2 : a1 ≤ 1000000) (h3 : a2 ≠ 2) (h4 : a2 = a3) (h5 : a4 = 1) (h6 : ((a5 = a6 ∧ a6 ≤ 100000000) ∨ (a5 = 100000000 ∧ 100000000 < a6))) : (((a3 ≠ 2 ∧ a4 = 1) ∨ (a3 = 2 ∧ (((a6 < 0 ∨ (a0 < a6 ∨ a6 = a1))) ∧ a4 = 2)))) := by omega
theorem mp_o248 {a0 : Int} (h0 : 0 ≤ a0) (h1 : a0 ≤ 5) (h2 : 2 ≤ a0) : (Int.toNat ((2 - a0))) = 0 := by omega
theorem mp_o249 {a0 : Int} {a1 : Int} (h0 : a0 ≠ 1) (h1 : a0 = a1) : (a1 = 1) → False := by omega
theorem mp_o250 {a0 : Int} (h0 : 0 ≤ a0) (h1 : a0 ≤ 9) : a0 < ((10 : Nat) : Int) := by omega
theorem mp_o251 {a0 : Int} (h0 : a0 = 1) : 0 ≤ a0 := by omega
theorem mp_o252 {a0 : Int} (h0 : a0 = 1) : a0 ≤ 4 := by omega
theorem mp_o253 {a0 : Int} (h0 : 0 ≤ a0) (h1 : a0 ≤ 5) (h2 : a0 < 2) : (Int.toNat ((2 - a0))) = ((Int.toNat ((1 - a0))) + 1) := by omega
theorem mp_o254 {a0 : Int} {a1 : Int} (h0 : a0 = 1) (h1 : a0 = a1) : a1 = 1 := by omega
theorem mp_o255 {a0 : Int} {a1 : Int} {a2 : Int} {a3 : Int} {a4 : Int} (h0 : a0 = a1) (h1 : a0 ≠ 0) (h2 : ((-1) ≤ a2 ∧ a2 ≤ 9)) (h3 : a2 = a3) (h4 : a2 ≠ a4) (h5 : a2 ≠ (-1)) : (a1 = 0) → False := by omega
theorem mp_o256 {a0 : Int} {a1 : Int} (h0 : a0 = a1) (h1 : a0 ≠ (-1)) : (a1 = (-1)) → False := by omega
theorem mp_o257 {a0 : Int} {a1 : Int} {a2 : Int} {a3 : Int} {a4 : Int} (h0 : a0 = a1) (h1 : a0 ≠ 0) (h2 : ¬ ((a2 = 1 ∧ a3 = a4))) : (a1 = 0) → False := by omega
theorem mp_o258 {a0 : Int} (h0 : 0 ≤ a0) (h1 : a0 ≤ 9) : (-2147483648) ≤ (a0 - 1) := by omega
theorem mp_o259 {a0 : Int} (h0 : 0 ≤ a0) (h1 : a0 ≤ 9) : (a0 - 1) ≤ 2147483647 := by omega
theorem mp_o260 {a0 : Int} {a1 : Int} (h0 : 0 ≤ a0) (h1 : a0 ≤ 9) (h2 : a1 = (a0 - 1)) : (-1) ≤ a1 := by omega
theorem mp_o261 {a0 : Int} {a1 : Int} (h0 : 0 ≤ a0) (h1 : a0 ≤ 9) (h2 : a1 = (a0 - 1)) : a1 ≤ 8 := by omega
theorem mp_o262 {a0 : Int} {a1 : Int} (h0 : 0 ≤ a0) (h1 : a0 ≤ 9) (h2 : a1 = (a0 - 1)) : a1 ≤ 1000000 := by omega
theorem mp_o263 {a0 : Int} {a1 : Int} {a2 : Int} (h0 : (a0 = 1 ∧ a1 = a2)) : a0 = 1 := by omega
theorem mp_o264 {a0 : Int} {a1 : Int} {a2 : Int} {a3 : Int} {a4 : Int} {a5 : Int} {a6 : Int} {a7 : Int} (h0 : a0 = a1) (h1 : a0 ≠ 0) (h2 : a2 ≠ 0) (h3 : ((a3 ≠ 2 ∧ a4 = 1) ∨ (a3 = 2 ∧ (((a5 < 0 ∨ (a6 < a5 ∨ a5 = a7))) ∧ a4 = 2)))) (h4 : a2 = 1) : (a1 = 0) → False := by omega
theorem mp_o265 {a0 : Int} {a1 : Int} (h0 : a0 = a1) (h1 : a0 = (-1)) : (a1 ≠ (-1)) → False := by omega
theorem mp_o266 {a0 : Int} {a1 : Int} (h0 : 0 ≤ a0) (h1 : a0 ≤ 9) (h2 : a1 = (a0 - 1)) : ((0 ≤ a0 ∧ a0 < ((10 : Nat) : Int))) := by omega
theorem mp_o267 {a0 : Int} {a1 : Int} (h0 : 0 ≤ a0) (h1 : a0 ≤ 100000000) (h2 : a0 = a1) : (-1) ≤ a0 := by omega
theorem mp_o268 {a0 : Int} {a1 : Int} {a2 : Int} {a3 : Int} (h0 : 0 ≤ a0) (h1 : a0 ≤ 9) (h2 : 0 ≤ a1) (h3 : a1 ≤ 100000000) (h4 : a2 = (a0 - 1)) (h5 : a1 ≤ a2) (h6 : a1 = a3) : a1 ≤ 9 := by omega
theorem mp_o269 {a0 : Int} (h0 : 0 ≤ a0) (h1 : a0 ≤ 5) (h2 : a0 < 2) : (-2147483648) ≤ (a0 + 1) := by omega
theorem mp_o270 {a0 : Int} (h0 : 0 ≤ a0) (h1 : a0 ≤ 5) (h2 : a0 < 2) : (a0 + 1) ≤ 2147483647 := by omega
theorem mp_o271 {a0 : Int} {a1 : Nat} {a2 : Int} (h0 : 0 ≤ a0) (h1 : a0 ≤ 5) (h2 : ((-a0) + 2) ≤ ((a1 : Nat) : Int)) (h3 : a0 < 2) (h4 : a2 = (a0 + 1)) : (a1 - 1) < a1 := by omega
theorem mp_o272 {a0 : Int} {a1 : Int} (h0 : 0 ≤ a0) (h1 : a0 ≤ 5) (h2 : a0 < 2) (h3 : a1 = (a0 + 1)) : 0 ≤ a1 := by omega
theorem mp_o273 {a0 : Int} {a1 : Int} (h0 : 0 ≤ a0) (h1 : a0 ≤ 5) (h2 : a0 < 2) (h3 : a1 = (a0 + 1)) : a1 ≤ 5 := by omega
theorem mp_o274 {a0 : Int} {a1 : Int} (h0 : 0 ≤ a0) (h1 : a0 ≤ 5) (h2 : a0 < 2) (h3 : a1 = (a0 + 1)) : (Int.toNat ((2 - a0))) = ((Int.toNat ((2 - a1))) + 1) := by omega
theorem mp_o275 {a0 : Int} {a1 : Int} {a2 : Int} {a3 : Int} {a4 : Int} {a5 : Int} {a6 : Int} {a7 : Int} {a8 : Int} (h0 : 0 ≤ a0) (h1 : a0 ≤ 9) (h2 : a1 = a2) (h3 : a1 ≠ 0) (h4 : a3 ≠ 0) (h5 : 0 ≤ a4) (h6 : a4 ≤ 100000000) (h7 : a5 = (a0 - 1)) (h8 : a4 ≤ a5) (h9 : a4 ≠ a6) (h10 : (a7 = 2 ∧ (0 ≤ a8 ∧ (a8 ≤ a5 ∧ a8 ≠ a6)))) (h11 : a4 = a8) (h12 : a4 ≠ (-1)) (h13 : a3 ≠ 0) (h14 : a3 = 1) (h15 : a6 = (-1)) : (a2 = 0) → False := by omega
theorem mp_o276 {a0 : Int} {a1 : Int} {a2 : Int} {a3 : Int} (h0 : 0 ≤ a0) (h1 : a0 ≤ 100000000) (h2 : a1 = (a2 - 1)) (h3 : a0 ≤ a1) (h4 : a0 = a3) : ((0 ≤ a3 ∧ (a3 ≤ (a2 - 1) ∧ a3 ≠ (-1)))) := by omega
theorem mp_o277 {a0 : Int} {a1 : Int} {a2 : Int} (h0 : 0 ≤ a0) (h1 : a0 ≤ 100000000) (h2 : a0 = a1) (h3 : a2 = a0) : (a2 = (-1)) → False := by omega
theorem mp_o278 {a0 : Int} {a1 : Int} {a2 : Int} {a3 : Nat} {a4 : Int} {a5 : Int} {a6 : Nat} (h0 : a0 ≤ a1) (h1 : a2 = ((a3 : Nat) : Int)) (h2 : a4 ≤ a2) (h3 : a5 = ((a6 : Nat) : Int)) (h4 : a2 ≤ a5) (h5 : a1 ≤ a4) : a0 ≤ a5 := by omega
theorem mp_o279 {a0 : Int} {a1 : Nat} {a2 : Int} (h0 : 0 ≤ a0) (h1 : a0 ≤ 5) (h2 : ((-a0) + 2) ≤ ((a1 : Nat) : Int)) (h3 : a0 < 2) (h4 : a2 = (a0 + 1)) : ((-a2) + 2) ≤ ((((a1 - 1)) : Nat) : Int) := by omega
theorem mp_o280 {a0 : Int} {a1 : Int} (h0 : a0 = a1) (h1 : a0 = 0) : (a1 ≠ 0) → False := by omega
theorem mp_o281 {a0 : Int} {a1 : Int} {a2 : Int} {a3 : Nat} {a4 : Int} (h0 : a0 ≤ a1) (h1 : a2 = ((a3 : Nat) : Int)) (h2 : a4 ≤ a2) (h3 : a1 ≤ a4) : a0 ≤ a2 := by omega
theorem mp_o282 {a0 : Int} (h0 : 0 ≤ a0) (h1 : a0 ≤ 5) : ((0 ≤ a0 ∧ a0 < ((6 : Nat) : Int))) := by omega
theorem mp_o283 {a0 : Int} (h0 : 0 ≤ a0) (h1 : a0 ≤ 5) : (-2147483648) ≤ (a0 + 1) := by omega
theorem mp_o284 {a0 : Int} (h0 : 0 ≤ a0) (h1 : a0 ≤ 5) : (a0 + 1) ≤ 2147483647 := by omega
theorem mp_o285 {a0 : Int} {a1 : Int} (h0 : 0 ≤ a0) (h1 : a0 ≤ 5) (h2 : a1 = (a0 + 1)) : 1 ≤ a1 := by omega
theorem mp_o286 {a0 : Int} {a1 : Int} (h0 : 0 ≤ a0) (h1 : a0 ≤ 5) (h2 : a1 = (a0 + 1)) : a1 ≤ 6 := by omega
theorem mp_o287 {a0 : Int} {a1 : Int} {a2 : Int} {a3 : Int} {a4 : Int} (h0 : a0 = 2) (h1 : a0 = a1) (h2 : a2 = 2) (h3 : a0 ≠ 2) : (((a1 ≠ 2 ∧ a2 = 1) ∨ (a1 = 2 ∧ (((a3 < 0 ∨ (100 < a3 ∨ a3 = a4))) ∧ a2 = 2)))) := by omega
theorem mp_o288 {a0 : Int} {a1 : Int} {a2 : Int} {a3 : Int} {a4 : Int} {a5 : Int} {a6 : Int} (h0 : a0 = 2) (h1 : a1 < 0) (h2 : a0 = a2) (h3 : a3 = 2) (h4 : a1 = a4) (h5 : ((a1 = a5 ∧ a5 ≤ 100000000) ∨ (a1 = 100000000 ∧ 100000000 < a5))) : (((a2 ≠ 2 ∧ a3 = 1) ∨ (a2 = 2 ∧ (((a5 < 0 ∨ (100 < a5 ∨ a5 = a6))) ∧ a3 = 2)))) := by omega
theorem mp_o289 {a0 : Int} {a1 : Int} {a2 : Int} {a3 : Int} {a4 : Int} {a5 : Int} {a6 : Int} (h0 : a0 = 2) (h1 : 100 < a1) (h2 : a0 = a2) (h3 : a3 = 2) (h4 : a1 = a4) (h5 : ((a1 = a5 ∧ a5 ≤ 100000000) ∨ (a1 = 100000000 ∧ 100000000 < a5))) : (((a2 ≠ 2 ∧ a3 = 1) ∨ (a2 = 2 ∧ (((a5 < 0 ∨ (100 < a5 ∨ a5 = a6))) ∧ a3 = 2)))) := by omega
theorem mp_o290 {a0 : Int} {a1 : Int} {a2 : Int} {a3 : Int} (h0 : a0 = 2) (h1 : a0 = a1) (h2 : a0 ≠ 2) : ((a1 = 2 ∧ (0 ≤ a2 ∧ (a2 ≤ 100 ∧ a2 ≠ a3)))) := by omega
theorem mp_o291 {a0 : Int} {a1 : Int} {a2 : Int} {a3 : Int} {a4 : Int} {a5 : Int} (h0 : a0 = 2) (h1 : 0 ≤ a1) (h2 : a1 ≤ 100) (h3 : a1 ≠ a2) (h4 : a0 = a3) (h5 : a1 = a4) (h6 : ((a1 = a5 ∧ a5 ≤ 100000000) ∨ (a1 = 100000000 ∧ 100000000 < a5))) : ((a3 = 2 ∧ (0 ≤ a5 ∧ (a5 ≤ 100 ∧ a5 ≠ a2)))) := by omega
theorem mp_o292 {a0 : Int} {a1 : Int} {a2 : Int} (h0 : 0 ≤ a0) (h1 : a0 ≤ 100) (h2 : a0 = a1) (h3 : ((a0 = a2 ∧ a2 ≤ 100000000) ∨ (a0 = 100000000 ∧ 100000000 < a2))) : a0 = a2 := by omega
theorem mp_o293 {a0 : Int} {a1 : Int} {a2 : Int} {a3 : Int} {a4 : Int} {a5 : Int} {a6 : Int} (h0 : a0 = 2) (h1 : 0 ≤ a1) (h2 : a1 ≤ 100) (h3 : a1 = a2) (h4 : a0 = a3) (h5 : a4 = 2) (h6 : a1 = a5) (h7 : ((a1 = a6 ∧ a6 ≤ 100000000) ∨ (a1 = 100000000 ∧ 100000000 < a6))) : (((a3 ≠ 2 ∧ a4 = 1) ∨ (a3 = 2 ∧ (((a6 < 0 ∨ (100 < a6 ∨ a6 = a2))) ∧ a4 = 2)))) := by omega
theorem mp_o294 {a0 : Int} {a1 : Int} {a2 : Int} {a3 : Int} {a4 : Int} (h0 : a0 = a1) (h1 : a2 = 1) (h2 : a0 ≠ 2) : (((a1 ≠ 2 ∧ a2 = 1) ∨ (a1 = 2 ∧ (((a3 < 0 ∨ (100 < a3 ∨ a3 = a4))) ∧ a2 = 2)))) := by omega
theorem mp_o295 {a0 : Int} {a1 : Int} {a2 : Int} {a3 : Int} {a4 : Int} {a5 : Int} (h0 : a0 ≠ 2) (h1 : a0 = a1) (h2 : a2 = 1) (h3 : ((a3 = a4 ∧ a4 ≤ 100000000) ∨ (a3 = 100000000 ∧ 100000000 < a4))) : (((a1 ≠ 2 ∧ a2 = 1) ∨ (a1 = 2 ∧ (((a4 < 0 ∨ (100 < a4 ∨ a4 = a5))) ∧ a2 = 2)))) := by omega
theorem mp_o296 {a0 : Int} {a1 : Int} {a2 : Int} {a3 : Int} {a4 : Int} (h0 : a0 = 2) (h1 : a0 = a1) (h2 : a2 = 2) (h3 : a0 ≠ 2) : (((a1 ≠ 2 ∧ a2 = 1) ∨ (a1 = 2 ∧ (((a3 < 1 ∨ (20 < a3 ∨ a3 = a4))) ∧ a2 = 2)))) := by omega
theorem mp_o297 {a0 : Int} {a1 : Int} {a2 : Int} {a3 : Int} {a4 : Int} {a5 : Int} {a6 : Int} (h0 : a0 = 2) (h1 : a1 < 1) (h2 : a0 = a2) (h3 : a3 = 2) (h4 : a1 = a4) (h5 : ((a1 = a5 ∧ a5 ≤ 100000000) ∨ (a1 = 100000000 ∧ 100000000 < a5))) : (((a2 ≠ 2 ∧ a3 = 1) ∨ (a2 = 2 ∧ (((a5 < 1 ∨ (20 < a5 ∨ a5 = a6))) ∧ a3 = 2)))) := by omega
theorem mp_o298 {a0 : Int} {a1 : Int} {a2 : Int} {a3 : Int} {a4 : Int} {a5 : Int} {a6 : Int} (h0 : a0 = 2) (h1 : 20 < a1) (h2 : a0 = a2) (h3 : a3 = 2) (h4 : a1 = a4) (h5 : ((a1 = a5 ∧ a5 ≤ 100000000) ∨ (a1 = 100000000 ∧ 100000000 < a5))) : (((a2 ≠ 2 ∧ a3 = 1) ∨ (a2 = 2 ∧ (((a5 < 1 ∨ (20 < a5 ∨ a5 = a6))) ∧ a3 = 2)))) := by omega
theorem mp_o299 {a0 : Int} {a1 : Int} {a2 : Int} {a3 : Int} (h0 : a0 = 2) (h1 : a0 = a1) (h2 : a0 ≠ 2) : ((a1 = 2 ∧ (1 ≤ a2 ∧ (a2 ≤ 20 ∧ a2 ≠ a3)))) := by omega
theorem mp_o300 {a0 : Int} {a1 : Int} {a2 : Int} {a3 : Int} {a4 : Int} {a5 : Int} (h0 : a0 = 2) (h1 : 1 ≤ a1) (h2 : a1 ≤ 20) (h3 : a1 ≠ a2) (h4 : a0 = a3) (h5 : a1 = a4) (h6 : ((a1 = a5 ∧ a5 ≤ 100000000) ∨ (a1 = 100000000 ∧ 100000000 < a5))) : ((a3 = 2 ∧ (1 ≤ a5 ∧ (a5 ≤ 20 ∧ a5 ≠ a2)))) := by omega
theorem mp_o301 {a0 : Int} {a1 : Int} {a2 : Int} (h0 : 1 ≤ a0) (h1 : a0 ≤ 20) (h2 : a0 = a1) (h3 : ((a0 = a2 ∧ a2 ≤ 100000000) ∨ (a0 = 100000000 ∧ 100000000 < a2))) : a0 = a2 := by omega
theorem mp_o302 {a0 : Int} {a1 : Int} {a2 : Int} {a3 : Int} {a4 : Int} {a5 : Int} {a6 : Int} (h0 : a0 = 2) (h1 : 1 ≤ a1) (h2 : a1 ≤ 20) (h3 : a1 = a2) (h4 : a0 = a3) (h5 : a4 = 2) (h6 : a1 = a5) (h7 : ((a1 = a6 ∧ a6 ≤ 100000000) ∨ (a1 = 100000000 ∧ 100000000 < a6))) : (((a3 ≠ 2 ∧ a4 = 1) ∨ (a3 = 2 ∧ (((a6 < 1 ∨ (20 < a6 ∨ a6 = a2))) ∧ a4 = 2)))) := by omega
theorem mp_o303 {a0 : Int} {a1 : Int} {a2 : Int} {a3 : Int} {a4 : Int} (h0 : a0 = a1) (h1 : a2 = 1) (h2 : a0 ≠ 2) : (((a1 ≠ 2 ∧ a2 = 1) ∨ (a1 = 2 ∧ (((a3 < 1 ∨ (20 < a3 ∨ a3 = a4))) ∧ a2 = 2)))) := by omega
theorem mp_o304 {a0 : Int} {a1 : Int} {a2 : Int} {a3 : Int} {a4 : Int} {a5 : Int} (h0 : a0 ≠ 2) (h1 : a0 = a1) (h2 : a2 = 1) (h3 : ((a3 = a4 ∧ a4 ≤ 100000000) ∨ (a3 = 100000000 ∧ 100000000 < a4))) : (((a1 ≠ 2 ∧ a2 = 1) ∨ (a1 = 2 ∧ (((a4 < 1 ∨ (20 < a4 ∨ a4 = a5))) ∧ a2 = 2)))) := by omega
theorem mp_o305 {a0 : Int} (h0 : 0 ≤ a0) (h1 : a0 ≤ 5) : (-2147483648) ≤ (a0 * 6) := by omega
theorem mp_o306 {a0 : Int} (h0 : 0 ≤ a0) (h1 : a0 ≤ 5) : (a0 * 6) ≤ 2147483647 := by omega
theorem mp_o307 {a0 : Int} {a1 : Int} {a2 : Int} (h0 : 0 ≤ a0) (h1 : a0 ≤ 5) (h2 : 0 ≤ a1) (h3 : a1 ≤ 5) (h4 : a2 = (a0 * 6)) : (-2147483648) ≤ (a2 + a1) := by omega
theorem mp_o308 {a0 : Int} {a1 : Int} {a2 : Int} (h0 : 0 ≤ a0) (h1 : a0 ≤ 5) (h2 : 0 ≤ a1) (h3 : a1 ≤ 5) (h4 : a2 = (a0 * 6)) : (a2 + a1) ≤ 2147483647 := by omega
theorem mp_o309 {a0 : Int} {a1 : Int} {a2 : Int} {a3 : Int} (h0 : 0 ≤ a0) (h1 : a0 ≤ 5) (h2 : 0 ≤ a1) (h3 : a1 ≤ 5) (h4 : a2 = (a0 * 6)) (h5 : a3 = (a2 + a1)) : ((0 ≤ a3 ∧ a3 < ((36 : Nat) : Int))) := by omega
theorem mp_o310 {a0 : Int} (h0 : 1 ≤ a0) (h1 : a0 ≤ 20) : 0 ≤ a0 := by omega
theorem mp_o311 {a0 : Int} {a1 : Int} {a2 : Int} {a3 : Int} (h0 : 0 ≤ a0) (h1 : a0 ≤ 5) (h2 : a1 = (a2 * 6)) (h3 : a3 = (a1 + a0)) : (-2147483648) ≤ (a0 * 6) := by omega
theorem mp_o312 {a0 : Int} {a1 : Int} {a2 : Int} {a3 : Int} (h0 : 0 ≤ a0) (h1 : a0 ≤ 5) (h2 : a1 = (a2 * 6)) (h3 : a3 = (a1 + a0)) : (a0 * 6) ≤ 2147483647 := by omega
theorem mp_o313 {a0 : Int} {a1 : Int} {a2 : Int} {a3 : Int} {a4 : Int} (h0 : 0 ≤ a0) (h1 : a0 ≤ 5) (h2 : 0 ≤ a1) (h3 : a1 ≤ 5) (h4 : a2 = (a0 * 6)) (h5 : a3 = (a2 + a1)) (h6 : a4 = (a1 * 6)) : (-2147483648) ≤ (a4 + a0) := by omega
theorem mp_o314 {a0 : Int} {a1 : Int} {a2 : Int} {a3 : Int} {a4 : Int} (h0 : 0 ≤ a0) (h1 : a0 ≤ 5) (h2 : 0 ≤ a1) (h3 : a1 ≤ 5) (h4 : a2 = (a0 * 6)) (h5 : a3 = (a2 + a1)) (h6 : a4 = (a1 * 6)) : (a4 + a0) ≤ 2147483647 := by omega
theorem mp_o315 {a0 : Int} {a1 : Int} {a2 : Int} {a3 : Int} {a4 : Int} {a5 : Int} (h0 : 0 ≤ a0) (h1 : a0 ≤ 5) (h2 : 0 ≤ a1) (h3 : a1 ≤ 5) (h4 : a2 = (a0 * 6)) (h5 : a3 = (a2 + a1)) (h6 : a4 = (a1 * 6)) (h7 : a5 = (a4 + a0)) : ((0 ≤ a5 ∧ a5 < ((36 : Nat) : Int))) := by omega
theorem mp_o316 {a0 : Int} {a1 : Int} {a2 : Int} {a3 : Int} (h0 : a0 = (a1 * 6)) (h1 : a2 = (a0 + a3)) : (Int.toNat a2) = (Int.toNat (((6 * a1) + a3))) := by omega
theorem mp_o317 {a0 : Int} {a1 : Int} {a2 : Int} {a3 : Int} {a4 : Int} {a5 : Int} (h0 : a0 = (a1 * 6)) (h1 : a2 = (a0 + a3)) (h2 : a4 = (a3 * 6)) (h3 : a5 = (a4 + a1)) : (Int.toNat a5) = (Int.toNat (((6 * a3) + a1))) := by omega
theorem mp_o321 : 20 ≤ 1000000 := by omega
theorem mp_o323 {a0 : Int} {a1 : Int} (h0 : a0 = (-1)) (h1 : (a1 < 1 ∨ (20 < a1 ∨ a1 = a0))) : ((a1 < 1 ∨ (20 < a1 ∨ a1 = (-1)))) := by omega
theorem mp_o324 {a0 : Int} {a1 : Int} {a2 : Int} {a3 : Int} {a4 : Int} {a5 : Int} {a6 : Int} {a7 : Int} {a8 : Int} (h0 : 0 ≤ a0) (h1 : a0 ≤ 6) (h2 : 0 ≤ a1) (h3 : a1 ≤ 100000000) (h4 : a2 = (a0 - 1)) (h5 : 0 ≤ a3) (h6 : a3 ≤ 100000000) (h7 : (a4 = 2 ∧ (0 ≤ a5 ∧ (a5 ≤ a2 ∧ a5 ≠ a6)))) (h8 : a1 = a5) (h9 : a7 = (a0 - 1)) (h10 : a3 ≤ a7) (h11 : a3 = a8) : a3 ≤ 5 := by omega
theorem mp_o326 {a0 : Int} {a1 : Int} {a2 : Int} (h0 : (a0 = 2 ∧ (1 ≤ a1 ∧ (a1 ≤ 20 ∧ a1 ≠ a2)))) : a0 = 2 := by omega
theorem mp_o327 {a0 : Int} {a1 : Int} {a2 : Int} (h0 : (a0 = 2 ∧ (1 ≤ a1 ∧ (a1 ≤ 20 ∧ a1 ≠ a2)))) : ((1 ≤ a1 ∧ (a1 ≤ 20 ∧ a1 ≠ (-1)))) := by omega
theorem mp_o328 {a0 : Int} {a1 : Nat} {a2 : Int} {a3 : Int} {a4 : Nat} {a5 : Int} {a6 : Nat} {a7 : Int} {a8 : Nat} {a9 : Int} {a10 : Nat} {a11 : Int} (h0 : a0 = ((a1 : Nat) : Int)) (h1 : a2 ≤ a0) (h2 : a3 = ((a4 : Nat) : Int)) (h3 : a0 ≤ a3) (h4 : a5 = ((a6 : Nat) : Int)) (h5 : a3 ≤ a5) (h6 : a7 = ((a8 : Nat) : Int)) (h7 : a5 ≤ a7) (h8 : a9 = ((a10 : Nat) : Int)) (h9 : a7 ≤ a9) (h10 : a11 ≤ a2) : a11 ≤ a9 := by omega
theorem mp_o329 {a0 : Int} {a1 : Int} {a2 : Int} {a3 : Int} {a4 : Int} (h0 : a0 = 2) (h1 : a0 = a1) (h2 : a2 = 2) (h3 : a0 ≠ 2) : (((a1 ≠ 2 ∧ a2 = 1) ∨ (a1 = 2 ∧ (((a3 < 1 ∨ (6 < a3 ∨ a3 = a4))) ∧ a2 = 2)))) := by omega
theorem mp_o330 {a0 : Int} {a1 : Int} {a2 : Int} {a3 : Int} {a4 : Int} {a5 : Int} {a6 : Int} (h0 : a0 = 2) (h1 : a1 < 1) (h2 : a0 = a2) (h3 : a3 = 2) (h4 : a1 = a4) (h5 : ((a1 = a5 ∧ a5 ≤ 100000000) ∨ (a1 = 100000000 ∧ 100000000 < a5))) : (((a2 ≠ 2 ∧ a3 = 1) ∨ (a2 = 2 ∧ (((a5 < 1 ∨ (6 < a5 ∨ a5 = a6))) ∧ a3 = 2)))) := by omega
theorem mp_o331 {a0 : Int} {a1 : Int} {a2 : Int} {a3 : Int} {a4 : Int} {a5 : Int} {a6 : Int} (h0 : a0 = 2) (h1 : 6 < a1) (h2 : a0 = a2) (h3 : a3 = 2) (h4 : a1 = a4) (h5 : ((a1 = a5 ∧ a5 ≤ 100000000) ∨ (a1 = 100000000 ∧ 100000000 < a5))) : (((a2 ≠ 2 ∧ a3 = 1) ∨ (a2 = 2 ∧ (((a5 < 1 ∨ (6 < a5 ∨ a5 = a6))) ∧ a3 = 2)))) := by omega
theorem mp_o332 {a0 : Int} {a1 : Int} {a2 : Int} {a3 : Int} (h0 : a0 = 2) (h1 : a0 = a1) (h2 : a0 ≠ 2) : ((a1 = 2 ∧ (1 ≤ a2 ∧ (a2 ≤ 6 ∧ a2 ≠ a3)))) := by omega
theorem mp_o333 {a0 : Int} {a1 : Int} {a2 : Int} {a3 : Int} {a4 : Int} {a5 : Int} (h0 : a0 = 2) (h1 : 1 ≤ a1) (h2 : a1 ≤ 6) (h3 : a1 ≠ a2) (h4 : a0 = a3) (h5 : a1 = a4) (h6 : ((a1 = a5 ∧ a5 ≤ 100000000) ∨ (a1 = 100000000 ∧ 100000000 < a5))) : ((a3 = 2 ∧ (1 ≤ a5 ∧ (a5 ≤ 6 ∧ a5 ≠ a2)))) := by omega
theorem mp_o334 {a0 : Int} {a1 : Int} {a2 : Int} (h0 : 1 ≤ a0) (h1 : a0 ≤ 6) (h2 : a0 = a1) (h3 : ((a0 = a2 ∧ a2 ≤ 100000000) ∨ (a0 = 100000000 ∧ 100000000 < a2))) : a0 = a2 := by omega
theorem mp_o335 {a0 : Int} {a1 : Int} {a2 : Int} {a3 : Int} {a4 : Int} {a5 : Int} {a6 : Int} (h0 : a0 = 2) (h1 : 1 ≤ a1) (h2 : a1 ≤ 6) (h3 : a1 = a2) (h4 : a0 = a3) (h5 : a4 = 2) (h6 : a1 = a5) (h7 : ((a1 = a6 ∧ a6 ≤ 100000000) ∨ (a1 = 100000000 ∧ 100000000 < a6))) : (((a3 ≠ 2 ∧ a4 = 1) ∨ (a3 = 2 ∧ (((a6 < 1 ∨ (6 < a6 ∨ a6 = a2))) ∧ a4 = 2)))) := by omega
theorem mp_o336 {a0 : Int} {a1 : Int} {a2 : Int} {a3 : Int} {a4 : Int} (h0 : a0 = a1) (h1 : a2 = 1) (h2 : a0 ≠ 2) : (((a1 ≠ 2 ∧ a2 = 1) ∨ (a1 = 2 ∧ (((a3 < 1 ∨ (6 < a3 ∨ a3 = a4))) ∧ a2 = 2)))) := by omega
theorem mp_o337 {a0 : Int} {a1 : Int} {a2 : Int} {a3 : Int} {a4 : Int} {a5 : Int} (h0 : a0 ≠ 2) (h1 : a0 = a1) (h2 : a2 = 1) (h3 : ((a3 = a4 ∧ a4 ≤ 100000000) ∨ (a3 = 100000000 ∧ 100000000 < a4))) : (((a1 ≠ 2 ∧ a2 = 1) ∨ (a1 = 2 ∧ (((a4 < 1 ∨ (6 < a4 ∨ a4 = a5))) ∧ a2 = 2)))) := by omega
theorem mp_o338 : 6 ≤ 1000000 := by omega
theorem mp_o339 {a0 : Int} {a1 : Int} (h0 : a0 = (-1)) (h1 : (a1 < 1 ∨ (6 < a1 ∨ a1 = a0))) : ((a1 < 1 ∨ (6 < a1 ∨ a1 = (-1)))) := by omega
theorem mp_o340 {a0 : Int} {a1 : Int} {a2 : Int} (h0 : (a0 = 2 ∧ (1 ≤ a1 ∧ (a1 ≤ 6 ∧ a1 ≠ a2)))) : a0 = 2 := by omega
theorem mp_o341 {a0 : Int} {a1 : Int} {a2 : Int} (h0 : (a0 = 2 ∧ (1 ≤ a1 ∧ (a1 ≤ 6 ∧ a1 ≠ a2)))) : ((1 ≤ a1 ∧ (a1 ≤ 6 ∧ a1 ≠ (-1)))) := by omega
theorem mp_o342 {a0 : Int} {a1 : Int} (h0 : a0 = a1) : a1 = a0 := by omega
theorem mp_o343 {a0 : Int} {a1 : Nat} {a2 : Int} {a3 : Int} {a4 : Nat} {a5 : Int} {a6 : Nat} {a7 : Int} {a8 : Nat} {a9 : Int} (h0 : a0 = ((a1 : Nat) : Int)) (h1 : a2 ≤ a0) (h2 : a3 = ((a4 : Nat) : Int)) (h3 : a0 ≤ a3) (h4 : a5 = ((a6 : Nat) : Int)) (h5 : a3 ≤ a5) (h6 : a7 = ((a8 : Nat) : Int)) (h7 : a5 ≤ a7) (h8 : a9 ≤ a2) : a9 ≤ a7 := by omega
theorem mp_o344 {a0 : Int} {a1 : Int} {a2 : Nat} {a3 : Int} (h0 : 1 ≤ a0) (h1 : a0 ≤ 2) (h2 : (a1 = a0 ∧ ((a2 : Nat) : Int) = a3)) : a0 ≤ 3 := by omega
theorem mp_o345 {a0 : Int} {a1 : Int} {a2 : Int} {a3 : Int} (h0 : 0 ≤ a0) (h1 : a0 ≤ 10) (h2 : a0 < 10) (h3 : (a1 = 0 ∧ (a2 = (-1) ∧ a3 = (a0 + 1)))) : (-2147483648) ≤ (a3 - 1) := by omega
theorem mp_o346 {a0 : Int} {a1 : Int} {a2 : Int} {a3 : Int} (h0 : 0 ≤ a0) (h1 : a0 ≤ 10) (h2 : a0 < 10) (h3 : (a1 = 0 ∧ (a2 = (-1) ∧ a3 = (a0 + 1)))) : (a3 - 1) ≤ 2147483647 := by omega
theorem mp_o347 {a0 : Int} {a1 : Int} {a2 : Int} {a3 : Int} {a4 : Int} (h0 : 0 ≤ a0) (h1 : a0 ≤ 10) (h2 : a0 < 10) (h3 : (a1 = 0 ∧ (a2 = (-1) ∧ a3 = (a0 + 1)))) (h4 : a4 = (a3 - 1)) : 0 ≤ a4 := by omega
theorem mp_o348 {a0 : Int} {a1 : Int} {a2 : Int} {a3 : Int} {a4 : Int} (h0 : 0 ≤ a0) (h1 : a0 ≤ 10) (h2 : a0 < 10) (h3 : (a1 = 0 ∧ (a2 = (-1) ∧ a3 = (a0 + 1)))) (h4 : a4 = (a3 - 1)) : a4 ≤ 9 := by omega
theorem mp_o349 {a0 : Int} {a1 : Int} {a2 : Int} {a3 : Int} {a4 : Int} (h0 : 0 ≤ a0) (h1 : a0 ≤ 10) (h2 : a0 < 10) (h3 : (a1 = 0 ∧ (a2 = (-1) ∧ a3 = (a0 + 1)))) (h4 : a4 = (a3 - 1)) : 0 ≤ a3 := by omega
theorem mp_o350 {a0 : Int} {a1 : Int} {a2 : Int} {a3 : Int} {a4 : Int} (h0 : (a0 = 0 ∧ (a1 = (-1) ∧ a2 = (a3 + 1)))) (h1 : a4 = (a2 - 1)) : a4 = a3 := by omega
theorem mp_o351 {a0 : Int} {a1 : Int} {a2 : Int} {a3 : Int} (h0 : (a0 = 0 ∧ (a1 = (-1) ∧ a2 = (a3 + 1)))) : (a0 ≠ 0) → False := by omega
theorem mp_o352 {a0 : Int} {a1 : Int} {a2 : Int} {a3 : Int} (h0 : (a0 = 0 ∧ (a1 = (-1) ∧ a2 = (a3 + 1)))) : (a1 ≠ (-1)) → False := by omega
theorem mp_o353 {a0 : Int} {a1 : Int} {a2 : Int} (h0 : a0 ≤ a1) (h1 : a1 ≤ a2) : a0 ≤ a2 := by omega
theorem mp_o354 {a0 : Int} (h0 : 1 ≤ a0) (h1 : a0 ≤ 6) : 0 ≤ a0 := by omega
theorem mp_o355 {a0 : Int} {a1 : Int} {a2 : Int} (h0 : (a0 = 1 ∧ a1 = a2)) (h1 : a2 = 5165848) : ((a0 = 1 ∧ a1 = 13987)) → False := by omega
theorem mp_o356 {a0 : Int} {a1 : Int} {a2 : Int} (h0 : (a0 = 1 ∧ a1 = a2)) (h1 : a2 = 5165848) : ((a0 = 1 ∧ a1 = 232608281)) → False := by omega
theorem mp_o357 {a0 : Int} {a1 : Int} {a2 : Int} (h0 : (a0 = 1 ∧ a1 = a2)) (h1 : a2 = 5165848) : ((a0 = 1 ∧ a1 = 6465242723)) → False := by omega
theorem mp_o358 {a0 : Int} {a1 : Int} {a2 : Int} (h0 : (a0 = 1 ∧ a1 = a2)) (h1 : a2 = 5165848) : ((a0 = 1 ∧ a1 = 380396)) → False := by omega
theorem mp_o359 {a0 : Int} {a1 : Int} (h0 : a0 = 3) (h1 : a0 = a1) : a1 = 3 := by omega
theorem mp_o360 {a0 : Int} {a1 : Nat} {a2 : Int} {a3 : Int} (h0 : a0 = ((a1 : Nat) : Int)) (h1 : a2 ≤ a0) (h2 : (a3 + 1) ≤ a2) : (a3 + 1) ≤ a0 := by omega
theorem mp_o361 {a0 : Int} {a1 : Int} (h0 : a0 ≠ 3) (h1 : a0 = a1) : (a1 = 3) → False := by omega
theorem mp_o362 {a0 : Int} {a1 : Int} (h0 : a0 = a1) (h1 : 1600 < a1) : 0 ≤ a0 := by omega
theorem mp_o363 {a0 : Int} {a1 : Int} {a2 : Int} {a3 : Int} (h0 : 0 ≤ a0) (h1 : a0 ≤ 1600) (h2 : 0 ≤ a1) (h3 : a1 ≤ 1600) (h4 : (0 ≤ a2 ∧ a2 ≤ a1)) (h5 : a3 = a2) (h6 : 1600 < a2) (h7 : a1 < a0) : False := by omega
theorem mp_o364 {a0 : Int} {a1 : Int} (h0 : 0 ≤ a0) (h1 : a1 = a0) (h2 : a0 ≤ 1600) : 0 ≤ a1 := by omega
theorem mp_o365 {a0 : Int} {a1 : Int} (h0 : 0 ≤ a0) (h1 : a1 = a0) (h2 : a0 ≤ 1600) : a1 ≤ 1600 := by omega
theorem mp_o366 {a0 : Int} {a1 : Int} (h0 : a0 = 0) (h1 : a0 = a1) : a1 = 0 := by omega
theorem mp_o367 {a0 : Int} {a1 : Int} (h0 : 0 ≤ a0) (h1 : a0 ≤ 1600) (h2 : 0 ≤ a1) (h3 : a1 ≤ 1600) : ((0 ≤ a1 ∧ 0 ≤ a0)) := by omega
theorem mp_o368 {a0 : Int} (h0 : a0 = 0) (h1 : ¬ (a0 = 0)) : False := by omega
theorem mp_o369 {a0 : Int} {a1 : Int} (h0 : a0 ≠ 0) (h1 : a0 = a1) : (a1 = 0) → False := by omega
theorem mp_o370 {a0 : Int} {a1 : Int} {a2 : Nat} {a3 : Int} (h0 : 1 ≤ a0) (h1 : a0 ≤ 3) (h2 : (a1 = a0 ∧ ((a2 : Nat) : Int) = a3)) : (a0 = 0) → False := by omega
theorem mp_o371 {a0 : Int} {a1 : Int} (h0 : 0 ≤ a0) (h1 : a1 = a0) (h2 : a0 ≤ 1600) : (-2147483648) ≤ (a1 + 1) := by omega
theorem mp_o372 {a0 : Int} {a1 : Int} (h0 : 0 ≤ a0) (h1 : a1 = a0) (h2 : a0 ≤ 1600) : (a1 + 1) ≤ 2147483647 := by omega
theorem mp_o373 {a0 : Int} {a1 : Int} {a2 : Int} (h0 : 0 ≤ a0) (h1 : a1 = a0) (h2 : a0 ≤ 1600) (h3 : a2 = (a1 + 1)) : (-2147483648) ≤ (a0 + 1) := by omega
theorem mp_o374 {a0 : Int} {a1 : Int} {a2 : Int} (h0 : 0 ≤ a0) (h1 : a1 = a0) (h2 : a0 ≤ 1600) (h3 : a2 = (a1 + 1)) : (a0 + 1) ≤ 2147483647 := by omega
theorem mp_o375 {a0 : Int} {a1 : Int} {a2 : Nat} {a3 : Int} {a4 : Int} (h0 : 0 ≤ a0) (h1 : a1 = a0) (h2 : ((-a0) + 1601) ≤ ((a2 : Nat) : Int)) (h3 : a0 ≤ 1600) (h4 : a3 = (a1 + 1)) (h5 : a4 = (a0 + 1)) : (a2 - 1) < a2 := by omega
theorem mp_o376 {a0 : Int} {a1 : Int} {a2 : Int} {a3 : Int} (h0 : 0 ≤ a0) (h1 : a1 = a0) (h2 : a0 ≤ 1600) (h3 : a2 = (a1 + 1)) (h4 : a3 = (a0 + 1)) : 0 ≤ a3 := by omega
theorem mp_o377 {a0 : Int} {a1 : Int} (h0 : a0 = 1) (h1 : a0 = a1) : (a1 = 0) → False := by omega
theorem mp_o378 {a0 : Int} {a1 : Int} {a2 : Int} {a3 : Int} {a4 : Int} {a5 : Nat} {a6 : Int} {a7 : Int} (h0 : 0 ≤ a0) (h1 : (0 ≤ a0 ∧ a0 ≤ a1)) (h2 : a2 = a0) (h3 : a0 ≤ 1600) (h4 : a1 ≤ a3) (h5 : a4 = ((a5 : Nat) : Int)) (h6 : (a3 + 1) ≤ a4) (h7 : a6 = (a2 + 1)) (h8 : a7 = (a0 + 1)) : ((0 ≤ a7 ∧ a7 ≤ a4)) := by omega
theorem mp_o379 {a0 : Int} {a1 : Int} {a2 : Int} {a3 : Int} (h0 : a0 = a1) (h1 : a2 = (a0 + 1)) (h2 : a3 = (a1 + 1)) : a2 = a3 := by omega
theorem mp_o380 {a0 : Int} {a1 : Int} {a2 : Nat} {a3 : Int} {a4 : Int} (h0 : 0 ≤ a0) (h1 : a1 = a0) (h2 : ((-a0) + 1601) ≤ ((a2 : Nat) : Int)) (h3 : a0 ≤ 1600) (h4 : a3 = (a1 + 1)) (h5 : a4 = (a0 + 1)) : ((-a4) + 1601) ≤ ((((a2 - 1)) : Nat) : Int) := by omega
theorem mp_o381 {a0 : Int} {a1 : Nat} (h0 : 0 ≤ a0) (h1 : a0 ≤ 20) (h2 : 20 ≤ a0) (h3 : ((a1 : Nat) : Int) < 20) : ((a1 : Nat) : Int) < a0 := by omega
theorem mp_o382 {a0 : Int} (h0 : 0 ≤ a0) (h1 : a0 ≤ 20) (h2 : a0 < 20) : ((0 ≤ a0 ∧ a0 < ((20 : Nat) : Int))) := by omega
theorem mp_o383 {a0 : Int} (h0 : 0 ≤ a0) (h1 : a0 ≤ 20) (h2 : a0 < 20) : (-2147483648) ≤ (a0 + 1) := by omega
theorem mp_o384 {a0 : Int} (h0 : 0 ≤ a0) (h1 : a0 ≤ 20) (h2 : a0 < 20) : (a0 + 1) ≤ 2147483647 := by omega
theorem mp_o385 {a0 : Int} {a1 : Nat} {a2 : Int} (h0 : 0 ≤ a0) (h1 : a0 ≤ 20) (h2 : ((-a0) + 20) ≤ ((a1 : Nat) : Int)) (h3 : a0 < 20) (h4 : a2 = (a0 + 1)) : (a1 - 1) < a1 := by omega
theorem mp_o386 {a0 : Int} {a1 : Int} (h0 : 0 ≤ a0) (h1 : a0 ≤ 20) (h2 : a0 < 20) (h3 : a1 = (a0 + 1)) : 0 ≤ a1 := by omega
theorem mp_o387 {a0 : Int} {a1 : Int} (h0 : 0 ≤ a0) (h1 : a0 ≤ 20) (h2 : a0 < 20) (h3 : a1 = (a0 + 1)) : a1 ≤ 20 := by omega
theorem mp_o388 {a0 : Int} {a1 : Int} (h0 : 0 ≤ a0) (h1 : a0 ≤ 20) (h2 : a0 < 20) (h3 : a1 = (a0 + 1)) : ((0 ≤ a0 ∧ a1 = (a0 + 1))) := by omega
theorem mp_o389 {a0 : Int} {a1 : Nat} {a2 : Int} (h0 : 0 ≤ a0) (h1 : a0 ≤ 20) (h2 : ((-a0) + 20) ≤ ((a1 : Nat) : Int)) (h3 : a0 < 20) (h4 : a2 = (a0 + 1)) : ((-a2) + 20) ≤ ((((a1 - 1)) : Nat) : Int) := by omega
theorem mp_o390 {a0 : Int} {a1 : Int} {a2 : Int} {a3 : Int} (h0 : 0 ≤ a0) (h1 : a0 ≤ 5) (h2 : 0 ≤ a1) (h3 : a1 ≤ 5) (h4 : a2 = (a0 * 6)) (h5 : a3 = (a2 + a1)) : 0 ≤ a3 := by omega
theorem mp_o391 {a0 : Int} {a1 : Int} {a2 : Int} {a3 : Int} (h0 : 0 ≤ a0) (h1 : a0 ≤ 5) (h2 : 0 ≤ a1) (h3 : a1 ≤ 5) (h4 : a2 = (a0 * 6)) (h5 : a3 = (a2 + a1)) : a3 < ((36 : Nat) : Int) := by omega
theorem mp_o392 {a0 : Int} {a1 : Int} {a2 : Int} {a3 : Int} (h0 : 0 ≤ a0) (h1 : a0 ≤ 5) (h2 : 0 ≤ a1) (h3 : a1 ≤ 5) (h4 : a2 = (a0 * 6)) (h5 : a3 = (a2 + a1)) : a3 = (((Int.toNat (((6 * a0) + a1))) : Nat) : Int) := by omega
theorem mp_o393 {a0 : Int} {a1 : Int} {a2 : Int} {a3 : Int} {a4 : Int} (h0 : 0 ≤ a0) (h1 : a0 ≤ 200) (h2 : ((a0 = 200 ∧ a1 ≤ 98) ∨ ((100 ≤ a0 ∧ a0 ≤ 109) ∨ (0 ≤ a0 ∧ (a0 ≤ 55 ∧ (a0 % 10) ≤ 5))))) (h3 : a0 ≠ a2) (h4 : a0 ≠ 200) (h5 : a0 < 100) (h6 : a3 = (a0 / 10)) (h7 : a4 = (a0 % 10)) : ((0 ≤ a3 ∧ a3 < ((6 : Nat) : Int))) := by omega
theorem mp_o394 {a0 : Int} {a1 : Int} {a2 : Int} (h0 : 0 ≤ a0) (h1 : a0 ≤ 200) (h2 : a0 < 100) (h3 : a1 = (a0 / 10)) (h4 : a2 = (a0 % 10)) : a1 = (((Int.toNat ((a0 / 10))) : Nat) : Int) := by omega
theorem mp_o395 {a0 : Int} {a1 : Int} {a2 : Int} (h0 : 0 ≤ a0) (h1 : a0 ≤ 200) (h2 : a0 < 100) (h3 : a1 = (a0 / 10)) (h4 : a2 = (a0 % 10)) : 0 ≤ a1 := by omega
theorem mp_o396 {a0 : Int} {a1 : Int} {a2 : Int} {a3 : Int} {a4 : Int} (h0 : 0 ≤ a0) (h1 : a0 ≤ 200) (h2 : ((a0 = 200 ∧ a1 ≤ 98) ∨ ((100 ≤ a0 ∧ a0 ≤ 109) ∨ (0 ≤ a0 ∧ (a0 ≤ 55 ∧ (a0 % 10) ≤ 5))))) (h3 : a0 ≠ a2) (h4 : a0 ≠ 200) (h5 : a0 < 100) (h6 : a3 = (a0 / 10)) (h7 : a4 = (a0 % 10)) : a3 < ((6 : Nat) : Int) := by omega
theorem mp_o397 {a0 : Int} {a1 : Int} (h0 : a0 = (a1 % 10)) : 0 ≤ a0 := by omega
theorem mp_o398 {a0 : Int} {a1 : Int} {a2 : Int} {a3 : Int} (h0 : 0 ≤ a0) (h1 : a0 ≤ 200) (h2 : ((a0 = 200 ∧ a1 ≤ 98) ∨ ((100 ≤ a0 ∧ a0 ≤ 109) ∨ (0 ≤ a0 ∧ (a0 ≤ 55 ∧ (a0 % 10) ≤ 5))))) (h3 : a0 ≠ a2) (h4 : a0 ≠ 200) (h5 : a0 < 100) (h6 : a3 = (a0 % 10)) : a3 ≤ 5 := by omega
theorem mp_o399 {a0 : Int} {a1 : Int} {a2 : Int} (h0 : 0 ≤ a0) (h1 : a0 ≤ 200) (h2 : a0 < 100) (h3 : a1 = (a0 % 10)) : (((a0 = 200 ∧ a2 = (a2 + 1)) ∨ (a0 ≠ 200 ∧ a2 = a2))) := by omega
theorem mp_o400 {a0 : Int} {a1 : Int} {a2 : Int} {a3 : Int} (h0 : a0 = (a1 % 10)) (h1 : a2 = a3) : ((6 * a2) + a0) = ((6 * a3) + (a1 % 10)) := by omega
theorem mp_o401 {a0 : Int} (h0 : 0 ≤ a0) (h1 : a0 ≤ 200) (h2 : 100 ≤ a0) : (-2147483648) ≤ (a0 - 100) := by omega
theorem mp_o402 {a0 : Int} (h0 : 0 ≤ a0) (h1 : a0 ≤ 200) (h2 : 100 ≤ a0) : (a0 - 100) ≤ 2147483647 := by omega
theorem mp_o403 {a0 : Int} {a1 : Int} (h0 : 0 ≤ a0) (h1 : a0 ≤ 200) (h2 : 100 ≤ a0) (h3 : a1 = (a0 - 100)) : (-2147483648) ≤ (2 * a1) := by omega
theorem mp_o404 {a0 : Int} {a1 : Int} (h0 : 0 ≤ a0) (h1 : a0 ≤ 200) (h2 : 100 ≤ a0) (h3 : a1 = (a0 - 100)) : (2 * a1) ≤ 2147483647 := by omega
theorem mp_o405 {a0 : Int} {a1 : Int} {a2 : Int} {a3 : Int} {a4 : Int} (h0 : 0 ≤ a0) (h1 : a0 ≤ 200) (h2 : 0 ≤ a1) (h3 : a1 ≤ 99) (h4 : 100 ≤ a0) (h5 : a2 = (a0 - 100)) (h6 : a3 = (2 * a2)) (h7 : a4 = (a1 / 50)) : (-2147483648) ≤ (a3 + a4) := by omega
theorem mp_o406 {a0 : Int} {a1 : Int} {a2 : Int} {a3 : Int} {a4 : Int} (h0 : 0 ≤ a0) (h1 : a0 ≤ 200) (h2 : 0 ≤ a1) (h3 : a1 ≤ 99) (h4 : 100 ≤ a0) (h5 : a2 = (a0 - 100)) (h6 : a3 = (2 * a2)) (h7 : a4 = (a1 / 50)) : (a3 + a4) ≤ 2147483647 := by omega
theorem mp_o407 {a0 : Int} {a1 : Int} {a2 : Int} {a3 : Int} {a4 : Int} {a5 : Int} {a6 : Int} (h0 : 0 ≤ a0) (h1 : a0 ≤ 200) (h2 : 0 ≤ a1) (h3 : a1 ≤ 99) (h4 : ((a0 = 200 ∧ a1 ≤ 98) ∨ ((100 ≤ a0 ∧ a0 ≤ 109) ∨ (0 ≤ a0 ∧ (a0 ≤ 55 ∧ (a0 % 10) ≤ 5))))) (h5 : a0 ≠ a2) (h6 : a0 ≠ 200) (h7 : 100 ≤ a0) (h8 : a3 = (a0 - 100)) (h9 : a4 = (2 * a3)) (h10 : a5 = (a1 / 50)) (h11 : a6 = (a4 + a5)) : ((0 ≤ a6 ∧ a6 < ((20 : Nat) : Int))) := by omega
theorem mp_o408 {a0 : Int} {a1 : Int} {a2 : Int} {a3 : Int} {a4 : Int} {a5 : Int} {a6 : Int} {a7 : Int} (h0 : 0 ≤ a0) (h1 : a0 ≤ 200) (h2 : 0 ≤ a1) (h3 : a1 ≤ 99) (h4 : ((a0 = 200 ∧ a1 ≤ 98) ∨ ((100 ≤ a0 ∧ a0 ≤ 109) ∨ (0 ≤ a0 ∧ (a0 ≤ 55 ∧ (a0 % 10) ≤ 5))))) (h5 : a0 ≠ a2) (h6 : a0 ≠ 200) (h7 : 100 ≤ a0) (h8 : a3 = (a0 - 100)) (h9 : a4 = (2 * a3)) (h10 : a5 = (a1 / 50)) (h11 : a6 = (a4 + a5)) (h12 : a7 = (a1 % 50)) : ((0 ≤ a6 ∧ a6 < ((20 : Nat) : Int))) := by omega
theorem mp_o409 {a0 : Int} {a1 : Int} {a2 : Int} (h0 : a0 ≠ 200) (h1 : a1 = (a0 - 100)) : (((a0 = 200 ∧ a2 = (a2 + 1)) ∨ (a0 ≠ 200 ∧ a2 = a2))) := by omega
theorem mp_o410 {a0 : Int} (h0 : 0 ≤ a0) (h1 : a0 ≤ 99) : (-2147483648) ≤ (a0 + 1) := by omega
theorem mp_o411 {a0 : Int} (h0 : 0 ≤ a0) (h1 : a0 ≤ 99) : (a0 + 1) ≤ 2147483647 := by omega
theorem mp_o412 {a0 : Int} {a1 : Int} (h0 : 0 ≤ a0) (h1 : a0 ≤ 99) (h2 : a1 = (a0 + 1)) : 0 ≤ a1 := by omega
theorem mp_o413 {a0 : Int} {a1 : Int} {a2 : Int} (h0 : 0 ≤ a0) (h1 : a0 ≤ 99) (h2 : ((a1 = 200 ∧ a0 ≤ 98) ∨ ((100 ≤ a1 ∧ a1 ≤ 109) ∨ (0 ≤ a1 ∧ (a1 ≤ 55 ∧ (a1 % 10) ≤ 5))))) (h3 : a1 = 200) (h4 : a2 = (a0 + 1)) : a2 ≤ 99 := by omega
theorem mp_o414 {a0 : Int} {a1 : Int} {a2 : Int} (h0 : a0 = 200) (h1 : a1 = (a2 + 1)) : (((a0 = 200 ∧ a1 = (a2 + 1)) ∨ (a0 ≠ 200 ∧ a1 = a2))) := by omega
theorem mp_o415 {a0 : Int} (h0 : a0 = 200) : 100 ≤ a0 := by omega
theorem mp_o416 {a0 : Int} {a1 : Int} (h0 : a0 ≤ a1) (h1 : a1 ≤ a0) : a0 = a1 := by omega
theorem mp_o417 {a0 : Int} {a1 : Int} {a2 : Int} {a3 : Int} (h0 : a0 = (a1 + a2)) (h1 : a2 = a3) : a0 = (a1 + a3) := by omega
theorem mp_o418 {a0 : Int} {a1 : Int} (h0 : 0 ≤ a0) (h1 : a0 ≤ 60) (h2 : a0 ≤ a1) (h3 : a1 ≤ a0) : (Int.toNat a0) = (Int.toNat a1) := by omega
theorem mp_o419 {a0 : Int} {a1 : Int} (h0 : 0 ≤ a0) (h1 : a0 ≤ 60) (h2 : 0 ≤ a1) (h3 : a1 ≤ 60) (h4 : a1 < a0) : ((0 ≤ a1 ∧ a1 < ((60 : Nat) : Int))) := by omega
theorem mp_o420 {a0 : Int} {a1 : Int} (h0 : 0 ≤ a0) (h1 : a0 ≤ 60) (h2 : 0 ≤ a1) (h3 : a1 ≤ 60) (h4 : a1 < a0) : a1 < 60 := by omega
theorem mp_o421 {a0 : Int} {a1 : Int} (h0 : a0 < a1) : (a0 + 1) ≤ a1 := by omega
theorem mp_o422 {a0 : Int} {a1 : Int} {a2 : Int} {a3 : Int} (h0 : (a0 = 200 ∨ ((100 ≤ a0 ∧ a0 ≤ 109) ∨ (0 ≤ a0 ∧ (a0 ≤ 55 ∧ (a0 % 10) ≤ 5))))) (h1 : ((a0 = 200 ∧ a1 = (a2 + 1)) ∨ (a0 ≠ 200 ∧ a1 = a2))) (h2 : a0 = a3) : 0 ≤ a0 := by omega
theorem mp_o423 {a0 : Int} {a1 : Int} {a2 : Int} {a3 : Int} (h0 : (a0 = 200 ∨ ((100 ≤ a0 ∧ a0 ≤ 109) ∨ (0 ≤ a0 ∧ (a0 ≤ 55 ∧ (a0 % 10) ≤ 5))))) (h1 : ((a0 = 200 ∧ a1 = (a2 + 1)) ∨ (a0 ≠ 200 ∧ a1 = a2))) (h2 : a0 = a3) : a0 ≤ 200 := by omega
theorem mp_o424 {a0 : Int} {a1 : Int} {a2 : Int} {a3 : Int} {a4 : Int} {a5 : Int} {a6 : Int} (h0 : (a0 + a1) ≤ 99) (h1 : 0 ≤ a2) (h2 : a2 ≤ 99) (h3 : a2 = (a0 + a3)) (h4 : (a4 = 200 ∨ ((100 ≤ a4 ∧ a4 ≤ 109) ∨ (0 ≤ a4 ∧ (a4 ≤ 55 ∧ (a4 % 10) ≤ 5))))) (h5 : ((a4 = 200 ∧ a5 = (a3 + 1)) ∨ (a4 ≠ 200 ∧ a5 = a3))) (h6 : a5 ≤ a1) (h7 : a4 = a6) : (((a4 = 200 ∧ a2 ≤ 98) ∨ ((100 ≤ a4 ∧ a4 ≤ 109) ∨ (0 ≤ a4 ∧ (a4 ≤ 55 ∧ (a4 % 10) ≤ 5))))) := by omega
theorem mp_o425 {a0 : Int} (h0 : 0 ≤ a0) (h1 : a0 ≤ 60) : (-2147483648) ≤ (a0 + 1) := by omega
theorem mp_o426 {a0 : Int} (h0 : 0 ≤ a0) (h1 : a0 ≤ 60) : (a0 + 1) ≤ 2147483647 := by omega
theorem mp_o427 {a0 : Int} {a1 : Int} (h0 : 0 ≤ a0) (h1 : a0 ≤ 60) (h2 : a1 = (a0 + 1)) : 0 ≤ a1 := by omega
theorem mp_o428 {a0 : Int} {a1 : Int} {a2 : Int} (h0 : 0 ≤ a0) (h1 : a0 ≤ 60) (h2 : 0 ≤ a1) (h3 : a1 ≤ 60) (h4 : a1 < a0) (h5 : a2 = (a1 + 1)) : a2 ≤ 60 := by omega
theorem mp_o429 {a0 : Int} {a1 : Int} {a2 : Int} {a3 : Int} {a4 : Int} {a5 : Int} {a6 : Int} (h0 : a0 = (a1 + a2)) (h1 : ((a3 = 200 ∧ a4 = (a2 + 1)) ∨ (a3 ≠ 200 ∧ a4 = a2))) (h2 : a3 = a5) (h3 : ((a3 = 200 ∧ a6 = (a0 + 1)) ∨ (a3 ≠ 200 ∧ a6 = a0))) : a6 = (a1 + a4) := by omega
theorem mp_o430 {a0 : Int} {a1 : Int} {a2 : Int} {a3 : Int} {a4 : Int} {a5 : Int} (h0 : (a0 = 200 ∨ ((100 ≤ a0 ∧ a0 ≤ 109) ∨ (0 ≤ a0 ∧ (a0 ≤ 55 ∧ (a0 % 10) ≤ 5))))) (h1 : ((a0 = 200 ∧ a1 = (a2 + 1)) ∨ (a0 ≠ 200 ∧ a1 = a2))) (h2 : a0 = a3) (h3 : ((a0 = 200 ∧ a4 = (a5 + 1)) ∨ (a0 ≠ 200 ∧ a4 = a5))) : ((a0 = a3 ∧ 0 ≤ a0)) := by omega
theorem mp_o431 {a0 : Int} {a1 : Int} (h0 : 0 ≤ a0) (h1 : a0 ≤ 60) (h2 : a1 = (a0 + 1)) : ((Int.toNat a0) + 1) = (Int.toNat a1) := by omega
theorem mp_o432 {a0 : Int} : a0 = (a0 + 0) := by omega
theorem mp_o433 {a0 : Int} {a1 : Int} (h0 : 0 ≤ a0) (h1 : a0 ≤ 6) (h2 : 0 ≤ a1) (h3 : a1 ≤ 6) (h4 : a1 < a0) : ((0 ≤ a1 ∧ a1 < ((6 : Nat) : Int))) := by omega
theorem mp_o434 {a0 : Int} {a1 : Int} (h0 : 0 ≤ a0) (h1 : a0 ≤ 6) (h2 : 0 ≤ a1) (h3 : a1 ≤ 6) (h4 : a1 < a0) : a1 < ((6 : Nat) : Int) := by omega
theorem mp_o435 {a0 : Int} (h0 : 0 ≤ a0) (h1 : a0 ≤ 6) : (-2147483648) ≤ (a0 + 1) := by omega
theorem mp_o436 {a0 : Int} (h0 : 0 ≤ a0) (h1 : a0 ≤ 6) : (a0 + 1) ≤ 2147483647 := by omega
theorem mp_o437 {a0 : Int} {a1 : Int} (h0 : 0 ≤ a0) (h1 : a0 ≤ 6) (h2 : a1 = (a0 + 1)) : 0 ≤ a1 := by omega
theorem mp_o438 {a0 : Int} {a1 : Int} {a2 : Int} (h0 : 0 ≤ a0) (h1 : a0 ≤ 6) (h2 : 0 ≤ a1) (h3 : a1 ≤ 6) (h4 : a1 < a0) (h5 : a2 = (a1 + 1)) : a2 ≤ 6 := by omega
theorem mp_o439 {a0 : Int} {a1 : Int} (h0 : 0 ≤ a0) (h1 : a0 ≤ 6) (h2 : a1 = (a0 + 1)) : ((0 ≤ a0 ∧ (a0 = a0 ∧ (a0 = a0 ∧ (a0 = a0 ∧ a1 = (a0 + 1)))))) := by omega
theorem mp_o440 {a0 : Int} (h0 : 0 ≤ a0) (h1 : a0 ≤ 99) : (a0 + 0) ≤ 99 := by omega
theorem mp_o441 : 0 = 0 := by omega
theorem mp_o442 : (-1) = (-1) := by omega
theorem mp_o443 : (-4) = (-4) := by omega
theorem mp_o444 {a0 : Int} {a1 : Int} {a2 : Int} {a3 : Int} {a4 : Int} (h0 : a0 ≠ 0) (h1 : a0 ≠ a1) (h2 : a0 ≠ 1) (h3 : a2 = (-1)) : (((a0 = 0 ∧ a2 = a3) ∨ ((a0 = 1 ∧ a2 = a4) ∨ (a0 ≠ 0 ∧ (a0 ≠ 1 ∧ a2 = (-1)))))) := by omega
theorem mp_o445 {a0 : Int} {a1 : Int} {a2 : Int} (h0 : a0 = 1) : (((a0 = 0 ∧ a1 = a2) ∨ ((a0 = 1 ∧ a1 = a1) ∨ (a0 ≠ 0 ∧ (a0 ≠ 1 ∧ a1 = (-1)))))) := by omega
theorem mp_o446 {a0 : Int} {a1 : Int} {a2 : Int} (h0 : a0 = 0) : (((a0 = 0 ∧ a1 = a1) ∨ ((a0 = 1 ∧ a1 = a2) ∨ (a0 ≠ 0 ∧ (a0 ≠ 1 ∧ a1 = (-1)))))) := by omega
theorem mp_o447 {a0 : Int} {a1 : Int} (h0 : a0 < 0) : ((a0 < 0 ∨ a1 ≤ a0)) := by omega
theorem mp_o448 {a0 : Int} {a1 : Int} (h0 : a0 ≤ a1) : ((a1 < 0 ∨ a0 ≤ a1)) := by omega
theorem mp_o449 {a0 : Int} {a1 : Int} (h0 : 0 ≤ a0) (h1 : a0 < a1) : ((0 ≤ a0 ∧ a0 < a1)) := by omega
theorem mp_o456 {a0 : Int} {a1 : Int} (h0 : 0 ≤ a0) (h1 : a0 ≤ 6) (h2 : 0 ≤ a1) (h3 : a1 < a0) : ((0 ≤ a1 ∧ a1 < ((6 : Nat) : Int))) := by omega
theorem mp_o457 {a0 : Int} {a1 : Int} (h0 : 0 ≤ a0) (h1 : a0 ≤ 6) (h2 : a1 < a0) : a1 < ((6 : Nat) : Int) := by omega
theorem mp_o458 {a0 : Int} (h0 : 0 ≤ a0) : a0 = (((Int.toNat a0) : Nat) : Int) := by omega
theorem mp_o470 {a0 : Int} {a1 : Int} (h0 : 0 ≤ a0) (h1 : a0 ≤ 10) (h2 : 0 ≤ a1) (h3 : a1 < a0) : ((0 ≤ a1 ∧ a1 < ((10 : Nat) : Int))) := by omega
theorem mp_o485 {a0 : Int} {a1 : Int} {a2 : Int} {a3 : Int} {a4 : Int} (h0 : (a0 < 0 ∨ a1 ≤ a0)) (h1 : a2 = (-2)) : (((((a0 < 0 ∨ (a1 ≤ a0 ∨ (a3 < 0 ∨ (a1 ≤ a3 ∨ a0 = a3))))) ∧ a2 = (-2)) ∨ (((0 ≤ a0 ∧ (a0 < a1 ∧ (0 ≤ a3 ∧ (a3 < a1 ∧ a0 ≠ a3))))) ∧ a2 = a4))) := by omega
theorem mp_o486 {a0 : Int} {a1 : Int} {a2 : Int} {a3 : Int} {a4 : Int} (h0 : 0 ≤ a0) (h1 : a0 < a1) (h2 : (a2 < 0 ∨ a1 ≤ a2)) (h3 : a3 = (-2)) : (((((a0 < 0 ∨ (a1 ≤ a0 ∨ (a2 < 0 ∨ (a1 ≤ a2 ∨ a0 = a2))))) ∧ a3 = (-2)) ∨ (((0 ≤ a0 ∧ (a0 < a1 ∧ (0 ≤ a2 ∧ (a2 < a1 ∧ a0 ≠ a2))))) ∧ a3 = a4))) := by omega
theorem mp_o487 {a0 : Int} {a1 : Int} (h0 : 0 ≤ a0) (h1 : a0 ≤ 6) (h2 : a1 < a0) : a1 ≤ 5 := by omega
theorem mp_o488 {a0 : Int} {a1 : Int} (h0 : 0 ≤ a0) (h1 : a0 ≤ 20) (h2 : a0 = a1) : (-2) ≤ a0 := by omega
theorem mp_o489 {a0 : Int} {a1 : Int} {a2 : Int} {a3 : Int} {a4 : Int} (h0 : 0 ≤ a0) (h1 : a0 < a1) (h2 : 0 ≤ a2) (h3 : a2 < a1) (h4 : a0 ≠ a2) (h5 : 0 ≤ a3) (h6 : a3 ≤ 20) (h7 : a3 = a4) : (((((a0 < 0 ∨ (a1 ≤ a0 ∨ (a2 < 0 ∨ (a1 ≤ a2 ∨ a0 = a2))))) ∧ a3 = (-2)) ∨ (((0 ≤ a0 ∧ (a0 < a1 ∧ (0 ≤ a2 ∧ (a2 < a1 ∧ a0 ≠ a2))))) ∧ a3 = a4))) := by omega
theorem mp_o490 {a0 : Int} {a1 : Int} {a2 : Int} {a3 : Int} {a4 : Int} (h0 : 0 ≤ a0) (h1 : a0 < a1) (h2 : a2 = a0) (h3 : a3 = (-2)) : (((((a2 < 0 ∨ (a1 ≤ a2 ∨ (a0 < 0 ∨ (a1 ≤ a0 ∨ a2 = a0))))) ∧ a3 = (-2)) ∨ (((0 ≤ a2 ∧ (a2 < a1 ∧ (0 ≤ a0 ∧ (a0 < a1 ∧ a2 ≠ a0))))) ∧ a3 = a4))) := by omega
theorem mp_o491 {a0 : Int} (h0 : a0 < 0) : ((a0 < 0 ∨ 99 < a0)) := by omega
theorem mp_o492 {a0 : Int} (h0 : 99 < a0) : ((a0 < 0 ∨ 99 < a0)) := by omega
theorem mp_o493 {a0 : Int} (h0 : 0 ≤ a0) (h1 : a0 ≤ 99) : ((0 ≤ a0 ∧ a0 ≤ 99)) := by omega
theorem mp_o494 {a0 : Int} {a1 : Int} {a2 : Int} {a3 : Int} (h0 : 0 ≤ a0) (h1 : a0 ≤ 5) (h2 : 0 ≤ a1) (h3 : a1 ≤ 99) (h4 : a2 = (2 * a0)) (h5 : a3 = (a1 / 50)) : (-2147483648) ≤ (a2 + a3) := by omega
theorem mp_o495 {a0 : Int} {a1 : Int} {a2 : Int} {a3 : Int} (h0 : 0 ≤ a0) (h1 : a0 ≤ 5) (h2 : 0 ≤ a1) (h3 : a1 ≤ 99) (h4 : a2 = (2 * a0)) (h5 : a3 = (a1 / 50)) : (a2 + a3) ≤ 2147483647 := by omega
theorem mp_o496 {a0 : Int} {a1 : Int} {a2 : Int} {a3 : Int} {a4 : Int} (h0 : 0 ≤ a0) (h1 : a0 ≤ 5) (h2 : 0 ≤ a1) (h3 : a1 ≤ 99) (h4 : a2 = (2 * a0)) (h5 : a3 = (a1 / 50)) (h6 : a4 = (a2 + a3)) : ((0 ≤ a4 ∧ a4 < ((12 : Nat) : Int))) := by omega
theorem mp_o497 {a0 : Int} {a1 : Int} {a2 : Int} {a3 : Int} {a4 : Int} (h0 : a0 = (2 * a1)) (h1 : a2 = (a3 / 50)) (h2 : a4 = (a0 + a2)) : a4 = ((2 * a1) + (a3 / 50)) := by omega
theorem mp_o498 {a0 : Int} {a1 : Int} {a2 : Int} {a3 : Int} {a4 : Int} {a5 : Int} (h0 : 0 ≤ a0) (h1 : a0 ≤ 99) (h2 : a1 = (2 * a2)) (h3 : a3 = (a0 / 50)) (h4 : a4 = (a1 + a3)) (h5 : a5 = (a0 % 50)) : ((0 ≤ a0 ∧ a0 < 100)) := by omega
theorem mp_o499 {a0 : Int} {a1 : Int} {a2 : Int} (h0 : (a0 < 0 ∨ a1 ≤ a0)) : ((a0 < 0 ∨ (a1 ≤ a0 ∨ (a2 < 0 ∨ 99 < a2)))) := by omega
theorem mp_o500 {a0 : Int} {a1 : Int} {a2 : Int} (h0 : (a0 < 0 ∨ 99 < a0)) : ((a1 < 0 ∨ (a2 ≤ a1 ∨ (a0 < 0 ∨ 99 < a0)))) := by omega
theorem mp_o501 {a0 : Int} {a1 : Int} {a2 : Int} (h0 : 0 ≤ a0) (h1 : a0 < a1) (h2 : 0 ≤ a2) (h3 : a2 ≤ 99) : ((0 ≤ a0 ∧ (a0 < a1 ∧ (0 ≤ a2 ∧ a2 ≤ 99)))) := by omega
theorem mp_o517 {a0 : Int} {a1 : Int} (h0 : 0 ≤ a0) (h1 : a0 ≤ 10) (h2 : 0 ≤ a1) (h3 : a1 ≤ 10) (h4 : a1 < a0) : a1 ≤ 9 := by omega
theorem mp_o518 {a0 : Int} {a1 : Int} (h0 : 0 ≤ a0) (h1 : a0 ≤ 10) (h2 : 0 ≤ a1) (h3 : a1 ≤ 10) (h4 : a1 < a0) : ((0 ≤ a1 ∧ a1 < ((10 : Nat) : Int))) := by omega
theorem mp_o519 {a0 : Int} (h0 : 0 ≤ a0) (h1 : a0 ≤ 10) : (-2147483648) ≤ (a0 + 1) := by omega
theorem mp_o520 {a0 : Int} (h0 : 0 ≤ a0) (h1 : a0 ≤ 10) : (a0 + 1) ≤ 2147483647 := by omega
theorem mp_o521 {a0 : Int} {a1 : Int} (h0 : 0 ≤ a0) (h1 : a0 ≤ 10) (h2 : a1 = (a0 + 1)) : 0 ≤ a1 := by omega
theorem mp_o522 {a0 : Int} {a1 : Int} {a2 : Int} (h0 : 0 ≤ a0) (h1 : a0 ≤ 10) (h2 : 0 ≤ a1) (h3 : a1 ≤ 10) (h4 : a1 < a0) (h5 : a2 = (a1 + 1)) : a2 ≤ 10 := by omega
theorem mp_o523 {a0 : Int} (h0 : (0 ≤ a0 ∧ a0 ≤ 5)) : ((0 ≤ a0 ∧ a0 < ((6 : Nat) : Int))) := by omega
theorem mp_o524 {a0 : Int} (h0 : (-1) ≤ a0) (h1 : a0 ≤ 9) (h2 : a0 ≠ (-1)) : ((0 ≤ a0 ∧ a0 < ((10 : Nat) : Int))) := by omega
theorem mp_o525 {a0 : Int} {a1 : Int} {a2 : Int} (h0 : (-1) ≤ a0) (h1 : a0 ≤ 9) (h2 : a0 ≠ (-1)) (h3 : a1 ≠ a2) (h4 : a1 ≠ (-1)) : ((0 ≤ a0 ∧ a0 < ((10 : Nat) : Int))) := by omega
theorem mp_o526 {a0 : Int} {a1 : Int} {a2 : Int} (h0 : (-1) ≤ a0) (h1 : a0 ≤ 9) (h2 : a0 ≠ (-1)) (h3 : a1 ≠ a2) (h4 : a1 ≠ (-1)) : 0 ≤ a0 := by omega
theorem mp_o527 {a0 : Int} (h0 : (-1) ≤ a0) (h1 : a0 ≤ 9) : a0 < ((10 : Nat) : Int) := by omega
theorem mp_o528 {a0 : Int} (h0 : 0 ≤ a0) (h1 : a0 ≤ 10) (h2 : a0 < 10) : (-2147483648) ≤ (a0 + 1) := by omega
theorem mp_o529 {a0 : Int} (h0 : 0 ≤ a0) (h1 : a0 ≤ 10) (h2 : a0 < 10) : (a0 + 1) ≤ 2147483647 := by omega
theorem mp_o530 {a0 : Int} {a1 : Nat} {a2 : Int} (h0 : 0 ≤ a0) (h1 : a0 ≤ 10) (h2 : ((-a0) + 10) ≤ ((a1 : Nat) : Int)) (h3 : a0 < 10) (h4 : a2 = (a0 + 1)) : (a1 - 1) < a1 := by omega
theorem mp_o531 {a0 : Int} {a1 : Int} (h0 : 0 ≤ a0) (h1 : a0 ≤ 10) (h2 : a0 < 10) (h3 : a1 = (a0 + 1)) : 0 ≤ a1 := by omega
theorem mp_o532 {a0 : Int} {a1 : Int} (h0 : 0 ≤ a0) (h1 : a0 ≤ 10) (h2 : a0 < 10) (h3 : a1 = (a0 + 1)) : a1 ≤ 10 := by omega
theorem mp_o533 {a0 : Int} {a1 : Nat} {a2 : Int} (h0 : 0 ≤ a0) (h1 : a0 ≤ 10) (h2 : ((-a0) + 10) ≤ ((a1 : Nat) : Int)) (h3 : a0 < 10) (h4 : a2 = (a0 + 1)) : ((-a2) + 10) ≤ ((((a1 - 1)) : Nat) : Int) := by omega
theorem mp_o534 {a0 : Int} (h0 : 0 ≤ a0) (h1 : a0 ≤ 9) : (-1) ≤ a0 := by omega
theorem mp_o535 {a0 : Int} {a1 : Int} (h0 : 0 ≤ a0) (h1 : a0 ≤ 10) (h2 : a1 < a0) : a1 ≤ 9 := by omega
theorem mp_o540 {a0 : Int} (h0 : 0 ≤ a0) (h1 : a0 ≤ 100) (h2 : a0 ≤ 99) : (-2147483648) ≤ (a0 + 1) := by omega
theorem mp_o541 {a0 : Int} (h0 : 0 ≤ a0) (h1 : a0 ≤ 100) (h2 : a0 ≤ 99) : (a0 + 1) ≤ 2147483647 := by omega
theorem mp_o542 {a0 : Int} {a1 : Nat} {a2 : Int} (h0 : 0 ≤ a0) (h1 : a0 ≤ 100) (h2 : ((-a0) + 100) ≤ ((a1 : Nat) : Int)) (h3 : a0 ≤ 99) (h4 : a2 = (a0 + 1)) : (a1 - 1) < a1 := by omega
theorem mp_o543 {a0 : Int} {a1 : Int} (h0 : 0 ≤ a0) (h1 : a0 ≤ 100) (h2 : a0 ≤ 99) (h3 : a1 = (a0 + 1)) : 0 ≤ a1 := by omega
theorem mp_o544 {a0 : Int} {a1 : Int} (h0 : 0 ≤ a0) (h1 : a0 ≤ 100) (h2 : a0 ≤ 99) (h3 : a1 = (a0 + 1)) : a1 ≤ 100 := by omega
theorem mp_o545 {a0 : Int} {a1 : Nat} {a2 : Int} (h0 : 0 ≤ a0) (h1 : a0 ≤ 100) (h2 : ((-a0) + 100) ≤ ((a1 : Nat) : Int)) (h3 : a0 ≤ 99) (h4 : a2 = (a0 + 1)) : ((-a2) + 100) ≤ ((((a1 - 1)) : Nat) : Int) := by omega
theorem mp_o546 {a0 : Int} (h0 : 0 ≤ a0) (h1 : a0 ≤ 100) (h2 : a0 ≤ 99) : (-2) ≤ a0 := by omega
theorem mp_o547 {a0 : Int} (h0 : 0 ≤ a0) (h1 : a0 ≤ 99) : a0 ≤ 100 := by omega
theorem mp_o548 {a0 : Int} {a1 : Int} {a2 : Int} (h0 : (a0 < 0 ∨ a1 ≤ a0)) : ((a0 < 0 ∨ (a1 ≤ a0 ∨ (a2 < 0 ∨ (a1 ≤ a2 ∨ a0 = a2))))) := by omega
theorem mp_o549 {a0 : Int} {a1 : Int} {a2 : Int} (h0 : (a0 < 0 ∨ a1 ≤ a0)) : ((a2 < 0 ∨ (a1 ≤ a2 ∨ (a0 < 0 ∨ (a1 ≤ a0 ∨ a2 = a0))))) := by omega
theorem mp_o550 {a0 : Int} {a1 : Int} {a2 : Int} (h0 : a0 = a1) : ((a0 < 0 ∨ (a2 ≤ a0 ∨ (a1 < 0 ∨ (a2 ≤ a1 ∨ a0 = a1))))) := by omega
theorem mp_o551 {a0 : Int} {a1 : Int} {a2 : Int} (h0 : 0 ≤ a0) (h1 : a0 < a1) (h2 : 0 ≤ a2) (h3 : a2 < a1) (h4 : a0 ≠ a2) : ((0 ≤ a0 ∧ (a0 < a1 ∧ (0 ≤ a2 ∧ (a2 < a1 ∧ a0 ≠ a2))))) := by omega
theorem mp_o552 {a0 : Int} {a1 : Int} (h0 : 0 ≤ a0) (h1 : a0 ≤ 10) (h2 : 0 ≤ a1) (h3 : a1 ≤ 10) (h4 : a1 < a0) : a1 < ((10 : Nat) : Int) := by omega
theorem mp_o553 {a0 : Int} (h0 : (0 ≤ a0 ∧ a0 ≤ 5)) : (-2147483648) ≤ (a0 * 6) := by omega
theorem mp_o554 {a0 : Int} (h0 : (0 ≤ a0 ∧ a0 ≤ 5)) : (a0 * 6) ≤ 2147483647 := by omega
theorem mp_o555 {a0 : Int} {a1 : Int} {a2 : Int} (h0 : (0 ≤ a0 ∧ a0 ≤ 5)) (h1 : a1 = (a0 * 6)) (h2 : (0 ≤ a2 ∧ a2 ≤ 5)) : (-2147483648) ≤ (a1 + a2) := by omega
theorem mp_o556 {a0 : Int} {a1 : Int} {a2 : Int} (h0 : (0 ≤ a0 ∧ a0 ≤ 5)) (h1 : a1 = (a0 * 6)) (h2 : (0 ≤ a2 ∧ a2 ≤ 5)) : (a1 + a2) ≤ 2147483647 := by omega
theorem mp_o557 {a0 : Int} {a1 : Int} {a2 : Int} {a3 : Int} (h0 : (0 ≤ a0 ∧ a0 ≤ 5)) (h1 : a1 = (a0 * 6)) (h2 : (0 ≤ a2 ∧ a2 ≤ 5)) (h3 : a3 = (a1 + a2)) : ((0 ≤ a3 ∧ a3 < ((36 : Nat) : Int))) := by omega
theorem mp_o558 {a0 : Int} {a1 : Int} (h0 : 0 ≤ a0) (h1 : a0 ≤ 6) (h2 : 0 ≤ a1) (h3 : a1 ≤ 6) (h4 : a1 < a0) : a1 ≤ 5 := by omega
theorem mp_o559 {a0 : Int} {a1 : Int} (h0 : 0 ≤ a0) (h1 : a0 ≤ 6) (h2 : a1 = (a0 + 1)) : (-1) ≤ a0 := by omega
theorem mp_o560 {a0 : Int} {a1 : Int} {a2 : Int} (h0 : 0 ≤ a0) (h1 : a0 ≤ 6) (h2 : 0 ≤ a1) (h3 : a1 ≤ 6) (h4 : a1 < a0) (h5 : a2 = (a1 + 1)) : a1 ≤ 5 := by omega
theorem mp_o561 {a0 : Int} (h0 : (-1) ≤ a0) (h1 : a0 ≤ 5) : (-2) ≤ a0 := by omega
theorem mp_o562 {a0 : Int} (h0 : (-1) ≤ a0) (h1 : a0 ≤ 9) : (-2) ≤ a0 := by omega
theorem mp_o563 {a0 : Int} {a1 : Int} (h0 : 0 ≤ a0) (h1 : a0 ≤ 10) (h2 : a1 = (a0 + 1)) : (-1) ≤ a0 := by omega
theorem mp_o564 {a0 : Int} {a1 : Int} {a2 : Int} (h0 : 0 ≤ a0) (h1 : a0 ≤ 10) (h2 : 0 ≤ a1) (h3 : a1 ≤ 10) (h4 : a1 < a0) (h5 : a2 = (a1 + 1)) : a1 ≤ 9 := by omega
theorem mp_o565 {a0 : Int} {a1 : Int} (h0 : 0 ≤ a0) (h1 : a0 < a1) : 0 ≤ a1 := by omega
theorem mp_o566 {a0 : Int} {a1 : Int} {a2 : Int} {a3 : Int} (h0 : (a0 < 0 ∨ a1 ≤ a0)) (h1 : a2 = (-2)) : (((((a0 < 0 ∨ a1 ≤ a0)) ∧ a2 = (-2)) ∨ (((0 ≤ a0 ∧ a0 < a1)) ∧ a2 = a3))) := by omega
theorem mp_o567 {a0 : Int} {a1 : Int} (h0 : 0 ≤ a0) (h1 : a0 ≤ 9) (h2 : a0 = a1) : (-2) ≤ a0 := by omega
theorem mp_o568 {a0 : Int} (h0 : 0 ≤ a0) (h1 : a0 ≤ 10) (h2 : 10 ≤ a0) : (Int.toNat a0) ≤ 10 := by omega
theorem mp_o569 {a0 : Int} {a1 : Int} (h0 : 0 ≤ a0) (h1 : a0 ≤ 10) (h2 : 10 ≤ a0) : ((a0 = 10 ∨ a1 = (-1))) := by omega
theorem mp_o570 {a0 : Int} {a1 : Int} (h0 : 0 ≤ a0) (h1 : a0 ≤ 9) (h2 : a0 = a1) : ((0 ≤ a0 ∧ a0 < ((10 : Nat) : Int))) := by omega
theorem mp_o571 {a0 : Int} {a1 : Int} (h0 : 0 ≤ a0) (h1 : a0 ≤ 9) (h2 : a0 = a1) : a0 < ((10 : Nat) : Int) := by omega
theorem mp_o572 {a0 : Int} (h0 : 0 ≤ a0) (h1 : a0 ≤ 10) (h2 : a0 < 10) : (Int.toNat a0) ≤ 10 := by omega
theorem mp_o573 {a0 : Int} {a1 : Int} {a2 : Int} (h0 : a0 = a1) (h1 : a0 = (-1)) : ((a2 = 10 ∨ a1 = (-1))) := by omega
theorem mp_o574 {a0 : Int} {a1 : Int} (h0 : ((-1) ≤ a0 ∧ a0 ≤ 9)) (h1 : a0 = a1) (h2 : a0 ≠ (-1)) : 0 ≤ a0 := by omega
theorem mp_o575 {a0 : Int} {a1 : Int} (h0 : 0 ≤ a0) (h1 : a0 ≤ 10) (h2 : a0 < 10) (h3 : a1 = (a0 + 1)) : ((0 ≤ a0 ∧ a1 = (a0 + 1))) := by omega
theorem mp_o576 {a0 : Int} (h0 : 0 ≤ a0) : (-2147483648) ≤ (a0 + 1) := by omega
theorem mp_o577 {a0 : Int} {a1 : Int} (h0 : 0 ≤ a0) (h1 : a0 ≤ 10) (h2 : a1 < a0) : (a1 + 1) ≤ 2147483647 := by omega
theorem mp_o578 {a0 : Int} {a1 : Int} {a2 : Int} (h0 : a0 = (a1 + 1)) (h1 : 1 ≤ a2) (h2 : a2 ≤ 10) (h3 : (a1 + 1) ≤ a2) : a1 ≤ 9 := by omega
theorem mp_o579 {a0 : Int} {a1 : Int} (h0 : 0 ≤ a0) (h1 : a0 ≤ 10) (h2 : 1 ≤ a1) (h3 : a1 ≤ 10) (h4 : a1 < a0) : ((0 ≤ a1 ∧ a1 < ((10 : Nat) : Int))) := by omega
theorem mp_o580 {a0 : Int} (h0 : 1 ≤ a0) (h1 : a0 ≤ 10) : 0 ≤ a0 := by omega
theorem mp_o581 {a0 : Int} {a1 : Int} (h0 : 0 ≤ a0) (h1 : a0 ≤ 10) (h2 : 1 ≤ a1) (h3 : a1 ≤ 10) (h4 : a1 < a0) : a1 < ((10 : Nat) : Int) := by omega
theorem mp_o582 {a0 : Int} (h0 : 1 ≤ a0) (h1 : a0 ≤ 10) : (-2147483648) ≤ (a0 + 1) := by omega
theorem mp_o583 {a0 : Int} (h0 : 1 ≤ a0) (h1 : a0 ≤ 10) : (a0 + 1) ≤ 2147483647 := by omega
theorem mp_o584 {a0 : Int} {a1 : Int} (h0 : 1 ≤ a0) (h1 : a0 ≤ 10) (h2 : a1 = (a0 + 1)) : 1 ≤ a1 := by omega
theorem mp_o585 {a0 : Int} {a1 : Int} {a2 : Int} (h0 : 0 ≤ a0) (h1 : a0 ≤ 10) (h2 : 1 ≤ a1) (h3 : a1 ≤ 10) (h4 : a1 < a0) (h5 : a2 = (a1 + 1)) : a2 ≤ 10 := by omega
theorem mp_o586 {a0 : Int} {a1 : Int} (h0 : a0 = a1) (h1 : a0 = (-1)) (h2 : a1 ≠ (-1)) : False := by omega
theorem mp_o587 {a0 : Int} {a1 : Int} {a2 : Int} {a3 : Int} (h0 : 0 ≤ a0) (h1 : a1 = (a0 + 1)) (h2 : (a0 + 1) ≤ a2) (h3 : a3 = (a2 + 1)) : ((0 ≤ a0 ∧ ((a0 + 1) ≤ a2 ∧ a3 = (a2 + 1)))) := by omega
theorem mp_o588 {a0 : Int} {a1 : Int} {a2 : Int} {a3 : Int} (h0 : a0 = (a1 + 1)) (h1 : (a1 + 1) ≤ a2) (h2 : a3 = (a2 + 1)) : (a1 + 1) ≤ a3 := by omega
theorem mp_o589 {a0 : Int} {a1 : Int} (h0 : a0 = 0) (h1 : a1 = 0) : a0 = a1 := by omega
theorem mp_o590 {a0 : Int} {a1 : Int} (h0 : 0 ≤ a0) (h1 : a0 ≤ 10) (h2 : 1 ≤ a1) (h3 : a1 ≤ 10) (h4 : a1 < a0) : a1 ≤ 9 := by omega
theorem mp_o591 {a0 : Int} (h0 : (1 ≤ a0 ∧ a0 ≤ 512)) : 0 ≤ a0 := by omega
theorem mp_o592 {a0 : Int} (h0 : (1 ≤ a0 ∧ a0 ≤ 512)) : a0 ≤ 1023 := by omega
theorem mp_o593 {a0 : Int} (h0 : (0 ≤ a0 ∧ a0 ≤ 1023)) : 0 ≤ a0 := by omega
theorem mp_o594 {a0 : Int} (h0 : (0 ≤ a0 ∧ a0 ≤ 1023)) : a0 ≤ 1023 := by omega
theorem mp_o595 {a0 : Int} {a1 : Int} {a2 : Int} (h0 : a0 = a1) (h1 : a0 ≠ (-1)) (h2 : a2 ≠ 0) (h3 : a2 ≠ 0) : (a1 = (-1)) → False := by omega
theorem mp_o596 {a0 : Int} {a1 : Int} (h0 : a0 ≠ 0) (h1 : a1 = 0) : (a0 = a1) → False := by omega
theorem mp_o597 {a0 : Int} {a1 : Int} (h0 : 0 ≤ a0) (h1 : a1 = (a0 + 1)) : 1 ≤ a1 := by omega
theorem mp_o598 {a0 : Int} {a1 : Int} {a2 : Int} (h0 : 0 ≤ a0) (h1 : a0 ≤ 10) (h2 : a1 < a0) (h3 : a2 = (a1 + 1)) : a2 ≤ 10 := by omega
theorem mp_o599 {a0 : Int} {a1 : Int} (h0 : a0 = (a1 + 1)) : (Int.toNat (((a0 - a1) - 1))) = 0 := by omega
theorem mp_o600 {a0 : Int} {a1 : Int} (h0 : a0 = (a1 + 1)) : (a1 + 1) ≤ a0 := by omega
theorem mp_o601 {a0 : Int} (h0 : 0 ≤ a0) (h1 : a0 ≤ 99) : (-2) ≤ a0 := by omega
theorem mp_o602 {a0 : Int} {a1 : Int} (h0 : 0 ≤ a0) (h1 : a0 ≤ 99) (h2 : a1 ≠ 0) : (((a1 = 0 ∧ a0 = (-2)) ∨ (a1 ≠ 0 ∧ a0 = a0))) := by omega
theorem mp_o603 {a0 : Int} {a1 : Int} {a2 : Int} (h0 : 0 ≤ a0) (h1 : a0 ≤ 99) (h2 : a1 = 0) (h3 : a2 = (-2)) : (((a1 = 0 ∧ a2 = (-2)) ∨ (a1 ≠ 0 ∧ a2 = a0))) := by omega
theorem mp_o604 {a0 : Int} {a1 : Int} (h0 : (0 ≤ a0 ∧ a0 ≤ 5)) (h1 : a0 = a1) : (-2) ≤ a0 := by omega
theorem mp_o605 {a0 : Int} {a1 : Int} (h0 : 0 ≤ a0) (h1 : a0 < a1) : (((Int.toNat a0) : Nat) : Int) < a1 := by omega
theorem mp_o606 {a0 : Int} {a1 : Int} (h0 : 0 ≤ a0) (h1 : a0 ≤ 20) (h2 : a0 = a1) : (-1) ≤ a0 := by omega
theorem mp_o607 {a0 : Int} {a1 : Int} {a2 : Int} {a3 : Int} {a4 : Int} (h0 : a0 = a1) (h1 : a0 = a2) (h2 : a1 ≠ a2) (h3 : a3 ≠ a4) : False := by omega
theorem mp_o608 {a0 : Int} (h0 : 0 ≤ a0) (h1 : a0 ≤ 5) : a0 < ((6 : Nat) : Int) := by omega
theorem mp_o609 {a0 : Int} {a1 : Int} {a2 : Int} (h0 : a0 = a1) (h1 : a2 = a0) (h2 : a2 ≠ a1) : False := by omega
theorem mp_o610 {a0 : Int} {a1 : Int} {a2 : Int} {a3 : Int} {a4 : Int} (h0 : a0 = a1) (h1 : a2 ≠ a0) (h2 : a3 ≠ a4) (h3 : a3 ≠ (-1)) (h4 : (a1 = a2 ∧ a3 = 0)) : False := by omega
theorem mp_o611 {a0 : Int} (h0 : 0 ≤ a0) (h1 : a0 ≤ 60) (h2 : a0 < 60) : ((0 ≤ a0 ∧ a0 < ((60 : Nat) : Int))) := by omega
theorem mp_o612 {a0 : Int} {a1 : Int} (h0 : 0 ≤ a0) (h1 : a0 ≤ 200) (h2 : ((a0 = 200 ∧ a1 ≤ 98) ∨ ((100 ≤ a0 ∧ a0 ≤ 109) ∨ (0 ≤ a0 ∧ (a0 ≤ 55 ∧ (a0 % 10) ≤ 5))))) : ((a0 = 200 ∨ ((100 ≤ a0 ∧ a0 ≤ 109) ∨ (0 ≤ a0 ∧ (a0 ≤ 55 ∧ (a0 % 10) ≤ 5))))) := by omega
theorem mp_o613 {a0 : Int} (h0 : 0 ≤ a0) (h1 : a0 ≤ 60) (h2 : a0 < 60) : (-2147483648) ≤ (a0 + 1) := by omega
theorem mp_o614 {a0 : Int} (h0 : 0 ≤ a0) (h1 : a0 ≤ 60) (h2 : a0 < 60) : (a0 + 1) ≤ 2147483647 := by omega
theorem mp_o615 {a0 : Int} {a1 : Int} (h0 : 0 ≤ a0) (h1 : a0 ≤ 60) (h2 : a0 < 60) (h3 : a1 = (a0 + 1)) : 0 ≤ a1 := by omega
theorem mp_o616 {a0 : Int} {a1 : Int} (h0 : 0 ≤ a0) (h1 : a0 ≤ 60) (h2 : a0 < 60) (h3 : a1 = (a0 + 1)) : a1 ≤ 60 := by omega
theorem mp_o617 {a0 : Int} {a1 : Int} (h0 : 0 ≤ a0) (h1 : a0 ≤ 60) (h2 : a0 < 60) (h3 : a1 = (a0 + 1)) : 1 ≤ a1 := by omega
theorem mp_o618 {a0 : Int} {a1 : Int} {a2 : Int} {a3 : Int} {a4 : Int} {a5 : Int} (h0 : 0 ≤ a0) (h1 : a0 ≤ 200) (h2 : a1 = (a2 + a3)) (h3 : ((a0 = 200 ∧ a4 = (a3 + 1)) ∨ (a0 ≠ 200 ∧ a4 = a3))) (h4 : ((a0 = 200 ∧ a5 = (a1 + 1)) ∨ (a0 ≠ 200 ∧ a5 = a1))) : a5 = (a2 + a4) := by omega
theorem mp_o619 {a0 : Int} {a1 : Int} (h0 : 0 ≤ a0) (h1 : a0 ≤ 60) (h2 : a0 < 60) (h3 : a1 = (a0 + 1)) : a0 ≤ 59 := by omega
theorem mp_o620 {a0 : Int} {a1 : Int} {a2 : Int} {a3 : Int} (h0 : (a0 < 0 ∨ a1 ≤ a0)) : ((a0 < 0 ∨ (a1 ≤ a0 ∨ (a2 < 0 ∨ a3 ≤ a2)))) := by omega
theorem mp_o621 {a0 : Int} {a1 : Int} {a2 : Int} {a3 : Int} (h0 : (a0 < 0 ∨ a1 ≤ a0)) : ((a2 < 0 ∨ (a3 ≤ a2 ∨ (a0 < 0 ∨ a1 ≤ a0)))) := by omega
theorem mp_o622 {a0 : Int} {a1 : Int} {a2 : Int} {a3 : Int} (h0 : 0 ≤ a0) (h1 : a0 < a1) (h2 : 0 ≤ a2) (h3 : a2 < a3) : ((0 ≤ a0 ∧ (a0 < a1 ∧ (0 ≤ a2 ∧ a2 < a3)))) := by omega
theorem mp_o623 {a0 : Int} (h0 : 0 ≤ a0) : (-2147483648) ≤ (10 * a0) := by omega
theorem mp_o624 {a0 : Int} {a1 : Int} (h0 : 0 ≤ a0) (h1 : a0 ≤ 6) (h2 : a1 < a0) : (10 * a1) ≤ 2147483647 := by omega
theorem mp_o625 {a0 : Int} {a1 : Int} {a2 : Int} {a3 : Int} {a4 : Int} (h0 : 0 ≤ a0) (h1 : a0 ≤ 6) (h2 : 0 ≤ a1) (h3 : a1 ≤ 6) (h4 : 0 ≤ a2) (h5 : a2 < a1) (h6 : 0 ≤ a3) (h7 : a3 < a0) (h8 : a4 = (10 * a2)) : (-2147483648) ≤ (a4 + a3) := by omega
theorem mp_o626 {a0 : Int} {a1 : Int} {a2 : Int} {a3 : Int} {a4 : Int} (h0 : 0 ≤ a0) (h1 : a0 ≤ 6) (h2 : 0 ≤ a1) (h3 : a1 ≤ 6) (h4 : 0 ≤ a2) (h5 : a2 < a1) (h6 : 0 ≤ a3) (h7 : a3 < a0) (h8 : a4 = (10 * a2)) : (a4 + a3) ≤ 2147483647 := by omega
theorem mp_o627 {a0 : Int} {a1 : Int} {a2 : Int} {a3 : Int} {a4 : Int} {a5 : Int} (h0 : 0 ≤ a0) (h1 : a0 ≤ 6) (h2 : 0 ≤ a1) (h3 : a1 ≤ 6) (h4 : 0 ≤ a2) (h5 : a2 < a1) (h6 : 0 ≤ a3) (h7 : a3 < a0) (h8 : a4 = (10 * a2)) (h9 : a5 = (a4 + a3)) : 0 ≤ a5 := by omega
theorem mp_o628 {a0 : Int} {a1 : Int} {a2 : Int} {a3 : Int} {a4 : Int} {a5 : Int} (h0 : 0 ≤ a0) (h1 : a0 ≤ 6) (h2 : 0 ≤ a1) (h3 : a1 ≤ 6) (h4 : 0 ≤ a2) (h5 : a2 < a1) (h6 : 0 ≤ a3) (h7 : a3 < a0) (h8 : a4 = (10 * a2)) (h9 : a5 = (a4 + a3)) : a5 ≤ 200 := by omega
theorem mp_o629 {a0 : Int} {a1 : Int} {a2 : Int} {a3 : Int} {a4 : Int} {a5 : Int} {a6 : Int} (h0 : 0 ≤ a0) (h1 : a0 ≤ 6) (h2 : 0 ≤ a1) (h3 : a1 ≤ 6) (h4 : 0 ≤ a2) (h5 : a2 < a1) (h6 : 0 ≤ a3) (h7 : a3 < a0) (h8 : a4 = (10 * a2)) (h9 : a5 = (a4 + a3)) : (((a5 = 200 ∧ a6 ≤ 98) ∨ ((100 ≤ a5 ∧ a5 ≤ 109) ∨ (0 ≤ a5 ∧ (a5 ≤ 55 ∧ (a5 % 10) ≤ 5))))) := by omega
theorem mp_o630 {a0 : Int} {a1 : Int} {a2 : Int} {a3 : Int} {a4 : Int} {a5 : Int} (h0 : 0 ≤ a0) (h1 : a0 < a1) (h2 : 0 ≤ a2) (h3 : a2 < a3) (h4 : a4 = (10 * a0)) (h5 : a5 = (a4 + a2)) : ((0 ≤ a0 ∧ (a0 < a1 ∧ (0 ≤ a2 ∧ a2 < a3)))) := by omega
theorem mp_o631 {a0 : Int} {a1 : Int} {a2 : Int} {a3 : Int} (h0 : a0 = (10 * a1)) (h1 : a2 = (a0 + a3)) : a2 = ((10 * a1) + a3) := by omega
theorem mp_o632 {a0 : Int} {a1 : Int} (h0 : 1 ≤ a0) (h1 : a0 ≤ 60) (h2 : a0 = (a1 + 1)) : ((Int.toNat a1) + 1) = (Int.toNat a0) := by omega
theorem mp_o633 {a0 : Int} {a1 : Int} (h0 : (0 ≤ a0 ∧ a0 ≤ 5)) (h1 : a0 = a1) : ((0 ≤ a0 ∧ a0 < ((6 : Nat) : Int))) := by omega
theorem mp_o634 {a0 : Int} {a1 : Int} (h0 : (0 ≤ a0 ∧ a0 ≤ 5)) (h1 : a0 = a1) : 0 ≤ a0 := by omega
theorem mp_o635 {a0 : Int} {a1 : Int} (h0 : (0 ≤ a0 ∧ a0 ≤ 5)) (h1 : a0 = a1) : a0 < ((6 : Nat) : Int) := by omega
theorem mp_o636 {a0 : Int} {a1 : Int} {a2 : Int} (h0 : (((0 ≤ a0 ∧ a0 < a1)) ∧ (0 ≤ a2 ∧ a2 < a1))) : (((Int.toNat a0) : Nat) : Int) < a1 := by omega
theorem mp_o637 {a0 : Int} {a1 : Int} {a2 : Int} (h0 : (((0 ≤ a0 ∧ a0 < a1)) ∧ (0 ≤ a2 ∧ a2 < a1))) : (((Int.toNat a2) : Nat) : Int) < a1 := by omega
theorem mp_o638 {a0 : Int} (h0 : 0 ≤ a0) : (-2147483648) ≤ (100 + a0) := by omega
theorem mp_o639 {a0 : Int} {a1 : Int} (h0 : 0 ≤ a0) (h1 : a0 ≤ 10) (h2 : a1 < a0) : (100 + a1) ≤ 2147483647 := by omega
theorem mp_o640 {a0 : Int} {a1 : Int} (h0 : 0 ≤ a0) (h1 : a1 = (100 + a0)) : 0 ≤ a1 := by omega
theorem mp_o641 {a0 : Int} {a1 : Int} {a2 : Int} (h0 : 0 ≤ a0) (h1 : a0 ≤ 10) (h2 : a1 < a0) (h3 : a2 = (100 + a1)) : a2 ≤ 200 := by omega
theorem mp_o642 {a0 : Int} {a1 : Int} {a2 : Int} {a3 : Int} (h0 : 0 ≤ a0) (h1 : a0 ≤ 10) (h2 : 0 ≤ a1) (h3 : a1 < a0) (h4 : a2 = (100 + a1)) : (((a2 = 200 ∧ a3 ≤ 98) ∨ ((100 ≤ a2 ∧ a2 ≤ 109) ∨ (0 ≤ a2 ∧ (a2 ≤ 55 ∧ (a2 % 10) ≤ 5))))) := by omega
theorem mp_o643 {a0 : Int} {a1 : Int} {a2 : Int} (h0 : 0 ≤ a0) (h1 : a0 ≤ 10) (h2 : a1 < a0) (h3 : a2 = (100 + a1)) : a1 ≤ 9 := by omega
theorem mp_o644 {a0 : Int} {a1 : Int} {a2 : Int} (h0 : 0 ≤ a0) (h1 : a0 < a1) (h2 : a2 = (100 + a0)) : (((Int.toNat a0) : Nat) : Int) < a1 := by omega
theorem mp_o645 {a0 : Int} {a1 : Int} (h0 : 0 ≤ a0) (h1 : a0 ≤ 60) (h2 : a0 < 60) (h3 : a1 = (a0 + 1)) : ((Int.toNat a0) + 1) = (Int.toNat a1) := by omega
theorem mp_o646 {a0 : Int} {a1 : Int} {a2 : Int} {a3 : Int} (h0 : 0 ≤ a0) (h1 : a0 ≤ 99) (h2 : a0 = (a1 + a2)) (h3 : 99 ≤ a0) : ((99 ≤ (a1 + a2) ∨ 60 ≤ a3)) := by omega
theorem mp_o647 {a0 : Int} {a1 : Int} {a2 : Int} {a3 : Int} (h0 : 0 ≤ a0) (h1 : a0 ≤ 99) (h2 : a0 = (a1 + a2)) (h3 : a0 < 99) : (((200 = 200 ∧ a0 ≤ 98) ∨ ((100 ≤ a3 ∧ a3 ≤ 109) ∨ (0 ≤ a3 ∧ (a3 ≤ 55 ∧ (a3 % 10) ≤ 5))))) := by omega
theorem mp_o648 {a0 : Int} {a1 : Int} {a2 : Int} {a3 : Int} {a4 : Int} (h0 : 0 ≤ a0) (h1 : a0 ≤ 99) (h2 : a0 = (a1 + a2)) (h3 : a0 < 99) (h4 : a3 = (a1 + a4)) : (a1 + a2) ≤ 98 := by omega
theorem mp_o649 {a0 : Int} {a1 : Int} {a2 : Int} {a3 : Int} {a4 : Int} {a5 : Int} {a6 : Int} (h0 : a0 = (a1 + a2)) (h1 : a3 = (a1 + a4)) (h2 : ((a5 = 200 ∧ a3 = (a0 + 1)) ∨ (a5 ≠ 200 ∧ a3 = a0))) (h3 : a6 ≠ 0) (h4 : a5 = 200) : a3 = ((a1 + a2) + 1) := by omega
theorem mp_o650 {a0 : Int} {a1 : Int} {a2 : Int} (h0 : 0 ≤ a0) (h1 : a0 ≤ 60) (h2 : 60 ≤ a0) : ((99 ≤ (a1 + a2) ∨ 60 ≤ a0)) := by omega
theorem mp_o651 {a0 : Int} (h0 : 0 ≤ a0) (h1 : a0 ≤ 60) : (-2147483648) ≤ (a0 - 1) := by omega
theorem mp_o652 {a0 : Int} (h0 : 0 ≤ a0) (h1 : a0 ≤ 60) : (a0 - 1) ≤ 2147483647 := by omega
theorem mp_o653 {a0 : Int} {a1 : Int} (h0 : 0 ≤ a0) (h1 : a0 ≤ 60) (h2 : a0 ≠ 0) (h3 : a1 = (a0 - 1)) : 0 ≤ a1 := by omega
theorem mp_o654 {a0 : Int} {a1 : Int} (h0 : 0 ≤ a0) (h1 : a0 ≤ 60) (h2 : a1 = (a0 - 1)) : a1 ≤ 60 := by omega
theorem mp_o655 {a0 : Int} {a1 : Int} (h0 : a0 = (a1 - 1)) : a0 ≤ a1 := by omega
theorem mp_o656 {a0 : Int} {a1 : Int} (h0 : 0 ≤ a0) (h1 : a0 ≤ 60) (h2 : a1 = (a0 - 1)) : a1 ≤ 59 := by omega
theorem mp_o657 {a0 : Int} {a1 : Int} (h0 : 0 ≤ a0) (h1 : a0 ≤ 60) (h2 : a0 ≠ 0) (h3 : a1 = (a0 - 1)) : 0 < a0 := by omega
theorem mp_o658 {a0 : Int} (h0 : a0 = 0) : a0 ≤ 0 := by omega
theorem mp_o659 {a0 : Int} {a1 : Int} {a2 : Int} {a3 : Int} {a4 : Int} (h0 : 0 ≤ a0) (h1 : a0 ≤ 60) (h2 : a1 ≠ 0) (h3 : a2 < 0) (h4 : a3 = (-1)) : (((a1 = 0 ∧ a3 = (-2)) ∨ ((a1 ≠ 0 ∧ (((a2 < 0 ∨ a0 ≤ a2)) ∧ a3 = (-1))) ∨ (a1 ≠ 0 ∧ (((0 ≤ a2 ∧ a2 < a0)) ∧ a3 = a4))))) := by omega
theorem mp_o660 {a0 : Int} {a1 : Int} (h0 : 0 ≤ a0) (h1 : a0 ≤ 60) (h2 : 0 ≤ a1) (h3 : a1 < a0) : ((0 ≤ a1 ∧ a1 < ((60 : Nat) : Int))) := by omega
theorem mp_o661 {a0 : Int} {a1 : Int} (h0 : 0 ≤ a0) (h1 : a0 ≤ 60) (h2 : a1 < a0) : a1 < 60 := by omega
theorem mp_o662 {a0 : Int} {a1 : Int} {a2 : Int} {a3 : Int} (h0 : (a0 = 200 ∨ ((100 ≤ a0 ∧ a0 ≤ 109) ∨ (0 ≤ a0 ∧ (a0 ≤ 55 ∧ (a0 % 10) ≤ 5))))) (h1 : ((a0 = 200 ∧ a1 = (a2 + 1)) ∨ (a0 ≠ 200 ∧ a1 = a2))) (h2 : a0 = a3) : (-2) ≤ a0 := by omega
theorem mp_o663 {a0 : Int} {a1 : Int} {a2 : Int} {a3 : Int} {a4 : Int} {a5 : Int} {a6 : Int} (h0 : a0 ≠ 0) (h1 : 0 ≤ a1) (h2 : a1 < a2) (h3 : (a3 = 200 ∨ ((100 ≤ a3 ∧ a3 ≤ 109) ∨ (0 ≤ a3 ∧ (a3 ≤ 55 ∧ (a3 % 10) ≤ 5))))) (h4 : ((a3 = 200 ∧ a4 = (a5 + 1)) ∨ (a3 ≠ 200 ∧ a4 = a5))) (h5 : a3 = a6) : (((a0 = 0 ∧ a3 = (-2)) ∨ ((a0 ≠ 0 ∧ (((a1 < 0 ∨ a2 ≤ a1)) ∧ a3 = (-1))) ∨ (a0 ≠ 0 ∧ (((0 ≤ a1 ∧ a1 < a2)) ∧ a3 = a6))))) := by omega
theorem mp_o664 {a0 : Int} {a1 : Int} {a2 : Int} {a3 : Int} {a4 : Int} (h0 : a0 ≠ 0) (h1 : 0 ≤ a1) (h2 : a2 ≤ a1) (h3 : a3 = (-1)) : (((a0 = 0 ∧ a3 = (-2)) ∨ ((a0 ≠ 0 ∧ (((a1 < 0 ∨ a2 ≤ a1)) ∧ a3 = (-1))) ∨ (a0 ≠ 0 ∧ (((0 ≤ a1 ∧ a1 < a2)) ∧ a3 = a4))))) := by omega
theorem mp_o665 {a0 : Int} {a1 : Int} {a2 : Int} {a3 : Int} {a4 : Int} (h0 : a0 = 0) (h1 : a1 = (-2)) : (((a0 = 0 ∧ a1 = (-2)) ∨ ((a0 ≠ 0 ∧ (((a2 < 0 ∨ a3 ≤ a2)) ∧ a1 = (-1))) ∨ (a0 ≠ 0 ∧ (((0 ≤ a2 ∧ a2 < a3)) ∧ a1 = a4))))) := by omega
theorem mp_o666 {a0 : Int} (h0 : 0 ≤ a0) (h1 : a0 ≤ 1023) : (-2) ≤ a0 := by omega
theorem mp_o667 {a0 : Int} {a1 : Int} (h0 : 0 ≤ a0) (h1 : a0 ≤ 10) (h2 : 0 ≤ a1) (h3 : a1 ≤ 10) (h4 : (a1 = 0 ∨ a1 ≤ a0)) (h5 : a0 ≤ a1) : (Int.toNat a1) = (Int.toNat a0) := by omega
theorem mp_o668 {a0 : Int} {a1 : Int} {a2 : Int} (h0 : 0 ≤ a0) (h1 : a0 ≤ 10) (h2 : a0 < a1) (h3 : a2 = (a0 + 1)) : (((Int.toNat a0) : Nat) : Int) < a1 := by omega
theorem mp_o669 {a0 : Int} {a1 : Int} (h0 : 0 ≤ a0) (h1 : a0 ≤ 10) (h2 : a1 = (a0 + 1)) : ((0 ≤ a0 ∧ a1 = (a0 + 1))) := by omega
theorem mp_o670 {a0 : Int} {a1 : Int} {a2 : Int} (h0 : a0 < a1) (h1 : a2 = (a0 + 1)) : ((a2 = 0 ∨ a2 ≤ a1)) := by omega
theorem mp_o671 {a0 : Int} {a1 : Int} {a2 : Int} (h0 : a0 = 0) (h1 : a1 = (-2)) : (((a0 = 0 ∧ a1 = (-2)) ∨ (a0 ≠ 0 ∧ a1 = a2))) := by omega
theorem mp_o672 {a0 : Int} {a1 : Int} (h0 : 0 ≤ a0) (h1 : a0 ≤ 6) (h2 : 0 ≤ a1) (h3 : a1 ≤ 6) (h4 : (a1 = 0 ∨ a1 ≤ a0)) (h5 : a0 ≤ a1) : (Int.toNat a1) = (Int.toNat a0) := by omega
theorem mp_o673 {a0 : Int} {a1 : Int} (h0 : 0 ≤ a0) (h1 : a0 ≤ 6) (h2 : a1 = (a0 + 1)) : a0 = (((Int.toNat a0) : Nat) : Int) := by omega
theorem mp_o674 {a0 : Int} {a1 : Int} (h0 : 0 ≤ a0) (h1 : a0 ≤ 6) (h2 : a1 = (a0 + 1)) : ((0 ≤ a0 ∧ a1 = (a0 + 1))) := by omega
theorem mp_o675 {a0 : Int} (h0 : 0 ≤ a0) (h1 : a0 ≤ 6) : a0 ≤ 9 := by omega
theorem mp_o676 {a0 : Int} {a1 : Int} (h0 : 0 ≤ a0) (h1 : a0 ≤ 99) (h2 : 1 ≤ a1) (h3 : a1 ≤ 12) : (-2147483648) ≤ (a0 + a1) := by omega
theorem mp_o677 {a0 : Int} {a1 : Int} (h0 : 0 ≤ a0) (h1 : a0 ≤ 99) (h2 : 1 ≤ a1) (h3 : a1 ≤ 12) : (a0 + a1) ≤ 2147483647 := by omega
theorem mp_o678 {a0 : Int} {a1 : Int} {a2 : Int} (h0 : a0 = (a1 + a2)) (h1 : a0 ≤ 99) : (a1 + a2) ≤ 99 := by omega
theorem mp_o679 {a0 : Int} (h0 : 0 ≤ a0) (h1 : a0 ≤ 11) : (-2147483648) ≤ (a0 * 36) := by omega
theorem mp_o680 {a0 : Int} (h0 : 0 ≤ a0) (h1 : a0 ≤ 11) : (a0 * 36) ≤ 2147483647 := by omega
theorem mp_o681 {a0 : Int} {a1 : Int} {a2 : Int} {a3 : Int} (h0 : 0 ≤ a0) (h1 : a0 ≤ 11) (h2 : 0 ≤ a1) (h3 : a1 ≤ 5) (h4 : a2 = (a0 * 36)) (h5 : a3 = (a1 * 6)) : (-2147483648) ≤ (a2 + a3) := by omega
theorem mp_o682 {a0 : Int} {a1 : Int} {a2 : Int} {a3 : Int} (h0 : 0 ≤ a0) (h1 : a0 ≤ 11) (h2 : 0 ≤ a1) (h3 : a1 ≤ 5) (h4 : a2 = (a0 * 36)) (h5 : a3 = (a1 * 6)) : (a2 + a3) ≤ 2147483647 := by omega
theorem mp_o683 {a0 : Int} {a1 : Int} {a2 : Int} {a3 : Int} {a4 : Int} {a5 : Int} (h0 : 0 ≤ a0) (h1 : a0 ≤ 11) (h2 : 0 ≤ a1) (h3 : a1 ≤ 5) (h4 : 0 ≤ a2) (h5 : a2 ≤ 5) (h6 : a3 = (a0 * 36)) (h7 : a4 = (a1 * 6)) (h8 : a5 = (a3 + a4)) : (-2147483648) ≤ (a5 + a2) := by omega
theorem mp_o684 {a0 : Int} {a1 : Int} {a2 : Int} {a3 : Int} {a4 : Int} {a5 : Int} (h0 : 0 ≤ a0) (h1 : a0 ≤ 11) (h2 : 0 ≤ a1) (h3 : a1 ≤ 5) (h4 : 0 ≤ a2) (h5 : a2 ≤ 5) (h6 : a3 = (a0 * 36)) (h7 : a4 = (a1 * 6)) (h8 : a5 = (a3 + a4)) : (a5 + a2) ≤ 2147483647 := by omega
theorem mp_o685 {a0 : Int} {a1 : Int} {a2 : Int} {a3 : Int} {a4 : Int} {a5 : Int} {a6 : Int} (h0 : 0 ≤ a0) (h1 : a0 ≤ 11) (h2 : 0 ≤ a1) (h3 : a1 ≤ 5) (h4 : 0 ≤ a2) (h5 : a2 ≤ 5) (h6 : a3 = (a0 * 36)) (h7 : a4 = (a1 * 6)) (h8 : a5 = (a3 + a4)) (h9 : a6 = (a5 + a2)) : 0 ≤ a6 := by omega
theorem mp_o686 {a0 : Int} {a1 : Int} {a2 : Int} {a3 : Int} {a4 : Int} {a5 : Int} {a6 : Int} (h0 : 0 ≤ a0) (h1 : a0 ≤ 11) (h2 : 0 ≤ a1) (h3 : a1 ≤ 5) (h4 : 0 ≤ a2) (h5 : a2 ≤ 5) (h6 : a3 = (a0 * 36)) (h7 : a4 = (a1 * 6)) (h8 : a5 = (a3 + a4)) (h9 : a6 = (a5 + a2)) : a6 ≤ 431 := by omega
theorem mp_o687 {a0 : Int} (h0 : 0 ≤ a0) (h1 : a0 ≤ 12) : (-2147483648) ≤ (a0 + 1) := by omega
theorem mp_o688 {a0 : Int} (h0 : 0 ≤ a0) (h1 : a0 ≤ 12) : (a0 + 1) ≤ 2147483647 := by omega
theorem mp_o689 {a0 : Int} {a1 : Int} (h0 : 0 ≤ a0) (h1 : a0 ≤ 12) (h2 : a1 = (a0 + 1)) : 0 ≤ a1 := by omega
theorem mp_o690 {a0 : Int} {a1 : Int} {a2 : Int} (h0 : 0 ≤ a0) (h1 : a0 ≤ 12) (h2 : 0 ≤ a1) (h3 : a1 ≤ 12) (h4 : a1 < a0) (h5 : a2 = (a1 + 1)) : a2 ≤ 12 := by omega
theorem mp_o691 {a0 : Int} {a1 : Int} {a2 : Int} {a3 : Int} (h0 : 0 ≤ a0) (h1 : a0 ≤ 6) (h2 : a0 < a1) (h3 : 0 ≤ a2) (h4 : a2 ≤ 6) (h5 : a1 ≤ a2) (h6 : a3 = (a0 + 1)) : a3 ≤ 6 := by omega
theorem mp_o692 {a0 : Int} {a1 : Int} (h0 : 0 ≤ a0) (h1 : a0 ≤ 12) (h2 : 0 ≤ a1) (h3 : a1 ≤ 12) (h4 : a1 < a0) : a1 ≤ 11 := by omega
theorem mp_o693 {a0 : Int} {a1 : Int} {a2 : Int} (h0 : 0 ≤ a0) (h1 : a0 ≤ 99) (h2 : 0 ≤ a1) (h3 : a1 ≤ 12) (h4 : a2 = (a0 + 1)) : (-2147483648) ≤ (a2 + a1) := by omega
theorem mp_o694 {a0 : Int} {a1 : Int} {a2 : Int} {a3 : Int} (h0 : (a0 + a1) ≤ 99) (h1 : a2 < a1) (h2 : a3 = (a0 + 1)) : (a3 + a2) ≤ 2147483647 := by omega
theorem mp_o695 {a0 : Int} {a1 : Int} {a2 : Int} {a3 : Int} (h0 : 0 ≤ a0) (h1 : a0 ≤ 99) (h2 : 0 ≤ a1) (h3 : a1 ≤ 12) (h4 : a2 = (a0 + 1)) (h5 : a3 = (a2 + a1)) : 0 ≤ a3 := by omega
theorem mp_o696 {a0 : Int} {a1 : Int} {a2 : Int} {a3 : Int} {a4 : Int} (h0 : (a0 + a1) ≤ 99) (h1 : a2 < a1) (h2 : a3 = (a0 + 1)) (h3 : a4 = (a3 + a2)) : a4 ≤ 99 := by omega
theorem mp_o697 {a0 : Int} (h0 : 0 ≤ a0) (h1 : a0 ≤ 431) : ((0 ≤ a0 ∧ a0 < ((432 : Nat) : Int))) := by omega
theorem mp_o698 {a0 : Int} {a1 : Nat} (h0 : 0 ≤ a0) (h1 : a0 ≤ 78) (h2 : 72 ≤ a0) (h3 : ((a1 : Nat) : Int) < 72) : ((a1 : Nat) : Int) < a0 := by omega
theorem mp_o699 {a0 : Int} (h0 : 0 ≤ a0) (h1 : a0 ≤ 78) (h2 : a0 < 72) : ((0 ≤ a0 ∧ a0 < ((72 : Nat) : Int))) := by omega
theorem mp_o700 {a0 : Int} (h0 : 0 ≤ a0) (h1 : a0 ≤ 78) (h2 : a0 < 72) : (-2147483648) ≤ (a0 + 1) := by omega
theorem mp_o701 {a0 : Int} (h0 : 0 ≤ a0) (h1 : a0 ≤ 78) (h2 : a0 < 72) : (a0 + 1) ≤ 2147483647 := by omega
theorem mp_o702 {a0 : Int} {a1 : Nat} {a2 : Int} (h0 : 0 ≤ a0) (h1 : a0 ≤ 78) (h2 : ((-a0) + 72) ≤ ((a1 : Nat) : Int)) (h3 : a0 < 72) (h4 : a2 = (a0 + 1)) : (a1 - 1) < a1 := by omega
theorem mp_o703 {a0 : Int} {a1 : Int} (h0 : 0 ≤ a0) (h1 : a0 ≤ 78) (h2 : a0 < 72) (h3 : a1 = (a0 + 1)) : 0 ≤ a1 := by omega
theorem mp_o704 {a0 : Int} {a1 : Int} (h0 : 0 ≤ a0) (h1 : a0 ≤ 78) (h2 : a0 < 72) (h3 : a1 = (a0 + 1)) : a1 ≤ 78 := by omega
theorem mp_o705 {a0 : Int} {a1 : Int} (h0 : 0 ≤ a0) (h1 : a0 ≤ 78) (h2 : a0 < 72) (h3 : a1 = (a0 + 1)) : ((0 ≤ a0 ∧ a1 = (a0 + 1))) := by omega
theorem mp_o706 {a0 : Int} {a1 : Nat} {a2 : Int} (h0 : 0 ≤ a0) (h1 : a0 ≤ 78) (h2 : ((-a0) + 72) ≤ ((a1 : Nat) : Int)) (h3 : a0 < 72) (h4 : a2 = (a0 + 1)) : ((-a2) + 72) ≤ ((((a1 - 1)) : Nat) : Int) := by omega
theorem mp_o707 {a0 : Int} {a1 : Int} {a2 : Int} {a3 : Int} (h0 : 0 ≤ a0) (h1 : a0 ≤ 12) (h2 : 0 ≤ a1) (h3 : a1 ≤ 99) (h4 : 0 ≤ a2) (h5 : a2 ≤ 12) (h6 : a2 < a0) (h7 : a3 = (a1 + 1)) : (-2147483648) ≤ (a3 + a2) := by omega
theorem mp_o708 {a0 : Int} {a1 : Int} {a2 : Int} {a3 : Int} (h0 : 0 ≤ a0) (h1 : a0 ≤ 12) (h2 : 0 ≤ a1) (h3 : a1 ≤ 99) (h4 : 0 ≤ a2) (h5 : a2 ≤ 12) (h6 : a2 < a0) (h7 : a3 = (a1 + 1)) : (a3 + a2) ≤ 2147483647 := by omega
theorem mp_o709 {a0 : Int} {a1 : Int} {a2 : Int} (h0 : 0 ≤ a0) (h1 : a0 ≤ 12) (h2 : a1 = (a2 + a0)) : (-2147483648) ≤ (a0 * 6) := by omega
theorem mp_o710 {a0 : Int} {a1 : Int} {a2 : Int} (h0 : 0 ≤ a0) (h1 : a0 ≤ 12) (h2 : a1 = (a2 + a0)) : (a0 * 6) ≤ 2147483647 := by omega
theorem mp_o711 {a0 : Int} (h0 : (0 ≤ a0 ∧ a0 ≤ 5)) : 0 ≤ a0 := by omega
theorem mp_o712 {a0 : Int} (h0 : (0 ≤ a0 ∧ a0 ≤ 5)) : a0 < ((6 : Nat) : Int) := by omega
theorem mp_o713 {a0 : Int} {a1 : Int} {a2 : Int} {a3 : Int} {a4 : Int} {a5 : Int} (h0 : 0 ≤ a0) (h1 : a0 ≤ 12) (h2 : 0 ≤ a1) (h3 : a1 ≤ 12) (h4 : a1 < a0) (h5 : a2 = (a3 + a1)) (h6 : a4 = (a1 * 6)) (h7 : (0 ≤ a5 ∧ a5 ≤ 5)) : (-2147483648) ≤ (a4 + a5) := by omega
theorem mp_o714 {a0 : Int} {a1 : Int} {a2 : Int} {a3 : Int} {a4 : Int} {a5 : Int} (h0 : 0 ≤ a0) (h1 : a0 ≤ 12) (h2 : 0 ≤ a1) (h3 : a1 ≤ 12) (h4 : a1 < a0) (h5 : a2 = (a3 + a1)) (h6 : a4 = (a1 * 6)) (h7 : (0 ≤ a5 ∧ a5 ≤ 5)) : (a4 + a5) ≤ 2147483647 := by omega
theorem mp_o715 {a0 : Int} {a1 : Int} {a2 : Int} {a3 : Int} {a4 : Int} {a5 : Int} {a6 : Int} (h0 : 0 ≤ a0) (h1 : a0 ≤ 12) (h2 : 0 ≤ a1) (h3 : a1 ≤ 12) (h4 : a1 < a0) (h5 : a2 = (a3 + a1)) (h6 : a4 = (a1 * 6)) (h7 : (0 ≤ a5 ∧ a5 ≤ 5)) (h8 : a6 = (a4 + a5)) : ((0 ≤ a6 ∧ a6 < ((72 : Nat) : Int))) := by omega
theorem mp_o716 {a0 : Int} {a1 : Int} {a2 : Int} (h0 : 0 ≤ a0) (h1 : a0 ≤ 12) (h2 : a1 = (a2 + a0)) : (-2147483648) ≤ (a0 + 1) := by omega
theorem mp_o717 {a0 : Int} {a1 : Int} {a2 : Int} (h0 : 0 ≤ a0) (h1 : a0 ≤ 12) (h2 : a1 = (a2 + a0)) : (a0 + 1) ≤ 2147483647 := by omega
theorem mp_o718 {a0 : Int} {a1 : Int} {a2 : Nat} {a3 : Int} {a4 : Int} {a5 : Int} (h0 : (a0 - a1) ≤ ((a2 : Nat) : Int)) (h1 : a1 < a0) (h2 : a3 = (a4 + a1)) (h3 : a5 = (a1 + 1)) : (a2 - 1) < a2 := by omega
theorem mp_o719 {a0 : Int} {a1 : Int} {a2 : Int} {a3 : Int} (h0 : 0 ≤ a0) (h1 : a0 ≤ 12) (h2 : a1 = (a2 + a0)) (h3 : a3 = (a0 + 1)) : 0 ≤ a3 := by omega
theorem mp_o720 {a0 : Int} {a1 : Int} {a2 : Int} {a3 : Int} {a4 : Int} (h0 : 0 ≤ a0) (h1 : a0 ≤ 12) (h2 : 0 ≤ a1) (h3 : a1 ≤ 12) (h4 : a1 < a0) (h5 : a2 = (a3 + a1)) (h6 : a4 = (a1 + 1)) : a4 ≤ 12 := by omega
theorem mp_o721 {a0 : Int} {a1 : Int} {a2 : Nat} {a3 : Int} {a4 : Int} {a5 : Int} (h0 : (a0 - a1) ≤ ((a2 : Nat) : Int)) (h1 : a1 < a0) (h2 : a3 = (a4 + a1)) (h3 : a5 = (a1 + 1)) : (a0 - a5) ≤ ((((a2 - 1)) : Nat) : Int) := by omega
theorem mp_o722 {a0 : Int} (h0 : 0 ≤ a0) (h1 : a0 ≤ 12) : (-2147483648) ≤ (a0 - 1) := by omega
theorem mp_o723 {a0 : Int} (h0 : 0 ≤ a0) (h1 : a0 ≤ 12) : (a0 - 1) ≤ 2147483647 := by omega
theorem mp_o724 {a0 : Int} {a1 : Int} (h0 : 0 ≤ a0) (h1 : a0 ≤ 12) (h2 : a1 = (a0 - 1)) : (-2147483648) ≤ (a1 * 6) := by omega
theorem mp_o725 {a0 : Int} {a1 : Int} (h0 : 0 ≤ a0) (h1 : a0 ≤ 12) (h2 : a1 = (a0 - 1)) : (a1 * 6) ≤ 2147483647 := by omega
theorem mp_o726 {a0 : Int} {a1 : Int} {a2 : Int} {a3 : Int} {a4 : Int} {a5 : Int} (h0 : 0 ≤ a0) (h1 : a0 ≤ 6) (h2 : 0 ≤ a1) (h3 : a1 ≤ 12) (h4 : 0 ≤ a2) (h5 : a2 ≤ 12) (h6 : a2 < a1) (h7 : 0 ≤ a3) (h8 : a3 ≤ 6) (h9 : a3 < a0) (h10 : a4 = (a2 - 1)) (h11 : a5 = (a4 * 6)) : (-2147483648) ≤ (a5 + a3) := by omega
theorem mp_o727 {a0 : Int} {a1 : Int} {a2 : Int} {a3 : Int} {a4 : Int} {a5 : Int} (h0 : 0 ≤ a0) (h1 : a0 ≤ 6) (h2 : 0 ≤ a1) (h3 : a1 ≤ 12) (h4 : 0 ≤ a2) (h5 : a2 ≤ 12) (h6 : a2 < a1) (h7 : 0 ≤ a3) (h8 : a3 ≤ 6) (h9 : a3 < a0) (h10 : a4 = (a2 - 1)) (h11 : a5 = (a4 * 6)) : (a5 + a3) ≤ 2147483647 := by omega
theorem mp_o728 {a0 : Int} {a1 : Int} {a2 : Int} {a3 : Int} {a4 : Int} {a5 : Int} {a6 : Int} (h0 : 0 ≤ a0) (h1 : a0 ≤ 6) (h2 : 0 ≤ a1) (h3 : a1 ≤ 12) (h4 : 0 ≤ a2) (h5 : a2 ≤ 12) (h6 : a2 < a1) (h7 : 0 ≤ a3) (h8 : a3 ≤ 6) (h9 : a3 < a0) (h10 : a2 ≠ 0) (h11 : a4 = (a2 - 1)) (h12 : a5 = (a4 * 6)) (h13 : a6 = (a5 + a3)) : ((0 ≤ a6 ∧ a6 < ((72 : Nat) : Int))) := by omega
theorem mp_o729 {a0 : Int} {a1 : Int} {a2 : Int} {a3 : Int} (h0 : 0 ≤ a0) (h1 : a0 ≤ 6) (h2 : a1 = (a2 * 6)) (h3 : a3 = (a1 + a0)) : (-2147483648) ≤ (a0 + 1) := by omega
theorem mp_o730 {a0 : Int} {a1 : Int} {a2 : Int} {a3 : Int} (h0 : 0 ≤ a0) (h1 : a0 ≤ 6) (h2 : a1 = (a2 * 6)) (h3 : a3 = (a1 + a0)) : (a0 + 1) ≤ 2147483647 := by omega
theorem mp_o731 {a0 : Int} {a1 : Int} {a2 : Nat} {a3 : Int} {a4 : Int} {a5 : Int} {a6 : Int} (h0 : (a0 - a1) ≤ ((a2 : Nat) : Int)) (h1 : a1 < a0) (h2 : a3 = (a4 * 6)) (h3 : a5 = (a3 + a1)) (h4 : a6 = (a1 + 1)) : (a2 - 1) < a2 := by omega
theorem mp_o732 {a0 : Int} {a1 : Int} {a2 : Int} {a3 : Int} {a4 : Int} (h0 : 0 ≤ a0) (h1 : a0 ≤ 6) (h2 : a1 = (a2 * 6)) (h3 : a3 = (a1 + a0)) (h4 : a4 = (a0 + 1)) : 0 ≤ a4 := by omega
theorem mp_o733 {a0 : Int} {a1 : Int} {a2 : Int} {a3 : Int} {a4 : Int} {a5 : Int} (h0 : 0 ≤ a0) (h1 : a0 ≤ 6) (h2 : 0 ≤ a1) (h3 : a1 ≤ 6) (h4 : a1 < a0) (h5 : a2 = (a3 * 6)) (h6 : a4 = (a2 + a1)) (h7 : a5 = (a1 + 1)) : a5 ≤ 6 := by omega
theorem mp_o734 {a0 : Int} {a1 : Int} {a2 : Nat} {a3 : Int} {a4 : Int} {a5 : Int} {a6 : Int} (h0 : (a0 - a1) ≤ ((a2 : Nat) : Int)) (h1 : a1 < a0) (h2 : a3 = (a4 * 6)) (h3 : a5 = (a3 + a1)) (h4 : a6 = (a1 + 1)) : (a0 - a6) ≤ ((((a2 - 1)) : Nat) : Int) := by omega
theorem mp_o735 {a0 : Int} {a1 : Int} {a2 : Int} (h0 : 0 ≤ a0) (h1 : a0 ≤ 12) (h2 : 0 ≤ a1) (h3 : a1 ≤ 12) (h4 : a1 < a0) (h5 : a2 = (a1 - 1)) : a1 ≤ 11 := by omega
theorem mp_o736 {a0 : Int} {a1 : Int} {a2 : Int} {a3 : Int} {a4 : Int} (h0 : 0 ≤ a0) (h1 : a0 ≤ 6) (h2 : 0 ≤ a1) (h3 : a1 ≤ 6) (h4 : a1 < a0) (h5 : a2 = (a3 * 6)) (h6 : a4 = (a2 + a1)) : a1 ≤ 5 := by omega
theorem mp_o737 {a0 : Int} {a1 : Int} (h0 : 0 ≤ a0) (h1 : a0 ≤ 12) (h2 : a1 = (a0 - 1)) : (-2147483648) ≤ (a0 * 6) := by omega
theorem mp_o738 {a0 : Int} {a1 : Int} (h0 : 0 ≤ a0) (h1 : a0 ≤ 12) (h2 : a1 = (a0 - 1)) : (a0 * 6) ≤ 2147483647 := by omega
theorem mp_o739 {a0 : Int} {a1 : Int} {a2 : Int} {a3 : Int} {a4 : Int} {a5 : Int} (h0 : 0 ≤ a0) (h1 : a0 ≤ 6) (h2 : 0 ≤ a1) (h3 : a1 ≤ 12) (h4 : 0 ≤ a2) (h5 : a2 ≤ 12) (h6 : a2 < a1) (h7 : a3 = (a2 - 1)) (h8 : 0 ≤ a4) (h9 : a4 ≤ 6) (h10 : a4 < a0) (h11 : a5 = (a2 * 6)) : (-2147483648) ≤ (a5 + a4) := by omega
theorem mp_o740 {a0 : Int} {a1 : Int} {a2 : Int} {a3 : Int} {a4 : Int} {a5 : Int} (h0 : 0 ≤ a0) (h1 : a0 ≤ 6) (h2 : 0 ≤ a1) (h3 : a1 ≤ 12) (h4 : 0 ≤ a2) (h5 : a2 ≤ 12) (h6 : a2 < a1) (h7 : a3 = (a2 - 1)) (h8 : 0 ≤ a4) (h9 : a4 ≤ 6) (h10 : a4 < a0) (h11 : a5 = (a2 * 6)) : (a5 + a4) ≤ 2147483647 := by omega
theorem mp_o741 {a0 : Int} {a1 : Int} {a2 : Int} {a3 : Int} {a4 : Int} {a5 : Int} {a6 : Int} (h0 : 0 ≤ a0) (h1 : a0 ≤ 6) (h2 : 0 ≤ a1) (h3 : a1 ≤ 12) (h4 : 0 ≤ a2) (h5 : a2 ≤ 12) (h6 : a2 < a1) (h7 : a3 = (a2 - 1)) (h8 : 0 ≤ a4) (h9 : a4 ≤ 6) (h10 : a4 < a0) (h11 : a5 = (a2 * 6)) (h12 : a6 = (a5 + a4)) : ((0 ≤ a6 ∧ a6 < ((72 : Nat) : Int))) := by omega
theorem mp_o742 {a0 : Int} {a1 : Int} {a2 : Int} {a3 : Int} {a4 : Int} (h0 : a0 = (a1 - 1)) (h1 : 0 ≤ a2) (h2 : a2 ≤ 6) (h3 : a3 = (a1 * 6)) (h4 : a4 = (a3 + a2)) : (-2147483648) ≤ (a2 + 1) := by omega
theorem mp_o743 {a0 : Int} {a1 : Int} {a2 : Int} {a3 : Int} {a4 : Int} (h0 : a0 = (a1 - 1)) (h1 : 0 ≤ a2) (h2 : a2 ≤ 6) (h3 : a3 = (a1 * 6)) (h4 : a4 = (a3 + a2)) : (a2 + 1) ≤ 2147483647 := by omega
theorem mp_o744 {a0 : Int} {a1 : Int} {a2 : Int} {a3 : Int} {a4 : Nat} {a5 : Int} {a6 : Int} {a7 : Int} (h0 : a0 = (a1 - 1)) (h1 : (a2 - a3) ≤ ((a4 : Nat) : Int)) (h2 : a3 < a2) (h3 : a5 = (a1 * 6)) (h4 : a6 = (a5 + a3)) (h5 : a7 = (a3 + 1)) : (a4 - 1) < a4 := by omega
theorem mp_o745 {a0 : Int} {a1 : Int} {a2 : Int} {a3 : Int} {a4 : Int} {a5 : Int} (h0 : a0 = (a1 - 1)) (h1 : 0 ≤ a2) (h2 : a2 ≤ 6) (h3 : a3 = (a1 * 6)) (h4 : a4 = (a3 + a2)) (h5 : a5 = (a2 + 1)) : 0 ≤ a5 := by omega
theorem mp_o746 {a0 : Int} {a1 : Int} {a2 : Int} {a3 : Int} {a4 : Int} {a5 : Int} {a6 : Int} (h0 : 0 ≤ a0) (h1 : a0 ≤ 6) (h2 : a1 = (a2 - 1)) (h3 : 0 ≤ a3) (h4 : a3 ≤ 6) (h5 : a3 < a0) (h6 : a4 = (a2 * 6)) (h7 : a5 = (a4 + a3)) (h8 : a6 = (a3 + 1)) : a6 ≤ 6 := by omega
theorem mp_o747 {a0 : Int} {a1 : Int} {a2 : Int} {a3 : Int} {a4 : Nat} {a5 : Int} {a6 : Int} {a7 : Int} (h0 : a0 = (a1 - 1)) (h1 : (a2 - a3) ≤ ((a4 : Nat) : Int)) (h2 : a3 < a2) (h3 : a5 = (a1 * 6)) (h4 : a6 = (a5 + a3)) (h5 : a7 = (a3 + 1)) : (a2 - a7) ≤ ((((a4 - 1)) : Nat) : Int) := by omega
theorem mp_o748 {a0 : Int} (h0 : a0 = 0) : a0 ≤ 11 := by omega
theorem mp_o749 {a0 : Int} (h0 : a0 = 0) : (-2147483648) ≤ (a0 * 6) := by omega
theorem mp_o750 {a0 : Int} (h0 : a0 = 0) : (a0 * 6) ≤ 2147483647 := by omega
theorem mp_o751 {a0 : Int} {a1 : Int} {a2 : Int} {a3 : Int} (h0 : 0 ≤ a0) (h1 : a0 ≤ 6) (h2 : a1 = 0) (h3 : 0 ≤ a2) (h4 : a2 ≤ 6) (h5 : a2 < a0) (h6 : a3 = (a1 * 6)) : (-2147483648) ≤ (a3 + a2) := by omega
theorem mp_o752 {a0 : Int} {a1 : Int} {a2 : Int} {a3 : Int} (h0 : 0 ≤ a0) (h1 : a0 ≤ 6) (h2 : a1 = 0) (h3 : 0 ≤ a2) (h4 : a2 ≤ 6) (h5 : a2 < a0) (h6 : a3 = (a1 * 6)) : (a3 + a2) ≤ 2147483647 := by omega
theorem mp_o753 {a0 : Int} {a1 : Int} {a2 : Int} {a3 : Int} (h0 : a0 = 0) (h1 : 0 ≤ a1) (h2 : a1 ≤ 6) (h3 : a2 = (a0 * 6)) (h4 : a3 = (a2 + a1)) : ((0 ≤ a3 ∧ a3 < ((72 : Nat) : Int))) := by omega
theorem mp_o754 {a0 : Int} {a1 : Int} {a2 : Int} {a3 : Int} (h0 : a0 = 0) (h1 : 0 ≤ a1) (h2 : a1 ≤ 6) (h3 : a2 = (a0 * 6)) (h4 : a3 = (a2 + a1)) : (-2147483648) ≤ (a1 + 1) := by omega
theorem mp_o755 {a0 : Int} {a1 : Int} {a2 : Int} {a3 : Int} (h0 : a0 = 0) (h1 : 0 ≤ a1) (h2 : a1 ≤ 6) (h3 : a2 = (a0 * 6)) (h4 : a3 = (a2 + a1)) : (a1 + 1) ≤ 2147483647 := by omega
theorem mp_o756 {a0 : Int} {a1 : Int} {a2 : Int} {a3 : Nat} {a4 : Int} {a5 : Int} {a6 : Int} (h0 : a0 = 0) (h1 : (a1 - a2) ≤ ((a3 : Nat) : Int)) (h2 : a2 < a1) (h3 : a4 = (a0 * 6)) (h4 : a5 = (a4 + a2)) (h5 : a6 = (a2 + 1)) : (a3 - 1) < a3 := by omega
theorem mp_o757 {a0 : Int} {a1 : Int} {a2 : Int} {a3 : Int} {a4 : Int} (h0 : a0 = 0) (h1 : 0 ≤ a1) (h2 : a1 ≤ 6) (h3 : a2 = (a0 * 6)) (h4 : a3 = (a2 + a1)) (h5 : a4 = (a1 + 1)) : 0 ≤ a4 := by omega
theorem mp_o758 {a0 : Int} {a1 : Int} {a2 : Int} {a3 : Int} {a4 : Int} {a5 : Int} (h0 : 0 ≤ a0) (h1 : a0 ≤ 6) (h2 : a1 = 0) (h3 : 0 ≤ a2) (h4 : a2 ≤ 6) (h5 : a2 < a0) (h6 : a3 = (a1 * 6)) (h7 : a4 = (a3 + a2)) (h8 : a5 = (a2 + 1)) : a5 ≤ 6 := by omega
theorem mp_o759 {a0 : Int} {a1 : Int} {a2 : Int} {a3 : Nat} {a4 : Int} {a5 : Int} {a6 : Int} (h0 : a0 = 0) (h1 : (a1 - a2) ≤ ((a3 : Nat) : Int)) (h2 : a2 < a1) (h3 : a4 = (a0 * 6)) (h4 : a5 = (a4 + a2)) (h5 : a6 = (a2 + 1)) : (a1 - a6) ≤ ((((a3 - 1)) : Nat) : Int) := by omega
theorem mp_o760 {a0 : Int} (h0 : 0 ≤ a0) (h1 : a0 ≤ 11) : (-2147483648) ≤ (a0 + 1) := by omega
theorem mp_o761 {a0 : Int} (h0 : 0 ≤ a0) (h1 : a0 ≤ 11) : (a0 + 1) ≤ 2147483647 := by omega
theorem mp_o762 {a0 : Int} {a1 : Int} (h0 : 0 ≤ a0) (h1 : a0 ≤ 11) (h2 : a1 = (a0 + 1)) : (-2147483648) ≤ (a1 * 6) := by omega
theorem mp_o763 {a0 : Int} {a1 : Int} (h0 : 0 ≤ a0) (h1 : a0 ≤ 11) (h2 : a1 = (a0 + 1)) : (a1 * 6) ≤ 2147483647 := by omega
theorem mp_o764 {a0 : Int} {a1 : Int} {a2 : Int} {a3 : Int} (h0 : 0 ≤ a0) (h1 : a0 ≤ 11) (h2 : 0 ≤ a1) (h3 : a1 ≤ 5) (h4 : a2 = (a0 + 1)) (h5 : a3 = (a2 * 6)) : (-2147483648) ≤ (a3 + a1) := by omega
theorem mp_o765 {a0 : Int} {a1 : Int} {a2 : Int} {a3 : Int} (h0 : 0 ≤ a0) (h1 : a0 ≤ 11) (h2 : 0 ≤ a1) (h3 : a1 ≤ 5) (h4 : a2 = (a0 + 1)) (h5 : a3 = (a2 * 6)) : (a3 + a1) ≤ 2147483647 := by omega
theorem mp_o766 {a0 : Int} {a1 : Int} {a2 : Int} {a3 : Int} {a4 : Int} (h0 : 0 ≤ a0) (h1 : a0 ≤ 11) (h2 : 0 ≤ a1) (h3 : a1 ≤ 5) (h4 : a2 = (a0 + 1)) (h5 : a3 = (a2 * 6)) (h6 : a4 = (a3 + a1)) : ((0 ≤ a4 ∧ a4 < ((78 : Nat) : Int))) := by omega
theorem mp_o767 {a0 : Int} (h0 : 0 ≤ a0) (h1 : a0 ≤ 5) : ((0 ≤ a0 ∧ a0 < ((78 : Nat) : Int))) := by omega
theorem mp_o768 {a0 : Int} (h0 : (-1) ≤ a0) (h1 : a0 ≤ 11) (h2 : 0 ≤ a0) : (-2147483648) ≤ (a0 + (-1)) := by omega
theorem mp_o769 {a0 : Int} (h0 : (-1) ≤ a0) (h1 : a0 ≤ 11) (h2 : 0 ≤ a0) : (a0 + (-1)) ≤ 2147483647 := by omega
theorem mp_o770 {a0 : Int} {a1 : Nat} {a2 : Int} (h0 : (-1) ≤ a0) (h1 : a0 ≤ 11) (h2 : (a0 + 1) ≤ ((a1 : Nat) : Int)) (h3 : 0 ≤ a0) (h4 : a2 = (a0 + (-1))) : (a1 - 1) < a1 := by omega
theorem mp_o771 {a0 : Int} {a1 : Int} (h0 : (-1) ≤ a0) (h1 : a0 ≤ 11) (h2 : 0 ≤ a0) (h3 : a1 = (a0 + (-1))) : (-1) ≤ a1 := by omega
theorem mp_o772 {a0 : Int} {a1 : Int} (h0 : (-1) ≤ a0) (h1 : a0 ≤ 11) (h2 : 0 ≤ a0) (h3 : a1 = (a0 + (-1))) : a1 ≤ 11 := by omega
theorem mp_o773 {a0 : Int} {a1 : Nat} {a2 : Int} (h0 : (-1) ≤ a0) (h1 : a0 ≤ 11) (h2 : (a0 + 1) ≤ ((a1 : Nat) : Int)) (h3 : 0 ≤ a0) (h4 : a2 = (a0 + (-1))) : (a2 + 1) ≤ ((((a1 - 1)) : Nat) : Int) := by omega
theorem mp_o774 {a0 : Int} (h0 : (-1) ≤ a0) (h1 : a0 ≤ 11) (h2 : 0 ≤ a0) : (-2147483648) ≤ (a0 * 6) := by omega
theorem mp_o775 {a0 : Int} (h0 : (-1) ≤ a0) (h1 : a0 ≤ 11) (h2 : 0 ≤ a0) : (a0 * 6) ≤ 2147483647 := by omega
theorem mp_o776 {a0 : Int} {a1 : Int} {a2 : Int} (h0 : (-1) ≤ a0) (h1 : a0 ≤ 11) (h2 : 0 ≤ a0) (h3 : 0 ≤ a1) (h4 : a1 ≤ 6) (h5 : a2 = (a0 * 6)) : (-2147483648) ≤ (a2 + a1) := by omega
theorem mp_o777 {a0 : Int} {a1 : Int} {a2 : Int} {a3 : Int} (h0 : 0 ≤ a0) (h1 : a0 ≤ 6) (h2 : (-1) ≤ a1) (h3 : a1 ≤ 11) (h4 : 0 ≤ a1) (h5 : 0 ≤ a2) (h6 : a2 ≤ 6) (h7 : a2 < a0) (h8 : a3 = (a1 * 6)) : (a3 + a2) ≤ 2147483647 := by omega
theorem mp_o778 {a0 : Int} {a1 : Int} {a2 : Int} {a3 : Int} {a4 : Int} (h0 : 0 ≤ a0) (h1 : a0 ≤ 6) (h2 : (-1) ≤ a1) (h3 : a1 ≤ 11) (h4 : 0 ≤ a1) (h5 : 0 ≤ a2) (h6 : a2 ≤ 6) (h7 : a2 < a0) (h8 : a3 = (a1 * 6)) (h9 : a4 = (a3 + a2)) : ((0 ≤ a4 ∧ a4 < ((78 : Nat) : Int))) := by omega
theorem mp_o779 {a0 : Int} {a1 : Int} (h0 : 0 ≤ a0) (h1 : a0 ≤ 12) (h2 : a1 = (a0 - 1)) : (-1) ≤ a1 := by omega
theorem mp_o780 {a0 : Int} {a1 : Int} (h0 : 0 ≤ a0) (h1 : a0 ≤ 12) (h2 : a1 = (a0 - 1)) : a1 ≤ 11 := by omega
theorem mp_o781 {a0 : Int} (h0 : 0 ≤ a0) (h1 : a0 ≤ 12) : (-2147483648) ≤ (a0 * 6) := by omega
theorem mp_o782 {a0 : Int} (h0 : 0 ≤ a0) (h1 : a0 ≤ 12) : (a0 * 6) ≤ 2147483647 := by omega
theorem mp_o783 {a0 : Int} {a1 : Int} {a2 : Int} {a3 : Int} (h0 : 0 ≤ a0) (h1 : a0 ≤ 6) (h2 : 0 ≤ a1) (h3 : a1 ≤ 12) (h4 : 0 ≤ a2) (h5 : a2 ≤ 6) (h6 : a2 < a0) (h7 : a3 = (a1 * 6)) : (-2147483648) ≤ (a3 + a2) := by omega
theorem mp_o784 {a0 : Int} {a1 : Int} {a2 : Int} {a3 : Int} (h0 : 0 ≤ a0) (h1 : a0 ≤ 6) (h2 : 0 ≤ a1) (h3 : a1 ≤ 12) (h4 : 0 ≤ a2) (h5 : a2 ≤ 6) (h6 : a2 < a0) (h7 : a3 = (a1 * 6)) : (a3 + a2) ≤ 2147483647 := by omega
theorem mp_o785 {a0 : Int} {a1 : Int} {a2 : Int} {a3 : Int} {a4 : Int} (h0 : 0 ≤ a0) (h1 : a0 ≤ 6) (h2 : 0 ≤ a1) (h3 : a1 ≤ 12) (h4 : 0 ≤ a2) (h5 : a2 ≤ 6) (h6 : a2 < a0) (h7 : a3 = (a1 * 6)) (h8 : a4 = (a3 + a2)) : ((0 ≤ a4 ∧ a4 < ((78 : Nat) : Int))) := by omega
theorem mp_o786 {a0 : Int} (h0 : 1 ≤ a0) (h1 : a0 ≤ 12) : 0 ≤ a0 := by omega
theorem mp_o787 {a0 : Int} {a1 : Int} {a2 : Nat} {a3 : Int} (h0 : ((a0 - a1) + 1) ≤ ((a2 : Nat) : Int)) (h1 : a1 ≤ a0) (h2 : a3 = (a1 + 1)) : (a2 - 1) < a2 := by omega
theorem mp_o788 {a0 : Int} {a1 : Int} {a2 : Int} (h0 : 0 ≤ a0) (h1 : a0 ≤ 11) (h2 : 0 ≤ a1) (h3 : a1 ≤ 12) (h4 : a1 ≤ a0) (h5 : a2 = (a1 + 1)) : a2 ≤ 12 := by omega
theorem mp_o789 {a0 : Int} {a1 : Int} {a2 : Nat} {a3 : Int} (h0 : ((a0 - a1) + 1) ≤ ((a2 : Nat) : Int)) (h1 : a1 ≤ a0) (h2 : a3 = (a1 + 1)) : ((a0 - a3) + 1) ≤ ((((a2 - 1)) : Nat) : Int) := by omega
theorem mp_o790 {a0 : Int} {a1 : Int} (h0 : 0 ≤ a0) (h1 : a0 ≤ 11) (h2 : 0 ≤ a1) (h3 : a1 ≤ 12) (h4 : a1 ≤ a0) : a1 ≤ 11 := by omega
theorem mp_o791 {a0 : Int} {a1 : Int} {a2 : Int} {a3 : Int} (h0 : 0 ≤ a0) (h1 : a0 ≤ 11) (h2 : 0 ≤ a1) (h3 : a1 ≤ 12) (h4 : 0 ≤ a2) (h5 : a2 ≤ 5) (h6 : a1 ≤ a0) (h7 : a3 = (a1 * 6)) : (-2147483648) ≤ (a3 + a2) := by omega
theorem mp_o792 {a0 : Int} {a1 : Int} {a2 : Int} {a3 : Int} (h0 : 0 ≤ a0) (h1 : a0 ≤ 11) (h2 : 0 ≤ a1) (h3 : a1 ≤ 12) (h4 : 0 ≤ a2) (h5 : a2 ≤ 5) (h6 : a1 ≤ a0) (h7 : a3 = (a1 * 6)) : (a3 + a2) ≤ 2147483647 := by omega
theorem mp_o793 {a0 : Int} {a1 : Int} {a2 : Int} {a3 : Int} {a4 : Int} (h0 : 0 ≤ a0) (h1 : a0 ≤ 11) (h2 : 0 ≤ a1) (h3 : a1 ≤ 12) (h4 : 0 ≤ a2) (h5 : a2 ≤ 5) (h6 : a1 ≤ a0) (h7 : a3 = (a1 * 6)) (h8 : a4 = (a3 + a2)) : ((0 ≤ a4 ∧ a4 < ((78 : Nat) : Int))) := by omega
theorem mp_o794 {a0 : Int} (h0 : (-1) ≤ a0) (h1 : a0 ≤ 5) (h2 : 0 ≤ a0) : (-2147483648) ≤ (a0 + (-1)) := by omega
theorem mp_o795 {a0 : Int} (h0 : (-1) ≤ a0) (h1 : a0 ≤ 5) (h2 : 0 ≤ a0) : (a0 + (-1)) ≤ 2147483647 := by omega
theorem mp_o796 {a0 : Int} {a1 : Nat} {a2 : Int} (h0 : (-1) ≤ a0) (h1 : a0 ≤ 5) (h2 : (a0 + 1) ≤ ((a1 : Nat) : Int)) (h3 : 0 ≤ a0) (h4 : a2 = (a0 + (-1))) : (a1 - 1) < a1 := by omega
theorem mp_o797 {a0 : Int} {a1 : Int} (h0 : (-1) ≤ a0) (h1 : a0 ≤ 5) (h2 : 0 ≤ a0) (h3 : a1 = (a0 + (-1))) : (-1) ≤ a1 := by omega
theorem mp_o798 {a0 : Int} {a1 : Int} (h0 : (-1) ≤ a0) (h1 : a0 ≤ 5) (h2 : 0 ≤ a0) (h3 : a1 = (a0 + (-1))) : a1 ≤ 5 := by omega
theorem mp_o799 {a0 : Int} {a1 : Nat} {a2 : Int} (h0 : (-1) ≤ a0) (h1 : a0 ≤ 5) (h2 : (a0 + 1) ≤ ((a1 : Nat) : Int)) (h3 : 0 ≤ a0) (h4 : a2 = (a0 + (-1))) : (a2 + 1) ≤ ((((a1 - 1)) : Nat) : Int) := by omega
theorem mp_o800 {a0 : Int} {a1 : Int} (h0 : 1 ≤ a0) (h1 : a0 ≤ 12) (h2 : a1 < a0) : a1 ≤ 11 := by omega
theorem mp_o801 {a0 : Int} (h0 : 0 ≤ a0) (h1 : a0 ≤ 5) : (-2) ≤ a0 := by omega
theorem mp_o802 {a0 : Int} (h0 : 0 ≤ a0) (h1 : a0 ≤ 5) : a0 ≤ 9 := by omega
theorem mp_o803 {a0 : Int} (h0 : a0 = 0) (h1 : a0 ≠ 0) : False := by omega
theorem mp_o804 {a0 : Int} (h0 : 0 ≤ a0) (h1 : ((-2147483648) ≤ a0 ∧ a0 ≤ 2147483647)) : (-2147483648) ≤ (a0 + 1) := by omega
theorem mp_o805 {a0 : Int} {a1 : Int} (h0 : 0 ≤ a0) (h1 : a0 < a1) (h2 : ((-2147483648) ≤ a0 ∧ a0 ≤ 2147483647)) (h3 : ((-2147483648) ≤ a1 ∧ a1 ≤ 2147483647)) : (a0 + 1) ≤ 2147483647 := by omega
theorem mp_o806 {a0 : Int} {a1 : Int} (h0 : 0 ≤ a0) (h1 : ((-2147483648) ≤ a0 ∧ a0 ≤ 2147483647)) (h2 : a1 = (a0 + 1)) : 0 ≤ a1 := by omega
theorem mp_o807 {a0 : Int} {a1 : Int} {a2 : Int} (h0 : (-1) ≤ a0) (h1 : a0 ≤ 11) (h2 : 0 ≤ a0) (h3 : 0 ≤ a1) (h4 : a1 ≤ 6) (h5 : a2 = (a0 * 6)) : (a2 + a1) ≤ 2147483647 := by omega
theorem mp_o808 {a0 : Int} {a1 : Int} {a2 : Int} {a3 : Int} (h0 : (-1) ≤ a0) (h1 : a0 ≤ 11) (h2 : 0 ≤ a0) (h3 : 0 ≤ a1) (h4 : a1 ≤ 6) (h5 : a2 = (a0 * 6)) (h6 : a3 = (a2 + a1)) : ((0 ≤ a3 ∧ a3 < ((78 : Nat) : Int))) := by omega
theorem mp_o809 {a0 : Int} (h0 : (-1) ≤ a0) (h1 : a0 ≤ 11) (h2 : 0 ≤ a0) : (-2147483648) ≤ (a0 + 1) := by omega
theorem mp_o810 {a0 : Int} (h0 : (-1) ≤ a0) (h1 : a0 ≤ 11) (h2 : 0 ≤ a0) : (a0 + 1) ≤ 2147483647 := by omega
theorem mp_o811 {a0 : Int} {a1 : Int} (h0 : (-1) ≤ a0) (h1 : a0 ≤ 11) (h2 : 0 ≤ a0) (h3 : a1 = (a0 + 1)) : (-2147483648) ≤ (a1 * 6) := by omega
theorem mp_o812 {a0 : Int} {a1 : Int} (h0 : (-1) ≤ a0) (h1 : a0 ≤ 11) (h2 : 0 ≤ a0) (h3 : a1 = (a0 + 1)) : (a1 * 6) ≤ 2147483647 := by omega
theorem mp_o813 {a0 : Int} {a1 : Int} {a2 : Int} {a3 : Int} (h0 : (-1) ≤ a0) (h1 : a0 ≤ 11) (h2 : 0 ≤ a0) (h3 : 0 ≤ a1) (h4 : a1 ≤ 6) (h5 : a2 = (a0 + 1)) (h6 : a3 = (a2 * 6)) : (-2147483648) ≤ (a3 + a1) := by omega
theorem mp_o814 {a0 : Int} {a1 : Int} {a2 : Int} {a3 : Int} (h0 : (-1) ≤ a0) (h1 : a0 ≤ 11) (h2 : 0 ≤ a0) (h3 : 0 ≤ a1) (h4 : a1 ≤ 6) (h5 : a2 = (a0 + 1)) (h6 : a3 = (a2 * 6)) : (a3 + a1) ≤ 2147483647 := by omega
theorem mp_o815 {a0 : Int} {a1 : Int} {a2 : Int} {a3 : Int} {a4 : Int} {a5 : Int} (h0 : 0 ≤ a0) (h1 : a0 ≤ 6) (h2 : (-1) ≤ a1) (h3 : a1 ≤ 11) (h4 : 0 ≤ a1) (h5 : 0 ≤ a2) (h6 : a2 ≤ 6) (h7 : a2 < a0) (h8 : a3 = (a1 + 1)) (h9 : a4 = (a3 * 6)) (h10 : a5 = (a4 + a2)) : ((0 ≤ a5 ∧ a5 < ((78 : Nat) : Int))) := by omega
theorem mp_o816 {a0 : Int} {a1 : Int} (h0 : 0 ≤ a0) (h1 : a0 ≤ 99) (h2 : 0 ≤ a1) (h3 : a1 ≤ 12) : (-2147483648) ≤ (a0 + a1) := by omega
theorem mp_o817 {a0 : Int} {a1 : Int} (h0 : 0 ≤ a0) (h1 : a0 ≤ 99) (h2 : 0 ≤ a1) (h3 : a1 ≤ 12) : (a0 + a1) ≤ 2147483647 := by omega
theorem mp_o818 {a0 : Int} (h0 : 0 ≤ a0) (h1 : a0 ≤ 11) : (-2147483648) ≤ (a0 * 6) := by omega
theorem mp_o819 {a0 : Int} (h0 : 0 ≤ a0) (h1 : a0 ≤ 11) : (a0 * 6) ≤ 2147483647 := by omega
theorem mp_o820 {a0 : Int} {a1 : Int} {a2 : Int} {a3 : Int} (h0 : 0 ≤ a0) (h1 : a0 ≤ 11) (h2 : 0 ≤ a1) (h3 : a1 ≤ 6) (h4 : 0 ≤ a2) (h5 : a2 ≤ 6) (h6 : a2 < a1) (h7 : a3 = (a0 * 6)) : (-2147483648) ≤ (a3 + a2) := by omega
theorem mp_o821 {a0 : Int} {a1 : Int} {a2 : Int} {a3 : Int} (h0 : 0 ≤ a0) (h1 : a0 ≤ 11) (h2 : 0 ≤ a1) (h3 : a1 ≤ 6) (h4 : 0 ≤ a2) (h5 : a2 ≤ 6) (h6 : a2 < a1) (h7 : a3 = (a0 * 6)) : (a3 + a2) ≤ 2147483647 := by omega
theorem mp_o822 {a0 : Int} {a1 : Int} {a2 : Int} {a3 : Int} {a4 : Int} (h0 : 0 ≤ a0) (h1 : a0 ≤ 11) (h2 : 0 ≤ a1) (h3 : a1 ≤ 6) (h4 : 0 ≤ a2) (h5 : a2 ≤ 6) (h6 : a2 < a1) (h7 : a3 = (a0 * 6)) (h8 : a4 = (a3 + a2)) : ((0 ≤ a4 ∧ a4 < ((78 : Nat) : Int))) := by omega
theorem mp_o823 {a0 : Int} {a1 : Int} (h0 : 0 ≤ a0) (h1 : a0 ≤ 12) (h2 : a1 = (a0 + 1)) : (-2147483648) ≤ (a1 * 6) := by omega
theorem mp_o824 {a0 : Int} {a1 : Int} (h0 : 0 ≤ a0) (h1 : a0 ≤ 12) (h2 : a1 = (a0 + 1)) : (a1 * 6) ≤ 2147483647 := by omega
theorem mp_o825 {a0 : Int} {a1 : Int} {a2 : Int} {a3 : Int} {a4 : Int} (h0 : 0 ≤ a0) (h1 : a0 ≤ 12) (h2 : 0 ≤ a1) (h3 : a1 ≤ 12) (h4 : a1 < a0) (h5 : 0 ≤ a2) (h6 : a2 ≤ 6) (h7 : a3 = (a1 + 1)) (h8 : a4 = (a3 * 6)) : (-2147483648) ≤ (a4 + a2) := by omega
theorem mp_o826 {a0 : Int} {a1 : Int} {a2 : Int} {a3 : Int} {a4 : Int} {a5 : Int} (h0 : 0 ≤ a0) (h1 : a0 ≤ 6) (h2 : 0 ≤ a1) (h3 : a1 ≤ 12) (h4 : 0 ≤ a2) (h5 : a2 ≤ 12) (h6 : a2 < a1) (h7 : 0 ≤ a3) (h8 : a3 ≤ 6) (h9 : a3 < a0) (h10 : a4 = (a2 + 1)) (h11 : a5 = (a4 * 6)) : (a5 + a3) ≤ 2147483647 := by omega
theorem mp_o827 {a0 : Int} {a1 : Int} {a2 : Int} (h0 : 0 ≤ a0) (h1 : a0 ≤ 12) (h2 : 0 ≤ a1) (h3 : a1 ≤ 12) (h4 : a1 < a0) (h5 : a2 = (a1 + 1)) : a1 ≤ 11 := by omega
theorem mp_o828 {a0 : Int} {a1 : Int} {a2 : Int} {a3 : Int} {a4 : Int} {a5 : Int} {a6 : Int} (h0 : 0 ≤ a0) (h1 : a0 ≤ 6) (h2 : 0 ≤ a1) (h3 : a1 ≤ 12) (h4 : 0 ≤ a2) (h5 : a2 ≤ 12) (h6 : a2 < a1) (h7 : 0 ≤ a3) (h8 : a3 ≤ 6) (h9 : a3 < a0) (h10 : a4 = (a2 + 1)) (h11 : a5 = (a4 * 6)) (h12 : a6 = (a5 + a3)) : ((0 ≤ a6 ∧ a6 < ((78 : Nat) : Int))) := by omega
theorem mp_o829 {a0 : Int} (h0 : 0 ≤ a0) (h1 : a0 ≤ 6) : ((0 ≤ a0 ∧ a0 < ((78 : Nat) : Int))) := by omega
theorem mp_o830 {a0 : Int} {a1 : Int} (h0 : 0 ≤ a0) (h1 : a0 ≤ 5) (h2 : a1 = a0) : ((0 ≤ a1 ∧ a1 < ((78 : Nat) : Int))) := by omega
theorem mp_o831 {a0 : Int} {a1 : Int} (h0 : 0 ≤ a0) (h1 : a0 ≤ 5) (h2 : a1 = a0) : (-2147483648) ≤ (a1 + 1) := by omega
theorem mp_o832 {a0 : Int} {a1 : Int} (h0 : 0 ≤ a0) (h1 : a0 ≤ 5) (h2 : a1 = a0) : (a1 + 1) ≤ 2147483647 := by omega
theorem mp_o833 {a0 : Int} {a1 : Int} {a2 : Int} (h0 : 0 ≤ a0) (h1 : a0 ≤ 5) (h2 : a1 = a0) (h3 : a2 = (a1 + 1)) : 0 ≤ a2 := by omega
theorem mp_o834 {a0 : Int} {a1 : Int} {a2 : Int} (h0 : 0 ≤ a0) (h1 : a0 ≤ 5) (h2 : a1 = a0) (h3 : a2 = (a1 + 1)) : a2 ≤ 6 := by omega
theorem mp_o835 {a0 : Int} {a1 : Int} (h0 : 0 ≤ a0) (h1 : a0 ≤ 12) (h2 : 0 ≤ a1) (h3 : a1 ≤ 99) : (-2147483648) ≤ (a1 + a0) := by omega
theorem mp_o836 {a0 : Int} {a1 : Int} (h0 : (a0 + a1) ≤ 99) : (a0 + a1) ≤ 2147483647 := by omega
theorem mp_o837 {a0 : Int} (h0 : 0 ≤ a0) (h1 : a0 ≤ 20) : (-2147483648) ≤ (a0 * 6) := by omega
theorem mp_o838 {a0 : Int} (h0 : 0 ≤ a0) (h1 : a0 ≤ 20) : (a0 * 6) ≤ 2147483647 := by omega
theorem mp_o839 {a0 : Int} {a1 : Int} {a2 : Int} (h0 : (0 ≤ a0 ∧ a0 ≤ 5)) (h1 : 0 ≤ a1) (h2 : a1 ≤ 20) (h3 : a2 = (a1 * 6)) : (-2147483648) ≤ (a2 + a0) := by omega
theorem mp_o840 {a0 : Int} {a1 : Int} {a2 : Int} {a3 : Int} {a4 : Int} {a5 : Int} (h0 : 0 ≤ a0) (h1 : a0 ≤ 12) (h2 : a1 = (a2 + a0)) (h3 : (0 ≤ a3 ∧ a3 ≤ 5)) (h4 : 0 ≤ a4) (h5 : a4 ≤ 20) (h6 : a4 ≤ a0) (h7 : a5 = (a4 * 6)) : (a5 + a3) ≤ 2147483647 := by omega
theorem mp_o841 {a0 : Int} {a1 : Int} {a2 : Int} {a3 : Int} {a4 : Int} {a5 : Int} {a6 : Int} (h0 : 0 ≤ a0) (h1 : a0 ≤ 12) (h2 : a1 = (a2 + a0)) (h3 : (0 ≤ a3 ∧ a3 ≤ 5)) (h4 : 0 ≤ a4) (h5 : a4 ≤ 20) (h6 : a4 ≤ a0) (h7 : a5 = (a4 * 6)) (h8 : a6 = (a5 + a3)) : ((0 ≤ a6 ∧ a6 < ((78 : Nat) : Int))) := by omega
theorem mp_o842 {a0 : Int} {a1 : Int} (h0 : 0 ≤ a0) (h1 : a0 ≤ 99) (h2 : 0 ≤ a1) (h3 : a1 ≤ 20) : (-2147483648) ≤ (a0 + a1) := by omega
theorem mp_o843 {a0 : Int} {a1 : Int} {a2 : Int} {a3 : Int} (h0 : (a0 + a1) ≤ 99) (h1 : a2 = (a0 + a1)) (h2 : a3 ≤ a1) : (a0 + a3) ≤ 2147483647 := by omega
theorem mp_o844 {a0 : Int} (h0 : 0 ≤ a0) (h1 : a0 ≤ 20) : (-2147483648) ≤ (a0 + 1) := by omega
theorem mp_o845 {a0 : Int} (h0 : 0 ≤ a0) (h1 : a0 ≤ 20) : (a0 + 1) ≤ 2147483647 := by omega
theorem mp_o846 {a0 : Int} {a1 : Int} {a2 : Int} {a3 : Int} {a4 : Nat} {a5 : Int} (h0 : a0 = (a1 + a2)) (h1 : ((a2 - a3) + 1) ≤ ((a4 : Nat) : Int)) (h2 : a3 ≤ a2) (h3 : a5 = (a1 + a3)) : (a4 - 1) < a4 := by omega
theorem mp_o847 {a0 : Int} {a1 : Int} (h0 : 0 ≤ a0) (h1 : a0 ≤ 20) (h2 : a1 = (a0 + 1)) : 0 ≤ a1 := by omega
theorem mp_o848 {a0 : Int} {a1 : Int} {a2 : Int} {a3 : Int} {a4 : Int} {a5 : Int} (h0 : 0 ≤ a0) (h1 : a0 ≤ 12) (h2 : a1 = (a2 + a0)) (h3 : 0 ≤ a3) (h4 : a3 ≤ 20) (h5 : a3 ≤ a0) (h6 : a4 = (a2 + a3)) (h7 : a5 = (a3 + 1)) : a5 ≤ 20 := by omega
theorem mp_o849 {a0 : Int} {a1 : Int} {a2 : Int} {a3 : Int} {a4 : Nat} {a5 : Int} {a6 : Int} (h0 : a0 = (a1 + a2)) (h1 : ((a2 - a3) + 1) ≤ ((a4 : Nat) : Int)) (h2 : a3 ≤ a2) (h3 : a5 = (a1 + a3)) (h4 : a6 = (a3 + 1)) : ((a2 - a6) + 1) ≤ ((((a4 - 1)) : Nat) : Int) := by omega
theorem mp_o850 {a0 : Int} {a1 : Int} {a2 : Int} (h0 : 0 ≤ a0) (h1 : a0 ≤ 99) (h2 : 0 ≤ a1) (h3 : a1 ≤ 20) (h4 : a2 = (a0 + a1)) : (-2147483648) ≤ (a0 + a1) := by omega
theorem mp_o851 {a0 : Int} {a1 : Int} {a2 : Int} {a3 : Int} {a4 : Int} (h0 : (a0 + a1) ≤ 99) (h1 : a2 = (a0 + a1)) (h2 : a3 ≤ a1) (h3 : a4 = (a0 + a3)) : (a0 + a3) ≤ 2147483647 := by omega
theorem mp_o852 {a0 : Int} {a1 : Int} {a2 : Int} {a3 : Int} {a4 : Nat} {a5 : Int} {a6 : Int} (h0 : a0 = (a1 + a2)) (h1 : ((a2 - a3) + 1) ≤ ((a4 : Nat) : Int)) (h2 : a3 ≤ a2) (h3 : a5 = (a1 + a3)) (h4 : a6 = (a1 + a3)) : (a4 - 1) < a4 := by omega
theorem mp_o853 {a0 : Int} {a1 : Int} {a2 : Int} {a3 : Int} {a4 : Int} {a5 : Int} {a6 : Int} (h0 : 0 ≤ a0) (h1 : a0 ≤ 12) (h2 : a1 = (a2 + a0)) (h3 : 0 ≤ a3) (h4 : a3 ≤ 20) (h5 : a3 ≤ a0) (h6 : a4 = (a2 + a3)) (h7 : a5 = (a2 + a3)) (h8 : a6 = (a3 + 1)) : a6 ≤ 20 := by omega
theorem mp_o854 {a0 : Int} {a1 : Int} {a2 : Int} {a3 : Int} {a4 : Nat} {a5 : Int} {a6 : Int} {a7 : Int} (h0 : a0 = (a1 + a2)) (h1 : ((a2 - a3) + 1) ≤ ((a4 : Nat) : Int)) (h2 : a3 ≤ a2) (h3 : a5 = (a1 + a3)) (h4 : a6 = (a1 + a3)) (h5 : a7 = (a3 + 1)) : ((a2 - a7) + 1) ≤ ((((a4 - 1)) : Nat) : Int) := by omega
theorem mp_o855 {a0 : Int} {a1 : Int} {a2 : Int} {a3 : Int} (h0 : 0 ≤ a0) (h1 : a0 ≤ 99) (h2 : 0 ≤ a1) (h3 : a1 ≤ 20) (h4 : a2 = (a0 + a1)) (h5 : a3 = (a0 + a1)) : (-2147483648) ≤ (a0 + a1) := by omega
theorem mp_o856 {a0 : Int} {a1 : Int} {a2 : Int} {a3 : Int} {a4 : Int} {a5 : Int} (h0 : (a0 + a1) ≤ 99) (h1 : a2 = (a0 + a1)) (h2 : a3 ≤ a1) (h3 : a4 = (a0 + a3)) (h4 : a5 = (a0 + a3)) : (a0 + a3) ≤ 2147483647 := by omega
theorem mp_o857 {a0 : Int} {a1 : Int} {a2 : Int} {a3 : Int} {a4 : Nat} {a5 : Int} {a6 : Int} {a7 : Int} (h0 : a0 = (a1 + a2)) (h1 : ((a2 - a3) + 1) ≤ ((a4 : Nat) : Int)) (h2 : a3 ≤ a2) (h3 : a5 = (a1 + a3)) (h4 : a6 = (a1 + a3)) (h5 : a7 = (a1 + a3)) : (a4 - 1) < a4 := by omega
theorem mp_o858 {a0 : Int} {a1 : Int} {a2 : Int} {a3 : Int} {a4 : Int} {a5 : Int} {a6 : Int} {a7 : Int} (h0 : 0 ≤ a0) (h1 : a0 ≤ 12) (h2 : a1 = (a2 + a0)) (h3 : 0 ≤ a3) (h4 : a3 ≤ 20) (h5 : a3 ≤ a0) (h6 : a4 = (a2 + a3)) (h7 : a5 = (a2 + a3)) (h8 : a6 = (a2 + a3)) (h9 : a7 = (a3 + 1)) : a7 ≤ 20 := by omega
theorem mp_o859 {a0 : Int} {a1 : Int} {a2 : Int} {a3 : Int} {a4 : Int} {a5 : Int} {a6 : Int} {a7 : Int} (h0 : 0 ≤ a0) (h1 : a0 ≤ 12) (h2 : 0 ≤ a1) (h3 : a1 ≤ 99) (h4 : a2 = (a1 + a0)) (h5 : 0 ≤ a3) (h6 : a3 ≤ 20) (h7 : a3 ≤ a0) (h8 : a4 = (a1 + a3)) (h9 : a5 = (a1 + a3)) (h10 : a6 = (a1 + a3)) (h11 : a7 = (a3 + 1)) : (-1) ≤ a6 := by omega
theorem mp_o860 {a0 : Int} {a1 : Int} {a2 : Int} {a3 : Int} {a4 : Int} {a5 : Int} {a6 : Int} (h0 : (a0 + a1) ≤ 99) (h1 : a2 = (a0 + a1)) (h2 : a3 ≤ a1) (h3 : a4 = (a0 + a3)) (h4 : a5 = (a0 + a3)) (h5 : a6 = (a0 + a3)) : a6 ≤ 240 := by omega
theorem mp_o861 {a0 : Int} {a1 : Int} {a2 : Int} {a3 : Int} {a4 : Nat} {a5 : Int} {a6 : Int} {a7 : Int} {a8 : Int} (h0 : a0 = (a1 + a2)) (h1 : ((a2 - a3) + 1) ≤ ((a4 : Nat) : Int)) (h2 : a3 ≤ a2) (h3 : a5 = (a1 + a3)) (h4 : a6 = (a1 + a3)) (h5 : a7 = (a1 + a3)) (h6 : a8 = (a3 + 1)) : ((a2 - a8) + 1) ≤ ((((a4 - 1)) : Nat) : Int) := by omega
theorem mp_o862 {a0 : Int} (h0 : 0 ≤ a0) (h1 : a0 ≤ 99) : (-1) ≤ a0 := by omega
theorem mp_o863 {a0 : Int} (h0 : 0 ≤ a0) (h1 : a0 ≤ 99) : a0 ≤ 240 := by omega
theorem mp_o864 {a0 : Int} (h0 : (-1) ≤ a0) (h1 : a0 ≤ 240) : (-2) ≤ a0 := by omega
theorem mp_o867 {a0 : Int} (h0 : (-1) ≤ a0) (h1 : a0 ≤ 100) : (-2) ≤ a0 := by omega
theorem mp_o868 {a0 : Int} {a1 : Int} (h0 : 0 ≤ a0) (h1 : a0 ≤ 10) (h2 : a1 = (a0 + 1)) : (-2147483648) ≤ (a0 + 1) := by omega
theorem mp_o869 {a0 : Int} {a1 : Int} (h0 : 0 ≤ a0) (h1 : a0 ≤ 10) (h2 : a1 = (a0 + 1)) : (a0 + 1) ≤ 2147483647 := by omega
theorem mp_o870 {a0 : Int} {a1 : Int} {a2 : Nat} {a3 : Int} {a4 : Int} (h0 : (a0 - a1) ≤ ((a2 : Nat) : Int)) (h1 : a1 < a0) (h2 : a3 = (a1 + 1)) (h3 : a4 = (a1 + 1)) : (a2 - 1) < a2 := by omega
theorem mp_o871 {a0 : Int} {a1 : Int} {a2 : Int} (h0 : 0 ≤ a0) (h1 : a0 ≤ 10) (h2 : a1 = (a0 + 1)) (h3 : a2 = (a0 + 1)) : 0 ≤ a2 := by omega
theorem mp_o872 {a0 : Int} {a1 : Int} {a2 : Int} {a3 : Int} {a4 : Int} (h0 : 0 ≤ a0) (h1 : a0 ≤ 10) (h2 : a0 < a1) (h3 : a2 = (a0 + 1)) (h4 : 1 ≤ a3) (h5 : a3 ≤ 10) (h6 : a1 ≤ a3) (h7 : a4 = (a0 + 1)) : a4 ≤ 10 := by omega
theorem mp_o873 {a0 : Int} {a1 : Int} {a2 : Nat} {a3 : Int} {a4 : Int} (h0 : (a0 - a1) ≤ ((a2 : Nat) : Int)) (h1 : a1 < a0) (h2 : a3 = (a1 + 1)) (h3 : a4 = (a1 + 1)) : (a0 - a4) ≤ ((((a2 - 1)) : Nat) : Int) := by omega
theorem mp_o874 {a0 : Int} {a1 : Int} (h0 : 0 ≤ a0) (h1 : a0 ≤ 10) (h2 : a1 = (a0 + 1)) : (-2147483648) ≤ (10 * a0) := by omega
theorem mp_o875 {a0 : Int} {a1 : Int} (h0 : 0 ≤ a0) (h1 : a0 ≤ 10) (h2 : a1 = (a0 + 1)) : (10 * a0) ≤ 2147483647 := by omega
theorem mp_o876 {a0 : Int} {a1 : Int} {a2 : Int} {a3 : Int} {a4 : Int} (h0 : 0 ≤ a0) (h1 : a0 ≤ 10) (h2 : 0 ≤ a1) (h3 : a1 ≤ 10) (h4 : a1 < a0) (h5 : a2 = (a1 + 1)) (h6 : 1 ≤ a3) (h7 : a3 ≤ 10) (h8 : a3 < a0) (h9 : a4 = (10 * a1)) : (-2147483648) ≤ (a4 + a3) := by omega
theorem mp_o877 {a0 : Int} {a1 : Int} {a2 : Int} {a3 : Int} {a4 : Int} (h0 : 0 ≤ a0) (h1 : a0 ≤ 10) (h2 : 0 ≤ a1) (h3 : a1 ≤ 10) (h4 : a1 < a0) (h5 : a2 = (a1 + 1)) (h6 : 1 ≤ a3) (h7 : a3 ≤ 10) (h8 : a3 < a0) (h9 : a4 = (10 * a1)) : (a4 + a3) ≤ 2147483647 := by omega
theorem mp_o878 {a0 : Int} {a1 : Int} {a2 : Int} {a3 : Int} {a4 : Int} (h0 : a0 = (a1 + 1)) (h1 : 1 ≤ a2) (h2 : a2 ≤ 10) (h3 : a3 = (10 * a1)) (h4 : a4 = (a3 + a2)) : (-2147483648) ≤ (a2 + 1) := by omega
theorem mp_o879 {a0 : Int} {a1 : Int} {a2 : Int} {a3 : Int} {a4 : Int} (h0 : a0 = (a1 + 1)) (h1 : 1 ≤ a2) (h2 : a2 ≤ 10) (h3 : a3 = (10 * a1)) (h4 : a4 = (a3 + a2)) : (a2 + 1) ≤ 2147483647 := by omega
theorem mp_o880 {a0 : Int} {a1 : Int} {a2 : Int} {a3 : Int} {a4 : Nat} {a5 : Int} {a6 : Int} {a7 : Int} (h0 : a0 = (a1 + 1)) (h1 : (a2 - a3) ≤ ((a4 : Nat) : Int)) (h2 : a3 < a2) (h3 : a5 = (10 * a1)) (h4 : a6 = (a5 + a3)) (h5 : a7 = (a3 + 1)) : (a4 - 1) < a4 := by omega
theorem mp_o881 {a0 : Int} {a1 : Int} {a2 : Int} {a3 : Int} {a4 : Int} {a5 : Int} (h0 : a0 = (a1 + 1)) (h1 : 1 ≤ a2) (h2 : a2 ≤ 10) (h3 : a3 = (10 * a1)) (h4 : a4 = (a3 + a2)) (h5 : a5 = (a2 + 1)) : 1 ≤ a5 := by omega
theorem mp_o882 {a0 : Int} {a1 : Int} {a2 : Int} {a3 : Int} {a4 : Int} {a5 : Int} {a6 : Int} (h0 : 0 ≤ a0) (h1 : a0 ≤ 10) (h2 : a1 = (a2 + 1)) (h3 : 1 ≤ a3) (h4 : a3 ≤ 10) (h5 : a3 < a0) (h6 : a4 = (10 * a2)) (h7 : a5 = (a4 + a3)) (h8 : a6 = (a3 + 1)) : a6 ≤ 10 := by omega
theorem mp_o883 {a0 : Int} {a1 : Int} (h0 : (-5) ≤ a0) (h1 : a0 < a1) : (-5) ≤ a1 := by omega
theorem mp_o884 {a0 : Int} {a1 : Int} {a2 : Int} {a3 : Int} {a4 : Int} {a5 : Int} {a6 : Int} (h0 : 0 ≤ a0) (h1 : a0 ≤ 10) (h2 : 0 ≤ a1) (h3 : a1 ≤ 10) (h4 : a1 < a0) (h5 : a2 = (a1 + 1)) (h6 : 1 ≤ a3) (h7 : a3 ≤ 10) (h8 : a3 < a0) (h9 : a4 = (10 * a1)) (h10 : a5 = (a4 + a3)) (h11 : a6 = (a3 + 1)) : (-1) ≤ a5 := by omega
theorem mp_o885 {a0 : Int} {a1 : Int} {a2 : Int} {a3 : Int} {a4 : Int} {a5 : Int} {a6 : Int} (h0 : 0 ≤ a0) (h1 : a0 ≤ 10) (h2 : 0 ≤ a1) (h3 : a1 ≤ 10) (h4 : a1 < a0) (h5 : a2 = (a1 + 1)) (h6 : 1 ≤ a3) (h7 : a3 ≤ 10) (h8 : a3 < a0) (h9 : a4 = (10 * a1)) (h10 : a5 = (a4 + a3)) (h11 : a6 = (a3 + 1)) : a5 ≤ 100 := by omega
theorem mp_o886 {a0 : Int} {a1 : Int} {a2 : Int} {a3 : Int} {a4 : Nat} {a5 : Int} {a6 : Int} {a7 : Int} (h0 : a0 = (a1 + 1)) (h1 : (a2 - a3) ≤ ((a4 : Nat) : Int)) (h2 : a3 < a2) (h3 : a5 = (10 * a1)) (h4 : a6 = (a5 + a3)) (h5 : a7 = (a3 + 1)) : (a2 - a7) ≤ ((((a4 - 1)) : Nat) : Int) := by omega
theorem mp_o887 {a0 : Int} {a1 : Int} (h0 : 0 ≤ a0) (h1 : a0 ≤ 10) (h2 : a1 = (a0 + 1)) : 1 ≤ a1 := by omega
theorem mp_o888 {a0 : Int} {a1 : Int} (h0 : 0 ≤ a0) (h1 : a0 ≤ 6) (h2 : a0 = a1) : (-2147483648) ≤ (a1 + 1) := by omega
theorem mp_o889 {a0 : Int} {a1 : Int} (h0 : 0 ≤ a0) (h1 : a0 ≤ 6) (h2 : a0 = a1) : (a1 + 1) ≤ 2147483647 := by omega
theorem mp_o890 {a0 : Int} {a1 : Int} {a2 : Int} {a3 : Nat} {a4 : Int} (h0 : a0 < a1) (h1 : (a1 - a2) ≤ ((a3 : Nat) : Int)) (h2 : a0 = a2) (h3 : a4 = (a2 + 1)) : (a3 - 1) < a3 := by omega
theorem mp_o891 {a0 : Int} {a1 : Int} {a2 : Int} (h0 : 0 ≤ a0) (h1 : a0 ≤ 6) (h2 : a0 = a1) (h3 : a2 = (a1 + 1)) : 0 ≤ a2 := by omega
theorem mp_o892 {a0 : Int} {a1 : Int} {a2 : Int} {a3 : Int} (h0 : 0 ≤ a0) (h1 : a0 ≤ 6) (h2 : 0 ≤ a1) (h3 : a1 ≤ 6) (h4 : a1 < a0) (h5 : a1 = a2) (h6 : a3 = (a2 + 1)) : a3 ≤ 6 := by omega
theorem mp_o893 {a0 : Int} {a1 : Int} {a2 : Int} {a3 : Nat} {a4 : Int} (h0 : a0 < a1) (h1 : (a1 - a2) ≤ ((a3 : Nat) : Int)) (h2 : a0 = a2) (h3 : a4 = (a2 + 1)) : (a1 - a4) ≤ ((((a3 - 1)) : Nat) : Int) := by omega
theorem mp_o894 {a0 : Int} {a1 : Int} {a2 : Int} {a3 : Nat} {a4 : Int} (h0 : a0 < a1) (h1 : (a1 - a2) ≤ ((a3 : Nat) : Int)) (h2 : a2 = a0) (h3 : a4 = (a2 + 1)) : (a3 - 1) < a3 := by omega
theorem mp_o895 {a0 : Int} {a1 : Int} {a2 : Int} {a3 : Int} (h0 : 0 ≤ a0) (h1 : a0 ≤ 6) (h2 : a1 < a0) (h3 : 0 ≤ a2) (h4 : a2 ≤ 6) (h5 : a2 = a1) (h6 : a3 = (a2 + 1)) : a3 ≤ 6 := by omega
theorem mp_o896 {a0 : Int} {a1 : Int} {a2 : Int} {a3 : Nat} {a4 : Int} (h0 : a0 < a1) (h1 : (a1 - a2) ≤ ((a3 : Nat) : Int)) (h2 : a2 = a0) (h3 : a4 = (a2 + 1)) : (a1 - a4) ≤ ((((a3 - 1)) : Nat) : Int) := by omega
theorem mp_o897 {a0 : Int} (h0 : 0 ≤ a0) (h1 : a0 ≤ 2) : ((0 ≤ a0 ∧ a0 < ((3 : Nat) : Int))) := by omega
theorem mp_o898 {a0 : Int} (h0 : a0 < 0) : ((a0 < 0 ∨ 3 < a0)) := by omega
theorem mp_o899 {a0 : Int} (h0 : 4 ≤ a0) : ((a0 < 0 ∨ 3 < a0)) := by omega
theorem mp_o900 {a0 : Int} (h0 : 0 ≤ a0) (h1 : a0 < 4) : ((0 ≤ a0 ∧ a0 ≤ 3)) := by omega
theorem mp_o901 {a0 : Int} (h0 : 0 ≤ a0) (h1 : a0 ≤ 3) : ((0 ≤ a0 ∧ a0 < ((4 : Nat) : Int))) := by omega
theorem mp_o902 {a0 : Int} (h0 : 0 ≤ a0) (h1 : a0 ≤ 3) : a0 < ((4 : Nat) : Int) := by omega
theorem mp_o903 {a0 : Int} {a1 : Int} (h0 : a0 = a1) (h1 : a0 = (-1)) : a1 = (-1) := by omega
theorem mp_o904 {a0 : Int} {a1 : Nat} (h0 : 0 ≤ a0) (h1 : a0 ≤ 12) (h2 : 11 ≤ a0) (h3 : ((a1 : Nat) : Int) < 11) : ((a1 : Nat) : Int) < a0 := by omega
theorem mp_o905 {a0 : Int} (h0 : 0 ≤ a0) (h1 : a0 ≤ 12) (h2 : a0 < 11) : ((0 ≤ a0 ∧ a0 < ((11 : Nat) : Int))) := by omega
theorem mp_o906 {a0 : Int} (h0 : 0 ≤ a0) (h1 : a0 ≤ 12) (h2 : a0 < 11) : (-2147483648) ≤ (a0 + 1) := by omega
theorem mp_o907 {a0 : Int} (h0 : 0 ≤ a0) (h1 : a0 ≤ 12) (h2 : a0 < 11) : (a0 + 1) ≤ 2147483647 := by omega
theorem mp_o908 {a0 : Int} {a1 : Nat} {a2 : Int} (h0 : 0 ≤ a0) (h1 : a0 ≤ 12) (h2 : ((-a0) + 11) ≤ ((a1 : Nat) : Int)) (h3 : a0 < 11) (h4 : a2 = (a0 + 1)) : (a1 - 1) < a1 := by omega
theorem mp_o909 {a0 : Int} {a1 : Int} (h0 : 0 ≤ a0) (h1 : a0 ≤ 12) (h2 : a0 < 11) (h3 : a1 = (a0 + 1)) : 0 ≤ a1 := by omega
theorem mp_o910 {a0 : Int} {a1 : Int} (h0 : 0 ≤ a0) (h1 : a0 ≤ 12) (h2 : a0 < 11) (h3 : a1 = (a0 + 1)) : a1 ≤ 12 := by omega
theorem mp_o911 {a0 : Int} {a1 : Int} (h0 : 0 ≤ a0) (h1 : a0 ≤ 12) (h2 : a0 < 11) (h3 : a1 = (a0 + 1)) : ((0 ≤ a0 ∧ a1 = (a0 + 1))) := by omega
theorem mp_o912 {a0 : Int} {a1 : Nat} {a2 : Int} (h0 : 0 ≤ a0) (h1 : a0 ≤ 12) (h2 : ((-a0) + 11) ≤ ((a1 : Nat) : Int)) (h3 : a0 < 11) (h4 : a2 = (a0 + 1)) : ((-a2) + 11) ≤ ((((a1 - 1)) : Nat) : Int) := by omega
theorem mp_o971 {a0 : Int} {a1 : Nat} (h0 : 0 ≤ a0) (h1 : a0 ≤ 240) (h2 : 132 ≤ a0) (h3 : ((a1 : Nat) : Int) < 132) : ((a1 : Nat) : Int) < a0 := by omega
theorem mp_o972 {a0 : Int} (h0 : 0 ≤ a0) (h1 : a0 ≤ 240) (h2 : a0 < 132) : ((0 ≤ a0 ∧ a0 < ((132 : Nat) : Int))) := by omega
theorem mp_o973 {a0 : Int} (h0 : 0 ≤ a0) (h1 : a0 ≤ 240) (h2 : a0 < 132) : (-2147483648) ≤ (a0 + 1) := by omega
theorem mp_o974 {a0 : Int} (h0 : 0 ≤ a0) (h1 : a0 ≤ 240) (h2 : a0 < 132) : (a0 + 1) ≤ 2147483647 := by omega
theorem mp_o975 {a0 : Int} {a1 : Nat} {a2 : Int} (h0 : 0 ≤ a0) (h1 : a0 ≤ 240) (h2 : ((-a0) + 132) ≤ ((a1 : Nat) : Int)) (h3 : a0 < 132) (h4 : a2 = (a0 + 1)) : (a1 - 1) < a1 := by omega
theorem mp_o976 {a0 : Int} {a1 : Int} (h0 : 0 ≤ a0) (h1 : a0 ≤ 240) (h2 : a0 < 132) (h3 : a1 = (a0 + 1)) : 0 ≤ a1 := by omega
theorem mp_o977 {a0 : Int} {a1 : Int} (h0 : 0 ≤ a0) (h1 : a0 ≤ 240) (h2 : a0 < 132) (h3 : a1 = (a0 + 1)) : a1 ≤ 240 := by omega
theorem mp_o978 {a0 : Int} {a1 : Int} (h0 : 0 ≤ a0) (h1 : a0 ≤ 240) (h2 : a0 < 132) (h3 : a1 = (a0 + 1)) : ((0 ≤ a0 ∧ a1 = (a0 + 1))) := by omega
theorem mp_o979 {a0 : Int} {a1 : Nat} {a2 : Int} (h0 : 0 ≤ a0) (h1 : a0 ≤ 240) (h2 : ((-a0) + 132) ≤ ((a1 : Nat) : Int)) (h3 : a0 < 132) (h4 : a2 = (a0 + 1)) : ((-a2) + 132) ≤ ((((a1 - 1)) : Nat) : Int) := by omega
theorem mp_o980 {a0 : Int} (h0 : 0 ≤ a0) (h1 : a0 ≤ 10) : (-2147483648) ≤ (a0 - 1) := by omega
theorem mp_o981 {a0 : Int} (h0 : 0 ≤ a0) (h1 : a0 ≤ 10) : (a0 - 1) ≤ 2147483647 := by omega
theorem mp_o982 {a0 : Int} {a1 : Int} (h0 : 0 ≤ a0) (h1 : a0 ≤ 20) (h2 : a1 = (a0 + 1)) : a1 ≤ 21 := by omega
theorem mp_o983 {a0 : Int} {a1 : Int} {a2 : Int} {a3 : Int} (h0 : 0 ≤ a0) (h1 : a0 ≤ 10) (h2 : a0 ≠ 0) (h3 : a1 = (a0 - 1)) (h4 : a2 = (a3 + 1)) : (((a0 = 0 ∧ a2 = a3) ∨ (1 ≤ a0 ∧ ((a2 = 0 ∨ a2 = (a3 + 1)))))) := by omega
theorem mp_o984 {a0 : Int} {a1 : Int} {a2 : Int} {a3 : Int} {a4 : Int} (h0 : 0 ≤ a0) (h1 : a0 ≤ 10) (h2 : 0 ≤ a1) (h3 : a1 ≤ 20) (h4 : a0 ≠ 0) (h5 : a2 = (a0 - 1)) (h6 : a3 ≠ 0) (h7 : a3 ≠ 0) (h8 : a4 = 0) : (((a0 = 0 ∧ a4 = a1) ∨ (1 ≤ a0 ∧ ((a4 = 0 ∨ a4 = (a1 + 1)))))) := by omega
theorem mp_o985 {a0 : Int} (h0 : 0 ≤ a0) (h1 : a0 ≤ 20) : a0 ≤ 21 := by omega
theorem mp_o986 {a0 : Int} {a1 : Int} (h0 : 0 ≤ a0) (h1 : a0 ≤ 20) (h2 : a1 = 0) : (((a1 = 0 ∧ a0 = a0) ∨ (1 ≤ a1 ∧ ((a0 = 0 ∨ a0 = (a0 + 1)))))) := by omega
theorem mp_o987 {a0 : Int} {a1 : Int} (h0 : 0 ≤ a0) (h1 : a0 ≤ 12) (h2 : 0 ≤ a1) (h3 : a1 ≤ 21) (h4 : (0 ≤ a1 ∧ (((a0 = 0 ∧ a1 ≤ 1) ∨ a1 ≤ a0)))) (h5 : a0 ≤ 10) : a1 ≤ 20 := by omega
theorem mp_o989 {a0 : Int} (h0 : 0 ≤ a0) (h1 : a0 ≤ 12) (h2 : a0 ≤ 10) : (-2147483648) ≤ (a0 + 1) := by omega
theorem mp_o990 {a0 : Int} (h0 : 0 ≤ a0) (h1 : a0 ≤ 12) (h2 : a0 ≤ 10) : (a0 + 1) ≤ 2147483647 := by omega
theorem mp_o991 {a0 : Int} {a1 : Nat} {a2 : Int} (h0 : 0 ≤ a0) (h1 : a0 ≤ 12) (h2 : ((-a0) + 11) ≤ ((a1 : Nat) : Int)) (h3 : a0 ≤ 10) (h4 : a2 = (a0 + 1)) : (a1 - 1) < a1 := by omega
theorem mp_o992 {a0 : Int} {a1 : Int} (h0 : 0 ≤ a0) (h1 : a0 ≤ 12) (h2 : a0 ≤ 10) (h3 : a1 = (a0 + 1)) : 0 ≤ a1 := by omega
theorem mp_o993 {a0 : Int} {a1 : Int} (h0 : 0 ≤ a0) (h1 : a0 ≤ 12) (h2 : a0 ≤ 10) (h3 : a1 = (a0 + 1)) : a1 ≤ 12 := by omega
theorem mp_o995 {a0 : Int} {a1 : Nat} {a2 : Int} (h0 : 0 ≤ a0) (h1 : a0 ≤ 12) (h2 : ((-a0) + 11) ≤ ((a1 : Nat) : Int)) (h3 : a0 ≤ 10) (h4 : a2 = (a0 + 1)) : ((-a2) + 11) ≤ ((((a1 - 1)) : Nat) : Int) := by omega
theorem mp_o997 {a0 : Int} (h0 : 0 ≤ a0) (h1 : a0 ≤ 1) : a0 ≤ 21 := by omega
theorem mp_o998 {a0 : Int} (h0 : 0 ≤ a0) (h1 : a0 ≤ 12) (h2 : a0 ≤ 10) : (-2147483648) ≤ (a0 * 12) := by omega
theorem mp_o999 {a0 : Int} (h0 : 0 ≤ a0) (h1 : a0 ≤ 12) (h2 : a0 ≤ 10) : (a0 * 12) ≤ 2147483647 := by omega
theorem mp_o1000 {a0 : Int} {a1 : Int} {a2 : Int} (h0 : 0 ≤ a0) (h1 : a0 ≤ 12) (h2 : a0 ≤ 10) (h3 : 0 ≤ a1) (h4 : a1 ≤ 21) (h5 : a2 = (a0 * 12)) : (-2147483648) ≤ (a2 + a1) := by omega
theorem mp_o1001 {a0 : Int} {a1 : Int} {a2 : Int} (h0 : 0 ≤ a0) (h1 : a0 ≤ 12) (h2 : a0 ≤ 10) (h3 : 0 ≤ a1) (h4 : a1 ≤ 21) (h5 : a2 = (a0 * 12)) : (a2 + a1) ≤ 2147483647 := by omega
theorem mp_o1002 {a0 : Int} {a1 : Int} {a2 : Int} {a3 : Int} {a4 : Int} (h0 : 0 ≤ a0) (h1 : a0 ≤ 12) (h2 : (0 ≤ a1 ∧ (((a0 = 0 ∧ a1 ≤ 1) ∨ a1 ≤ a0)))) (h3 : a0 ≤ 10) (h4 : 0 ≤ a2) (h5 : a2 ≤ 21) (h6 : ((a0 = 0 ∧ a2 = a1) ∨ (1 ≤ a0 ∧ ((a2 = 0 ∨ a2 = (a1 + 1)))))) (h7 : a3 = (a0 * 12)) (h8 : a4 = (a3 + a2)) : ((0 ≤ a4 ∧ a4 < ((132 : Nat) : Int))) := by omega
theorem mp_o1003 {a0 : Int} {a1 : Int} {a2 : Int} {a3 : Int} {a4 : Int} {a5 : Int} (h0 : 0 ≤ a0) (h1 : a0 ≤ 12) (h2 : (0 ≤ a1 ∧ (((a0 = 0 ∧ a1 ≤ 1) ∨ a1 ≤ a0)))) (h3 : a0 ≤ 10) (h4 : 0 ≤ a2) (h5 : a2 ≤ 21) (h6 : ((a0 = 0 ∧ a2 = a1) ∨ (1 ≤ a0 ∧ ((a2 = 0 ∨ a2 = (a1 + 1)))))) (h7 : a3 = (a0 * 12)) (h8 : a4 = (a3 + a2)) (h9 : a5 = (a0 + 1)) : ((0 ≤ a2 ∧ (((a5 = 0 ∧ a2 ≤ 1) ∨ a2 ≤ a5)))) := by omega
theorem mp_o1004 {a0 : Int} (h0 : 0 ≤ a0) (h1 : a0 ≤ 1024) (h2 : a0 < 1024) : a0 ≤ 1023 := by omega
theorem mp_o1005 {a0 : Int} (h0 : 0 ≤ a0) (h1 : a0 ≤ 1024) (h2 : a0 < 1024) : (-2147483648) ≤ (a0 + 1) := by omega
theorem mp_o1006 {a0 : Int} (h0 : 0 ≤ a0) (h1 : a0 ≤ 1024) (h2 : a0 < 1024) : (a0 + 1) ≤ 2147483647 := by omega
theorem mp_o1007 {a0 : Int} {a1 : Nat} {a2 : Int} (h0 : 0 ≤ a0) (h1 : a0 ≤ 1024) (h2 : ((-a0) + 1024) ≤ ((a1 : Nat) : Int)) (h3 : a0 < 1024) (h4 : a2 = (a0 + 1)) : (a1 - 1) < a1 := by omega
theorem mp_o1008 {a0 : Int} {a1 : Int} (h0 : 0 ≤ a0) (h1 : a0 ≤ 1024) (h2 : a0 < 1024) (h3 : a1 = (a0 + 1)) : 0 ≤ a1 := by omega
theorem mp_o1009 {a0 : Int} {a1 : Int} (h0 : 0 ≤ a0) (h1 : a0 ≤ 1024) (h2 : a0 < 1024) (h3 : a1 = (a0 + 1)) : a1 ≤ 1024 := by omega
theorem mp_o1010 {a0 : Int} {a1 : Nat} {a2 : Int} (h0 : 0 ≤ a0) (h1 : a0 ≤ 1024) (h2 : ((-a0) + 1024) ≤ ((a1 : Nat) : Int)) (h3 : a0 < 1024) (h4 : a2 = (a0 + 1)) : ((-a2) + 1024) ≤ ((((a1 - 1)) : Nat) : Int) := by omega
theorem mp_o1011 {a0 : Int} (h0 : a0 = 0) : (-2147483648) ≤ (a0 + 1) := by omega
theorem mp_o1012 {a0 : Int} (h0 : a0 = 0) : (a0 + 1) ≤ 2147483647 := by omega
theorem mp_o1039 {a0 : Int} (h0 : 1 ≤ a0) (h1 : a0 ≤ 12) (h2 : a0 ≤ 10) : 0 ≤ a0 := by omega
theorem mp_o1040 {a0 : Int} (h0 : 1 ≤ a0) (h1 : a0 ≤ 12) (h2 : a0 ≤ 10) : (-2147483648) ≤ (a0 + 1) := by omega
theorem mp_o1041 {a0 : Int} (h0 : 1 ≤ a0) (h1 : a0 ≤ 12) (h2 : a0 ≤ 10) : (a0 + 1) ≤ 2147483647 := by omega
theorem mp_o1042 {a0 : Int} {a1 : Nat} {a2 : Int} (h0 : 1 ≤ a0) (h1 : a0 ≤ 12) (h2 : ((-a0) + 11) ≤ ((a1 : Nat) : Int)) (h3 : a0 ≤ 10) (h4 : a2 = (a0 + 1)) : (a1 - 1) < a1 := by omega
theorem mp_o1043 {a0 : Int} {a1 : Int} (h0 : 1 ≤ a0) (h1 : a0 ≤ 12) (h2 : a0 ≤ 10) (h3 : a1 = (a0 + 1)) : 1 ≤ a1 := by omega
theorem mp_o1044 {a0 : Int} {a1 : Int} (h0 : 1 ≤ a0) (h1 : a0 ≤ 12) (h2 : a0 ≤ 10) (h3 : a1 = (a0 + 1)) : a1 ≤ 12 := by omega
theorem mp_o1045 {a0 : Int} {a1 : Nat} {a2 : Int} (h0 : 1 ≤ a0) (h1 : a0 ≤ 12) (h2 : ((-a0) + 11) ≤ ((a1 : Nat) : Int)) (h3 : a0 ≤ 10) (h4 : a2 = (a0 + 1)) : ((-a2) + 11) ≤ ((((a1 - 1)) : Nat) : Int) := by omega
theorem mp_o1046 {a0 : Int} {a1 : Int} (h0 : 0 ≤ a0) (h1 : a0 ≤ 99) (h2 : 1 ≤ a1) (h3 : a1 ≤ 12) (h4 : a1 ≤ 10) : (-2147483648) ≤ (a0 + a1) := by omega
theorem mp_o1047 {a0 : Int} {a1 : Int} (h0 : 0 ≤ a0) (h1 : a0 ≤ 99) (h2 : 1 ≤ a1) (h3 : a1 ≤ 12) (h4 : a1 ≤ 10) : (a0 + a1) ≤ 2147483647 := by omega
theorem mp_o1048 {a0 : Int} {a1 : Int} {a2 : Int} {a3 : Int} (h0 : 0 ≤ a0) (h1 : a0 ≤ 99) (h2 : 1 ≤ a1) (h3 : a1 ≤ 12) (h4 : a1 ≤ 10) (h5 : a2 = (a0 + a1)) (h6 : a3 = (a1 + 1)) : (-1) ≤ a2 := by omega
theorem mp_o1049 {a0 : Int} {a1 : Int} {a2 : Int} {a3 : Int} (h0 : 0 ≤ a0) (h1 : a0 ≤ 99) (h2 : 1 ≤ a1) (h3 : a1 ≤ 12) (h4 : a1 ≤ 10) (h5 : a2 = (a0 + a1)) (h6 : a3 = (a1 + 1)) : a2 ≤ 240 := by omega
theorem mp_o1056 {a0 : Int} {a1 : Int} (h0 : a0 = a1) (h1 : a0 = 0) : a1 = 0 := by omega
theorem mp_o1100 {a0 : Int} {a1 : Int} {a2 : Int} (h0 : a0 = a1) (h1 : a2 = a0) : a2 = a1 := by omega
theorem mp_o1115 {a0 : Int} {a1 : Int} {a2 : Int} (h0 : a0 = a1) (h1 : a0 ≤ a2) : a1 ≤ a2 := by omega
theorem mp_o1165 {a0 : Int} {a1 : Int} (h0 : 0 ≤ a0) (h1 : a0 ≤ 99) (h2 : 1 ≤ a1) (h3 : a1 ≤ 40) : (-2147483648) ≤ (a0 + a1) := by omega
theorem mp_o1166 {a0 : Int} {a1 : Int} (h0 : 0 ≤ a0) (h1 : a0 ≤ 99) (h2 : 1 ≤ a1) (h3 : a1 ≤ 40) : (a0 + a1) ≤ 2147483647 := by omega
theorem mp_o1167 {a0 : Int} {a1 : Int} {a2 : Int} (h0 : 1 ≤ a0) (h1 : a0 ≤ 40) (h2 : 0 ≤ a1) (h3 : a1 ≤ 99) (h4 : a2 = (a1 + 1)) : (-2147483648) ≤ (a1 + a0) := by omega
theorem mp_o1168 {a0 : Int} {a1 : Int} {a2 : Int} (h0 : (a0 + a1) ≤ 99) (h1 : a2 = (a0 + 1)) : (a0 + a1) ≤ 2147483647 := by omega
theorem mp_o1169 {a0 : Int} {a1 : Int} {a2 : Int} {a3 : Int} (h0 : 1 ≤ a0) (h1 : a0 ≤ 40) (h2 : 0 ≤ a1) (h3 : a1 ≤ 99) (h4 : a2 = (a1 + 1)) (h5 : a3 = (a1 + a0)) : (-2147483648) ≤ (a1 + a0) := by omega
theorem mp_o1170 {a0 : Int} {a1 : Int} {a2 : Int} {a3 : Int} (h0 : (a0 + a1) ≤ 99) (h1 : a2 = (a0 + 1)) (h2 : a3 = (a0 + a1)) : (a0 + a1) ≤ 2147483647 := by omega
theorem mp_o1171 {a0 : Int} (h0 : 1 ≤ a0) (h1 : a0 ≤ 240) : (-2147483648) ≤ (a0 + 1) := by omega
theorem mp_o1172 {a0 : Int} (h0 : 1 ≤ a0) (h1 : a0 ≤ 240) : (a0 + 1) ≤ 2147483647 := by omega
theorem mp_o1173 {a0 : Int} {a1 : Int} {a2 : Int} {a3 : Int} {a4 : Nat} {a5 : Int} {a6 : Int} (h0 : a0 = (a1 + 1)) (h1 : (((a1 + a2) - a3) + 1) ≤ ((a4 : Nat) : Int)) (h2 : a5 = (a1 + a2)) (h3 : a3 ≤ a5) (h4 : a6 = (a3 + 1)) : (a4 - 1) < a4 := by omega
theorem mp_o1174 {a0 : Int} {a1 : Int} (h0 : 1 ≤ a0) (h1 : a0 ≤ 240) (h2 : a1 = (a0 + 1)) : 1 ≤ a1 := by omega
theorem mp_o1175 {a0 : Int} {a1 : Int} {a2 : Int} {a3 : Int} {a4 : Int} {a5 : Int} (h0 : 1 ≤ a0) (h1 : a0 ≤ 40) (h2 : 0 ≤ a1) (h3 : a1 ≤ 99) (h4 : (a1 + a0) ≤ 99) (h5 : a2 = (a1 + 1)) (h6 : 1 ≤ a3) (h7 : a3 ≤ 240) (h8 : a4 = (a1 + a0)) (h9 : a3 ≤ a4) (h10 : a5 = (a3 + 1)) : a5 ≤ 240 := by omega
theorem mp_o1176 {a0 : Int} {a1 : Int} {a2 : Int} {a3 : Int} {a4 : Nat} {a5 : Int} {a6 : Int} (h0 : a0 = (a1 + 1)) (h1 : (((a1 + a2) - a3) + 1) ≤ ((a4 : Nat) : Int)) (h2 : a5 = (a1 + a2)) (h3 : a3 ≤ a5) (h4 : a6 = (a3 + 1)) : (((a1 + a2) - a6) + 1) ≤ ((((a4 - 1)) : Nat) : Int) := by omega
theorem mp_o1177 {a0 : Int} (h0 : ((-2147483648) ≤ a0 ∧ a0 ≤ 2147483647)) : (-2147483648) ≤ (a0 + 0) := by omega
theorem mp_o1178 {a0 : Int} (h0 : ((-2147483648) ≤ a0 ∧ a0 ≤ 2147483647)) : (a0 + 0) ≤ 2147483647 := by omega
theorem mp_o1179 {a0 : Int} {a1 : Int} (h0 : 0 ≤ a0) (h1 : a0 ≤ 9) (h2 : a1 = a0) : (-2147483648) ≤ (a1 + 1) := by omega
theorem mp_o1180 {a0 : Int} {a1 : Int} (h0 : 0 ≤ a0) (h1 : a0 ≤ 9) (h2 : a1 = a0) : (a1 + 1) ≤ 2147483647 := by omega
theorem mp_o1181 {a0 : Int} {a1 : Int} {a2 : Int} (h0 : 0 ≤ a0) (h1 : a0 ≤ 9) (h2 : a1 = a0) (h3 : a2 = (a1 + 1)) : 0 ≤ a2 := by omega
theorem mp_o1182 {a0 : Int} {a1 : Int} {a2 : Int} (h0 : 0 ≤ a0) (h1 : a0 ≤ 9) (h2 : a1 = a0) (h3 : a2 = (a1 + 1)) : a2 ≤ 10 := by omega
theorem mp_o1183 {a0 : Int} {a1 : Int} (h0 : 0 ≤ a0) (h1 : a0 ≤ 99) (h2 : a1 = (a0 + 1)) : 1 ≤ a1 := by omega
theorem mp_o1184 {a0 : Int} {a1 : Int} (h0 : 0 ≤ a0) (h1 : a0 ≤ 99) (h2 : a1 = (a0 + 1)) : a1 ≤ 240 := by omega
theorem mp_o1185 {a0 : Int} {a1 : Int} (h0 : 0 ≤ a0) (h1 : a0 ≤ 2000000000) (h2 : 0 ≤ a1) (h3 : a1 ≤ 20) : (-2147483648) ≤ (a0 + a1) := by omega
theorem mp_o1186 {a0 : Int} {a1 : Int} (h0 : 0 ≤ a0) (h1 : a0 ≤ 2000000000) (h2 : 0 ≤ a1) (h3 : a1 ≤ 20) : (a0 + a1) ≤ 2147483647 := by omega
theorem mp_o1187 {a0 : Int} {a1 : Int} {a2 : Int} (h0 : 1 ≤ a0) (h1 : a0 ≤ 20) (h2 : 0 ≤ a1) (h3 : a1 ≤ 20) (h4 : a1 < a0) (h5 : a2 = (a1 + 1)) : a2 ≤ 20 := by omega
theorem mp_o1188 {a0 : Int} {a1 : Int} {a2 : Int} {a3 : Int} (h0 : (a0 < 0 ∨ (a1 ≤ a0 ∨ (a2 < 0 ∨ (a1 ≤ a2 ∨ a0 = a2))))) : ((a0 < 0 ∨ (a1 ≤ a0 ∨ (a2 < 0 ∨ (a1 ≤ a2 ∨ (a0 = a2 ∨ (a3 < 1 ∨ 1000000 < a3))))))) := by omega
theorem mp_o1189 {a0 : Int} {a1 : Int} {a2 : Int} {a3 : Int} (h0 : a0 < 1) : ((a1 < 0 ∨ (a2 ≤ a1 ∨ (a3 < 0 ∨ (a2 ≤ a3 ∨ (a1 = a3 ∨ (a0 < 1 ∨ 1000000 < a0))))))) := by omega
theorem mp_o1190 {a0 : Int} {a1 : Int} (h0 : 0 ≤ a0) (h1 : a0 ≤ 10) (h2 : a0 < 10) (h3 : a1 = (a0 + 1)) : (-2147483648) ≤ (a1 - 1) := by omega
theorem mp_o1191 {a0 : Int} {a1 : Int} (h0 : 0 ≤ a0) (h1 : a0 ≤ 10) (h2 : a0 < 10) (h3 : a1 = (a0 + 1)) : (a1 - 1) ≤ 2147483647 := by omega
theorem mp_o1192 {a0 : Int} {a1 : Int} {a2 : Int} (h0 : 0 ≤ a0) (h1 : a0 ≤ 10) (h2 : a0 < 10) (h3 : a1 = (a0 + 1)) (h4 : a2 = (a1 - 1)) : 0 ≤ a2 := by omega
theorem mp_o1193 {a0 : Int} {a1 : Int} {a2 : Int} (h0 : 0 ≤ a0) (h1 : a0 ≤ 10) (h2 : a0 < 10) (h3 : a1 = (a0 + 1)) (h4 : a2 = (a1 - 1)) : a2 ≤ 9 := by omega
theorem mp_o1194 {a0 : Int} {a1 : Int} {a2 : Int} {a3 : Int} {a4 : Int} (h0 : 0 ≤ a0) (h1 : a0 < a1) (h2 : 0 ≤ a2) (h3 : a2 < a1) (h4 : a0 ≠ a2) (h5 : a3 ≠ 0) (h6 : 1 ≤ a4) (h7 : a4 ≤ 1000000) : ((0 ≤ a0 ∧ (a0 < a1 ∧ (0 ≤ a2 ∧ (a2 < a1 ∧ (a0 ≠ a2 ∧ (1 ≤ a4 ∧ a4 ≤ 1000000))))))) := by omega
theorem mp_o1195 {a0 : Int} {a1 : Int} {a2 : Int} (h0 : a0 = (a1 + 1)) (h1 : a2 = (a0 - 1)) : a2 = a1 := by omega
theorem mp_o1196 {a0 : Int} {a1 : Int} {a2 : Int} {a3 : Int} (h0 : 1000000 < a0) : ((a1 < 0 ∨ (a2 ≤ a1 ∨ (a3 < 0 ∨ (a2 ≤ a3 ∨ (a1 = a3 ∨ (a0 < 1 ∨ 1000000 < a0))))))) := by omega
theorem mp_o1197 {a0 : Int} {a1 : Int} {a2 : Int} {a3 : Int} (h0 : (a0 < 0 ∨ a1 ≤ a0)) : ((a0 < 0 ∨ (a1 ≤ a0 ∨ (a2 < 0 ∨ (99 < a2 ∨ (a3 < 0 ∨ 1 < a3)))))) := by omega
theorem mp_o1198 {a0 : Int} {a1 : Int} {a2 : Int} {a3 : Int} (h0 : (a0 < 0 ∨ 99 < a0)) : ((a1 < 0 ∨ (a2 ≤ a1 ∨ (a0 < 0 ∨ (99 < a0 ∨ (a3 < 0 ∨ 1 < a3)))))) := by omega
theorem mp_o1199 {a0 : Int} {a1 : Int} {a2 : Int} {a3 : Int} (h0 : a0 < 0) : ((a1 < 0 ∨ (a2 ≤ a1 ∨ (a3 < 0 ∨ (99 < a3 ∨ (a0 < 0 ∨ 1 < a0)))))) := by omega
theorem mp_o1200 {a0 : Int} {a1 : Int} {a2 : Int} {a3 : Int} (h0 : 0 ≤ a0) (h1 : a0 < a1) (h2 : 0 ≤ a2) (h3 : a2 ≤ 99) (h4 : 0 ≤ a3) (h5 : a3 ≤ 1) : ((0 ≤ a0 ∧ (a0 < a1 ∧ (0 ≤ a2 ∧ (a2 ≤ 99 ∧ (0 ≤ a3 ∧ a3 ≤ 1)))))) := by omega
theorem mp_o1201 {a0 : Int} {a1 : Int} {a2 : Int} {a3 : Int} (h0 : 0 ≤ a0) (h1 : a0 < a1) (h2 : 0 ≤ a2) (h3 : a2 ≤ 99) (h4 : a3 = 1) : ((0 ≤ a0 ∧ (a0 < a1 ∧ (0 ≤ a2 ∧ (a2 ≤ 99 ∧ (0 ≤ a3 ∧ a3 ≤ 1)))))) := by omega
theorem mp_o1202 {a0 : Int} {a1 : Int} (h0 : a0 = 1) (h1 : ¬ (a0 = 1)) : (a1 ≠ 0) → False := by omega
theorem mp_o1203 {a0 : Int} {a1 : Int} {a2 : Int} {a3 : Int} (h0 : 1 < a0) : ((a1 < 0 ∨ (a2 ≤ a1 ∨ (a3 < 0 ∨ (99 < a3 ∨ (a0 < 0 ∨ 1 < a0)))))) := by omega
theorem mp_o1204 {a0 : Int} {a1 : Int} {a2 : Int} (h0 : (a0 < 0 ∨ a1 ≤ a0)) : ((a0 < 0 ∨ (a1 ≤ a0 ∨ (a2 < 0 ∨ 100 < a2)))) := by omega
theorem mp_o1205 {a0 : Int} {a1 : Int} {a2 : Int} (h0 : a0 < 0) : ((a1 < 0 ∨ (a2 ≤ a1 ∨ (a0 < 0 ∨ 100 < a0)))) := by omega
theorem mp_o1206 {a0 : Int} {a1 : Int} {a2 : Int} (h0 : 0 ≤ a0) (h1 : a0 < a1) (h2 : 0 ≤ a2) (h3 : a2 ≤ 100) : ((0 ≤ a0 ∧ (a0 < a1 ∧ (0 ≤ a2 ∧ a2 ≤ 100)))) := by omega
theorem mp_o1207 {a0 : Int} {a1 : Int} {a2 : Int} (h0 : 100 < a0) : ((a1 < 0 ∨ (a2 ≤ a1 ∨ (a0 < 0 ∨ 100 < a0)))) := by omega
theorem mp_o1208 {a0 : Int} (h0 : 0 ≤ a0) (h1 : a0 ≤ 5) (h2 : a0 < 4) : a0 ≤ 3 := by omega
theorem mp_o1209 {a0 : Int} (h0 : 0 ≤ a0) (h1 : a0 ≤ 5) (h2 : a0 < 4) : (-2147483648) ≤ (a0 + 1) := by omega
theorem mp_o1210 {a0 : Int} (h0 : 0 ≤ a0) (h1 : a0 ≤ 5) (h2 : a0 < 4) : (a0 + 1) ≤ 2147483647 := by omega
theorem mp_o1211 {a0 : Int} {a1 : Nat} {a2 : Int} (h0 : 0 ≤ a0) (h1 : a0 ≤ 5) (h2 : ((-a0) + 4) ≤ ((a1 : Nat) : Int)) (h3 : a0 < 4) (h4 : a2 = (a0 + 1)) : (a1 - 1) < a1 := by omega
theorem mp_o1212 {a0 : Int} {a1 : Int} (h0 : 0 ≤ a0) (h1 : a0 ≤ 5) (h2 : a0 < 4) (h3 : a1 = (a0 + 1)) : 0 ≤ a1 := by omega
theorem mp_o1213 {a0 : Int} {a1 : Int} (h0 : 0 ≤ a0) (h1 : a0 ≤ 5) (h2 : a0 < 4) (h3 : a1 = (a0 + 1)) : a1 ≤ 5 := by omega
theorem mp_o1214 {a0 : Int} {a1 : Nat} {a2 : Int} (h0 : 0 ≤ a0) (h1 : a0 ≤ 5) (h2 : ((-a0) + 4) ≤ ((a1 : Nat) : Int)) (h3 : a0 < 4) (h4 : a2 = (a0 + 1)) : ((-a2) + 4) ≤ ((((a1 - 1)) : Nat) : Int) := by omega
theorem mp_o1259 {a0 : Int} {a1 : Int} {a2 : Int} (h0 : a0 < 0) : ((a0 < 0 ∨ (a1 < 0 ∨ a2 < (a0 + a1)))) := by omega
theorem mp_o1260 {a0 : Int} {a1 : Int} {a2 : Int} (h0 : a0 < 0) : ((a1 < 0 ∨ (a0 < 0 ∨ a2 < (a1 + a0)))) := by omega
theorem mp_o1261 {a0 : Int} {a1 : Int} {a2 : Int} {a3 : Int} (h0 : 0 ≤ a0) (h1 : 0 ≤ a1) (h2 : a2 = a0) (h3 : a3 = a1) (h4 : ((-2147483648) ≤ a0 ∧ a0 ≤ 2147483647)) (h5 : ((-2147483648) ≤ a1 ∧ a1 ≤ 2147483647)) : (-9223372036854775808) ≤ (a2 + a3) := by omega
theorem mp_o1262 {a0 : Int} {a1 : Int} {a2 : Int} {a3 : Int} (h0 : 0 ≤ a0) (h1 : 0 ≤ a1) (h2 : a2 = a0) (h3 : a3 = a1) (h4 : ((-2147483648) ≤ a0 ∧ a0 ≤ 2147483647)) (h5 : ((-2147483648) ≤ a1 ∧ a1 ≤ 2147483647)) : (a2 + a3) ≤ 9223372036854775807 := by omega
theorem mp_o1263 {a0 : Int} {a1 : Int} {a2 : Int} {a3 : Int} {a4 : Int} {a5 : Int} {a6 : Int} {a7 : Int} (h0 : a0 = a1) (h1 : a2 = a3) (h2 : a4 = (a0 + a2)) (h3 : a5 = a6) (h4 : a7 = a5) (h5 : a7 < a4) : ((a1 < 0 ∨ (a3 < 0 ∨ a6 < (a1 + a3)))) := by omega
theorem mp_o1264 {a0 : Int} {a1 : Int} {a2 : Int} {a3 : Int} {a4 : Int} {a5 : Int} {a6 : Int} {a7 : Int} (h0 : 0 ≤ a0) (h1 : 0 ≤ a1) (h2 : a2 = a0) (h3 : a3 = a1) (h4 : ((-2147483648) ≤ a0 ∧ a0 ≤ 2147483647)) (h5 : ((-2147483648) ≤ a1 ∧ a1 ≤ 2147483647)) (h6 : a4 = (a2 + a3)) (h7 : a5 = a6) (h8 : a7 = a5) (h9 : a4 ≤ a7) : ((0 ≤ a0 ∧ (0 ≤ a1 ∧ (a0 + a1) ≤ a6))) := by omega
theorem mp_o1265 {a0 : Int} {a1 : Int} {a2 : Int} {a3 : Int} {a4 : Int} {a5 : Int} {a6 : Int} {a7 : Int} (h0 : 0 ≤ a0) (h1 : 0 ≤ a1) (h2 : a2 = a0) (h3 : a3 = a1) (h4 : ((-2147483648) ≤ a0 ∧ a0 ≤ 2147483647)) (h5 : ((-2147483648) ≤ a1 ∧ a1 ≤ 2147483647)) (h6 : a4 = (a2 + a3)) (h7 : ((-1) ≤ a5 ∧ a5 ≤ 60)) (h8 : a5 = a6) (h9 : a7 = a5) (h10 : a4 ≤ a7) : (a0 + a1) ≤ 60 := by omega
theorem mp_o1282 {a0 : Int} (h0 : a0 ≤ (-1)) (h1 : 0 ≤ a0) : False := by omega
theorem mp_o1283 {a0 : Int} (h0 : 3 ≤ a0) (h1 : a0 < 0) : False := by omega
theorem mp_o1284 {a0 : Int} (h0 : 3 ≤ a0) (h1 : a0 < 3) : False := by omega
theorem mp_o1285 {a0 : Int} {a1 : Int} {a2 : Int} {a3 : Int} (h0 : 0 ≤ a0) (h1 : a0 ≤ 99) (h2 : a0 = (a1 + a2)) (h3 : a3 = a2) : (a1 + a3) ≤ 99 := by omega
theorem mp_o1286 {a0 : Int} {a1 : Int} {a2 : Int} (h0 : (a0 + a1) ≤ 99) (h1 : a2 = a1) : (a0 + a2) ≤ 99 := by omega
theorem mp_o1287 {a0 : Int} {a1 : Int} {a2 : Int} (h0 : a0 < a1) : ((a0 < a1 ∨ a2 < a0)) := by omega
theorem mp_o1288 {a0 : Int} {a1 : Int} {a2 : Int} (h0 : a0 < a1) : ((a1 < a2 ∨ a0 < a1)) := by omega
theorem mp_o1289 {a0 : Int} {a1 : Int} {a2 : Int} {a3 : Int} (h0 : a0 = a1) (h1 : (a0 < a2 ∨ a3 < a0)) (h2 : a2 = 0) (h3 : a3 = 3) : ((a1 < 0 ∨ 3 < a1)) := by omega
theorem mp_o1290 {a0 : Int} {a1 : Int} (h0 : a0 = a1) (h1 : 0 ≤ a0) (h2 : a0 ≤ 3) : 0 ≤ a1 := by omega
theorem mp_o1291 {a0 : Int} {a1 : Int} (h0 : a0 = a1) (h1 : 0 ≤ a0) (h2 : a0 ≤ 3) : a1 ≤ 3 := by omega
theorem mp_o1292 {a0 : Int} {a1 : Int} (h0 : a0 = a1) (h1 : 0 ≤ a0) (h2 : a0 ≤ 3) : ((0 ≤ a1 ∧ a1 ≤ 3)) := by omega
theorem mp_o1295 {a0 : Int} (h0 : 0 ≤ a0) (h1 : a0 ≤ 3) : (-2147483648) ≤ (60 * a0) := by omega
theorem mp_o1296 {a0 : Int} (h0 : 0 ≤ a0) (h1 : a0 ≤ 3) : (60 * a0) ≤ 2147483647 := by omega
theorem mp_o1312 {a0 : Int} {a1 : Int} (h0 : (0 ≤ a0 ∧ a0 ≤ 60)) (h1 : a0 = a1) : (-2147483648) ≤ (a0 - 1) := by omega
theorem mp_o1313 {a0 : Int} {a1 : Int} (h0 : (0 ≤ a0 ∧ a0 ≤ 60)) (h1 : a0 = a1) : (a0 - 1) ≤ 2147483647 := by omega
theorem mp_o1363 {a0 : Int} {a1 : Int} {a2 : Int} {a3 : Int} {a4 : Int} {a5 : Int} (h0 : a0 = a1) (h1 : a2 = a3) (h2 : (a0 < a4 ∨ a2 < a0)) (h3 : a4 = 0) (h4 : a5 = (-1)) : (((0 ≤ a1 ∧ (a1 ≤ a3 ∧ (a5 = a1 ∧ a3 = a1))) ∨ (((a1 < 0 ∨ a3 < a1)) ∧ (a5 = (-1) ∧ a3 = a3)))) := by omega
theorem mp_o1364 {a0 : Int} {a1 : Int} (h0 : a0 = a1) (h1 : 0 ≤ a0) : 0 ≤ a1 := by omega
theorem mp_o1365 {a0 : Int} {a1 : Int} {a2 : Int} {a3 : Int} (h0 : 0 ≤ a0) (h1 : a0 ≤ 1600) (h2 : a1 = a2) (h3 : a3 = a0) (h4 : a1 ≤ a3) : a2 ≤ 1600 := by omega
theorem mp_o1366 {a0 : Int} {a1 : Int} (h0 : a0 = a1) (h1 : 0 ≤ a0) : (-1) ≤ a1 := by omega
theorem mp_o1367 {a0 : Int} {a1 : Int} {a2 : Int} {a3 : Int} (h0 : a0 = a1) (h1 : a2 = a3) (h2 : a0 ≤ a2) (h3 : 0 ≤ a0) : (((0 ≤ a1 ∧ (a1 ≤ a3 ∧ (a1 = a1 ∧ a1 = a1))) ∨ (((a1 < 0 ∨ a3 < a1)) ∧ (a1 = (-1) ∧ a1 = a3)))) := by omega
theorem mp_o1368 {a0 : Int} {a1 : Int} {a2 : Int} {a3 : Int} {a4 : Int} (h0 : a0 = 0) (h1 : a1 = a0) (h2 : a2 = a1) (h3 : a3 = a2) (h4 : a4 = a3) : a4 = 0 := by omega
theorem mp_o1369 {a0 : Int} {a1 : Int} {a2 : Int} {a3 : Int} (h0 : a0 = 0) (h1 : a1 = a0) (h2 : a2 = a1) (h3 : a3 = a2) : a3 = 0 := by omega
theorem mp_o1370 {a0 : Int} {a1 : Int} {a2 : Int} (h0 : a0 = 0) (h1 : a1 = a0) (h2 : a2 = a1) : a2 = 0 := by omega
theorem mp_o1371 {a0 : Int} {a1 : Int} (h0 : a0 = 0) (h1 : a1 = a0) : a1 = 0 := by omega
theorem mp_o1372 {a0 : Int} {a1 : Nat} (h0 : 0 ≤ a0) (h1 : a0 ≤ 600) (h2 : 600 ≤ a0) (h3 : ((a1 : Nat) : Int) < 600) : ((a1 : Nat) : Int) < a0 := by omega
theorem mp_o1373 {a0 : Int} (h0 : 0 ≤ a0) (h1 : a0 ≤ 600) (h2 : a0 < 600) : (-2147483648) ≤ (2400 + a0) := by omega
theorem mp_o1374 {a0 : Int} (h0 : 0 ≤ a0) (h1 : a0 ≤ 600) (h2 : a0 < 600) : (2400 + a0) ≤ 2147483647 := by omega
theorem mp_o1375 {a0 : Int} {a1 : Int} (h0 : 0 ≤ a0) (h1 : a0 ≤ 600) (h2 : a0 < 600) (h3 : a1 = (2400 + a0)) : ((0 ≤ a1 ∧ a1 < ((3000 : Nat) : Int))) := by omega
theorem mp_o1376 {a0 : Int} {a1 : Int} (h0 : 0 ≤ a0) (h1 : a0 ≤ 600) (h2 : a0 < 600) (h3 : a1 = (2400 + a0)) : ((2400 : Nat) : Int) ≤ a1 := by omega
theorem mp_o1377 {a0 : Int} {a1 : Int} (h0 : 0 ≤ a0) (h1 : a0 ≤ 600) (h2 : a0 < 600) (h3 : a1 = (2400 + a0)) : (-2147483648) ≤ (a0 + 1) := by omega
theorem mp_o1378 {a0 : Int} {a1 : Int} (h0 : 0 ≤ a0) (h1 : a0 ≤ 600) (h2 : a0 < 600) (h3 : a1 = (2400 + a0)) : (a0 + 1) ≤ 2147483647 := by omega
theorem mp_o1379 {a0 : Int} {a1 : Nat} {a2 : Int} {a3 : Int} (h0 : 0 ≤ a0) (h1 : a0 ≤ 600) (h2 : ((-a0) + 600) ≤ ((a1 : Nat) : Int)) (h3 : a0 < 600) (h4 : a2 = (2400 + a0)) (h5 : a3 = (a0 + 1)) : (a1 - 1) < a1 := by omega
theorem mp_o1380 {a0 : Int} {a1 : Int} {a2 : Int} (h0 : 0 ≤ a0) (h1 : a0 ≤ 600) (h2 : a0 < 600) (h3 : a1 = (2400 + a0)) (h4 : a2 = (a0 + 1)) : 0 ≤ a2 := by omega
theorem mp_o1381 {a0 : Int} {a1 : Int} {a2 : Int} (h0 : 0 ≤ a0) (h1 : a0 ≤ 600) (h2 : a0 < 600) (h3 : a1 = (2400 + a0)) (h4 : a2 = (a0 + 1)) : a2 ≤ 600 := by omega
theorem mp_o1382 {a0 : Int} {a1 : Int} {a2 : Int} (h0 : 0 ≤ a0) (h1 : a0 ≤ 600) (h2 : a0 < 600) (h3 : a1 = (2400 + a0)) (h4 : a2 = (a0 + 1)) : ((0 ≤ a0 ∧ a2 = (a0 + 1))) := by omega
theorem mp_o1383 {a0 : Int} {a1 : Nat} {a2 : Int} {a3 : Int} (h0 : 0 ≤ a0) (h1 : a0 ≤ 600) (h2 : ((-a0) + 600) ≤ ((a1 : Nat) : Int)) (h3 : a0 < 600) (h4 : a2 = (2400 + a0)) (h5 : a3 = (a0 + 1)) : ((-a3) + 600) ≤ ((((a1 - 1)) : Nat) : Int) := by omega
theorem mp_o1384 {a0 : Int} (h0 : 0 ≤ a0) (h1 : a0 ≤ 36) (h2 : a0 < 36) : (-2147483648) ≤ (144 + a0) := by omega
theorem mp_o1385 {a0 : Int} (h0 : 0 ≤ a0) (h1 : a0 ≤ 36) (h2 : a0 < 36) : (144 + a0) ≤ 2147483647 := by omega
theorem mp_o1386 {a0 : Int} {a1 : Int} (h0 : 0 ≤ a0) (h1 : a0 ≤ 36) (h2 : a0 < 36) (h3 : a1 = (144 + a0)) : ((0 ≤ a1 ∧ a1 < ((180 : Nat) : Int))) := by omega
theorem mp_o1387 {a0 : Int} {a1 : Int} (h0 : 0 ≤ a0) (h1 : a0 ≤ 36) (h2 : a0 < 36) (h3 : a1 = (144 + a0)) : ((144 : Nat) : Int) ≤ a1 := by omega
theorem mp_o1388 {a0 : Int} {a1 : Int} (h0 : 0 ≤ a0) (h1 : a0 ≤ 36) (h2 : a0 < 36) (h3 : a1 = (144 + a0)) : (-2147483648) ≤ (a0 + 1) := by omega
theorem mp_o1389 {a0 : Int} {a1 : Int} (h0 : 0 ≤ a0) (h1 : a0 ≤ 36) (h2 : a0 < 36) (h3 : a1 = (144 + a0)) : (a0 + 1) ≤ 2147483647 := by omega
theorem mp_o1390 {a0 : Int} {a1 : Nat} {a2 : Int} {a3 : Int} (h0 : 0 ≤ a0) (h1 : a0 ≤ 36) (h2 : ((-a0) + 36) ≤ ((a1 : Nat) : Int)) (h3 : a0 < 36) (h4 : a2 = (144 + a0)) (h5 : a3 = (a0 + 1)) : (a1 - 1) < a1 := by omega
theorem mp_o1391 {a0 : Int} {a1 : Int} {a2 : Int} (h0 : 0 ≤ a0) (h1 : a0 ≤ 36) (h2 : a0 < 36) (h3 : a1 = (144 + a0)) (h4 : a2 = (a0 + 1)) : 0 ≤ a2 := by omega
theorem mp_o1392 {a0 : Int} {a1 : Int} {a2 : Int} (h0 : 0 ≤ a0) (h1 : a0 ≤ 36) (h2 : a0 < 36) (h3 : a1 = (144 + a0)) (h4 : a2 = (a0 + 1)) : a2 ≤ 36 := by omega
theorem mp_o1393 {a0 : Int} {a1 : Int} {a2 : Int} (h0 : 0 ≤ a0) (h1 : a0 ≤ 36) (h2 : a0 < 36) (h3 : a1 = (144 + a0)) (h4 : a2 = (a0 + 1)) : ((0 ≤ a0 ∧ a2 = (a0 + 1))) := by omega
theorem mp_o1394 {a0 : Int} {a1 : Nat} {a2 : Int} {a3 : Int} (h0 : 0 ≤ a0) (h1 : a0 ≤ 36) (h2 : ((-a0) + 36) ≤ ((a1 : Nat) : Int)) (h3 : a0 < 36) (h4 : a2 = (144 + a0)) (h5 : a3 = (a0 + 1)) : ((-a3) + 36) ≤ ((((a1 - 1)) : Nat) : Int) := by omega
theorem mp_o1395 {a0 : Int} {a1 : Int} {a2 : Int} {a3 : Int} {a4 : Int} (h0 : a0 ≤ a1) : ((a0 ≤ a1 ∨ (a2 < a3 ∨ a4 < a2))) := by omega
theorem mp_o1396 {a0 : Int} {a1 : Int} (h0 : 0 ≤ a0) (h1 : a0 ≤ 1600) (h2 : 0 ≤ a1) (h3 : a1 ≤ 1600) (h4 : a0 < a1) : ((0 ≤ a0 ∧ a0 < ((1600 : Nat) : Int))) := by omega
theorem mp_o1397 {a0 : Int} {a1 : Int} {a2 : Int} {a3 : Int} {a4 : Int} {a5 : Int} (h0 : a0 < a1) (h1 : a0 = a2) : ((a3 ≤ a4 ∨ (a2 < a1 ∨ a5 < a2))) := by omega
theorem mp_o1398 {a0 : Int} {a1 : Int} {a2 : Int} {a3 : Int} {a4 : Int} {a5 : Int} (h0 : a0 < a1) (h1 : a1 = a2) : ((a3 ≤ a4 ∨ (a2 < a5 ∨ a0 < a2))) := by omega
theorem mp_o1399 {a0 : Int} {a1 : Int} {a2 : Int} {a3 : Int} (h0 : a0 ≤ a1) (h1 : a1 ≤ a2) (h2 : a1 = a3) : ((a0 ≤ a3 ∧ a3 ≤ a2)) := by omega
theorem mp_o1400 {a0 : Int} {a1 : Int} {a2 : Int} {a3 : Int} {a4 : Int} {a5 : Int} {a6 : Int} (h0 : 0 ≤ a0) (h1 : a0 ≤ 1600) (h2 : a1 = 48) (h3 : a2 = 122) (h4 : 0 ≤ a3) (h5 : a3 ≤ 1600) (h6 : a3 ≤ a0) (h7 : a3 ≠ a0) (h8 : (a0 ≤ a3 ∨ (a4 < a5 ∨ a2 < a4))) (h9 : (a0 ≤ a3 ∨ (a4 < a1 ∨ a6 < a4))) : ((0 ≤ a3 ∧ a3 < ((1600 : Nat) : Int))) := by omega
theorem mp_o1401 {a0 : Int} {a1 : Int} {a2 : Int} {a3 : Int} {a4 : Int} {a5 : Int} {a6 : Int} {a7 : Int} {a8 : Int} {a9 : Int} (h0 : 0 ≤ a0) (h1 : a0 ≤ 1600) (h2 : a1 = 48) (h3 : a2 = 57) (h4 : a3 = 122) (h5 : 0 ≤ a4) (h6 : a4 ≤ 1600) (h7 : a4 ≤ a0) (h8 : a4 ≠ a0) (h9 : (a0 ≤ a4 ∨ (a5 < a6 ∨ a3 < a5))) (h10 : (a0 ≤ a4 ∨ (a5 < a1 ∨ a2 < a5))) (h11 : a7 = a5) (h12 : a7 ≠ a8) (h13 : a7 ≠ 59) (h14 : a9 = (a4 + 1)) : a9 ≤ 1600 := by omega
theorem mp_o1402 {a0 : Int} {a1 : Int} {a2 : Int} {a3 : Int} {a4 : Int} {a5 : Int} {a6 : Int} {a7 : Int} {a8 : Int} {a9 : Int} (h0 : a0 = 48) (h1 : a1 = 57) (h2 : a2 = 122) (h3 : a3 ≤ a4) (h4 : a3 ≠ a4) (h5 : (a4 ≤ a3 ∨ (a5 < a6 ∨ a2 < a5))) (h6 : (a4 ≤ a3 ∨ (a5 < a0 ∨ a1 < a5))) (h7 : a7 = a5) (h8 : a7 ≠ a8) (h9 : a7 ≠ 59) (h10 : a9 = (a3 + 1)) : a9 ≤ a4 := by omega
theorem mp_o1403 {a0 : Int} {a1 : Int} {a2 : Int} {a3 : Int} (h0 : a0 ≤ a1) (h1 : a2 = (a1 + 1)) : (((a3 = 0 ∧ a0 ≤ a2) ∨ (a0 + 1) ≤ a2)) := by omega
theorem mp_o1404 {a0 : Int} {a1 : Int} {a2 : Int} {a3 : Int} {a4 : Int} {a5 : Nat} {a6 : Nat} {a7 : Int} {a8 : Int} {a9 : Int} {a10 : Int} {a11 : Int} (h0 : a0 = 48) (h1 : a1 = 57) (h2 : a2 = 122) (h3 : 0 ≤ a3) (h4 : a3 ≤ 1600) (h5 : a3 ≤ a4) (h6 : a5 = (Int.toNat a3)) (h7 : a6 = (Int.toNat a3)) (h8 : a3 ≠ a4) (h9 : a3 ≠ a4) (h10 : (a4 ≤ a3 ∨ (a7 < a8 ∨ a2 < a7))) (h11 : (a4 ≤ a3 ∨ (a7 < a0 ∨ a1 < a7))) (h12 : a9 = a7) (h13 : a9 ≠ a10) (h14 : a9 ≠ 59) (h15 : a11 = (a3 + 1)) : a3 = ((a5 : Nat) : Int) := by omega
theorem mp_o1405 {a0 : Int} {a1 : Int} {a2 : Int} {a3 : Int} {a4 : Int} {a5 : Int} {a6 : Int} {a7 : Int} {a8 : Int} {a9 : Int} (h0 : a0 = 48) (h1 : a1 = 57) (h2 : a2 = 122) (h3 : 0 ≤ a3) (h4 : a3 ≤ 1600) (h5 : a3 ≤ a4) (h6 : a3 ≠ a4) (h7 : (a4 ≤ a3 ∨ (a5 < a6 ∨ a2 < a5))) (h8 : (a4 ≤ a3 ∨ (a5 < a0 ∨ a1 < a5))) (h9 : a7 = a5) (h10 : a7 ≠ a8) (h11 : a7 ≠ 59) (h12 : a9 = (a3 + 1)) : ((0 ≤ a3 ∧ a3 < a4)) := by omega
theorem mp_o1406 {a0 : Int} {a1 : Int} {a2 : Int} {a3 : Int} {a4 : Int} {a5 : Int} {a6 : Int} {a7 : Int} {a8 : Int} {a9 : Int} (h0 : a0 = 48) (h1 : a1 = 97) (h2 : a2 = 122) (h3 : a3 ≤ a4) (h4 : a3 ≠ a4) (h5 : (a4 ≤ a3 ∨ (a5 < a1 ∨ a2 < a5))) (h6 : (a4 ≤ a3 ∨ (a5 < a0 ∨ a6 < a5))) (h7 : a7 = a5) (h8 : a7 ≠ a8) (h9 : a7 ≠ 59) (h10 : a9 = (a3 + 1)) : ((a5 < 97 ∨ 122 < a5)) := by omega
theorem mp_o1407 {a0 : Int} {a1 : Int} {a2 : Int} {a3 : Int} {a4 : Int} {a5 : Int} {a6 : Int} {a7 : Int} {a8 : Int} {a9 : Int} (h0 : a0 = 48) (h1 : a1 = 57) (h2 : a2 = 122) (h3 : a3 ≤ a4) (h4 : a3 ≠ a4) (h5 : (a4 ≤ a3 ∨ (a5 < a6 ∨ a2 < a5))) (h6 : (a4 ≤ a3 ∨ (a5 < a0 ∨ a1 < a5))) (h7 : a7 = a5) (h8 : a7 ≠ a8) (h9 : a7 ≠ 59) (h10 : a9 = (a3 + 1)) : ((a5 < 48 ∨ 57 < a5)) := by omega
theorem mp_o1408 {a0 : Int} {a1 : Int} {a2 : Int} {a3 : Int} {a4 : Int} {a5 : Int} {a6 : Int} {a7 : Int} {a8 : Int} (h0 : 0 ≤ a0) (h1 : a0 ≤ 1600) (h2 : a1 = 48) (h3 : a2 = 122) (h4 : 0 ≤ a3) (h5 : a3 ≤ 1600) (h6 : a3 ≤ a0) (h7 : a3 ≠ a0) (h8 : (a0 ≤ a3 ∨ (a4 < a5 ∨ a2 < a4))) (h9 : (a0 ≤ a3 ∨ (a4 < a1 ∨ a6 < a4))) (h10 : a7 = a4) (h11 : a7 = 59) (h12 : a8 = (a3 + 1)) : a8 ≤ 1600 := by omega
theorem mp_o1409 {a0 : Int} {a1 : Int} {a2 : Int} {a3 : Int} {a4 : Int} {a5 : Int} {a6 : Int} {a7 : Int} {a8 : Int} (h0 : a0 = 48) (h1 : a1 = 122) (h2 : a2 ≤ a3) (h3 : a2 ≠ a3) (h4 : (a3 ≤ a2 ∨ (a4 < a5 ∨ a1 < a4))) (h5 : (a3 ≤ a2 ∨ (a4 < a0 ∨ a6 < a4))) (h6 : a7 = a4) (h7 : a7 = 59) (h8 : a8 = (a2 + 1)) : a8 ≤ a3 := by omega
theorem mp_o1410 {a0 : Int} {a1 : Int} {a2 : Int} {a3 : Int} {a4 : Nat} {a5 : Nat} {a6 : Int} {a7 : Int} {a8 : Int} {a9 : Int} {a10 : Int} (h0 : a0 = 48) (h1 : a1 = 122) (h2 : 0 ≤ a2) (h3 : a2 ≤ 1600) (h4 : a2 ≤ a3) (h5 : a4 = (Int.toNat a2)) (h6 : a5 = (Int.toNat a2)) (h7 : a2 ≠ a3) (h8 : a2 ≠ a3) (h9 : (a3 ≤ a2 ∨ (a6 < a7 ∨ a1 < a6))) (h10 : (a3 ≤ a2 ∨ (a6 < a0 ∨ a8 < a6))) (h11 : a9 = a6) (h12 : a9 = 59) (h13 : a10 = (a2 + 1)) : a2 = ((a4 : Nat) : Int) := by omega
theorem mp_o1411 {a0 : Int} {a1 : Int} {a2 : Int} {a3 : Int} {a4 : Int} {a5 : Int} {a6 : Int} {a7 : Int} {a8 : Int} (h0 : a0 = 48) (h1 : a1 = 122) (h2 : 0 ≤ a2) (h3 : a2 ≤ 1600) (h4 : a2 ≤ a3) (h5 : a2 ≠ a3) (h6 : (a3 ≤ a2 ∨ (a4 < a5 ∨ a1 < a4))) (h7 : (a3 ≤ a2 ∨ (a4 < a0 ∨ a6 < a4))) (h8 : a7 = a4) (h9 : a7 = 59) (h10 : a8 = (a2 + 1)) : ((0 ≤ a2 ∧ a2 < a3)) := by omega
theorem mp_o1412 {a0 : Int} {a1 : Int} (h0 : a0 = a1) (h1 : a0 = 59) : ((a1 < 97 ∨ 122 < a1)) := by omega
theorem mp_o1413 {a0 : Int} {a1 : Int} (h0 : a0 = a1) (h1 : a0 = 59) : ((a1 < 48 ∨ 57 < a1)) := by omega
theorem mp_o1414 {a0 : Int} {a1 : Int} {a2 : Int} {a3 : Int} {a4 : Int} (h0 : a0 = 48) (h1 : a1 = 57) (h2 : a2 < a3) (h3 : (a0 ≤ a4 ∧ a4 ≤ a1)) (h4 : (a3 ≤ a2 ∨ (a4 < a0 ∨ a1 < a4))) : False := by omega
theorem mp_o1415 {a0 : Int} {a1 : Int} {a2 : Int} {a3 : Int} (h0 : a0 = 48) (h1 : a1 = 57) (h2 : (a0 ≤ a2 ∧ a2 ≤ a1)) (h3 : a3 = a2) : (-2147483648) ≤ (0 + a3) := by omega
theorem mp_o1416 {a0 : Int} {a1 : Int} {a2 : Int} {a3 : Int} (h0 : a0 = 48) (h1 : a1 = 57) (h2 : (a0 ≤ a2 ∧ a2 ≤ a1)) (h3 : a3 = a2) : (0 + a3) ≤ 2147483647 := by omega
theorem mp_o1417 {a0 : Int} {a1 : Int} {a2 : Int} {a3 : Int} {a4 : Int} (h0 : a0 = 48) (h1 : a1 = 57) (h2 : (a0 ≤ a2 ∧ a2 ≤ a1)) (h3 : a3 = a2) (h4 : a4 = (0 + a3)) : (-2147483648) ≤ (a4 - 48) := by omega
theorem mp_o1418 {a0 : Int} {a1 : Int} {a2 : Int} {a3 : Int} {a4 : Int} (h0 : a0 = 48) (h1 : a1 = 57) (h2 : (a0 ≤ a2 ∧ a2 ≤ a1)) (h3 : a3 = a2) (h4 : a4 = (0 + a3)) : (a4 - 48) ≤ 2147483647 := by omega
theorem mp_o1419 {a0 : Int} (h0 : 0 ≤ a0) (h1 : (0 ≤ a0 ∧ a0 ≤ 10000009)) : a0 ≤ 10000009 := by omega
theorem mp_o1420 {a0 : Int} {a1 : Int} {a2 : Int} (h0 : (a0 + 1) ≤ a1) : (((a2 = 0 ∧ a0 ≤ a1) ∨ (a0 + 1) ≤ a1)) := by omega
theorem mp_o1421 {a0 : Int} {a1 : Int} {a2 : Int} {a3 : Int} {a4 : Int} {a5 : Nat} {a6 : Nat} {a7 : Int} {a8 : Int} {a9 : Int} {a10 : Int} {a11 : Int} {a12 : Int} {a13 : Int} {a14 : Int} {a15 : Int} (h0 : a0 = 1) (h1 : a1 = 48) (h2 : a2 = 57) (h3 : a3 = 122) (h4 : 0 ≤ a4) (h5 : a4 ≤ 1600) (h6 : a5 = (Int.toNat a4)) (h7 : a6 = (Int.toNat a4)) (h8 : a4 ≠ a7) (h9 : a4 ≠ a7) (h10 : (a7 ≤ a4 ∨ (a8 < a9 ∨ a3 < a8))) (h11 : a4 < a7) (h12 : (a1 ≤ a8 ∧ a8 ≤ a2)) (h13 : a0 ≠ 0) (h14 : a0 ≠ 0) (h15 : a10 = a8) (h16 : a11 = (0 + a10)) (h17 : a12 = (a11 - 48)) (h18 : a13 = (a4 + 1)) (h19 : a14 ≤ a7) (h20 : (a4 + 1) ≤ a14) (h21 : (a7 ≤ a14 ∨ (a15 < a1 ∨ a2 < a15))) : a4 = ((a5 : Nat) : Int) := by omega
theorem mp_o1422 {a0 : Int} {a1 : Int} {a2 : Int} {a3 : Int} {a4 : Int} {a5 : Nat} {a6 : Int} {a7 : Int} {a8 : Int} {a9 : Int} {a10 : Int} {a11 : Int} {a12 : Int} {a13 : Int} {a14 : Int} (h0 : a0 = 1) (h1 : a1 = 48) (h2 : a2 = 57) (h3 : a3 = 122) (h4 : 0 ≤ a4) (h5 : a4 ≤ 1600) (h6 : a5 = (Int.toNat a4)) (h7 : a4 ≠ a6) (h8 : a4 ≠ a6) (h9 : (a6 ≤ a4 ∨ (a7 < a8 ∨ a3 < a7))) (h10 : a4 < a6) (h11 : (a1 ≤ a7 ∧ a7 ≤ a2)) (h12 : a0 ≠ 0) (h13 : a0 ≠ 0) (h14 : a9 = a7) (h15 : a10 = (0 + a9)) (h16 : a11 = (a10 - 48)) (h17 : a12 = (a4 + 1)) (h18 : 0 ≤ a13) (h19 : a13 ≤ 1600) (h20 : a13 ≤ a6) (h21 : (a4 + 1) ≤ a13) (h22 : (a6 ≤ a13 ∨ (a14 < a1 ∨ a2 < a14))) : (((Int.toNat a4) : Nat) : Int) < a13 := by omega
theorem mp_o1423 {a0 : Int} {a1 : Int} {a2 : Int} {a3 : Int} {a4 : Int} {a5 : Int} (h0 : a0 = 48) (h1 : a1 = 57) (h2 : (a0 ≤ a2 ∧ a2 ≤ a1)) (h3 : a3 = a2) (h4 : a4 = (0 + a3)) (h5 : a5 = (a4 - 48)) : ((a2 < 97 ∨ 122 < a2)) := by omega
theorem mp_o1424 {a0 : Int} {a1 : Int} {a2 : Int} (h0 : a0 = (a1 + 1)) (h1 : (a1 + 1) ≤ a2) : a1 ≤ a2 := by omega
theorem mp_o1425 {a0 : Int} {a1 : Int} {a2 : Int} (h0 : a0 ≤ a1) : ((a0 ≤ a1 ∨ a0 = a2)) := by omega
theorem mp_o1426 {a0 : Int} {a1 : Int} {a2 : Int} {a3 : Int} {a4 : Int} (h0 : a0 = 48) (h1 : a1 = 57) (h2 : (a2 ≤ a3 ∨ (a4 < a0 ∨ a1 < a4))) (h3 : ¬ (a2 ≤ a3)) : ((a4 < 48 ∨ 57 < a4)) := by omega
theorem mp_o1427 {a0 : Int} {a1 : Int} {a2 : Int} (h0 : 0 ≤ a0) (h1 : a0 ≤ 1600) (h2 : a1 = (a0 + 1)) (h3 : (a0 + 1) ≤ a2) : ((0 ≤ a0 ∧ a0 ≤ a2)) := by omega
theorem mp_o1428 {a0 : Int} (h0 : 0 ≤ a0) (h1 : (0 ≤ a0 ∧ a0 ≤ 10000009)) (h2 : a0 ≤ 1000000) : (-2147483648) ≤ (10 * a0) := by omega
theorem mp_o1429 {a0 : Int} (h0 : 0 ≤ a0) (h1 : (0 ≤ a0 ∧ a0 ≤ 10000009)) (h2 : a0 ≤ 1000000) : (10 * a0) ≤ 2147483647 := by omega
theorem mp_o1430 {a0 : Int} {a1 : Int} {a2 : Int} {a3 : Int} {a4 : Int} {a5 : Int} (h0 : a0 = 48) (h1 : a1 = 57) (h2 : 0 ≤ a2) (h3 : (0 ≤ a2 ∧ a2 ≤ 10000009)) (h4 : (a0 ≤ a3 ∧ a3 ≤ a1)) (h5 : a2 ≤ 1000000) (h6 : a4 = (10 * a2)) (h7 : a5 = a3) : (-2147483648) ≤ (a4 + a5) := by omega
theorem mp_o1431 {a0 : Int} {a1 : Int} {a2 : Int} {a3 : Int} {a4 : Int} {a5 : Int} (h0 : a0 = 48) (h1 : a1 = 57) (h2 : 0 ≤ a2) (h3 : (0 ≤ a2 ∧ a2 ≤ 10000009)) (h4 : (a0 ≤ a3 ∧ a3 ≤ a1)) (h5 : a2 ≤ 1000000) (h6 : a4 = (10 * a2)) (h7 : a5 = a3) : (a4 + a5) ≤ 2147483647 := by omega
theorem mp_o1432 {a0 : Int} {a1 : Int} {a2 : Int} {a3 : Int} {a4 : Int} {a5 : Int} {a6 : Int} (h0 : a0 = 48) (h1 : a1 = 57) (h2 : 0 ≤ a2) (h3 : (0 ≤ a2 ∧ a2 ≤ 10000009)) (h4 : (a0 ≤ a3 ∧ a3 ≤ a1)) (h5 : a2 ≤ 1000000) (h6 : a4 = (10 * a2)) (h7 : a5 = a3) (h8 : a6 = (a4 + a5)) : (-2147483648) ≤ (a6 - 48) := by omega
theorem mp_o1433 {a0 : Int} {a1 : Int} {a2 : Int} {a3 : Int} {a4 : Int} {a5 : Int} {a6 : Int} (h0 : a0 = 48) (h1 : a1 = 57) (h2 : 0 ≤ a2) (h3 : (0 ≤ a2 ∧ a2 ≤ 10000009)) (h4 : (a0 ≤ a3 ∧ a3 ≤ a1)) (h5 : a2 ≤ 1000000) (h6 : a4 = (10 * a2)) (h7 : a5 = a3) (h8 : a6 = (a4 + a5)) : (a6 - 48) ≤ 2147483647 := by omega
theorem mp_o1434 {a0 : Int} {a1 : Int} {a2 : Int} {a3 : Int} {a4 : Int} {a5 : Int} {a6 : Int} {a7 : Int} (h0 : a0 = 48) (h1 : a1 = 57) (h2 : 0 ≤ a2) (h3 : (0 ≤ a2 ∧ a2 ≤ 10000009)) (h4 : (a0 ≤ a3 ∧ a3 ≤ a1)) (h5 : a2 ≤ 1000000) (h6 : a4 = (10 * a2)) (h7 : a5 = a3) (h8 : a6 = (a4 + a5)) (h9 : a7 = (a6 - 48)) : 0 ≤ a7 := by omega
theorem mp_o1435 {a0 : Int} {a1 : Int} {a2 : Int} (h0 : (a0 + 1) ≤ a1) (h1 : a2 = (a1 + 1)) : (a0 + 1) ≤ a2 := by omega
theorem mp_o1436 {a0 : Int} {a1 : Int} {a2 : Int} {a3 : Int} {a4 : Int} {a5 : Int} {a6 : Int} {a7 : Int} (h0 : a0 = 48) (h1 : a1 = 57) (h2 : (a0 ≤ a2 ∧ a2 ≤ a1)) (h3 : a3 = (10 * a4)) (h4 : a5 = a2) (h5 : a6 = (a3 + a5)) (h6 : a7 = (a6 - 48)) : ((48 ≤ a2 ∧ a2 ≤ 57)) := by omega
theorem mp_o1437 {a0 : Int} {a1 : Int} {a2 : Int} {a3 : Int} (h0 : 0 ≤ a0) (h1 : a0 ≤ 1600) (h2 : a1 = (a0 + 1)) (h3 : (a0 + 1) ≤ a2) (h4 : a3 = (a2 + 1)) : ((0 ≤ a0 ∧ (a0 ≤ a2 ∧ a3 = (a2 + 1)))) := by omega
theorem mp_o1438 {a0 : Int} {a1 : Int} {a2 : Int} {a3 : Int} {a4 : Int} {a5 : Int} {a6 : Int} {a7 : Int} (h0 : a0 = 48) (h1 : a1 = 57) (h2 : (a0 ≤ a2 ∧ a2 ≤ a1)) (h3 : a3 = (10 * a4)) (h4 : a5 = a2) (h5 : a6 = (a3 + a5)) (h6 : a7 = (a6 - 48)) : ((0 ≤ (a2 - 48) ∧ (a2 - 48) ≤ 9)) := by omega
theorem mp_o1439 {a0 : Int} {a1 : Int} {a2 : Int} {a3 : Int} (h0 : 0 ≤ a0) (h1 : a0 ≤ 1600) (h2 : a1 = (a0 + 1)) (h3 : (a0 + 1) ≤ a2) (h4 : a3 = (a2 + 1)) : ((0 ≤ a0 ∧ a0 ≤ a2)) := by omega
theorem mp_o1440 {a0 : Int} {a1 : Int} {a2 : Int} {a3 : Int} {a4 : Int} {a5 : Int} (h0 : 0 ≤ a0) (h1 : (0 ≤ a0 ∧ a0 ≤ 10000009)) (h2 : a0 ≤ 1000000) (h3 : a1 = (10 * a0)) (h4 : a2 = a3) (h5 : a4 = (a1 + a2)) (h6 : a5 = (a4 - 48)) : (((1000000 < a0 ∧ a5 = 10000000) ∨ (a0 ≤ 1000000 ∧ a5 = ((10 * a0) + ((a3 - 48)))))) := by omega
theorem mp_o1441 {a0 : Int} {a1 : Int} {a2 : Int} {a3 : Int} {a4 : Int} {a5 : Int} {a6 : Int} {a7 : Int} (h0 : a0 = 48) (h1 : a1 = 57) (h2 : 0 ≤ a2) (h3 : (0 ≤ a2 ∧ a2 ≤ 10000009)) (h4 : (a0 ≤ a3 ∧ a3 ≤ a1)) (h5 : a2 ≤ 1000000) (h6 : a4 = (10 * a2)) (h7 : a5 = a3) (h8 : a6 = (a4 + a5)) (h9 : a7 = (a6 - 48)) : ((0 ≤ a7 ∧ a7 ≤ 10000009)) := by omega
theorem mp_o1442 {a0 : Int} {a1 : Int} {a2 : Int} (h0 : a0 = 48) (h1 : a1 = 57) (h2 : (a0 ≤ a2 ∧ a2 ≤ a1)) : ((48 ≤ a2 ∧ a2 ≤ 57)) := by omega
theorem mp_o1443 {a0 : Int} {a1 : Int} {a2 : Int} (h0 : a0 = 48) (h1 : a1 = 57) (h2 : (a0 ≤ a2 ∧ a2 ≤ a1)) : ((0 ≤ (a2 - 48) ∧ (a2 - 48) ≤ 9)) := by omega
theorem mp_o1444 {a0 : Int} {a1 : Int} {a2 : Int} {a3 : Int} {a4 : Int} (h0 : a0 = 48) (h1 : a1 = 57) (h2 : a2 = 10000000) (h3 : 0 ≤ a3) (h4 : (0 ≤ a3 ∧ a3 ≤ 10000009)) (h5 : (a0 ≤ a4 ∧ a4 ≤ a1)) (h6 : 1000000 < a3) : (((1000000 < a3 ∧ a2 = 10000000) ∨ (a3 ≤ 1000000 ∧ a2 = ((10 * a3) + ((a4 - 48)))))) := by omega
theorem mp_o1445 {a0 : Int} (h0 : a0 = 10000000) : ((0 ≤ a0 ∧ a0 ≤ 10000009)) := by omega
theorem mp_o1446 {a0 : Int} {a1 : Int} {a2 : Int} {a3 : Int} {a4 : Int} {a5 : Int} (h0 : a0 = 48) (h1 : a1 = 57) (h2 : (a0 ≤ a2 ∧ a2 ≤ a1)) (h3 : a3 = a2) (h4 : a4 = (0 + a3)) (h5 : a5 = (a4 - 48)) : 0 ≤ a5 := by omega
theorem mp_o1447 {a0 : Int} {a1 : Int} {a2 : Int} (h0 : a0 ≤ a1) (h1 : a2 = (a1 + 1)) : (a0 + 1) ≤ a2 := by omega
theorem mp_o1448 {a0 : Int} {a1 : Int} {a2 : Int} {a3 : Int} {a4 : Int} {a5 : Int} (h0 : a0 = 48) (h1 : a1 = 57) (h2 : (a0 ≤ a2 ∧ a2 ≤ a1)) (h3 : a3 = a2) (h4 : a4 = (0 + a3)) (h5 : a5 = (a4 - 48)) : ((48 ≤ a2 ∧ a2 ≤ 57)) := by omega
theorem mp_o1449 {a0 : Int} {a1 : Int} {a2 : Int} {a3 : Int} {a4 : Int} {a5 : Int} (h0 : a0 = 48) (h1 : a1 = 57) (h2 : (a0 ≤ a2 ∧ a2 ≤ a1)) (h3 : a3 = a2) (h4 : a4 = (0 + a3)) (h5 : a5 = (a4 - 48)) : ((a5 = (a2 - 48) ∧ (a2 - 48) ≤ 10000009)) := by omega
theorem mp_o1450 {a0 : Int} {a1 : Int} {a2 : Int} {a3 : Int} {a4 : Int} {a5 : Int} (h0 : a0 = 48) (h1 : a1 = 57) (h2 : (a0 ≤ a2 ∧ a2 ≤ a1)) (h3 : a3 = a2) (h4 : a4 = (0 + a3)) (h5 : a5 = (a4 - 48)) : ((0 ≤ a5 ∧ a5 ≤ 10000009)) := by omega
theorem mp_o1451 {a0 : Int} {a1 : Int} {a2 : Int} {a3 : Int} {a4 : Int} (h0 : a0 = 97) (h1 : a1 = 122) (h2 : a2 < a3) (h3 : (a0 ≤ a4 ∧ a4 ≤ a1)) (h4 : (a3 ≤ a2 ∨ (a4 < a0 ∨ a1 < a4))) : False := by omega
theorem mp_o1452 {a0 : Int} {a1 : Int} {a2 : Int} {a3 : Int} {a4 : Int} (h0 : a0 = 97) (h1 : a1 = 122) (h2 : (a0 ≤ a2 ∧ a2 ≤ a1)) (h3 : a3 = a2) (h4 : a4 = a3) : (-9223372036854775808) ≤ (0 + a4) := by omega
theorem mp_o1453 {a0 : Int} {a1 : Int} {a2 : Int} {a3 : Int} {a4 : Int} (h0 : a0 = 97) (h1 : a1 = 122) (h2 : (a0 ≤ a2 ∧ a2 ≤ a1)) (h3 : a3 = a2) (h4 : a4 = a3) : (0 + a4) ≤ 9223372036854775807 := by omega
theorem mp_o1454 {a0 : Int} {a1 : Int} {a2 : Int} {a3 : Int} {a4 : Int} {a5 : Int} (h0 : a0 = 97) (h1 : a1 = 122) (h2 : (a0 ≤ a2 ∧ a2 ≤ a1)) (h3 : a3 = a2) (h4 : a4 = a3) (h5 : a5 = (0 + a4)) : (-9223372036854775808) ≤ (a5 - 96) := by omega
theorem mp_o1455 {a0 : Int} {a1 : Int} {a2 : Int} {a3 : Int} {a4 : Int} {a5 : Int} (h0 : a0 = 97) (h1 : a1 = 122) (h2 : (a0 ≤ a2 ∧ a2 ≤ a1)) (h3 : a3 = a2) (h4 : a4 = a3) (h5 : a5 = (0 + a4)) : (a5 - 96) ≤ 9223372036854775807 := by omega
theorem mp_o1456 {a0 : Int} (h0 : (0 ≤ (a0 + 1) ∧ a0 ≤ 150094635296999121)) : (-1) ≤ a0 := by omega
theorem mp_o1457 {a0 : Int} (h0 : (0 ≤ (a0 + 1) ∧ a0 ≤ 150094635296999121)) : a0 ≤ 150094635296999121 := by omega
theorem mp_o1458 {a0 : Int} {a1 : Int} {a2 : Nat} {a3 : Nat} {a4 : Int} {a5 : Int} {a6 : Int} {a7 : Int} {a8 : Int} {a9 : Int} {a10 : Int} {a11 : Int} {a12 : Int} (h0 : a0 = 1) (h1 : 0 ≤ a1) (h2 : a1 ≤ 1600) (h3 : a2 = (Int.toNat a1)) (h4 : a3 = (Int.toNat a1)) (h5 : a1 ≠ a4) (h6 : a1 ≠ a4) (h7 : a1 < a4) (h8 : a0 ≠ 0) (h9 : a0 ≠ 0) (h10 : a5 = (a1 + 1)) (h11 : a6 ≤ a4) (h12 : ((a1 + 1) ≤ a6 ∧ a7 = (a6 - a1))) (h13 : ((a7 ≤ 12 ∧ a8 = a9) ∨ (12 < a7 ∧ a8 = (-1)))) (h14 : (a4 ≤ a6 ∨ (a10 < a11 ∨ a12 < a10))) : a1 = ((a2 : Nat) : Int) := by omega
theorem mp_o1459 {a0 : Int} {a1 : Int} {a2 : Int} {a3 : Int} {a4 : Int} (h0 : 0 ≤ a0) (h1 : a0 ≤ 1600) (h2 : a0 < a1) (h3 : a2 = (a0 + 1)) (h4 : ((a0 + 1) ≤ a3 ∧ a4 = (a3 - a0))) : ((0 ≤ a0 ∧ a0 < a1)) := by omega
theorem mp_o1460 {a0 : Int} {a1 : Int} {a2 : Nat} {a3 : Int} {a4 : Int} {a5 : Int} {a6 : Int} {a7 : Int} {a8 : Int} {a9 : Int} {a10 : Int} {a11 : Int} (h0 : a0 = 1) (h1 : 0 ≤ a1) (h2 : a1 ≤ 1600) (h3 : a2 = (Int.toNat a1)) (h4 : a1 ≠ a3) (h5 : a1 ≠ a3) (h6 : a1 < a3) (h7 : a0 ≠ 0) (h8 : a0 ≠ 0) (h9 : a4 = (a1 + 1)) (h10 : 0 ≤ a5) (h11 : a5 ≤ 1600) (h12 : a5 ≤ a3) (h13 : ((a1 + 1) ≤ a5 ∧ a6 = (a5 - a1))) (h14 : ((a6 ≤ 12 ∧ a7 = a8) ∨ (12 < a6 ∧ a7 = (-1)))) (h15 : (a3 ≤ a5 ∨ (a9 < a10 ∨ a11 < a9))) : (((Int.toNat a1) : Nat) : Int) < a5 := by omega
theorem mp_o1461 {a0 : Int} {a1 : Int} {a2 : Int} {a3 : Int} (h0 : a0 = (a1 + 1)) (h1 : ((a1 + 1) ≤ a2 ∧ a3 = (a2 - a1))) : a1 ≤ a2 := by omega
theorem mp_o1462 {a0 : Int} {a1 : Int} {a2 : Int} {a3 : Int} {a4 : Int} (h0 : a0 = 97) (h1 : a1 = 122) (h2 : (a2 ≤ a3 ∨ (a4 < a0 ∨ a1 < a4))) (h3 : ¬ (a2 ≤ a3)) : ((a4 < 97 ∨ 122 < a4)) := by omega
theorem mp_o1463 {a0 : Int} {a1 : Int} {a2 : Int} {a3 : Int} {a4 : Int} {a5 : Nat} (h0 : 0 ≤ a0) (h1 : a0 ≤ 1600) (h2 : a1 = (a0 + 1)) (h3 : 0 ≤ a2) (h4 : a2 ≤ 1600) (h5 : ((a0 + 1) ≤ a2 ∧ a3 = (a2 - a0))) (h6 : (a4 = 1 ∧ a5 = (Int.toNat a2))) : a2 = ((a5 : Nat) : Int) := by omega
theorem mp_o1464 {a0 : Int} {a1 : Int} {a2 : Int} {a3 : Int} (h0 : 0 ≤ a0) (h1 : a0 ≤ 1600) (h2 : a1 = (a0 + 1)) (h3 : ((a0 + 1) ≤ a2 ∧ a3 = (a2 - a0))) : ((0 ≤ a0 ∧ a0 ≤ a2)) := by omega
theorem mp_o1465 {a0 : Int} {a1 : Int} {a2 : Int} {a3 : Int} {a4 : Int} {a5 : Int} (h0 : a0 = (a1 + 1)) (h1 : ((a1 + 1) ≤ a2 ∧ a3 = (a2 - a1))) (h2 : (0 ≤ (a4 + 1) ∧ a4 ≤ 150094635296999121)) (h3 : ((a3 ≤ 12 ∧ a4 = a5) ∨ (12 < a3 ∧ a4 = (-1)))) : ((((a2 - a1) ≤ 12 ∧ a4 = a5) ∨ (12 < (a2 - a1) ∧ a4 = (-1)))) := by omega
theorem mp_o1466 {a0 : Int} (h0 : (0 ≤ (a0 + 1) ∧ a0 ≤ 150094635296999121)) : (-9223372036854775808) ≤ (27 * a0) := by omega
theorem mp_o1467 {a0 : Int} (h0 : (0 ≤ (a0 + 1) ∧ a0 ≤ 150094635296999121)) : (27 * a0) ≤ 9223372036854775807 := by omega
theorem mp_o1468 {a0 : Int} {a1 : Int} {a2 : Int} {a3 : Int} {a4 : Int} {a5 : Int} {a6 : Int} (h0 : a0 = 97) (h1 : a1 = 122) (h2 : (0 ≤ (a2 + 1) ∧ a2 ≤ 150094635296999121)) (h3 : (a0 ≤ a3 ∧ a3 ≤ a1)) (h4 : a4 = (27 * a2)) (h5 : a5 = a3) (h6 : a6 = a5) : (-9223372036854775808) ≤ (a4 + a6) := by omega
theorem mp_o1469 {a0 : Int} {a1 : Int} {a2 : Int} {a3 : Int} {a4 : Int} {a5 : Int} {a6 : Int} (h0 : a0 = 97) (h1 : a1 = 122) (h2 : (0 ≤ (a2 + 1) ∧ a2 ≤ 150094635296999121)) (h3 : (a0 ≤ a3 ∧ a3 ≤ a1)) (h4 : a4 = (27 * a2)) (h5 : a5 = a3) (h6 : a6 = a5) : (a4 + a6) ≤ 9223372036854775807 := by omega
theorem mp_o1470 {a0 : Int} {a1 : Int} {a2 : Int} {a3 : Int} {a4 : Int} {a5 : Int} {a6 : Int} {a7 : Int} (h0 : a0 = 97) (h1 : a1 = 122) (h2 : (0 ≤ (a2 + 1) ∧ a2 ≤ 150094635296999121)) (h3 : (a0 ≤ a3 ∧ a3 ≤ a1)) (h4 : a4 = (27 * a2)) (h5 : a5 = a3) (h6 : a6 = a5) (h7 : a7 = (a4 + a6)) : (-9223372036854775808) ≤ (a7 - 96) := by omega
theorem mp_o1471 {a0 : Int} {a1 : Int} {a2 : Int} {a3 : Int} {a4 : Int} {a5 : Int} {a6 : Int} {a7 : Int} (h0 : a0 = 97) (h1 : a1 = 122) (h2 : (0 ≤ (a2 + 1) ∧ a2 ≤ 150094635296999121)) (h3 : (a0 ≤ a3 ∧ a3 ≤ a1)) (h4 : a4 = (27 * a2)) (h5 : a5 = a3) (h6 : a6 = a5) (h7 : a7 = (a4 + a6)) : (a7 - 96) ≤ 9223372036854775807 := by omega
theorem mp_o1472 {a0 : Int} {a1 : Int} {a2 : Int} {a3 : Int} (h0 : a0 = (a1 + 1)) (h1 : ((a1 + 1) ≤ a2 ∧ a3 = (a2 - a1))) (h2 : a3 ≤ 11) : (-2147483648) ≤ (a3 + 1) := by omega
theorem mp_o1473 {a0 : Int} {a1 : Int} {a2 : Int} {a3 : Int} (h0 : a0 = (a1 + 1)) (h1 : ((a1 + 1) ≤ a2 ∧ a3 = (a2 - a1))) (h2 : a3 ≤ 11) : (a3 + 1) ≤ 2147483647 := by omega
theorem mp_o1474 {a0 : Int} {a1 : Int} {a2 : Int} {a3 : Int} {a4 : Int} {a5 : Int} {a6 : Int} {a7 : Int} {a8 : Int} (h0 : a0 = 97) (h1 : a1 = 122) (h2 : (a0 ≤ a2 ∧ a2 ≤ a1)) (h3 : a3 = (27 * a4)) (h4 : a5 = a2) (h5 : a6 = a5) (h6 : a7 = (a3 + a6)) (h7 : a8 = (a7 - 96)) : ((97 ≤ a2 ∧ a2 ≤ 122)) := by omega
theorem mp_o1475 {a0 : Int} {a1 : Int} {a2 : Int} {a3 : Int} {a4 : Int} {a5 : Int} (h0 : a0 = (a1 + 1)) (h1 : ((a1 + 1) ≤ a2 ∧ a3 = (a2 - a1))) (h2 : a3 ≤ 11) (h3 : a4 = (a2 + 1)) (h4 : a5 = (a3 + 1)) : (((a1 + 1) ≤ a4 ∧ a5 = (a4 - a1))) := by omega
theorem mp_o1476 {a0 : Int} {a1 : Int} {a2 : Int} {a3 : Int} {a4 : Int} (h0 : a0 = (a1 + 1)) (h1 : ((a1 + 1) ≤ a2 ∧ a3 = (a2 - a1))) (h2 : a3 ≤ 11) (h3 : a4 = (a3 + 1)) : a4 ≤ 12 := by omega
theorem mp_o1477 {a0 : Int} {a1 : Int} {a2 : Int} {a3 : Int} {a4 : Int} {a5 : Int} (h0 : 0 ≤ a0) (h1 : a0 ≤ 1600) (h2 : a1 = (a0 + 1)) (h3 : ((a0 + 1) ≤ a2 ∧ a3 = (a2 - a0))) (h4 : a3 ≤ 11) (h5 : a4 = (a2 + 1)) (h6 : a5 = (a3 + 1)) : ((0 ≤ a0 ∧ (a0 ≤ a2 ∧ a4 = (a2 + 1)))) := by omega
theorem mp_o1478 {a0 : Int} {a1 : Int} {a2 : Int} {a3 : Int} {a4 : Int} {a5 : Int} {a6 : Int} {a7 : Int} {a8 : Int} {a9 : Int} {a10 : Int} {a11 : Int} {a12 : Int} {a13 : Int} (h0 : a0 = 1) (h1 : a1 = (a2 + 1)) (h2 : ((a2 + 1) ≤ a3 ∧ a4 = (a3 - a2))) (h3 : ((a4 ≤ 12 ∧ a5 = a6) ∨ (12 < a4 ∧ a5 = (-1)))) (h4 : a0 ≠ 0) (h5 : a4 ≤ 11) (h6 : a7 = (27 * a5)) (h7 : a8 = a9) (h8 : a10 = a8) (h9 : a11 = (a7 + a10)) (h10 : a12 = (a11 - 96)) (h11 : a13 = (a4 + 1)) : a12 = ((27 * a6) + ((a9 - 96))) := by omega
theorem mp_o1479 {a0 : Int} {a1 : Int} {a2 : Int} {a3 : Int} {a4 : Int} {a5 : Int} (h0 : 0 ≤ a0) (h1 : a0 ≤ 1600) (h2 : a1 = (a0 + 1)) (h3 : ((a0 + 1) ≤ a2 ∧ a3 = (a2 - a0))) (h4 : a3 ≤ 11) (h5 : a4 = (a2 + 1)) (h6 : a5 = (a3 + 1)) : ((0 ≤ a0 ∧ (a0 ≤ a4 ∧ (a4 - a0) ≤ 12))) := by omega
theorem mp_o1480 {a0 : Int} {a1 : Int} {a2 : Int} {a3 : Int} {a4 : Int} {a5 : Int} {a6 : Int} {a7 : Int} {a8 : Int} {a9 : Int} {a10 : Int} {a11 : Int} {a12 : Int} {a13 : Int} {a14 : Int} {a15 : Int} (h0 : a0 = 1) (h1 : a1 = 97) (h2 : a2 = 122) (h3 : a3 = (a4 + 1)) (h4 : ((a4 + 1) ≤ a5 ∧ a6 = (a5 - a4))) (h5 : ((a6 ≤ 12 ∧ a7 = a8) ∨ (12 < a6 ∧ a7 = (-1)))) (h6 : (0 ≤ (a7 + 1) ∧ a7 ≤ 150094635296999121)) (h7 : (a1 ≤ a9 ∧ a9 ≤ a2)) (h8 : a0 ≠ 0) (h9 : a6 ≤ 11) (h10 : a10 = (27 * a7)) (h11 : a11 = a9) (h12 : a12 = a11) (h13 : a13 = (a10 + a12)) (h14 : a14 = (a13 - 96)) (h15 : a15 = (a6 + 1)) (h16 : (0 ≤ ((27 * a8) + ((a9 - 96))) ∧ ((27 * a8) + ((a9 - 96))) < 150094635296999121)) : ((0 ≤ (a14 + 1) ∧ a14 ≤ 150094635296999121)) := by omega
theorem mp_o1481 {a0 : Int} {a1 : Int} (h0 : a0 ≤ a1) (h1 : a1 < a0) : False := by omega
theorem mp_o1482 {a0 : Int} (h0 : 11 < a0) : (-2147483648) ≤ (a0 + 1) := by omega
theorem mp_o1483 {a0 : Int} {a1 : Int} {a2 : Int} {a3 : Int} {a4 : Int} {a5 : Int} {a6 : Int} (h0 : 0 ≤ a0) (h1 : a0 ≤ 1600) (h2 : 0 ≤ a1) (h3 : a1 ≤ 1600) (h4 : 0 ≤ a2) (h5 : a2 ≤ 1600) (h6 : a2 < a0) (h7 : a3 = (a2 + 1)) (h8 : 0 ≤ a4) (h9 : a4 ≤ 1600) (h10 : (a1 + 1) ≤ a4) (h11 : ((a2 + 1) ≤ a4 ∧ a5 = (a4 - a2))) (h12 : a4 < a0) (h13 : a6 = (a4 + 1)) : (a5 + 1) ≤ 2147483647 := by omega
theorem mp_o1484 {a0 : Int} {a1 : Int} {a2 : Int} (h0 : a0 = 97) (h1 : a1 = 122) (h2 : (a0 ≤ a2 ∧ a2 ≤ a1)) : ((97 ≤ a2 ∧ a2 ≤ 122)) := by omega
theorem mp_o1485 {a0 : Int} {a1 : Int} {a2 : Int} {a3 : Int} {a4 : Int} {a5 : Int} (h0 : a0 = (a1 + 1)) (h1 : ((a1 + 1) ≤ a2 ∧ a3 = (a2 - a1))) (h2 : 11 < a3) (h3 : a4 = (a2 + 1)) (h4 : a5 = (a3 + 1)) : (((a1 + 1) ≤ a4 ∧ a5 = (a4 - a1))) := by omega
theorem mp_o1486 {a0 : Int} {a1 : Int} (h0 : 11 < a0) (h1 : a1 = (a0 + 1)) : 12 < a1 := by omega
theorem mp_o1487 {a0 : Int} {a1 : Int} {a2 : Int} {a3 : Int} {a4 : Int} {a5 : Int} {a6 : Int} (h0 : a0 = 97) (h1 : a1 = 122) (h2 : (a0 ≤ a2 ∧ a2 ≤ a1)) (h3 : a3 = a2) (h4 : a4 = a3) (h5 : a5 = (0 + a4)) (h6 : a6 = (a5 - 96)) : ((97 ≤ a2 ∧ a2 ≤ 122)) := by omega
theorem mp_o1488 {a0 : Int} {a1 : Int} {a2 : Int} (h0 : a0 = 1) (h1 : a1 = (a2 + 1)) : (((a2 + 1) ≤ a1 ∧ a0 = (a1 - a2))) := by omega
theorem mp_o1489 {a0 : Int} (h0 : a0 = 1) : a0 ≤ 12 := by omega
theorem mp_o1490 {a0 : Int} {a1 : Int} {a2 : Int} {a3 : Int} {a4 : Int} (h0 : a0 = a1) (h1 : a2 = a0) (h2 : a3 = (0 + a2)) (h3 : a4 = (a3 - 96)) : a4 = (a1 - 96) := by omega
theorem mp_o1491 {a0 : Int} {a1 : Int} {a2 : Int} {a3 : Int} {a4 : Int} {a5 : Int} {a6 : Int} (h0 : a0 = 97) (h1 : a1 = 122) (h2 : (a0 ≤ a2 ∧ a2 ≤ a1)) (h3 : a3 = a2) (h4 : a4 = a3) (h5 : a5 = (0 + a4)) (h6 : a6 = (a5 - 96)) : ((0 ≤ (a6 + 1) ∧ a6 ≤ 150094635296999121)) := by omega
theorem mp_o1492 {a0 : Int} {a1 : Int} {a2 : Int} {a3 : Int} (h0 : a0 ≤ a1) (h1 : a2 = 0) (h2 : a3 = a1) : (((a2 = 0 ∧ a0 ≤ a3) ∨ (a0 + 1) ≤ a3)) := by omega
theorem mp_o1493 {a0 : Int} {a1 : Int} (h0 : a0 = a1) : a1 ≤ a0 := by omega
theorem mp_o1494 {a0 : Int} {a1 : Int} {a2 : Int} {a3 : Int} {a4 : Int} (h0 : a0 = 10) (h1 : a1 = 32) (h2 : (a2 ≤ a3 ∨ (a4 < a1 ∨ a1 < a4))) (h3 : (a2 ≤ a3 ∨ (a4 < a0 ∨ a0 < a4))) (h4 : ¬ (a2 ≤ a3)) : ((a4 ≠ 32 ∧ a4 ≠ 10)) := by omega
theorem mp_o1495 {a0 : Int} {a1 : Int} (h0 : a0 = 10) (h1 : (a0 ≤ a1 ∧ a1 ≤ a0)) : ((a1 = 32 ∨ a1 = 10)) := by omega
theorem mp_o1496 {a0 : Int} {a1 : Int} (h0 : a0 = 32) (h1 : (a0 ≤ a1 ∧ a1 ≤ a0)) : ((a1 = 32 ∨ a1 = 10)) := by omega
theorem mp_o1497 {a0 : Int} {a1 : Int} {a2 : Int} {a3 : Int} {a4 : Int} {a5 : Int} (h0 : a0 ≠ 0) (h1 : a1 = a2) (h2 : (a1 ≠ 1 ∨ a3 = a4)) : ((a0 ≠ 0 ∨ ¬ ((a2 = 1 ∧ a4 = a5)))) := by omega
theorem mp_o1498 {a0 : Int} {a1 : Int} {a2 : Int} {a3 : Int} {a4 : Int} {a5 : Int} (h0 : a0 ≠ 1) (h1 : a0 = a1) (h2 : (a0 ≠ 1 ∨ a2 = a3)) : ((a4 ≠ 0 ∨ ¬ ((a1 = 1 ∧ a3 = a5)))) := by omega
theorem mp_o1499 {a0 : Int} {a1 : Int} {a2 : Int} {a3 : Int} {a4 : Int} {a5 : Int} (h0 : a0 = 1) (h1 : a1 ≠ a2) (h2 : (a0 ≠ 1 ∨ a1 = a3)) : ((a4 ≠ 0 ∨ ¬ ((a5 = 1 ∧ a3 = a2)))) := by omega
theorem mp_o1500 {a0 : Int} {a1 : Int} {a2 : Int} {a3 : Int} {a4 : Int} {a5 : Int} (h0 : a0 = 0) (h1 : a1 = 1) (h2 : a2 = a3) (h3 : a1 = a4) (h4 : (a1 ≠ 1 ∨ a2 = a5)) : ((a0 = 0 ∧ (a4 = 1 ∧ a5 = a3))) := by omega
theorem mp_o1501 {a0 : Int} {a1 : Int} {a2 : Int} {a3 : Int} (h0 : a0 = 0) (h1 : a1 = 3) : (((a0 = 0 ∧ (a1 = 3 ∧ a2 = a2)) ∨ (a0 ≠ 0 ∧ (a1 = a0 ∧ a2 = a3)))) := by omega
theorem mp_o1502 {a0 : Int} {a1 : Int} {a2 : Int} (h0 : a0 ≠ 0) : (((a0 = 0 ∧ (a0 = 3 ∧ a1 = a2)) ∨ (a0 ≠ 0 ∧ (a0 = a0 ∧ a1 = a1)))) := by omega
theorem mp_o1503 {a0 : Int} {a1 : Int} {a2 : Int} : ((5 * ((a0 - a1))) + a2) ≤ ((5 * ((a0 - a1))) + a2) := by omega
theorem mp_o1504 {a0 : Int} {a1 : Int} {a2 : Int} {a3 : Int} {a4 : Int} (h0 : a0 = 1) (h1 : 0 ≤ a1) (h2 : a1 ≤ 4) (h3 : ((a1 = 0 ∧ a2 ≤ a3) ∨ (a2 + 1) ≤ a3)) : ((5 * ((a4 - a3))) + a1) ≤ ((5 * ((a4 - a2))) + a0) := by omega
theorem mp_o1505 {a0 : Int} {a1 : Int} {a2 : Int} {a3 : Int} (h0 : a0 = 0) (h1 : a1 = 1) : (((a0 = 0 ∧ (a1 = 1 ∧ a2 = a2)) ∨ (a0 ≠ 0 ∧ (a1 = a0 ∧ a2 = a3)))) := by omega
theorem mp_o1506 {a0 : Int} {a1 : Int} {a2 : Int} (h0 : a0 ≠ 0) : (((a0 = 0 ∧ (a0 = 1 ∧ a1 = a2)) ∨ (a0 ≠ 0 ∧ (a0 = a0 ∧ a1 = a1)))) := by omega
theorem mp_o1508 {a0 : Int} {a1 : Int} {a2 : Int} {a3 : Int} (h0 : a0 = 0) (h1 : a1 = 2) : (((a0 = 0 ∧ (a1 = 2 ∧ a2 = a2)) ∨ (a0 ≠ 0 ∧ (a1 = a0 ∧ a2 = a3)))) := by omega
theorem mp_o1509 {a0 : Int} {a1 : Int} {a2 : Int} (h0 : a0 ≠ 0) : (((a0 = 0 ∧ (a0 = 2 ∧ a1 = a2)) ∨ (a0 ≠ 0 ∧ (a0 = a0 ∧ a1 = a1)))) := by omega
theorem mp_o1510 {a0 : Int} {a1 : Int} {a2 : Int} {a3 : Int} {a4 : Int} {a5 : Int} {a6 : Int} (h0 : a0 = 0) (h1 : ((a0 = 0 ∧ (a1 = 2 ∧ a2 = a3)) ∨ (a0 ≠ 0 ∧ (a1 = a0 ∧ a2 = a4)))) : ((a1 ≠ 0 ∨ (0 ≤ a5 ∧ a5 ≤ a6))) := by omega
theorem mp_o1511 {a0 : Int} {a1 : Int} {a2 : Int} {a3 : Int} {a4 : Int} {a5 : Int} {a6 : Int} {a7 : Int} {a8 : Int} {a9 : Int} (h0 : a0 = 0) (h1 : a1 = a2) (h2 : a3 = a4) (h3 : (a1 < a5 ∨ a3 < a1)) (h4 : a5 = 0) (h5 : a6 ≠ 0) (h6 : ((a0 = 0 ∧ (a6 = 2 ∧ a7 = a8)) ∨ (a0 ≠ 0 ∧ (a6 = a0 ∧ a7 = a9)))) : ((a2 < 0 ∨ a4 < a2)) := by omega
theorem mp_o1512 {a0 : Int} {a1 : Int} {a2 : Int} {a3 : Int} {a4 : Int} (h0 : a0 = 0) (h1 : ((a0 = 0 ∧ (a1 = 2 ∧ a2 = a3)) ∨ (a0 ≠ 0 ∧ (a1 = a0 ∧ a2 = a4)))) : a1 = 2 := by omega
theorem mp_o1513 {a0 : Int} {a1 : Int} {a2 : Int} {a3 : Int} {a4 : Int} (h0 : a0 = 0) (h1 : ((a0 = 0 ∧ (a1 = 2 ∧ a2 = a3)) ∨ (a0 ≠ 0 ∧ (a1 = a0 ∧ a2 = a4)))) : a2 = a3 := by omega
theorem mp_o1514 {a0 : Int} {a1 : Int} {a2 : Int} {a3 : Int} (h0 : (-1) ≤ a0) (h1 : a0 ≤ 5) (h2 : a1 = a2) (h3 : a3 = a0) (h4 : a1 ≤ a3) : a2 ≤ 5 := by omega
theorem mp_o1515 {a0 : Int} {a1 : Int} {a2 : Int} {a3 : Int} {a4 : Int} (h0 : a0 = 2) (h1 : 0 ≤ a1) (h2 : a1 ≤ 4) (h3 : ((a1 = 0 ∧ a2 ≤ a3) ∨ (a2 + 1) ≤ a3)) : ((5 * ((a4 - a3))) + a1) ≤ ((5 * ((a4 - a2))) + a0) := by omega
theorem mp_o1516 {a0 : Int} {a1 : Int} {a2 : Int} {a3 : Int} {a4 : Int} (h0 : a0 = a1) (h1 : a2 = a3) (h2 : a0 ≤ a2) (h3 : 0 ≤ a0) : ((a4 ≠ 0 ∨ (0 ≤ a1 ∧ a1 ≤ a3))) := by omega
theorem mp_o1517 {a0 : Int} {a1 : Int} {a2 : Int} {a3 : Int} (h0 : a0 = a1) (h1 : a2 = a3) (h2 : a0 ≤ a2) (h3 : 0 ≤ a0) : ((0 ≤ a1 ∧ a1 ≤ a3)) := by omega
theorem mp_o1518 {a0 : Int} {a1 : Int} {a2 : Int} {a3 : Int} {a4 : Int} {a5 : Int} {a6 : Int} (h0 : a0 = 0) (h1 : ((a0 = 0 ∧ (a1 = 1 ∧ a2 = a3)) ∨ (a0 ≠ 0 ∧ (a1 = a0 ∧ a2 = a4)))) : ((a1 ≠ 0 ∨ (0 ≤ a5 ∧ a5 ≤ a6))) := by omega
theorem mp_o1519 {a0 : Int} {a1 : Int} {a2 : Int} {a3 : Int} {a4 : Int} (h0 : a0 = 0) (h1 : ((a0 = 0 ∧ (a1 = 1 ∧ a2 = a3)) ∨ (a0 ≠ 0 ∧ (a1 = a0 ∧ a2 = a4)))) : a1 = 1 := by omega
theorem mp_o1520 {a0 : Int} {a1 : Int} {a2 : Int} {a3 : Int} {a4 : Int} (h0 : a0 = 0) (h1 : ((a0 = 0 ∧ (a1 = 1 ∧ a2 = a3)) ∨ (a0 ≠ 0 ∧ (a1 = a0 ∧ a2 = a4)))) : a2 = a3 := by omega
theorem mp_o1521 {a0 : Int} {a1 : Int} {a2 : Int} (h0 : a0 ≠ 0) : ((a0 ≠ 0 ∨ (0 ≤ a1 ∧ a1 ≤ a2))) := by omega
theorem mp_o1522 {a0 : Int} {a1 : Int} (h0 : 0 ≤ a0) (h1 : a0 ≤ 6) (h2 : a0 = a1) : (-2147483648) ≤ (a0 - 1) := by omega
theorem mp_o1523 {a0 : Int} {a1 : Int} (h0 : 0 ≤ a0) (h1 : a0 ≤ 6) (h2 : a0 = a1) : (a0 - 1) ≤ 2147483647 := by omega
theorem mp_o1524 {a0 : Int} {a1 : Int} {a2 : Int} (h0 : 0 ≤ a0) (h1 : a0 ≤ 6) (h2 : a0 = a1) (h3 : a2 = (a0 - 1)) : (-1) ≤ a2 := by omega
theorem mp_o1525 {a0 : Int} {a1 : Int} {a2 : Int} (h0 : 0 ≤ a0) (h1 : a0 ≤ 6) (h2 : a0 = a1) (h3 : a2 = (a0 - 1)) : a2 ≤ 5 := by omega
theorem mp_o1526 {a0 : Int} {a1 : Int} {a2 : Int} (h0 : 0 ≤ a0) (h1 : a0 ≤ 6) (h2 : a0 = a1) (h3 : a2 = (a0 - 1)) : a2 ≤ 1000000 := by omega
theorem mp_o1527 {a0 : Int} {a1 : Int} {a2 : Int} {a3 : Int} {a4 : Int} (h0 : a0 = a1) (h1 : a2 = (a0 - 1)) (h2 : 0 ≤ a3) (h3 : a3 ≤ 5) (h4 : (a4 ≠ 0 ∨ (0 ≤ a3 ∧ a3 ≤ a2))) : ((a4 ≠ 0 ∨ (0 ≤ a3 ∧ a3 ≤ (a1 - 1)))) := by omega
theorem mp_o1528 {a0 : Int} {a1 : Int} {a2 : Int} (h0 : a0 = a1) (h1 : a2 = (a0 - 1)) : a2 = (a1 - 1) := by omega
theorem mp_o1531 {a0 : Int} {a1 : Int} (h0 : a0 = a1) (h1 : 0 ≤ a0) (h2 : a0 ≤ 100) : 0 ≤ a1 := by omega
theorem mp_o1532 {a0 : Int} {a1 : Int} {a2 : Int} {a3 : Int} {a4 : Int} {a5 : Int} (h0 : a0 = 0) (h1 : ((a0 = 0 ∧ (a1 = 2 ∧ a2 = a3)) ∨ (a0 ≠ 0 ∧ (a1 = a0 ∧ a2 = a4)))) : ((a1 ≠ 0 ∨ (0 ≤ a5 ∧ a5 ≤ 99))) := by omega
theorem mp_o1533 {a0 : Int} {a1 : Int} {a2 : Int} {a3 : Int} {a4 : Int} {a5 : Int} {a6 : Int} {a7 : Int} {a8 : Int} (h0 : a0 = 0) (h1 : a1 = a2) (h2 : (a1 < a3 ∨ a4 < a1)) (h3 : a3 = 0) (h4 : a4 = 99) (h5 : a5 ≠ 0) (h6 : ((a0 = 0 ∧ (a5 = 2 ∧ a6 = a7)) ∨ (a0 ≠ 0 ∧ (a5 = a0 ∧ a6 = a8)))) : ((a2 < 0 ∨ 99 < a2)) := by omega
theorem mp_o1534 {a0 : Int} {a1 : Int} (h0 : a0 = a1) (h1 : 0 ≤ a0) (h2 : a0 ≤ 99) : 0 ≤ a1 := by omega
theorem mp_o1535 {a0 : Int} {a1 : Int} (h0 : a0 = a1) (h1 : 0 ≤ a0) (h2 : a0 ≤ 99) : a1 ≤ 99 := by omega
theorem mp_o1536 {a0 : Int} {a1 : Int} {a2 : Int} (h0 : a0 = a1) (h1 : 0 ≤ a0) (h2 : a0 ≤ 99) : ((a2 ≠ 0 ∨ (0 ≤ a1 ∧ a1 ≤ 99))) := by omega
theorem mp_o1537 {a0 : Int} {a1 : Int} (h0 : a0 = a1) (h1 : 0 ≤ a0) (h2 : a0 ≤ 99) : ((0 ≤ a1 ∧ a1 ≤ 99)) := by omega
theorem mp_o1538 {a0 : Int} {a1 : Int} {a2 : Int} {a3 : Int} {a4 : Int} {a5 : Int} (h0 : a0 = 0) (h1 : ((a0 = 0 ∧ (a1 = 1 ∧ a2 = a3)) ∨ (a0 ≠ 0 ∧ (a1 = a0 ∧ a2 = a4)))) : ((a1 ≠ 0 ∨ (0 ≤ a5 ∧ a5 ≤ 99))) := by omega
theorem mp_o1539 {a0 : Int} {a1 : Int} (h0 : a0 ≠ 0) : ((a0 ≠ 0 ∨ (0 ≤ a1 ∧ a1 ≤ 99))) := by omega
theorem mp_o1540 : 99 = 99 := by omega
theorem mp_o1541 {a0 : Int} {a1 : Int} (h0 : a0 ≤ 5) (h1 : 0 ≤ a1) (h2 : a1 ≤ 6) (h3 : a1 = a0) : (-2147483648) ≤ (24 + a1) := by omega
theorem mp_o1542 {a0 : Int} {a1 : Int} (h0 : a0 ≤ 5) (h1 : 0 ≤ a1) (h2 : a1 ≤ 6) (h3 : a1 = a0) : (24 + a1) ≤ 2147483647 := by omega
theorem mp_o1543 {a0 : Int} {a1 : Int} {a2 : Int} (h0 : a0 ≤ 5) (h1 : 0 ≤ a1) (h2 : a1 ≤ 6) (h3 : a1 = a0) (h4 : a2 = (24 + a1)) : (-2147483648) ≤ (3 * a2) := by omega
theorem mp_o1544 {a0 : Int} {a1 : Int} {a2 : Int} (h0 : a0 ≤ 5) (h1 : 0 ≤ a1) (h2 : a1 ≤ 6) (h3 : a1 = a0) (h4 : a2 = (24 + a1)) : (3 * a2) ≤ 2147483647 := by omega
theorem mp_o1545 {a0 : Int} {a1 : Int} {a2 : Int} {a3 : Int} (h0 : a0 ≤ 5) (h1 : 0 ≤ a1) (h2 : a1 ≤ 6) (h3 : a1 = a0) (h4 : a2 = (24 + a1)) (h5 : a3 = (3 * a2)) : ((0 ≤ a3 ∧ a3 < ((90 : Nat) : Int))) := by omega
theorem mp_o1546 {a0 : Int} {a1 : Int} {a2 : Int} {a3 : Int} (h0 : a0 ≤ 5) (h1 : 0 ≤ a1) (h2 : a1 ≤ 6) (h3 : a1 = a0) (h4 : a2 = (24 + a1)) (h5 : a3 = (3 * a2)) : 0 ≤ a3 := by omega
theorem mp_o1547 {a0 : Int} (h0 : 0 ≤ a0) (h1 : a0 ≤ 5) : (¬ ((0 ≤ a0 ∧ a0 ≤ 5))) → ((0 ≤ a0 ∧ a0 ≤ 5)) := by omega
theorem mp_o1548 {a0 : Int} {a1 : Int} {a2 : Int} {a3 : Int} (h0 : a0 ≤ 5) (h1 : 0 ≤ a1) (h2 : a1 ≤ 6) (h3 : a1 = a0) (h4 : a2 = (24 + a1)) (h5 : a3 = (3 * a2)) : ((72 : Nat) : Int) ≤ a3 := by omega
theorem mp_o1549 {a0 : Int} {a1 : Int} {a2 : Int} {a3 : Int} (h0 : a0 ≤ 5) (h1 : 0 ≤ a1) (h2 : a1 ≤ 6) (h3 : a1 = a0) (h4 : a2 = (24 + a1)) (h5 : a3 = (3 * a2)) : ((0 ≤ a3 ∧ a3 ≠ (((((72 + (3 * (Int.toNat a0))) + 1)) : Nat) : Int))) := by omega
theorem mp_o1550 {a0 : Int} {a1 : Int} {a2 : Int} {a3 : Int} (h0 : a0 ≤ 5) (h1 : 0 ≤ a1) (h2 : a1 ≤ 6) (h3 : a1 = a0) (h4 : a2 = (24 + a1)) (h5 : a3 = (3 * a2)) : (-2147483648) ≤ (a3 + 1) := by omega
theorem mp_o1551 {a0 : Int} {a1 : Int} {a2 : Int} {a3 : Int} (h0 : a0 ≤ 5) (h1 : 0 ≤ a1) (h2 : a1 ≤ 6) (h3 : a1 = a0) (h4 : a2 = (24 + a1)) (h5 : a3 = (3 * a2)) : (a3 + 1) ≤ 2147483647 := by omega
theorem mp_o1552 {a0 : Int} {a1 : Int} {a2 : Int} {a3 : Int} {a4 : Int} (h0 : a0 ≤ 5) (h1 : 0 ≤ a1) (h2 : a1 ≤ 6) (h3 : a1 = a0) (h4 : a2 = (24 + a1)) (h5 : a3 = (3 * a2)) (h6 : a4 = (a3 + 1)) : ((0 ≤ a4 ∧ a4 < ((90 : Nat) : Int))) := by omega
theorem mp_o1553 {a0 : Int} {a1 : Int} {a2 : Int} {a3 : Int} {a4 : Int} (h0 : a0 ≤ 5) (h1 : 0 ≤ a1) (h2 : a1 ≤ 6) (h3 : a1 = a0) (h4 : a2 = (24 + a1)) (h5 : a3 = (3 * a2)) (h6 : a4 = (a3 + 1)) : 0 ≤ a4 := by omega
theorem mp_o1554 {a0 : Int} {a1 : Int} {a2 : Int} {a3 : Int} {a4 : Int} (h0 : a0 ≤ 5) (h1 : 0 ≤ a1) (h2 : a1 ≤ 6) (h3 : a1 = a0) (h4 : a2 = (24 + a1)) (h5 : a3 = (3 * a2)) (h6 : a4 = (a3 + 1)) : ((72 : Nat) : Int) ≤ a4 := by omega
theorem mp_o1555 {a0 : Int} {a1 : Int} {a2 : Int} {a3 : Int} {a4 : Int} (h0 : a0 ≤ 5) (h1 : 0 ≤ a1) (h2 : a1 ≤ 6) (h3 : a1 = a0) (h4 : a2 = (24 + a1)) (h5 : a3 = (3 * a2)) (h6 : a4 = (a3 + 1)) : a4 = (((((72 + (3 * (Int.toNat a0))) + 1)) : Nat) : Int) := by omega
theorem mp_o1556 {a0 : Int} {a1 : Int} {a2 : Int} {a3 : Int} (h0 : a0 ≤ 5) (h1 : 0 ≤ a1) (h2 : a1 ≤ 6) (h3 : a1 = a0) (h4 : a2 = (24 + a1)) (h5 : a3 = (3 * a2)) : (-2147483648) ≤ (a3 + 2) := by omega
theorem mp_o1557 {a0 : Int} {a1 : Int} {a2 : Int} {a3 : Int} (h0 : a0 ≤ 5) (h1 : 0 ≤ a1) (h2 : a1 ≤ 6) (h3 : a1 = a0) (h4 : a2 = (24 + a1)) (h5 : a3 = (3 * a2)) : (a3 + 2) ≤ 2147483647 := by omega
theorem mp_o1558 {a0 : Int} {a1 : Int} {a2 : Int} {a3 : Int} {a4 : Int} (h0 : a0 ≤ 5) (h1 : 0 ≤ a1) (h2 : a1 ≤ 6) (h3 : a1 = a0) (h4 : a2 = (24 + a1)) (h5 : a3 = (3 * a2)) (h6 : a4 = (a3 + 2)) : ((0 ≤ a4 ∧ a4 < ((90 : Nat) : Int))) := by omega
theorem mp_o1559 {a0 : Int} {a1 : Int} {a2 : Int} {a3 : Int} {a4 : Int} (h0 : a0 ≤ 5) (h1 : 0 ≤ a1) (h2 : a1 ≤ 6) (h3 : a1 = a0) (h4 : a2 = (24 + a1)) (h5 : a3 = (3 * a2)) (h6 : a4 = (a3 + 2)) : 0 ≤ a4 := by omega
theorem mp_o1560 {a0 : Int} {a1 : Int} {a2 : Int} {a3 : Int} {a4 : Int} (h0 : a0 ≤ 5) (h1 : 0 ≤ a1) (h2 : a1 ≤ 6) (h3 : a1 = a0) (h4 : a2 = (24 + a1)) (h5 : a3 = (3 * a2)) (h6 : a4 = (a3 + 2)) : ((72 : Nat) : Int) ≤ a4 := by omega
theorem mp_o1561 {a0 : Int} {a1 : Int} {a2 : Int} {a3 : Int} {a4 : Int} (h0 : a0 ≤ 5) (h1 : 0 ≤ a1) (h2 : a1 ≤ 6) (h3 : a1 = a0) (h4 : a2 = (24 + a1)) (h5 : a3 = (3 * a2)) (h6 : a4 = (a3 + 2)) : ((0 ≤ a4 ∧ a4 ≠ (((((72 + (3 * (Int.toNat a0))) + 1)) : Nat) : Int))) := by omega
theorem mp_o1562 {a0 : Int} {a1 : Int} {a2 : Int} {a3 : Int} (h0 : a0 ≤ 5) (h1 : 0 ≤ a1) (h2 : a1 ≤ 6) (h3 : a1 = a0) (h4 : a2 = (24 + a1)) (h5 : a3 = a0) : (-2147483648) ≤ (a3 + 1) := by omega
theorem mp_o1563 {a0 : Int} {a1 : Int} {a2 : Int} {a3 : Int} (h0 : a0 ≤ 5) (h1 : 0 ≤ a1) (h2 : a1 ≤ 6) (h3 : a1 = a0) (h4 : a2 = (24 + a1)) (h5 : a3 = a0) : (a3 + 1) ≤ 2147483647 := by omega
theorem mp_o1564 {a0 : Int} {a1 : Int} {a2 : Int} {a3 : Int} {a4 : Int} (h0 : a0 ≤ 5) (h1 : 0 ≤ a1) (h2 : a1 ≤ 6) (h3 : a1 = a0) (h4 : a2 = (24 + a1)) (h5 : a3 = a0) (h6 : a4 = (a3 + 1)) : ((0 ≤ a4 ∧ a4 ≤ 6)) := by omega
theorem mp_o1565 {a0 : Int} {a1 : Int} (h0 : a0 ≠ 0) : ((a0 ≠ 0 ∨ a1 ≠ 1)) := by omega
theorem mp_o1566 {a0 : Int} {a1 : Int} {a2 : Int} {a3 : Int} {a4 : Int} {a5 : Int} (h0 : a0 = a1) (h1 : a2 = (24 + a0)) (h2 : a3 = a1) (h3 : a4 = (a3 + 1)) (h4 : a5 = a4) : (a1 + 1) = a5 := by omega
theorem mp_o1567 {a0 : Int} {a1 : Int} {a2 : Int} (h0 : a0 = a1) (h1 : a0 ≠ 1) : ((a2 ≠ 0 ∨ a1 ≠ 1)) := by omega
theorem mp_o1568 {a0 : Int} {a1 : Int} {a2 : Int} {a3 : Nat} {a4 : Int} {a5 : Int} {a6 : Int} {a7 : Int} (h0 : ((5 * ((a0 - a1))) + a2) ≤ ((a3 : Nat) : Int)) (h1 : a2 = a4) (h2 : a2 = 1) (h3 : 0 ≤ a5) (h4 : a5 ≤ 4) (h5 : a6 ≤ a0) (h6 : (((5 * ((a0 - a6))) + a5) + 1) ≤ ((5 * ((a0 - a1))) + a2)) (h7 : a5 = a7) : (a3 - 1) < a3 := by omega
theorem mp_o1569 {a0 : Int} {a1 : Int} {a2 : Int} {a3 : Nat} {a4 : Int} {a5 : Int} {a6 : Int} {a7 : Int} (h0 : ((5 * ((a0 - a1))) + a2) ≤ ((a3 : Nat) : Int)) (h1 : a2 = a4) (h2 : a2 = 1) (h3 : 0 ≤ a5) (h4 : a5 ≤ 4) (h5 : a6 ≤ a0) (h6 : (((5 * ((a0 - a6))) + a5) + 1) ≤ ((5 * ((a0 - a1))) + a2)) (h7 : a5 = a7) : ((5 * ((a0 - a6))) + a5) ≤ ((((a3 - 1)) : Nat) : Int) := by omega
theorem mp_o1570 : 100 ≤ 1000000 := by omega
theorem mp_o1571 {a0 : Int} {a1 : Int} (h0 : a0 = a1) (h1 : a0 = 1) : a1 = 1 := by omega
theorem mp_o1572 {a0 : Int} {a1 : Int} {a2 : Int} {a3 : Int} {a4 : Int} {a5 : Int} {a6 : Int} {a7 : Int} {a8 : Int} {a9 : Int} (h0 : (a0 ≠ 0 ∨ (a1 = 1 ∧ (((0 = 1 ∧ (a2 = 85447 ∧ a3 = (-1))) ∨ (0 = 0 ∧ (a2 = 10737568 ∧ a4 = 0))))))) (h1 : a0 = 0) (h2 : ((a5 = 0 ∧ a6 ≤ a7) ∨ (a6 + 1) ≤ a7)) (h3 : (a8 ≠ 0 ∨ (0 ≤ a9 ∧ a9 ≤ 100))) (h4 : ¬ (a2 = 10737568)) : False := by omega
theorem mp_o1573 {a0 : Int} {a1 : Int} {a2 : Int} {a3 : Int} {a4 : Int} {a5 : Int} {a6 : Int} {a7 : Int} {a8 : Int} {a9 : Int} (h0 : (a0 ≠ 0 ∨ (a1 = 1 ∧ (((0 = 1 ∧ (a2 = 85447 ∧ a3 = (-1))) ∨ (0 = 0 ∧ (a2 = 10737568 ∧ a4 = 0))))))) (h1 : a0 = 0) (h2 : ((a5 = 0 ∧ a6 ≤ a7) ∨ (a6 + 1) ≤ a7)) (h3 : (a8 ≠ 0 ∨ (0 ≤ a9 ∧ a9 ≤ 100))) : a2 = 10737568 := by omega
theorem mp_o1574 {a0 : Int} {a1 : Int} {a2 : Int} {a3 : Int} {a4 : Int} {a5 : Int} {a6 : Int} {a7 : Int} {a8 : Int} {a9 : Int} (h0 : 0 ≤ a0) (h1 : a0 ≤ 1) (h2 : (a1 ≠ 0 ∨ (a2 = 1 ∧ (((0 = 1 ∧ (a3 = 85447 ∧ a4 = (-1))) ∨ (0 = 0 ∧ (a3 = 10737568 ∧ a0 = 0))))))) (h3 : a1 = 0) (h4 : ((a5 = 0 ∧ a6 ≤ a7) ∨ (a6 + 1) ≤ a7)) (h5 : (a8 ≠ 0 ∨ (0 ≤ a9 ∧ a9 ≤ 100))) : (a0 ≠ 0) → False := by omega
theorem mp_o1575 {a0 : Int} {a1 : Int} {a2 : Int} {a3 : Int} {a4 : Int} {a5 : Int} {a6 : Int} {a7 : Int} {a8 : Int} {a9 : Int} {a10 : Int} {a11 : Int} {a12 : Int} {a13 : Int} {a14 : Int} (h0 : a0 = a1) (h1 : ((5 * ((a2 - a3))) + a4) ≤ ((5 * ((a2 - a5))) + a0)) (h2 : a4 = a6) (h3 : a4 = 1) (h4 : 0 ≤ a7) (h5 : a7 ≤ 4) (h6 : ((a7 = 0 ∧ a3 ≤ a8) ∨ (a3 + 1) ≤ a8)) (h7 : a7 = a9) (h8 : ((5 * ((a2 - a10))) + a11) ≤ ((5 * ((a2 - a8))) + a7)) (h9 : (a12 ≠ 0 ∨ (0 ≤ a13 ∧ a13 ≤ 100))) (h10 : a11 = a14) : ((5 * ((a2 - a10))) + a11) ≤ ((5 * ((a2 - a5))) + a0) := by omega
theorem mp_o1576 {a0 : Int} {a1 : Int} {a2 : Int} {a3 : Int} {a4 : Int} (h0 : a0 = a1) (h1 : a2 = (24 + a0)) (h2 : a3 = (3 * a2)) (h3 : a4 = (a3 + 2)) : a4 = (74 + (3 * a1)) := by omega
theorem mp_o1577 {a0 : Int} {a1 : Int} {a2 : Int} (h0 : a0 ≤ 5) (h1 : 0 ≤ a1) (h2 : a1 ≤ 6) (h3 : a1 = a0) (h4 : a2 = (24 + a1)) : 0 ≤ a0 := by omega
theorem mp_o1578 : (1 = 0) → False := by omega
theorem mp_o1579 {a0 : Int} {a1 : Int} {a2 : Int} {a3 : Int} {a4 : Int} {a5 : Int} {a6 : Int} {a7 : Int} {a8 : Int} {a9 : Int} {a10 : Int} {a11 : Int} (h0 : a0 = a1) (h1 : a0 = 1) (h2 : 0 ≤ a2) (h3 : a2 ≤ 4) (h4 : ((a2 = 0 ∧ a3 ≤ a4) ∨ (a3 + 1) ≤ a4)) (h5 : a2 = a5) (h6 : ((5 * ((a6 - a7))) + a8) ≤ ((5 * ((a6 - a4))) + a2)) (h7 : (a9 ≠ 0 ∨ (0 ≤ a10 ∧ a10 ≤ 100))) (h8 : a8 = a11) : (((5 * ((a6 - a7))) + a8) + 1) ≤ ((5 * ((a6 - a3))) + a0) := by omega
theorem mp_o1580 {a0 : Int} {a1 : Int} {a2 : Int} {a3 : Int} {a4 : Int} {a5 : Int} {a6 : Int} {a7 : Int} {a8 : Int} {a9 : Int} (h0 : 0 ≤ a0) (h1 : a0 ≤ 1) (h2 : a1 = a2) (h3 : a3 = 0) (h4 : a1 = 1) (h5 : ((a3 = 0 ∧ (a4 = 1 ∧ a5 = a6)) ∨ (a3 ≠ 0 ∧ (a4 = a3 ∧ a5 = a7)))) : ((a4 ≠ 0 ∨ (a2 = 1 ∧ (((0 = 1 ∧ (a8 = 85447 ∧ a9 = (-1))) ∨ (0 = 0 ∧ (a8 = 10737568 ∧ a0 = 0))))))) := by omega
theorem mp_o1581 {a0 : Int} {a1 : Int} {a2 : Int} {a3 : Int} {a4 : Int} {a5 : Int} (h0 : a0 = a1) (h1 : a0 = 1) (h2 : (a2 = 0 ∧ (a1 = 1 ∧ a3 = 10737568))) (h3 : a4 = 0) : ((a2 ≠ 0 ∨ (a1 = 1 ∧ (((0 = 1 ∧ (a3 = 85447 ∧ a5 = (-1))) ∨ (0 = 0 ∧ (a3 = 10737568 ∧ a4 = 0))))))) := by omega
theorem mp_o1582 {a0 : Int} {a1 : Int} {a2 : Int} {a3 : Int} {a4 : Int} {a5 : Int} (h0 : a0 = 0) (h1 : a1 ≠ 0) (h2 : a2 ≠ 0) (h3 : ((a0 = 0 ∧ (a2 = 1 ∧ a3 = a4)) ∨ (a0 ≠ 0 ∧ (a2 = a0 ∧ a3 = a5)))) (h4 : ¬ (a1 ≠ 0)) : False := by omega
theorem mp_o1583 {a0 : Int} {a1 : Int} {a2 : Int} {a3 : Int} {a4 : Int} {a5 : Int} {a6 : Int} {a7 : Int} {a8 : Int} {a9 : Int} (h0 : 0 ≤ a0) (h1 : a0 ≤ 1) (h2 : a1 = a2) (h3 : a3 = 0) (h4 : a1 = 1) (h5 : (a3 = 0 ∧ (a2 = 1 ∧ a4 = 10737568))) (h6 : ((a3 = 0 ∧ (a5 = 1 ∧ a6 = a7)) ∨ (a3 ≠ 0 ∧ (a5 = a3 ∧ a6 = a8)))) : ((a5 ≠ 0 ∨ (a2 = 1 ∧ (((0 = 1 ∧ (a4 = 85447 ∧ a9 = (-1))) ∨ (0 = 0 ∧ (a4 = 10737568 ∧ a0 = 0))))))) := by omega
theorem mp_o1584 {a0 : Int} {a1 : Int} {a2 : Int} {a3 : Nat} {a4 : Int} (h0 : a0 ≤ a1) (h1 : ((5 * ((a1 - a0))) + a2) ≤ ((a3 : Nat) : Int)) (h2 : a2 = a4) (h3 : a2 = 1) : (a3 - 1) < a3 := by omega
theorem mp_o1585 {a0 : Int} {a1 : Int} {a2 : Int} {a3 : Nat} {a4 : Int} {a5 : Int} {a6 : Int} {a7 : Int} (h0 : ((5 * ((a0 - a1))) + a2) ≤ ((a3 : Nat) : Int)) (h1 : a2 = a4) (h2 : a2 = 1) (h3 : (((5 * ((a0 - a5))) + a6) + 1) ≤ ((5 * ((a0 - a1))) + a2)) (h4 : a6 = a7) : ((5 * ((a0 - a5))) + a6) ≤ ((((a3 - 1)) : Nat) : Int) := by omega
theorem mp_o1586 {a0 : Int} {a1 : Int} {a2 : Int} (h0 : (a0 = 0 ∧ (a1 = 1 ∧ a2 = 85447))) : a2 = 85447 := by omega
theorem mp_o1587 {a0 : Int} {a1 : Int} {a2 : Int} {a3 : Int} {a4 : Int} {a5 : Int} {a6 : Int} {a7 : Int} {a8 : Int} {a9 : Int} {a10 : Int} (h0 : (a0 ≠ 0 ∨ (a1 = 1 ∧ (((1 = 1 ∧ (a2 = 85447 ∧ a3 = (-1))) ∨ (1 = 0 ∧ (a2 = 10737568 ∧ a4 = 0))))))) (h1 : a0 = 0) (h2 : ((a5 = 0 ∧ a6 ≤ a7) ∨ (a6 + 1) ≤ a7)) (h3 : a8 ≠ 0) (h4 : (a9 ≠ 0 ∨ (0 ≤ a10 ∧ a10 ≤ 99))) : (a3 ≠ (-1)) → False := by omega
theorem mp_o1588 {a0 : Int} (h0 : 0 ≤ a0) (h1 : a0 ≤ 99) : (¬ (((-1) ≤ a0 ∧ a0 ≤ 99))) → (((-1) ≤ a0 ∧ a0 ≤ 99)) := by omega
theorem mp_o1589 {a0 : Int} {a1 : Int} {a2 : Int} {a3 : Int} {a4 : Int} {a5 : Int} {a6 : Int} {a7 : Int} {a8 : Int} {a9 : Int} {a10 : Int} {a11 : Int} {a12 : Int} {a13 : Int} {a14 : Int} {a15 : Int} (h0 : a0 = a1) (h1 : ((5 * ((a2 - a3))) + a4) ≤ ((5 * ((a2 - a5))) + a0)) (h2 : a4 = a6) (h3 : a4 = 1) (h4 : 0 ≤ a7) (h5 : a7 ≤ 4) (h6 : ((a7 = 0 ∧ a3 ≤ a8) ∨ (a3 + 1) ≤ a8)) (h7 : a7 = a9) (h8 : a10 ≠ 0) (h9 : ((5 * ((a2 - a11))) + a12) ≤ ((5 * ((a2 - a8))) + a7)) (h10 : (a13 ≠ 0 ∨ (0 ≤ a14 ∧ a14 ≤ 99))) (h11 : a12 = a15) : ((5 * ((a2 - a11))) + a12) ≤ ((5 * ((a2 - a5))) + a0) := by omega
theorem mp_o1590 {a0 : Int} {a1 : Int} {a2 : Int} {a3 : Int} {a4 : Int} (h0 : a0 = a1) (h1 : a2 = (24 + a0)) (h2 : a3 = (3 * a2)) (h3 : a4 = (a3 + 1)) : a4 = (73 + (3 * a1)) := by omega
theorem mp_o1591 {a0 : Int} {a1 : Int} (h0 : 0 ≤ a0) (h1 : a0 ≤ 99) (h2 : a1 = a0) : (a1 = (-1)) → False := by omega
theorem mp_o1592 {a0 : Int} {a1 : Int} {a2 : Int} {a3 : Int} {a4 : Int} {a5 : Int} {a6 : Int} {a7 : Int} {a8 : Int} {a9 : Int} {a10 : Int} {a11 : Int} {a12 : Int} (h0 : a0 = a1) (h1 : a0 = 1) (h2 : 0 ≤ a2) (h3 : a2 ≤ 4) (h4 : ((a2 = 0 ∧ a3 ≤ a4) ∨ (a3 + 1) ≤ a4)) (h5 : a2 = a5) (h6 : a6 ≠ 0) (h7 : ((5 * ((a7 - a8))) + a9) ≤ ((5 * ((a7 - a4))) + a2)) (h8 : (a10 ≠ 0 ∨ (0 ≤ a11 ∧ a11 ≤ 99))) (h9 : a9 = a12) : (((5 * ((a7 - a8))) + a9) + 1) ≤ ((5 * ((a7 - a3))) + a0) := by omega
theorem mp_o1593 {a0 : Int} {a1 : Int} {a2 : Int} {a3 : Int} {a4 : Int} (h0 : a0 ≤ 5) (h1 : 0 ≤ a1) (h2 : a1 ≤ 6) (h3 : a1 = a0) (h4 : a2 = (24 + a1)) (h5 : a3 = (3 * a2)) (h6 : a4 = (a3 + 1)) : a4 < ((90 : Nat) : Int) := by omega
theorem mp_o1594 {a0 : Int} {a1 : Int} {a2 : Int} (h0 : a0 = (3 * a1)) (h1 : a2 = (a0 + 1)) : (a2 % ((3 : Nat) : Int)) = ((1 : Nat) : Int) := by omega
theorem mp_o1595 {a0 : Int} {a1 : Int} {a2 : Int} {a3 : Int} {a4 : Int} {a5 : Int} {a6 : Int} (h0 : 0 ≤ a0) (h1 : a0 ≤ 1) (h2 : a1 = a2) (h3 : a1 = 1) (h4 : (a3 = 0 ∧ (a2 = 1 ∧ a4 = 85447))) (h5 : a5 = a6) (h6 : a5 = (-1)) : ((a3 ≠ 0 ∨ (a2 = 1 ∧ (((1 = 1 ∧ (a4 = 85447 ∧ a6 = (-1))) ∨ (1 = 0 ∧ (a4 = 10737568 ∧ a0 = 0))))))) := by omega
theorem mp_o1596 {a0 : Int} {a1 : Int} {a2 : Int} {a3 : Int} {a4 : Int} {a5 : Int} {a6 : Int} (h0 : a0 = 0) (h1 : a1 = a2) (h2 : a1 ≠ (-1)) (h3 : a3 ≠ 0) (h4 : ((a0 = 0 ∧ (a3 = 1 ∧ a4 = a5)) ∨ (a0 ≠ 0 ∧ (a3 = a0 ∧ a4 = a6)))) (h5 : ¬ (a2 ≠ (-1))) : False := by omega
theorem mp_o1597 {a0 : Int} {a1 : Int} {a2 : Int} {a3 : Int} {a4 : Int} {a5 : Int} {a6 : Int} {a7 : Int} {a8 : Int} {a9 : Int} {a10 : Int} (h0 : 0 ≤ a0) (h1 : a0 ≤ 1) (h2 : a1 = a2) (h3 : a3 = 0) (h4 : a1 = 1) (h5 : (a3 = 0 ∧ (a2 = 1 ∧ a4 = 85447))) (h6 : ((-1) ≤ a5 ∧ a5 ≤ 99)) (h7 : a5 = a6) (h8 : ((a3 = 0 ∧ (a7 = 1 ∧ a8 = a9)) ∨ (a3 ≠ 0 ∧ (a7 = a3 ∧ a8 = a10)))) : ((a7 ≠ 0 ∨ (a2 = 1 ∧ (((1 = 1 ∧ (a4 = 85447 ∧ a6 = (-1))) ∨ (1 = 0 ∧ (a4 = 10737568 ∧ a0 = 0))))))) := by omega
theorem mp_o1598 {a0 : Int} {a1 : Int} {a2 : Int} {a3 : Int} {a4 : Int} {a5 : Int} {a6 : Int} {a7 : Int} {a8 : Int} {a9 : Int} (h0 : a0 = a1) (h1 : ((5 * ((a2 - a3))) + a4) ≤ ((5 * ((a2 - a5))) + a0)) (h2 : a4 = a6) (h3 : ((5 * ((a2 - a7))) + a8) ≤ ((5 * ((a2 - a3))) + a4)) (h4 : a8 = a9) : ((5 * ((a2 - a7))) + a8) ≤ ((5 * ((a2 - a5))) + a0) := by omega
theorem mp_o1599 {a0 : Int} {a1 : Int} {a2 : Int} {a3 : Int} (h0 : a0 = a1) (h1 : a2 = (24 + a0)) (h2 : a3 = (3 * a2)) : a3 = (72 + (3 * a1)) := by omega
theorem mp_o1600 {a0 : Int} {a1 : Int} (h0 : a0 = (-1)) (h1 : a1 = a0) : (a1 ≠ (-1)) → False := by omega
theorem mp_o1601 {a0 : Int} {a1 : Int} {a2 : Int} {a3 : Int} {a4 : Int} {a5 : Int} {a6 : Int} (h0 : ((5 * ((a0 - a1))) + a2) ≤ ((5 * ((a0 - a3))) + a4)) (h1 : ((5 * ((a0 - a5))) + a6) ≤ ((5 * ((a0 - a1))) + a2)) : ((5 * ((a0 - a5))) + a6) ≤ ((5 * ((a0 - a3))) + a4) := by omega
theorem mp_o1602 {a0 : Int} (h0 : 0 ≤ a0) (h1 : a0 ≤ 5) : (-2147483648) ≤ (6 * a0) := by omega
theorem mp_o1603 {a0 : Int} (h0 : 0 ≤ a0) (h1 : a0 ≤ 5) : (6 * a0) ≤ 2147483647 := by omega
theorem mp_o1604 {a0 : Int} {a1 : Int} (h0 : 0 ≤ a0) (h1 : a0 ≤ 5) (h2 : a1 = (6 * a0)) : (-2147483648) ≤ (144 + a1) := by omega
theorem mp_o1605 {a0 : Int} {a1 : Int} (h0 : 0 ≤ a0) (h1 : a0 ≤ 5) (h2 : a1 = (6 * a0)) : (144 + a1) ≤ 2147483647 := by omega
theorem mp_o1606 {a0 : Int} {a1 : Int} {a2 : Int} {a3 : Int} (h0 : 0 ≤ a0) (h1 : a0 ≤ 5) (h2 : 0 ≤ a1) (h3 : a1 ≤ 5) (h4 : a2 = (6 * a0)) (h5 : a3 = (144 + a2)) : (-2147483648) ≤ (a3 + a1) := by omega
theorem mp_o1607 {a0 : Int} {a1 : Int} {a2 : Int} {a3 : Int} (h0 : 0 ≤ a0) (h1 : a0 ≤ 5) (h2 : 0 ≤ a1) (h3 : a1 ≤ 5) (h4 : a2 = (6 * a0)) (h5 : a3 = (144 + a2)) : (a3 + a1) ≤ 2147483647 := by omega
theorem mp_o1608 {a0 : Int} {a1 : Int} {a2 : Int} {a3 : Int} {a4 : Int} (h0 : 0 ≤ a0) (h1 : a0 ≤ 5) (h2 : 0 ≤ a1) (h3 : a1 ≤ 5) (h4 : a2 = (6 * a0)) (h5 : a3 = (144 + a2)) (h6 : a4 = (a3 + a1)) : ((0 ≤ a4 ∧ a4 < ((180 : Nat) : Int))) := by omega
theorem mp_o1609 {a0 : Int} {a1 : Int} {a2 : Int} {a3 : Int} {a4 : Int} (h0 : 0 ≤ a0) (h1 : a0 ≤ 5) (h2 : 0 ≤ a1) (h3 : a1 ≤ 5) (h4 : a2 = (6 * a0)) (h5 : a3 = (144 + a2)) (h6 : a4 = (a3 + a1)) : ((144 : Nat) : Int) ≤ a4 := by omega
theorem mp_o1610 {a0 : Int} {a1 : Int} {a2 : Int} {a3 : Int} {a4 : Int} (h0 : 0 ≤ a0) (h1 : a0 ≤ 5) (h2 : a1 = (6 * a2)) (h3 : a3 = (144 + a1)) (h4 : a4 = (a3 + a0)) : (-2147483648) ≤ (6 * a0) := by omega
theorem mp_o1611 {a0 : Int} {a1 : Int} {a2 : Int} {a3 : Int} {a4 : Int} (h0 : 0 ≤ a0) (h1 : a0 ≤ 5) (h2 : a1 = (6 * a2)) (h3 : a3 = (144 + a1)) (h4 : a4 = (a3 + a0)) : (6 * a0) ≤ 2147483647 := by omega
theorem mp_o1612 {a0 : Int} {a1 : Int} {a2 : Int} {a3 : Int} {a4 : Int} {a5 : Int} (h0 : 0 ≤ a0) (h1 : a0 ≤ 5) (h2 : a1 = (6 * a2)) (h3 : a3 = (144 + a1)) (h4 : a4 = (a3 + a0)) (h5 : a5 = (6 * a0)) : (-2147483648) ≤ (144 + a5) := by omega
theorem mp_o1613 {a0 : Int} {a1 : Int} {a2 : Int} {a3 : Int} {a4 : Int} {a5 : Int} (h0 : 0 ≤ a0) (h1 : a0 ≤ 5) (h2 : a1 = (6 * a2)) (h3 : a3 = (144 + a1)) (h4 : a4 = (a3 + a0)) (h5 : a5 = (6 * a0)) : (144 + a5) ≤ 2147483647 := by omega
theorem mp_o1614 {a0 : Int} {a1 : Int} {a2 : Int} {a3 : Int} {a4 : Int} {a5 : Int} {a6 : Int} (h0 : 0 ≤ a0) (h1 : a0 ≤ 5) (h2 : 0 ≤ a1) (h3 : a1 ≤ 5) (h4 : a2 = (6 * a0)) (h5 : a3 = (144 + a2)) (h6 : a4 = (a3 + a1)) (h7 : a5 = (6 * a1)) (h8 : a6 = (144 + a5)) : (-2147483648) ≤ (a6 + a0) := by omega
theorem mp_o1615 {a0 : Int} {a1 : Int} {a2 : Int} {a3 : Int} {a4 : Int} {a5 : Int} {a6 : Int} (h0 : 0 ≤ a0) (h1 : a0 ≤ 5) (h2 : 0 ≤ a1) (h3 : a1 ≤ 5) (h4 : a2 = (6 * a0)) (h5 : a3 = (144 + a2)) (h6 : a4 = (a3 + a1)) (h7 : a5 = (6 * a1)) (h8 : a6 = (144 + a5)) : (a6 + a0) ≤ 2147483647 := by omega
theorem mp_o1616 {a0 : Int} {a1 : Int} {a2 : Int} {a3 : Int} {a4 : Int} {a5 : Int} {a6 : Int} {a7 : Int} (h0 : 0 ≤ a0) (h1 : a0 ≤ 5) (h2 : 0 ≤ a1) (h3 : a1 ≤ 5) (h4 : a2 = (6 * a0)) (h5 : a3 = (144 + a2)) (h6 : a4 = (a3 + a1)) (h7 : a5 = (6 * a1)) (h8 : a6 = (144 + a5)) (h9 : a7 = (a6 + a0)) : ((0 ≤ a7 ∧ a7 < ((180 : Nat) : Int))) := by omega
theorem mp_o1617 {a0 : Int} {a1 : Int} {a2 : Int} {a3 : Int} {a4 : Int} {a5 : Int} {a6 : Int} {a7 : Int} (h0 : 0 ≤ a0) (h1 : a0 ≤ 5) (h2 : 0 ≤ a1) (h3 : a1 ≤ 5) (h4 : a2 = (6 * a0)) (h5 : a3 = (144 + a2)) (h6 : a4 = (a3 + a1)) (h7 : a5 = (6 * a1)) (h8 : a6 = (144 + a5)) (h9 : a7 = (a6 + a0)) : ((144 : Nat) : Int) ≤ a7 := by omega
theorem mp_o1618 {a0 : Int} {a1 : Int} {a2 : Int} {a3 : Int} {a4 : Int} {a5 : Int} {a6 : Int} {a7 : Int} {a8 : Int} {a9 : Int} {a10 : Int} {a11 : Int} {a12 : Int} (h0 : a0 = a1) (h1 : ((5 * ((a2 - a3))) + a4) ≤ ((5 * ((a2 - a5))) + a0)) (h2 : a4 = a6) (h3 : ((5 * ((a2 - a7))) + a8) ≤ ((5 * ((a2 - a3))) + a4)) (h4 : a8 = a9) (h5 : ((5 * ((a2 - a10))) + a11) ≤ ((5 * ((a2 - a7))) + a8)) (h6 : a11 = a12) : ((5 * ((a2 - a10))) + a11) ≤ ((5 * ((a2 - a5))) + a0) := by omega
theorem mp_o1619 {a0 : Int} {a1 : Int} {a2 : Int} {a3 : Int} {a4 : Int} (h0 : a0 = (6 * a1)) (h1 : a2 = (144 + a0)) (h2 : a3 = (a2 + a4)) : a3 = ((144 + (6 * a1)) + a4) := by omega
theorem mp_o1620 {a0 : Int} {a1 : Int} {a2 : Int} {a3 : Int} {a4 : Int} {a5 : Int} {a6 : Int} {a7 : Int} (h0 : a0 = (6 * a1)) (h1 : a2 = (144 + a0)) (h2 : a3 = (a2 + a4)) (h3 : a5 = (6 * a4)) (h4 : a6 = (144 + a5)) (h5 : a7 = (a6 + a1)) : a7 = ((144 + (6 * a4)) + a1) := by omega
theorem mp_o1621 {a0 : Int} {a1 : Int} {a2 : Int} {a3 : Int} (h0 : a0 ≠ 0) : ((a0 ≠ 0 ∨ (a1 ≠ 2 ∨ a2 ≠ a3))) := by omega
theorem mp_o1622 {a0 : Int} {a1 : Int} {a2 : Int} {a3 : Int} {a4 : Int} (h0 : a0 = a1) (h1 : a0 ≠ 2) : ((a2 ≠ 0 ∨ (a1 ≠ 2 ∨ a3 ≠ a4))) := by omega
theorem mp_o1623 {a0 : Int} {a1 : Int} {a2 : Int} {a3 : Int} {a4 : Int} {a5 : Int} (h0 : 0 ≤ a0) (h1 : a0 ≤ 5) (h2 : a1 = a2) (h3 : a1 = 2) (h4 : a3 ≠ a0) (h5 : (a1 ≠ 2 ∨ ((a3 = a4 ∧ a4 ≤ 10000009) ∨ (a3 = 10000000 ∧ 1000000 < a4)))) : ((a5 ≠ 0 ∨ (a2 ≠ 2 ∨ a4 ≠ a0))) := by omega
theorem mp_o1624 {a0 : Int} {a1 : Int} (h0 : a0 = a1) (h1 : a0 = 2) : a1 = 2 := by omega
theorem mp_o1625 {a0 : Int} {a1 : Int} {a2 : Int} {a3 : Int} {a4 : Int} (h0 : 0 ≤ a0) (h1 : a0 ≤ 5) (h2 : a1 = a2) (h3 : a1 = 2) (h4 : a3 = a0) (h5 : (a1 ≠ 2 ∨ ((a3 = a4 ∧ a4 ≤ 10000009) ∨ (a3 = 10000000 ∧ 1000000 < a4)))) : a4 = a0 := by omega
theorem mp_o1626 {a0 : Int} {a1 : Int} {a2 : Int} {a3 : Int} {a4 : Int} {a5 : Int} {a6 : Int} {a7 : Int} (h0 : a0 = 0) (h1 : ((a0 = 0 ∧ (a1 = 2 ∧ a2 = a3)) ∨ (a0 ≠ 0 ∧ (a1 = a0 ∧ a2 = a4)))) : ((a1 ≠ 0 ∨ (a5 ≠ 2 ∨ a6 ≠ a7))) := by omega
theorem mp_o1627 {a0 : Int} {a1 : Int} {a2 : Int} {a3 : Int} (h0 : 0 ≤ a0) (h1 : a0 ≤ 99) (h2 : a1 = a2) (h3 : a3 = a0) (h4 : a1 ≤ a3) : a2 ≤ 99 := by omega
theorem mp_o1628 {a0 : Int} {a1 : Int} (h0 : a0 ≤ 9) (h1 : 0 ≤ a1) (h2 : a1 ≤ 10) (h3 : a1 = a0) : (-2147483648) ≤ (40 + a1) := by omega
theorem mp_o1629 {a0 : Int} {a1 : Int} (h0 : a0 ≤ 9) (h1 : 0 ≤ a1) (h2 : a1 ≤ 10) (h3 : a1 = a0) : (40 + a1) ≤ 2147483647 := by omega
theorem mp_o1630 {a0 : Int} {a1 : Int} {a2 : Int} (h0 : a0 ≤ 9) (h1 : 0 ≤ a1) (h2 : a1 ≤ 10) (h3 : a1 = a0) (h4 : a2 = (40 + a1)) : (-2147483648) ≤ (6 * a2) := by omega
theorem mp_o1631 {a0 : Int} {a1 : Int} {a2 : Int} (h0 : a0 ≤ 9) (h1 : 0 ≤ a1) (h2 : a1 ≤ 10) (h3 : a1 = a0) (h4 : a2 = (40 + a1)) : (6 * a2) ≤ 2147483647 := by omega
theorem mp_o1632 {a0 : Int} {a1 : Int} {a2 : Int} {a3 : Int} (h0 : a0 ≤ 9) (h1 : 0 ≤ a1) (h2 : a1 ≤ 10) (h3 : a1 = a0) (h4 : a2 = (40 + a1)) (h5 : a3 = (6 * a2)) : ((0 ≤ a3 ∧ a3 < ((300 : Nat) : Int))) := by omega
theorem mp_o1633 {a0 : Int} {a1 : Int} {a2 : Int} {a3 : Int} (h0 : a0 ≤ 9) (h1 : 0 ≤ a1) (h2 : a1 ≤ 10) (h3 : a1 = a0) (h4 : a2 = (40 + a1)) (h5 : a3 = (6 * a2)) : 0 ≤ a3 := by omega
theorem mp_o1634 {a0 : Int} {a1 : Int} {a2 : Int} {a3 : Int} (h0 : a0 ≤ 9) (h1 : 0 ≤ a1) (h2 : a1 ≤ 10) (h3 : a1 = a0) (h4 : a2 = (40 + a1)) (h5 : a3 = (6 * a2)) : ((240 : Nat) : Int) ≤ a3 := by omega
theorem mp_o1635 {a0 : Int} {a1 : Int} {a2 : Int} {a3 : Int} (h0 : a0 = a1) (h1 : a2 = (40 + a0)) (h2 : a3 = (6 * a2)) : (((240 : Nat) : Int) + (6 * a1)) ≤ a3 := by omega
theorem mp_o1636 {a0 : Int} {a1 : Int} {a2 : Int} {a3 : Int} (h0 : a0 ≤ 9) (h1 : 0 ≤ a1) (h2 : a1 ≤ 10) (h3 : a1 = a0) (h4 : a2 = (40 + a1)) (h5 : a3 = (6 * a2)) : ((0 ≤ a3 ∧ a3 ≠ (((((240 + (6 * (Int.toNat a0))) + 5)) : Nat) : Int))) := by omega
theorem mp_o1637 {a0 : Int} {a1 : Int} {a2 : Int} {a3 : Int} (h0 : a0 ≤ 9) (h1 : 0 ≤ a1) (h2 : a1 ≤ 10) (h3 : a1 = a0) (h4 : a2 = (40 + a1)) (h5 : a3 = (6 * a2)) : a3 = (((((240 + (6 * (Int.toNat a0))) + 0)) : Nat) : Int) := by omega
theorem mp_o1638 {a0 : Int} {a1 : Int} {a2 : Int} {a3 : Int} (h0 : a0 ≤ 9) (h1 : 0 ≤ a1) (h2 : a1 ≤ 10) (h3 : a1 = a0) (h4 : a2 = (40 + a1)) (h5 : a3 = (6 * a2)) : ((0 ≤ a3 ∧ a3 ≠ (((((240 + (6 * (Int.toNat a0))) + 4)) : Nat) : Int))) := by omega
theorem mp_o1639 {a0 : Int} {a1 : Int} {a2 : Int} {a3 : Int} (h0 : a0 ≤ 9) (h1 : 0 ≤ a1) (h2 : a1 ≤ 10) (h3 : a1 = a0) (h4 : a2 = (40 + a1)) (h5 : a3 = (6 * a2)) : (-2147483648) ≤ (a3 + 1) := by omega
theorem mp_o1640 {a0 : Int} {a1 : Int} {a2 : Int} {a3 : Int} (h0 : a0 ≤ 9) (h1 : 0 ≤ a1) (h2 : a1 ≤ 10) (h3 : a1 = a0) (h4 : a2 = (40 + a1)) (h5 : a3 = (6 * a2)) : (a3 + 1) ≤ 2147483647 := by omega
theorem mp_o1641 {a0 : Int} {a1 : Int} {a2 : Int} {a3 : Int} {a4 : Int} (h0 : a0 ≤ 9) (h1 : 0 ≤ a1) (h2 : a1 ≤ 10) (h3 : a1 = a0) (h4 : a2 = (40 + a1)) (h5 : a3 = (6 * a2)) (h6 : a4 = (a3 + 1)) : ((0 ≤ a4 ∧ a4 < ((300 : Nat) : Int))) := by omega
theorem mp_o1642 {a0 : Int} {a1 : Int} {a2 : Int} {a3 : Int} {a4 : Int} (h0 : a0 ≤ 9) (h1 : 0 ≤ a1) (h2 : a1 ≤ 10) (h3 : a1 = a0) (h4 : a2 = (40 + a1)) (h5 : a3 = (6 * a2)) (h6 : a4 = (a3 + 1)) : 0 ≤ a4 := by omega
theorem mp_o1643 {a0 : Int} {a1 : Int} {a2 : Int} {a3 : Int} {a4 : Int} (h0 : a0 ≤ 9) (h1 : 0 ≤ a1) (h2 : a1 ≤ 10) (h3 : a1 = a0) (h4 : a2 = (40 + a1)) (h5 : a3 = (6 * a2)) (h6 : a4 = (a3 + 1)) : ((240 : Nat) : Int) ≤ a4 := by omega
theorem mp_o1644 {a0 : Int} {a1 : Int} {a2 : Int} {a3 : Int} {a4 : Int} (h0 : a0 = a1) (h1 : a2 = (40 + a0)) (h2 : a3 = (6 * a2)) (h3 : a4 = (a3 + 1)) : (((240 : Nat) : Int) + (6 * a1)) ≤ a4 := by omega
theorem mp_o1645 {a0 : Int} {a1 : Int} {a2 : Int} {a3 : Int} {a4 : Int} (h0 : a0 ≤ 9) (h1 : 0 ≤ a1) (h2 : a1 ≤ 10) (h3 : a1 = a0) (h4 : a2 = (40 + a1)) (h5 : a3 = (6 * a2)) (h6 : a4 = (a3 + 1)) : ((0 ≤ a4 ∧ a4 ≠ (((((240 + (6 * (Int.toNat a0))) + 5)) : Nat) : Int))) := by omega
theorem mp_o1646 {a0 : Int} {a1 : Int} {a2 : Int} {a3 : Int} {a4 : Int} (h0 : a0 ≤ 9) (h1 : 0 ≤ a1) (h2 : a1 ≤ 10) (h3 : a1 = a0) (h4 : a2 = (40 + a1)) (h5 : a3 = (6 * a2)) (h6 : a4 = (a3 + 1)) : ((0 ≤ a4 ∧ a4 ≠ (((((240 + (6 * (Int.toNat a0))) + 0)) : Nat) : Int))) := by omega
theorem mp_o1647 {a0 : Int} {a1 : Int} {a2 : Int} {a3 : Int} {a4 : Int} (h0 : a0 ≤ 9) (h1 : 0 ≤ a1) (h2 : a1 ≤ 10) (h3 : a1 = a0) (h4 : a2 = (40 + a1)) (h5 : a3 = (6 * a2)) (h6 : a4 = (a3 + 1)) : ((0 ≤ a4 ∧ a4 ≠ (((((240 + (6 * (Int.toNat a0))) + 4)) : Nat) : Int))) := by omega
theorem mp_o1648 {a0 : Int} {a1 : Int} {a2 : Int} {a3 : Int} (h0 : a0 ≤ 9) (h1 : 0 ≤ a1) (h2 : a1 ≤ 10) (h3 : a1 = a0) (h4 : a2 = (40 + a1)) (h5 : a3 = (6 * a2)) : (-2147483648) ≤ (a3 + 2) := by omega
theorem mp_o1649 {a0 : Int} {a1 : Int} {a2 : Int} {a3 : Int} (h0 : a0 ≤ 9) (h1 : 0 ≤ a1) (h2 : a1 ≤ 10) (h3 : a1 = a0) (h4 : a2 = (40 + a1)) (h5 : a3 = (6 * a2)) : (a3 + 2) ≤ 2147483647 := by omega
theorem mp_o1650 {a0 : Int} {a1 : Int} {a2 : Int} {a3 : Int} {a4 : Int} (h0 : a0 ≤ 9) (h1 : 0 ≤ a1) (h2 : a1 ≤ 10) (h3 : a1 = a0) (h4 : a2 = (40 + a1)) (h5 : a3 = (6 * a2)) (h6 : a4 = (a3 + 2)) : ((0 ≤ a4 ∧ a4 < ((300 : Nat) : Int))) := by omega
theorem mp_o1651 {a0 : Int} {a1 : Int} {a2 : Int} {a3 : Int} {a4 : Int} (h0 : a0 ≤ 9) (h1 : 0 ≤ a1) (h2 : a1 ≤ 10) (h3 : a1 = a0) (h4 : a2 = (40 + a1)) (h5 : a3 = (6 * a2)) (h6 : a4 = (a3 + 2)) : 0 ≤ a4 := by omega
theorem mp_o1652 {a0 : Int} {a1 : Int} {a2 : Int} {a3 : Int} {a4 : Int} (h0 : a0 ≤ 9) (h1 : 0 ≤ a1) (h2 : a1 ≤ 10) (h3 : a1 = a0) (h4 : a2 = (40 + a1)) (h5 : a3 = (6 * a2)) (h6 : a4 = (a3 + 2)) : ((240 : Nat) : Int) ≤ a4 := by omega
theorem mp_o1653 {a0 : Int} {a1 : Int} {a2 : Int} {a3 : Int} {a4 : Int} (h0 : a0 = a1) (h1 : a2 = (40 + a0)) (h2 : a3 = (6 * a2)) (h3 : a4 = (a3 + 2)) : (((240 : Nat) : Int) + (6 * a1)) ≤ a4 := by omega
theorem mp_o1654 {a0 : Int} {a1 : Int} {a2 : Int} {a3 : Int} {a4 : Int} (h0 : a0 ≤ 9) (h1 : 0 ≤ a1) (h2 : a1 ≤ 10) (h3 : a1 = a0) (h4 : a2 = (40 + a1)) (h5 : a3 = (6 * a2)) (h6 : a4 = (a3 + 2)) : ((0 ≤ a4 ∧ a4 ≠ (((((240 + (6 * (Int.toNat a0))) + 5)) : Nat) : Int))) := by omega
theorem mp_o1655 {a0 : Int} {a1 : Int} {a2 : Int} {a3 : Int} {a4 : Int} (h0 : a0 ≤ 9) (h1 : 0 ≤ a1) (h2 : a1 ≤ 10) (h3 : a1 = a0) (h4 : a2 = (40 + a1)) (h5 : a3 = (6 * a2)) (h6 : a4 = (a3 + 2)) : ((0 ≤ a4 ∧ a4 ≠ (((((240 + (6 * (Int.toNat a0))) + 0)) : Nat) : Int))) := by omega
theorem mp_o1656 {a0 : Int} {a1 : Int} {a2 : Int} {a3 : Int} {a4 : Int} (h0 : a0 ≤ 9) (h1 : 0 ≤ a1) (h2 : a1 ≤ 10) (h3 : a1 = a0) (h4 : a2 = (40 + a1)) (h5 : a3 = (6 * a2)) (h6 : a4 = (a3 + 2)) : ((0 ≤ a4 ∧ a4 ≠ (((((240 + (6 * (Int.toNat a0))) + 4)) : Nat) : Int))) := by omega
theorem mp_o1657 {a0 : Int} {a1 : Int} {a2 : Int} {a3 : Int} (h0 : a0 ≤ 9) (h1 : 0 ≤ a1) (h2 : a1 ≤ 10) (h3 : a1 = a0) (h4 : a2 = (40 + a1)) (h5 : a3 = (6 * a2)) : (-2147483648) ≤ (a3 + 3) := by omega
theorem mp_o1658 {a0 : Int} {a1 : Int} {a2 : Int} {a3 : Int} (h0 : a0 ≤ 9) (h1 : 0 ≤ a1) (h2 : a1 ≤ 10) (h3 : a1 = a0) (h4 : a2 = (40 + a1)) (h5 : a3 = (6 * a2)) : (a3 + 3) ≤ 2147483647 := by omega
theorem mp_o1659 {a0 : Int} {a1 : Int} (h0 : 0 ≤ a0) (h1 : a0 ≤ 99) (h2 : a0 = a1) : a0 ≤ 1000000 := by omega
theorem mp_o1660 {a0 : Int} {a1 : Int} {a2 : Int} {a3 : Int} {a4 : Int} (h0 : a0 ≤ 9) (h1 : 0 ≤ a1) (h2 : a1 ≤ 10) (h3 : a1 = a0) (h4 : a2 = (40 + a1)) (h5 : a3 = (6 * a2)) (h6 : a4 = (a3 + 3)) : ((0 ≤ a4 ∧ a4 < ((300 : Nat) : Int))) := by omega
theorem mp_o1661 {a0 : Int} {a1 : Int} {a2 : Int} {a3 : Int} {a4 : Int} (h0 : a0 ≤ 9) (h1 : 0 ≤ a1) (h2 : a1 ≤ 10) (h3 : a1 = a0) (h4 : a2 = (40 + a1)) (h5 : a3 = (6 * a2)) (h6 : a4 = (a3 + 3)) : 0 ≤ a4 := by omega
theorem mp_o1662 {a0 : Int} (h0 : 0 ≤ a0) (h1 : a0 ≤ 99) : (¬ ((0 ≤ a0 ∧ a0 ≤ 99))) → ((0 ≤ a0 ∧ a0 ≤ 99)) := by omega
theorem mp_o1663 {a0 : Int} {a1 : Int} {a2 : Int} {a3 : Int} {a4 : Int} (h0 : a0 ≤ 9) (h1 : 0 ≤ a1) (h2 : a1 ≤ 10) (h3 : a1 = a0) (h4 : a2 = (40 + a1)) (h5 : a3 = (6 * a2)) (h6 : a4 = (a3 + 3)) : ((240 : Nat) : Int) ≤ a4 := by omega
theorem mp_o1664 {a0 : Int} {a1 : Int} {a2 : Int} {a3 : Int} {a4 : Int} (h0 : a0 = a1) (h1 : a2 = (40 + a0)) (h2 : a3 = (6 * a2)) (h3 : a4 = (a3 + 3)) : (((240 : Nat) : Int) + (6 * a1)) ≤ a4 := by omega
theorem mp_o1665 {a0 : Int} {a1 : Int} {a2 : Int} {a3 : Int} {a4 : Int} (h0 : a0 ≤ 9) (h1 : 0 ≤ a1) (h2 : a1 ≤ 10) (h3 : a1 = a0) (h4 : a2 = (40 + a1)) (h5 : a3 = (6 * a2)) (h6 : a4 = (a3 + 3)) : ((0 ≤ a4 ∧ a4 ≠ (((((240 + (6 * (Int.toNat a0))) + 5)) : Nat) : Int))) := by omega
theorem mp_o1666 {a0 : Int} {a1 : Int} {a2 : Int} {a3 : Int} {a4 : Int} (h0 : a0 ≤ 9) (h1 : 0 ≤ a1) (h2 : a1 ≤ 10) (h3 : a1 = a0) (h4 : a2 = (40 + a1)) (h5 : a3 = (6 * a2)) (h6 : a4 = (a3 + 3)) : ((0 ≤ a4 ∧ a4 ≠ (((((240 + (6 * (Int.toNat a0))) + 0)) : Nat) : Int))) := by omega
theorem mp_o1667 {a0 : Int} {a1 : Int} {a2 : Int} {a3 : Int} {a4 : Int} (h0 : a0 ≤ 9) (h1 : 0 ≤ a1) (h2 : a1 ≤ 10) (h3 : a1 = a0) (h4 : a2 = (40 + a1)) (h5 : a3 = (6 * a2)) (h6 : a4 = (a3 + 3)) : ((0 ≤ a4 ∧ a4 ≠ (((((240 + (6 * (Int.toNat a0))) + 4)) : Nat) : Int))) := by omega
theorem mp_o1668 {a0 : Int} {a1 : Int} {a2 : Int} {a3 : Int} (h0 : a0 ≤ 9) (h1 : 0 ≤ a1) (h2 : a1 ≤ 10) (h3 : a1 = a0) (h4 : a2 = (40 + a1)) (h5 : a3 = (6 * a2)) : (-2147483648) ≤ (a3 + 4) := by omega
theorem mp_o1669 {a0 : Int} {a1 : Int} {a2 : Int} {a3 : Int} (h0 : a0 ≤ 9) (h1 : 0 ≤ a1) (h2 : a1 ≤ 10) (h3 : a1 = a0) (h4 : a2 = (40 + a1)) (h5 : a3 = (6 * a2)) : (a3 + 4) ≤ 2147483647 := by omega
theorem mp_o1670 {a0 : Int} {a1 : Int} {a2 : Int} {a3 : Int} {a4 : Int} (h0 : a0 ≤ 9) (h1 : 0 ≤ a1) (h2 : a1 ≤ 10) (h3 : a1 = a0) (h4 : a2 = (40 + a1)) (h5 : a3 = (6 * a2)) (h6 : a4 = (a3 + 4)) : ((0 ≤ a4 ∧ a4 < ((300 : Nat) : Int))) := by omega
theorem mp_o1671 {a0 : Int} {a1 : Int} {a2 : Int} {a3 : Int} {a4 : Int} (h0 : a0 ≤ 9) (h1 : 0 ≤ a1) (h2 : a1 ≤ 10) (h3 : a1 = a0) (h4 : a2 = (40 + a1)) (h5 : a3 = (6 * a2)) (h6 : a4 = (a3 + 4)) : 0 ≤ a4 := by omega
theorem mp_o1672 {a0 : Int} {a1 : Int} {a2 : Int} {a3 : Int} {a4 : Int} (h0 : a0 ≤ 9) (h1 : 0 ≤ a1) (h2 : a1 ≤ 10) (h3 : a1 = a0) (h4 : a2 = (40 + a1)) (h5 : a3 = (6 * a2)) (h6 : a4 = (a3 + 4)) : ((240 : Nat) : Int) ≤ a4 := by omega
theorem mp_o1673 {a0 : Int} {a1 : Int} {a2 : Int} {a3 : Int} {a4 : Int} (h0 : a0 = a1) (h1 : a2 = (40 + a0)) (h2 : a3 = (6 * a2)) (h3 : a4 = (a3 + 4)) : (((240 : Nat) : Int) + (6 * a1)) ≤ a4 := by omega
theorem mp_o1674 {a0 : Int} {a1 : Int} {a2 : Int} {a3 : Int} {a4 : Int} (h0 : a0 ≤ 9) (h1 : 0 ≤ a1) (h2 : a1 ≤ 10) (h3 : a1 = a0) (h4 : a2 = (40 + a1)) (h5 : a3 = (6 * a2)) (h6 : a4 = (a3 + 4)) : ((0 ≤ a4 ∧ a4 ≠ (((((240 + (6 * (Int.toNat a0))) + 5)) : Nat) : Int))) := by omega
theorem mp_o1675 {a0 : Int} {a1 : Int} {a2 : Int} {a3 : Int} {a4 : Int} (h0 : a0 ≤ 9) (h1 : 0 ≤ a1) (h2 : a1 ≤ 10) (h3 : a1 = a0) (h4 : a2 = (40 + a1)) (h5 : a3 = (6 * a2)) (h6 : a4 = (a3 + 4)) : ((0 ≤ a4 ∧ a4 ≠ (((((240 + (6 * (Int.toNat a0))) + 0)) : Nat) : Int))) := by omega
theorem mp_o1676 {a0 : Int} {a1 : Int} {a2 : Int} {a3 : Int} {a4 : Int} (h0 : a0 ≤ 9) (h1 : 0 ≤ a1) (h2 : a1 ≤ 10) (h3 : a1 = a0) (h4 : a2 = (40 + a1)) (h5 : a3 = (6 * a2)) (h6 : a4 = (a3 + 4)) : a4 = (((((240 + (6 * (Int.toNat a0))) + 4)) : Nat) : Int) := by omega
theorem mp_o1677 {a0 : Int} {a1 : Int} {a2 : Int} {a3 : Int} (h0 : a0 ≤ 9) (h1 : 0 ≤ a1) (h2 : a1 ≤ 10) (h3 : a1 = a0) (h4 : a2 = (40 + a1)) (h5 : a3 = (6 * a2)) : (-2147483648) ≤ (a3 + 5) := by omega
theorem mp_o1678 {a0 : Int} {a1 : Int} {a2 : Int} {a3 : Int} (h0 : a0 ≤ 9) (h1 : 0 ≤ a1) (h2 : a1 ≤ 10) (h3 : a1 = a0) (h4 : a2 = (40 + a1)) (h5 : a3 = (6 * a2)) : (a3 + 5) ≤ 2147483647 := by omega
theorem mp_o1679 {a0 : Int} {a1 : Int} {a2 : Int} {a3 : Int} {a4 : Int} (h0 : a0 ≤ 9) (h1 : 0 ≤ a1) (h2 : a1 ≤ 10) (h3 : a1 = a0) (h4 : a2 = (40 + a1)) (h5 : a3 = (6 * a2)) (h6 : a4 = (a3 + 5)) : ((0 ≤ a4 ∧ a4 < ((300 : Nat) : Int))) := by omega
theorem mp_o1680 {a0 : Int} {a1 : Int} {a2 : Int} {a3 : Int} {a4 : Int} (h0 : a0 ≤ 9) (h1 : 0 ≤ a1) (h2 : a1 ≤ 10) (h3 : a1 = a0) (h4 : a2 = (40 + a1)) (h5 : a3 = (6 * a2)) (h6 : a4 = (a3 + 5)) : 0 ≤ a4 := by omega
theorem mp_o1681 {a0 : Int} {a1 : Int} {a2 : Int} {a3 : Int} {a4 : Int} (h0 : a0 ≤ 9) (h1 : 0 ≤ a1) (h2 : a1 ≤ 10) (h3 : a1 = a0) (h4 : a2 = (40 + a1)) (h5 : a3 = (6 * a2)) (h6 : a4 = (a3 + 5)) : ((240 : Nat) : Int) ≤ a4 := by omega
theorem mp_o1682 {a0 : Int} {a1 : Int} {a2 : Int} {a3 : Int} {a4 : Int} (h0 : a0 = a1) (h1 : a2 = (40 + a0)) (h2 : a3 = (6 * a2)) (h3 : a4 = (a3 + 5)) : (((240 : Nat) : Int) + (6 * a1)) ≤ a4 := by omega
theorem mp_o1683 {a0 : Int} {a1 : Int} {a2 : Int} {a3 : Int} {a4 : Int} (h0 : a0 ≤ 9) (h1 : 0 ≤ a1) (h2 : a1 ≤ 10) (h3 : a1 = a0) (h4 : a2 = (40 + a1)) (h5 : a3 = (6 * a2)) (h6 : a4 = (a3 + 5)) : a4 = (((((240 + (6 * (Int.toNat a0))) + 5)) : Nat) : Int) := by omega
theorem mp_o1684 {a0 : Int} {a1 : Int} {a2 : Int} {a3 : Int} {a4 : Int} (h0 : a0 ≤ 9) (h1 : 0 ≤ a1) (h2 : a1 ≤ 10) (h3 : a1 = a0) (h4 : a2 = (40 + a1)) (h5 : a3 = (6 * a2)) (h6 : a4 = (a3 + 5)) : ((0 ≤ a4 ∧ a4 ≠ (((((240 + (6 * (Int.toNat a0))) + 0)) : Nat) : Int))) := by omega
theorem mp_o1685 {a0 : Int} {a1 : Int} {a2 : Int} {a3 : Int} {a4 : Int} (h0 : a0 ≤ 9) (h1 : 0 ≤ a1) (h2 : a1 ≤ 10) (h3 : a1 = a0) (h4 : a2 = (40 + a1)) (h5 : a3 = (6 * a2)) (h6 : a4 = (a3 + 5)) : ((0 ≤ a4 ∧ a4 ≠ (((((240 + (6 * (Int.toNat a0))) + 4)) : Nat) : Int))) := by omega
theorem mp_o1686 {a0 : Int} {a1 : Int} {a2 : Int} {a3 : Int} (h0 : a0 ≤ 9) (h1 : 0 ≤ a1) (h2 : a1 ≤ 10) (h3 : a1 = a0) (h4 : a2 = (40 + a1)) (h5 : a3 = a0) : (-2147483648) ≤ (a3 + 1) := by omega
theorem mp_o1687 {a0 : Int} {a1 : Int} {a2 : Int} {a3 : Int} (h0 : a0 ≤ 9) (h1 : 0 ≤ a1) (h2 : a1 ≤ 10) (h3 : a1 = a0) (h4 : a2 = (40 + a1)) (h5 : a3 = a0) : (a3 + 1) ≤ 2147483647 := by omega
theorem mp_o1688 {a0 : Int} {a1 : Int} {a2 : Int} {a3 : Int} {a4 : Int} (h0 : a0 ≤ 9) (h1 : 0 ≤ a1) (h2 : a1 ≤ 10) (h3 : a1 = a0) (h4 : a2 = (40 + a1)) (h5 : a3 = a0) (h6 : a4 = (a3 + 1)) : ((0 ≤ a4 ∧ a4 ≤ 10)) := by omega
theorem mp_o1689 {a0 : Int} {a1 : Int} {a2 : Int} {a3 : Int} {a4 : Int} {a5 : Int} (h0 : a0 = a1) (h1 : a2 = (40 + a0)) (h2 : a3 = a1) (h3 : a4 = (a3 + 1)) (h4 : a5 = a4) : (a1 + 1) = a5 := by omega
theorem mp_o1690 {a0 : Int} {a1 : Int} {a2 : Int} {a3 : Int} {a4 : Int} {a5 : Int} (h0 : a0 ≤ 9) (h1 : 0 ≤ a1) (h2 : a1 ≤ 10) (h3 : a1 = a0) (h4 : a2 = (40 + a1)) (h5 : a3 = a0) (h6 : a4 = (a3 + 1)) (h7 : a5 = a4) : 0 ≤ a0 := by omega
theorem mp_o1691 {a0 : Int} {a1 : Int} {a2 : Int} {a3 : Int} {a4 : Int} {a5 : Int} (h0 : a0 = a1) (h1 : a2 = (40 + a0)) (h2 : a3 = a1) (h3 : a4 = (a3 + 1)) (h4 : a5 = a4) : a5 = (a1 + 1) := by omega
theorem mp_o1692 {a0 : Int} {a1 : Int} {a2 : Int} {a3 : Int} (h0 : a0 ≤ 9) (h1 : 0 ≤ a1) (h2 : a1 ≤ 10) (h3 : a1 = a0) (h4 : a2 = (40 + a1)) (h5 : a3 = a0) : (-2147483648) ≤ (a3 - 1) := by omega
theorem mp_o1693 {a0 : Int} {a1 : Int} {a2 : Int} {a3 : Int} (h0 : a0 ≤ 9) (h1 : 0 ≤ a1) (h2 : a1 ≤ 10) (h3 : a1 = a0) (h4 : a2 = (40 + a1)) (h5 : a3 = a0) : (a3 - 1) ≤ 2147483647 := by omega
theorem mp_o1694 {a0 : Int} {a1 : Int} {a2 : Int} {a3 : Int} {a4 : Int} (h0 : a0 ≤ 9) (h1 : 0 ≤ a1) (h2 : a1 ≤ 10) (h3 : a1 = a0) (h4 : a2 = (40 + a1)) (h5 : a3 = a0) (h6 : a4 = (a3 - 1)) : (-1) ≤ a4 := by omega
theorem mp_o1695 {a0 : Int} {a1 : Int} {a2 : Int} {a3 : Int} {a4 : Int} (h0 : a0 ≤ 9) (h1 : 0 ≤ a1) (h2 : a1 ≤ 10) (h3 : a1 = a0) (h4 : a2 = (40 + a1)) (h5 : a3 = a0) (h6 : a4 = (a3 - 1)) : a4 ≤ 9 := by omega
theorem mp_o1696 {a0 : Int} {a1 : Int} {a2 : Int} {a3 : Int} {a4 : Int} (h0 : a0 ≤ 9) (h1 : 0 ≤ a1) (h2 : a1 ≤ 10) (h3 : a1 = a0) (h4 : a2 = (40 + a1)) (h5 : a3 = a0) (h6 : a4 = (a3 - 1)) : a4 ≤ 1000000 := by omega
theorem mp_o1697 {a0 : Int} {a1 : Int} {a2 : Int} {a3 : Int} {a4 : Int} (h0 : a0 = a1) (h1 : a2 = (40 + a0)) (h2 : a3 = a1) (h3 : a4 = (a3 - 1)) : a4 = (a1 - 1) := by omega
theorem mp_o1698 {a0 : Int} {a1 : Int} {a2 : Int} {a3 : Int} {a4 : Int} {a5 : Int} {a6 : Int} {a7 : Int} {a8 : Int} {a9 : Int} {a10 : Int} (h0 : (a0 ≠ 0 ∨ (a1 = 1 ∧ (((0 = 1 ∧ (a2 = 2495756 ∧ a3 ≠ 1)) ∨ (0 = 0 ∧ (a2 = 419 ∧ a4 = (-1)))))))) (h1 : a0 = 0) (h2 : ((a5 = 0 ∧ a6 ≤ a7) ∨ (a6 + 1) ≤ a7)) (h3 : (a8 ≠ 0 ∨ (0 ≤ a9 ∧ a9 ≤ a10))) (h4 : ¬ (a2 = 419)) : False := by omega
theorem mp_o1699 {a0 : Int} {a1 : Int} {a2 : Int} {a3 : Int} {a4 : Int} {a5 : Int} {a6 : Int} {a7 : Int} {a8 : Int} {a9 : Int} {a10 : Int} (h0 : (a0 ≠ 0 ∨ (a1 = 1 ∧ (((0 = 1 ∧ (a2 = 2495756 ∧ a3 ≠ 1)) ∨ (0 = 0 ∧ (a2 = 419 ∧ a4 = (-1)))))))) (h1 : a0 = 0) (h2 : ((a5 = 0 ∧ a6 ≤ a7) ∨ (a6 + 1) ≤ a7)) (h3 : (a8 ≠ 0 ∨ (0 ≤ a9 ∧ a9 ≤ a10))) : a2 = 419 := by omega
theorem mp_o1700 {a0 : Int} {a1 : Int} {a2 : Int} {a3 : Int} {a4 : Int} {a5 : Int} {a6 : Int} {a7 : Int} {a8 : Int} {a9 : Int} {a10 : Int} (h0 : (a0 ≠ 0 ∨ (a1 = 1 ∧ (((0 = 1 ∧ (a2 = 2495756 ∧ a3 ≠ 1)) ∨ (0 = 0 ∧ (a2 = 419 ∧ a4 = (-1)))))))) (h1 : a0 = 0) (h2 : ((a5 = 0 ∧ a6 ≤ a7) ∨ (a6 + 1) ≤ a7)) (h3 : (a8 ≠ 0 ∨ (0 ≤ a9 ∧ a9 ≤ a10))) : (a4 ≠ (-1)) → False := by omega
theorem mp_o1701 {a0 : Int} {a1 : Int} {a2 : Int} {a3 : Int} {a4 : Int} {a5 : Int} {a6 : Int} (h0 : a0 ≤ 9) (h1 : 0 ≤ a1) (h2 : a1 ≤ 10) (h3 : a1 = a0) (h4 : a2 = (40 + a1)) (h5 : a3 = (6 * a2)) (h6 : a4 = (a3 + 5)) (h7 : a5 = a0) (h8 : a6 = (a5 - 1)) : ((0 ≤ a4 ∧ a4 < ((300 : Nat) : Int))) := by omega
theorem mp_o1702 {a0 : Int} {a1 : Int} {a2 : Int} {a3 : Int} {a4 : Int} {a5 : Int} {a6 : Int} (h0 : a0 ≤ 9) (h1 : 0 ≤ a1) (h2 : a1 ≤ 10) (h3 : a1 = a0) (h4 : a2 = (40 + a1)) (h5 : a3 = (6 * a2)) (h6 : a4 = (a3 + 5)) (h7 : a5 = a0) (h8 : a6 = (a5 - 1)) : 0 ≤ a4 := by omega
theorem mp_o1703 {a0 : Int} {a1 : Int} {a2 : Int} {a3 : Int} {a4 : Int} {a5 : Int} {a6 : Int} (h0 : a0 ≤ 9) (h1 : 0 ≤ a1) (h2 : a1 ≤ 10) (h3 : a1 = a0) (h4 : a2 = (40 + a1)) (h5 : a3 = (6 * a2)) (h6 : a4 = (a3 + 5)) (h7 : a5 = a0) (h8 : a6 = (a5 - 1)) : ((240 : Nat) : Int) ≤ a4 := by omega
theorem mp_o1704 {a0 : Int} {a1 : Int} {a2 : Int} {a3 : Int} {a4 : Int} {a5 : Int} {a6 : Int} (h0 : a0 ≤ 9) (h1 : 0 ≤ a1) (h2 : a1 ≤ 10) (h3 : a1 = a0) (h4 : a2 = (40 + a1)) (h5 : a3 = (6 * a2)) (h6 : a4 = (a3 + 5)) (h7 : a5 = a0) (h8 : a6 = (a5 - 1)) : a4 = (((((240 + (6 * (Int.toNat a0))) + 5)) : Nat) : Int) := by omega
theorem mp_o1705 {a0 : Int} {a1 : Int} {a2 : Int} {a3 : Int} {a4 : Int} {a5 : Int} {a6 : Int} (h0 : a0 ≤ 9) (h1 : 0 ≤ a1) (h2 : a1 ≤ 10) (h3 : a1 = a0) (h4 : a2 = (40 + a1)) (h5 : a3 = (6 * a2)) (h6 : a4 = (a3 + 5)) (h7 : a5 = a0) (h8 : a6 = (a5 - 1)) : ((0 ≤ a4 ∧ a4 ≠ (((((240 + (6 * (Int.toNat a0))) + 0)) : Nat) : Int))) := by omega
theorem mp_o1706 {a0 : Int} {a1 : Int} {a2 : Int} {a3 : Int} {a4 : Int} {a5 : Int} {a6 : Int} (h0 : a0 ≤ 9) (h1 : 0 ≤ a1) (h2 : a1 ≤ 10) (h3 : a1 = a0) (h4 : a2 = (40 + a1)) (h5 : a3 = (6 * a2)) (h6 : a4 = (a3 + 5)) (h7 : a5 = a0) (h8 : a6 = (a5 - 1)) : ((0 ≤ a4 ∧ a4 ≠ (((((240 + (6 * (Int.toNat a0))) + 4)) : Nat) : Int))) := by omega
theorem mp_o1707 {a0 : Int} {a1 : Int} {a2 : Int} {a3 : Int} {a4 : Int} {a5 : Int} {a6 : Int} {a7 : Int} {a8 : Int} {a9 : Int} {a10 : Int} {a11 : Int} {a12 : Int} {a13 : Int} {a14 : Int} {a15 : Int} (h0 : a0 = a1) (h1 : ((5 * ((a2 - a3))) + a4) ≤ ((5 * ((a2 - a5))) + a0)) (h2 : a4 = a6) (h3 : a4 = 1) (h4 : 0 ≤ a7) (h5 : a7 ≤ 4) (h6 : ((a7 = 0 ∧ a3 ≤ a8) ∨ (a3 + 1) ≤ a8)) (h7 : a7 = a9) (h8 : ((5 * ((a2 - a10))) + a11) ≤ ((5 * ((a2 - a8))) + a7)) (h9 : (a12 ≠ 0 ∨ (0 ≤ a13 ∧ a13 ≤ a14))) (h10 : a11 = a15) : ((5 * ((a2 - a10))) + a11) ≤ ((5 * ((a2 - a5))) + a0) := by omega
theorem mp_o1708 {a0 : Int} {a1 : Int} {a2 : Int} {a3 : Int} {a4 : Int} {a5 : Int} {a6 : Int} {a7 : Int} (h0 : a0 = a1) (h1 : a2 = (40 + a0)) (h2 : a3 = a1) (h3 : a4 = (a3 - 1)) (h4 : 0 ≤ a5) (h5 : a5 ≤ 9) (h6 : (a6 ≠ 0 ∨ (0 ≤ a5 ∧ a5 ≤ a4))) (h7 : a7 = a5) : ((a6 ≠ 0 ∨ ((-1) ≤ a7 ∧ a7 < a1))) := by omega
theorem mp_o1709 {a0 : Int} {a1 : Int} {a2 : Int} {a3 : Int} {a4 : Int} (h0 : a0 = a1) (h1 : a2 = (40 + a0)) (h2 : a3 = (6 * a2)) (h3 : a4 = (a3 + 5)) : a4 = (245 + (6 * a1)) := by omega
theorem mp_o1710 {a0 : Int} {a1 : Int} {a2 : Int} {a3 : Int} {a4 : Int} (h0 : a0 ≤ 9) (h1 : 0 ≤ a1) (h2 : a1 ≤ 10) (h3 : a1 = a0) (h4 : a2 = (40 + a1)) (h5 : a3 = a0) (h6 : a4 = (a3 - 1)) : 0 ≤ a0 := by omega
theorem mp_o1711 {a0 : Int} {a1 : Int} (h0 : 0 ≤ a0) (h1 : a0 ≤ 9) (h2 : a1 = a0) : (a1 = (-1)) → False := by omega
theorem mp_o1712 {a0 : Int} {a1 : Int} {a2 : Int} {a3 : Int} {a4 : Int} {a5 : Int} {a6 : Int} {a7 : Int} {a8 : Int} {a9 : Int} {a10 : Int} {a11 : Int} {a12 : Int} (h0 : a0 = a1) (h1 : a0 = 1) (h2 : 0 ≤ a2) (h3 : a2 ≤ 4) (h4 : ((a2 = 0 ∧ a3 ≤ a4) ∨ (a3 + 1) ≤ a4)) (h5 : a2 = a5) (h6 : ((5 * ((a6 - a7))) + a8) ≤ ((5 * ((a6 - a4))) + a2)) (h7 : (a9 ≠ 0 ∨ (0 ≤ a10 ∧ a10 ≤ a11))) (h8 : a8 = a12) : (((5 * ((a6 - a7))) + a8) + 1) ≤ ((5 * ((a6 - a3))) + a0) := by omega
theorem mp_o1713 {a0 : Int} {a1 : Int} {a2 : Int} {a3 : Int} {a4 : Int} {a5 : Int} {a6 : Int} (h0 : a0 = 0) (h1 : ((a0 = 0 ∧ (a1 = 1 ∧ a2 = a3)) ∨ (a0 ≠ 0 ∧ (a1 = a0 ∧ a2 = a4)))) : ((a1 ≠ 0 ∨ ((-1) ≤ a5 ∧ a5 < a6))) := by omega
theorem mp_o1714 {a0 : Int} {a1 : Int} {a2 : Int} {a3 : Int} {a4 : Int} {a5 : Int} {a6 : Int} {a7 : Int} {a8 : Int} {a9 : Int} (h0 : a0 = a1) (h1 : a2 = 0) (h2 : a0 = 1) (h3 : ((a2 = 0 ∧ (a3 = 1 ∧ a4 = a5)) ∨ (a2 ≠ 0 ∧ (a3 = a2 ∧ a4 = a6)))) : ((a3 ≠ 0 ∨ (a1 = 1 ∧ (((0 = 1 ∧ (a7 = 2495756 ∧ a8 ≠ 1)) ∨ (0 = 0 ∧ (a7 = 419 ∧ a9 = (-1)))))))) := by omega
theorem mp_o1715 {a0 : Int} {a1 : Int} {a2 : Int} {a3 : Int} {a4 : Int} {a5 : Int} {a6 : Int} (h0 : a0 = a1) (h1 : a0 = 1) (h2 : (a2 = 0 ∧ (a1 = 1 ∧ a3 = 419))) (h3 : a4 = a5) (h4 : a4 = (-1)) : ((a2 ≠ 0 ∨ (a1 = 1 ∧ (((0 = 1 ∧ (a3 = 2495756 ∧ a6 ≠ 1)) ∨ (0 = 0 ∧ (a3 = 419 ∧ a5 = (-1)))))))) := by omega
theorem mp_o1716 {a0 : Int} {a1 : Int} {a2 : Int} {a3 : Int} {a4 : Int} {a5 : Int} {a6 : Int} {a7 : Int} {a8 : Int} {a9 : Int} (h0 : a0 = a1) (h1 : a2 = 0) (h2 : a0 = 1) (h3 : (a2 = 0 ∧ (a1 = 1 ∧ a3 = 419))) (h4 : ((a2 = 0 ∧ (a4 = 1 ∧ a5 = a6)) ∨ (a2 ≠ 0 ∧ (a4 = a2 ∧ a5 = a7)))) : ((a4 ≠ 0 ∨ (a1 = 1 ∧ (((0 = 1 ∧ (a3 = 2495756 ∧ a8 ≠ 1)) ∨ (0 = 0 ∧ (a3 = 419 ∧ a9 = (-1)))))))) := by omega
theorem mp_o1717 {a0 : Int} {a1 : Int} {a2 : Int} {a3 : Nat} {a4 : Int} {a5 : Int} {a6 : Int} {a7 : Int} (h0 : ((5 * ((a0 - a1))) + a2) ≤ ((a3 : Nat) : Int)) (h1 : a2 = a4) (h2 : a2 = 1) (h3 : a5 = a6) (h4 : (((5 * ((a0 - a7))) + a5) + 1) ≤ ((5 * ((a0 - a1))) + a2)) : ((5 * ((a0 - a7))) + a5) ≤ ((((a3 - 1)) : Nat) : Int) := by omega
theorem mp_o1718 {a0 : Int} {a1 : Int} {a2 : Int} {a3 : Int} {a4 : Int} {a5 : Int} {a6 : Int} {a7 : Int} {a8 : Int} {a9 : Int} {a10 : Int} (h0 : a0 = a1) (h1 : ((5 * ((a2 - a3))) + a4) ≤ ((5 * ((a2 - a5))) + a0)) (h2 : a4 = a6) (h3 : a4 = 1) (h4 : 0 ≤ a7) (h5 : a7 ≤ 4) (h6 : ((a7 = 0 ∧ a3 ≤ a8) ∨ (a3 + 1) ≤ a8)) (h7 : a7 = a9) (h8 : a10 ≠ 0) : ((5 * ((a2 - a8))) + a7) ≤ ((5 * ((a2 - a5))) + a0) := by omega
theorem mp_o1719 {a0 : Int} {a1 : Int} {a2 : Int} {a3 : Int} {a4 : Int} {a5 : Int} {a6 : Int} {a7 : Int} {a8 : Int} {a9 : Int} {a10 : Int} {a11 : Int} {a12 : Int} (h0 : a0 = a1) (h1 : a2 = (40 + a0)) (h2 : (a3 ≠ 0 ∨ ((-1) ≤ a4 ∧ a4 < a1))) (h3 : (a3 ≠ 0 ∨ (a5 = 1 ∧ (((1 = 1 ∧ (a6 = 2495756 ∧ a7 ≠ 1)) ∨ (1 = 0 ∧ (a6 = 419 ∧ a4 = (-1)))))))) (h4 : a3 = 0) (h5 : ((a8 = 0 ∧ a9 ≤ a10) ∨ (a9 + 1) ≤ a10)) (h6 : a11 ≠ 0) (h7 : a12 = a4) : ((a3 ≠ 0 ∨ ((-1) ≤ a12 ∧ a12 < a1))) := by omega
theorem mp_o1720 {a0 : Int} {a1 : Int} {a2 : Int} (h0 : (a0 = 0 ∧ (a1 = 1 ∧ a2 = 2495756))) : a2 = 2495756 := by omega
theorem mp_o1721 {a0 : Int} {a1 : Int} {a2 : Int} {a3 : Int} {a4 : Int} {a5 : Int} {a6 : Int} {a7 : Int} {a8 : Int} (h0 : (a0 ≠ 0 ∨ (a1 = 1 ∧ (((1 = 1 ∧ (a2 = 2495756 ∧ a3 ≠ 1)) ∨ (1 = 0 ∧ (a2 = 419 ∧ a4 = (-1)))))))) (h1 : a0 = 0) (h2 : ((a5 = 0 ∧ a6 ≤ a7) ∨ (a6 + 1) ≤ a7)) (h3 : a8 ≠ 0) : (a3 = 1) → False := by omega
theorem mp_o1722 {a0 : Int} {a1 : Int} {a2 : Int} {a3 : Int} {a4 : Int} (h0 : a0 = a1) (h1 : a2 = (40 + a0)) (h2 : a3 = (6 * a2)) (h3 : a4 = (a3 + 4)) : a4 = (244 + (6 * a1)) := by omega
theorem mp_o1723 {a0 : Int} {a1 : Int} {a2 : Int} (h0 : a0 ≤ 9) (h1 : 0 ≤ a1) (h2 : a1 ≤ 10) (h3 : a1 = a0) (h4 : a2 = (40 + a1)) : 0 ≤ a0 := by omega
theorem mp_o1724 {a0 : Int} {a1 : Int} {a2 : Int} {a3 : Int} {a4 : Int} {a5 : Int} {a6 : Int} {a7 : Int} (h0 : a0 = a1) (h1 : a0 = 1) (h2 : 0 ≤ a2) (h3 : a2 ≤ 4) (h4 : ((a2 = 0 ∧ a3 ≤ a4) ∨ (a3 + 1) ≤ a4)) (h5 : a2 = a5) (h6 : a6 ≠ 0) : (((5 * ((a7 - a4))) + a2) + 1) ≤ ((5 * ((a7 - a3))) + a0) := by omega
theorem mp_o1725 {a0 : Int} {a1 : Int} {a2 : Int} {a3 : Int} {a4 : Int} (h0 : a0 ≤ 9) (h1 : 0 ≤ a1) (h2 : a1 ≤ 10) (h3 : a1 = a0) (h4 : a2 = (40 + a1)) (h5 : a3 = (6 * a2)) (h6 : a4 = (a3 + 4)) : a4 < ((300 : Nat) : Int) := by omega
theorem mp_o1726 {a0 : Int} {a1 : Int} {a2 : Int} (h0 : a0 = (6 * a1)) (h1 : a2 = (a0 + 4)) : (a2 % ((6 : Nat) : Int)) = ((4 : Nat) : Int) := by omega
theorem mp_o1727 {a0 : Int} {a1 : Int} {a2 : Int} {a3 : Int} {a4 : Int} {a5 : Int} {a6 : Int} (h0 : a0 = a1) (h1 : a0 = 1) (h2 : (a2 = 0 ∧ (a1 = 1 ∧ a3 = 2495756))) (h3 : a4 = a5) (h4 : a4 ≠ 1) : ((a2 ≠ 0 ∨ (a1 = 1 ∧ (((1 = 1 ∧ (a3 = 2495756 ∧ a5 ≠ 1)) ∨ (1 = 0 ∧ (a3 = 419 ∧ a6 = (-1)))))))) := by omega
theorem mp_o1728 {a0 : Int} {a1 : Int} (h0 : a0 = a1) (h1 : a0 = 1) (h2 : ¬ (a1 = 1)) : False := by omega
theorem mp_o1729 {a0 : Int} {a1 : Int} {a2 : Int} {a3 : Int} {a4 : Int} {a5 : Int} {a6 : Int} {a7 : Int} {a8 : Int} {a9 : Int} (h0 : a0 = a1) (h1 : a2 = 0) (h2 : a0 = 1) (h3 : (a2 = 0 ∧ (a1 = 1 ∧ a3 = 2495756))) (h4 : ((a2 = 0 ∧ (a4 = 1 ∧ a5 = a6)) ∨ (a2 ≠ 0 ∧ (a4 = a2 ∧ a5 = a7)))) : ((a4 ≠ 0 ∨ (a1 = 1 ∧ (((1 = 1 ∧ (a3 = 2495756 ∧ a8 ≠ 1)) ∨ (1 = 0 ∧ (a3 = 419 ∧ a9 = (-1)))))))) := by omega
theorem mp_o1730 {a0 : Int} {a1 : Int} {a2 : Int} {a3 : Int} {a4 : Int} {a5 : Int} {a6 : Int} {a7 : Int} {a8 : Int} {a9 : Int} {a10 : Int} {a11 : Int} {a12 : Int} {a13 : Int} {a14 : Int} {a15 : Int} (h0 : a0 = a1) (h1 : a2 = a3) (h2 : ((5 * ((a4 - a5))) + a2) ≤ ((5 * ((a4 - a6))) + a0)) (h3 : ((5 * ((a4 - a7))) + a8) ≤ ((5 * ((a4 - a5))) + a2)) (h4 : a8 = a9) (h5 : ((5 * ((a4 - a10))) + a11) ≤ ((5 * ((a4 - a7))) + a8)) (h6 : a11 = a12) (h7 : ((5 * ((a4 - a13))) + a14) ≤ ((5 * ((a4 - a10))) + a11)) (h8 : a14 = a15) : ((5 * ((a4 - a13))) + a14) ≤ ((5 * ((a4 - a6))) + a0) := by omega
theorem mp_o1731 {a0 : Int} {a1 : Int} {a2 : Int} {a3 : Int} {a4 : Int} (h0 : a0 ≤ 9) (h1 : 0 ≤ a1) (h2 : a1 ≤ 10) (h3 : a1 = a0) (h4 : a2 = (40 + a1)) (h5 : a3 = (-1)) : ((a4 ≠ 0 ∨ ((-1) ≤ a3 ∧ a3 < a0))) := by omega
theorem mp_o1732 {a0 : Int} {a1 : Int} {a2 : Int} {a3 : Int} (h0 : a0 = a1) (h1 : a2 = (40 + a0)) (h2 : a3 = (6 * a2)) : a3 = (240 + (6 * a1)) := by omega
theorem mp_o1733 {a0 : Int} {a1 : Int} {a2 : Int} {a3 : Int} {a4 : Int} (h0 : a0 = a1) (h1 : a2 = (40 + a0)) (h2 : a3 = (6 * a2)) (h3 : a4 = (a3 + 1)) : a4 = (241 + (6 * a1)) := by omega
theorem mp_o1734 {a0 : Int} {a1 : Int} {a2 : Int} {a3 : Int} {a4 : Int} (h0 : a0 = a1) (h1 : a2 = (40 + a0)) (h2 : a3 = (6 * a2)) (h3 : a4 = (a3 + 2)) : a4 = (242 + (6 * a1)) := by omega
theorem mp_o1735 {a0 : Int} {a1 : Int} {a2 : Int} {a3 : Int} {a4 : Int} (h0 : a0 = a1) (h1 : a2 = (40 + a0)) (h2 : a3 = (6 * a2)) (h3 : a4 = (a3 + 3)) : a4 = (243 + (6 * a1)) := by omega
theorem mp_o1736 {a0 : Int} {a1 : Int} (h0 : a0 = 0) (h1 : a1 = a0) : (a1 = 1) → False := by omega
theorem mp_o1737 {a0 : Int} (h0 : a0 = (-1)) : (a0 ≠ (-1)) → False := by omega
theorem mp_o1738 {a0 : Int} {a1 : Int} {a2 : Int} {a3 : Int} (h0 : a0 ≤ 9) (h1 : 0 ≤ a1) (h2 : a1 ≤ 10) (h3 : a1 = a0) (h4 : a2 = (40 + a1)) (h5 : a3 = (6 * a2)) : a3 < ((300 : Nat) : Int) := by omega
theorem mp_o1739 {a0 : Int} {a1 : Int} (h0 : a0 = (6 * a1)) : (a0 % ((6 : Nat) : Int)) = ((0 : Nat) : Int) := by omega
theorem mp_o1740 {a0 : Int} {a1 : Int} {a2 : Int} {a3 : Int} {a4 : Int} {a5 : Int} {a6 : Int} {a7 : Int} {a8 : Int} {a9 : Int} (h0 : a0 = a1) (h1 : ((5 * ((a2 - a3))) + a4) ≤ ((5 * ((a2 - a5))) + a0)) (h2 : a4 = a6) (h3 : ((5 * ((a2 - a7))) + a8) ≤ ((5 * ((a2 - a3))) + a4)) (h4 : a8 = a9) (h5 : a8 = 2) : ((5 * ((a2 - a7))) + a8) ≤ ((5 * ((a2 - a5))) + a0) := by omega
theorem mp_o1741 {a0 : Int} {a1 : Int} {a2 : Int} {a3 : Int} {a4 : Int} {a5 : Int} {a6 : Int} (h0 : a0 = a1) (h1 : a0 = 2) (h2 : (0 ≤ a2 ∧ a2 ≤ 5)) (h3 : a2 = a3) (h4 : a4 ≠ a2) (h5 : (a0 ≠ 2 ∨ ((a4 = a5 ∧ a5 ≤ 10000009) ∨ (a4 = 10000000 ∧ 1000000 < a5)))) : ((a6 ≠ 0 ∨ (a1 ≠ 2 ∨ a5 ≠ a3))) := by omega
theorem mp_o1742 {a0 : Int} {a1 : Int} {a2 : Int} {a3 : Int} {a4 : Int} {a5 : Int} {a6 : Int} (h0 : a0 = a1) (h1 : a2 = a3) (h2 : a2 = 2) (h3 : (0 ≤ a4 ∧ a4 ≤ 5)) (h4 : a4 = a0) (h5 : a5 = a4) (h6 : (a2 ≠ 2 ∨ ((a5 = a6 ∧ a6 ≤ 10000009) ∨ (a5 = 10000000 ∧ 1000000 < a6)))) : a6 = a1 := by omega
theorem mp_o1751 {a0 : Int} (h0 : 0 ≤ a0) (h1 : a0 ≤ 5) : (-2147483648) ≤ (100 * a0) := by omega
theorem mp_o1752 {a0 : Int} (h0 : 0 ≤ a0) (h1 : a0 ≤ 5) : (100 * a0) ≤ 2147483647 := by omega
theorem mp_o1779 {a0 : Int} {a1 : Int} {a2 : Int} {a3 : Int} (h0 : a0 ≠ 0) : ((a0 ≠ 0 ∨ (((5 * ((a1 - a2))) + a3) + 1) ≤ ((5 * ((a1 - a2))) + a3))) := by omega
theorem mp_o1780 {a0 : Int} {a1 : Int} {a2 : Int} {a3 : Int} {a4 : Int} {a5 : Nat} (h0 : a0 = 3) (h1 : a1 ≠ 0) (h2 : a0 = a2) : (((a1 ≠ 0 ∧ (a1 = a1 ∧ a3 = a3)) ∨ ((a1 = 0 ∧ (a2 = 3 ∧ (a1 = 0 ∧ a4 = ((a5 : Nat) : Int)))) ∨ (a1 = 0 ∧ (a2 ≠ 3 ∧ (a1 = 1 ∧ a3 = a4)))))) := by omega
theorem mp_o1781 {a0 : Int} {a1 : Int} {a2 : Int} {a3 : Int} {a4 : Int} (h0 : a0 = 3) (h1 : 0 ≤ a1) (h2 : a1 ≤ 4) (h3 : ((a1 = 0 ∧ a2 ≤ a3) ∨ (a2 + 1) ≤ a3)) : ((5 * ((a4 - a3))) + a1) ≤ ((5 * ((a4 - a2))) + a0) := by omega
theorem mp_o1782 {a0 : Int} {a1 : Int} {a2 : Int} {a3 : Int} {a4 : Int} {a5 : Int} (h0 : a0 = 3) (h1 : 0 ≤ a1) (h2 : a1 ≤ 4) (h3 : ((a1 = 0 ∧ a2 ≤ a3) ∨ (a2 + 1) ≤ a3)) : ((a4 ≠ 0 ∨ (((5 * ((a5 - a3))) + a1) + 1) ≤ ((5 * ((a5 - a2))) + a0))) := by omega
theorem mp_o1783 {a0 : Int} {a1 : Int} {a2 : Int} {a3 : Int} {a4 : Int} {a5 : Int} {a6 : Int} {a7 : Nat} (h0 : a0 ≠ 3) (h1 : a1 ≠ 0) (h2 : ((a2 = 0 ∧ (a1 = 1 ∧ a3 = a4)) ∨ (a2 ≠ 0 ∧ (a1 = a2 ∧ a3 = a5)))) (h3 : a1 ≠ 0) (h4 : a1 ≠ 0) (h5 : a0 = a6) : (((a2 ≠ 0 ∧ (a1 = a2 ∧ a3 = a5)) ∨ ((a2 = 0 ∧ (a6 = 3 ∧ (a1 = 0 ∧ a4 = ((a7 : Nat) : Int)))) ∨ (a2 = 0 ∧ (a6 ≠ 3 ∧ (a1 = 1 ∧ a3 = a4)))))) := by omega
theorem mp_o1784 {a0 : Int} {a1 : Int} {a2 : Int} {a3 : Int} {a4 : Int} (h0 : 0 ≤ a0) (h1 : a0 ≤ 4) (h2 : 0 ≤ a1) (h3 : a1 ≤ 4) (h4 : ((a1 = 0 ∧ a2 ≤ a3) ∨ (a2 + 1) ≤ a3)) : ((5 * ((a4 - a3))) + a1) ≤ ((5 * ((a4 - a2))) + a0) := by omega
theorem mp_o1785 {a0 : Int} {a1 : Int} {a2 : Int} {a3 : Int} {a4 : Int} {a5 : Int} {a6 : Int} {a7 : Int} {a8 : Int} {a9 : Int} (h0 : 0 ≤ a0) (h1 : a0 ≤ 4) (h2 : ((a1 = 0 ∧ (a2 = 1 ∧ a3 = a4)) ∨ (a1 ≠ 0 ∧ (a2 = a1 ∧ a3 = a5)))) (h3 : a2 = 0) (h4 : 0 ≤ a6) (h5 : a6 ≤ 4) (h6 : ((a6 = 0 ∧ a7 ≤ a8) ∨ (a7 + 1) ≤ a8)) : ((a2 ≠ 0 ∨ (((5 * ((a9 - a8))) + a6) + 1) ≤ ((5 * ((a9 - a7))) + a0))) := by omega
theorem mp_o1786 {a0 : Int} {a1 : Int} {a2 : Int} {a3 : Int} {a4 : Int} {a5 : Int} {a6 : Int} {a7 : Int} (h0 : ((a0 = 0 ∧ (a1 = 1 ∧ a2 = a3)) ∨ (a0 ≠ 0 ∧ (a1 = a0 ∧ a2 = a4)))) (h1 : a1 = 0) (h2 : ((a5 = 0 ∧ a6 ≤ a7) ∨ (a6 + 1) ≤ a7)) : a0 = 0 := by omega
theorem mp_o1787 {a0 : Int} {a1 : Int} {a2 : Int} {a3 : Int} {a4 : Int} {a5 : Int} {a6 : Int} {a7 : Int} {a8 : Int} (h0 : ((a0 = 0 ∧ (a1 = 1 ∧ a2 = a3)) ∨ (a0 ≠ 0 ∧ (a1 = a0 ∧ a2 = a4)))) (h1 : a1 = 0) (h2 : ((a5 = 0 ∧ a6 ≤ a7) ∨ (a6 + 1) ≤ a7)) : a8 = 3 := by omega
theorem mp_o1788 {a0 : Int} {a1 : Int} {a2 : Int} {a3 : Int} {a4 : Int} {a5 : Int} (h0 : a0 = 0) (h1 : ((a0 = 0 ∧ (a1 = 2 ∧ a2 = a3)) ∨ (a0 ≠ 0 ∧ (a1 = a0 ∧ a2 = a4)))) : ((a1 ≠ 0 ∨ (1 ≤ a5 ∧ a5 ≤ 6))) := by omega
theorem mp_o1789 {a0 : Int} {a1 : Int} {a2 : Int} {a3 : Int} {a4 : Int} {a5 : Int} {a6 : Int} {a7 : Int} {a8 : Int} (h0 : a0 = 0) (h1 : a1 = a2) (h2 : (a1 < a3 ∨ a4 < a1)) (h3 : a3 = 1) (h4 : a4 = 6) (h5 : a5 ≠ 0) (h6 : ((a0 = 0 ∧ (a5 = 2 ∧ a6 = a7)) ∨ (a0 ≠ 0 ∧ (a5 = a0 ∧ a6 = a8)))) : ((a2 < 1 ∨ 6 < a2)) := by omega
theorem mp_o1790 {a0 : Int} {a1 : Int} (h0 : a0 = a1) (h1 : 1 ≤ a0) (h2 : a0 ≤ 6) : 1 ≤ a1 := by omega
theorem mp_o1791 {a0 : Int} {a1 : Int} (h0 : a0 = a1) (h1 : 1 ≤ a0) (h2 : a0 ≤ 6) : a1 ≤ 6 := by omega
theorem mp_o1792 {a0 : Int} {a1 : Int} {a2 : Int} (h0 : a0 = a1) (h1 : 1 ≤ a0) (h2 : a0 ≤ 6) : ((a2 ≠ 0 ∨ (1 ≤ a1 ∧ a1 ≤ 6))) := by omega
theorem mp_o1793 {a0 : Int} {a1 : Int} (h0 : a0 = a1) (h1 : 1 ≤ a0) (h2 : a0 ≤ 6) : ((1 ≤ a1 ∧ a1 ≤ 6)) := by omega
theorem mp_o1794 {a0 : Int} {a1 : Int} {a2 : Int} {a3 : Int} {a4 : Int} {a5 : Int} (h0 : a0 = 0) (h1 : ((a0 = 0 ∧ (a1 = 1 ∧ a2 = a3)) ∨ (a0 ≠ 0 ∧ (a1 = a0 ∧ a2 = a4)))) : ((a1 ≠ 0 ∨ (1 ≤ a5 ∧ a5 ≤ 6))) := by omega
theorem mp_o1795 {a0 : Int} {a1 : Int} (h0 : a0 ≠ 0) : ((a0 ≠ 0 ∨ (1 ≤ a1 ∧ a1 ≤ 6))) := by omega
theorem mp_o1796 {a0 : Int} {a1 : Int} (h0 : a0 ≠ 0) : (((a0 = 0 ∧ a1 = (-1)) ∨ (a0 ≠ 0 ∧ a1 = a1))) := by omega
theorem mp_o1797 {a0 : Int} {a1 : Int} {a2 : Int} (h0 : a0 = 0) (h1 : a1 = (-1)) : (((a0 = 0 ∧ a1 = (-1)) ∨ (a0 ≠ 0 ∧ a1 = a2))) := by omega
theorem mp_o1798 {a0 : Int} (h0 : 0 ≤ a0) (h1 : a0 ≤ 1) (h2 : 1 ≤ a0) : (Int.toNat a0) = 1 := by omega
theorem mp_o1799 {a0 : Int} (h0 : 0 ≤ a0) (h1 : a0 ≤ 1) (h2 : a0 < 1) : (-2147483648) ≤ (0 + a0) := by omega
theorem mp_o1800 {a0 : Int} (h0 : 0 ≤ a0) (h1 : a0 ≤ 1) (h2 : a0 < 1) : (0 + a0) ≤ 2147483647 := by omega
theorem mp_o1801 {a0 : Int} (h0 : 0 ≤ a0) (h1 : a0 ≤ 1) (h2 : a0 < 1) : (-2147483648) ≤ (4 + a0) := by omega
theorem mp_o1802 {a0 : Int} (h0 : 0 ≤ a0) (h1 : a0 ≤ 1) (h2 : a0 < 1) : (4 + a0) ≤ 2147483647 := by omega
theorem mp_o1803 {a0 : Int} {a1 : Int} (h0 : 0 ≤ a0) (h1 : a0 ≤ 1) (h2 : a0 < 1) (h3 : a1 = (4 + a0)) : ((0 ≤ a1 ∧ a1 < ((5 : Nat) : Int))) := by omega
theorem mp_o1804 {a0 : Int} {a1 : Int} (h0 : 0 ≤ a0) (h1 : a0 ≤ 1) (h2 : a0 < 1) (h3 : a1 = (0 + a0)) : ((0 ≤ a1 ∧ a1 < ((5 : Nat) : Int))) := by omega
theorem mp_o1805 {a0 : Int} (h0 : 0 ≤ a0) (h1 : a0 ≤ 1) (h2 : a0 < 1) : (-2147483648) ≤ (a0 + 1) := by omega
theorem mp_o1806 {a0 : Int} (h0 : 0 ≤ a0) (h1 : a0 ≤ 1) (h2 : a0 < 1) : (a0 + 1) ≤ 2147483647 := by omega
theorem mp_o1807 {a0 : Int} {a1 : Nat} (h0 : 0 ≤ a0) (h1 : a0 ≤ 1) (h2 : ((-a0) + 1) ≤ ((a1 : Nat) : Int)) (h3 : a0 < 1) : (a1 - 1) < a1 := by omega
theorem mp_o1808 {a0 : Int} {a1 : Int} (h0 : 0 ≤ a0) (h1 : a0 ≤ 1) (h2 : a0 < 1) (h3 : a1 = (a0 + 1)) : 0 ≤ a1 := by omega
theorem mp_o1809 {a0 : Int} {a1 : Int} (h0 : 0 ≤ a0) (h1 : a0 ≤ 1) (h2 : a0 < 1) (h3 : a1 = (a0 + 1)) : a1 ≤ 1 := by omega
theorem mp_o1810 {a0 : Int} {a1 : Int} (h0 : 0 ≤ a0) (h1 : a0 ≤ 1) (h2 : a0 < 1) (h3 : a1 = (0 + a0)) : a1 = (((0 : Nat) : Int) + (((Int.toNat a0) : Nat) : Int)) := by omega
theorem mp_o1811 {a0 : Int} {a1 : Int} (h0 : 0 ≤ a0) (h1 : a0 ≤ 1) (h2 : a0 < 1) (h3 : a1 = (4 + a0)) : a1 = (((4 : Nat) : Int) + (((Int.toNat a0) : Nat) : Int)) := by omega
theorem mp_o1812 : (((4 + 1) ≤ 0 ∨ (0 + 1) ≤ 4)) := by omega
theorem mp_o1813 {a0 : Int} (h0 : 0 ≤ a0) (h1 : a0 ≤ 1) (h2 : a0 < 1) : (Int.toNat a0) < 1 := by omega
theorem mp_o1814 {a0 : Int} {a1 : Int} (h0 : 0 ≤ a0) (h1 : a0 ≤ 1) (h2 : a0 < 1) (h3 : a1 = (a0 + 1)) : (Int.toNat a1) = ((Int.toNat a0) + 1) := by omega
theorem mp_o1815 {a0 : Int} {a1 : Int} {a2 : Nat} (h0 : 0 ≤ a0) (h1 : a0 ≤ 1) (h2 : a0 < 1) (h3 : a1 = (a0 + 1)) : ((-a1) + 1) ≤ ((((a2 - 1)) : Nat) : Int) := by omega
theorem mp_o1816 {a0 : Int} (h0 : 0 ≤ a0) (h1 : a0 ≤ 5) (h2 : 5 ≤ a0) : (Int.toNat a0) = 5 := by omega
theorem mp_o1817 {a0 : Int} {a1 : Int} (h0 : 0 ≤ a0) (h1 : a0 ≤ 5) (h2 : a0 < 5) (h3 : a1 = (0 + a0)) : (-2147483648) ≤ (20 + a0) := by omega
theorem mp_o1818 {a0 : Int} {a1 : Int} {a2 : Int} (h0 : 0 ≤ a0) (h1 : a0 ≤ 5) (h2 : a0 < 5) (h3 : a1 = (0 + a0)) (h4 : a2 = (20 + a0)) : ((0 ≤ a2 ∧ a2 < ((25 : Nat) : Int))) := by omega
theorem mp_o1819 {a0 : Int} {a1 : Int} {a2 : Int} {a3 : Int} (h0 : 0 ≤ a0) (h1 : a0 ≤ 5) (h2 : a0 < 5) (h3 : a1 = (0 + a0)) (h4 : a2 = (20 + a0)) (h5 : (((a2 % 5) = 0 → (0 ≤ a3 ∧ a3 ≤ 6)))) (h6 : (((a2 % 5) = 1 → (0 ≤ a3 ∧ a3 ≤ 99)))) (h7 : (((a2 % 5) = 2 → (0 ≤ a3 ∧ a3 ≤ 6)))) (h8 : (((a2 % 5) = 3 → (0 ≤ a3 ∧ a3 ≤ 10)))) (h9 : (((a2 % 5) = 4 → (0 ≤ a3 ∧ a3 ≤ 60)))) : ((a1 % ((5 : Nat) : Int)) = ((0 : Nat) : Int)) → ((0 ≤ a3 ∧ a3 ≤ 6)) := by omega
theorem mp_o1820 {a0 : Int} {a1 : Int} {a2 : Int} {a3 : Int} (h0 : 0 ≤ a0) (h1 : a0 ≤ 5) (h2 : a0 < 5) (h3 : a1 = (0 + a0)) (h4 : a2 = (20 + a0)) (h5 : (((a2 % 5) = 1 → (0 ≤ a3 ∧ a3 ≤ 99)))) (h6 : (((a2 % 5) = 2 → (0 ≤ a3 ∧ a3 ≤ 6)))) (h7 : (((a2 % 5) = 3 → (0 ≤ a3 ∧ a3 ≤ 10)))) (h8 : (((a2 % 5) = 4 → (0 ≤ a3 ∧ a3 ≤ 60)))) : ((a1 % ((5 : Nat) : Int)) = ((1 : Nat) : Int)) → ((0 ≤ a3 ∧ a3 ≤ 99)) := by omega
theorem mp_o1821 {a0 : Int} {a1 : Int} {a2 : Int} {a3 : Int} (h0 : 0 ≤ a0) (h1 : a0 ≤ 5) (h2 : a0 < 5) (h3 : a1 = (0 + a0)) (h4 : a2 = (20 + a0)) (h5 : (((a2 % 5) = 2 → (0 ≤ a3 ∧ a3 ≤ 6)))) (h6 : (((a2 % 5) = 3 → (0 ≤ a3 ∧ a3 ≤ 10)))) (h7 : (((a2 % 5) = 4 → (0 ≤ a3 ∧ a3 ≤ 60)))) : ((a1 % ((5 : Nat) : Int)) = ((2 : Nat) : Int)) → ((0 ≤ a3 ∧ a3 ≤ 6)) := by omega
theorem mp_o1822 {a0 : Int} {a1 : Int} {a2 : Int} {a3 : Int} (h0 : 0 ≤ a0) (h1 : a0 ≤ 5) (h2 : a0 < 5) (h3 : a1 = (0 + a0)) (h4 : a2 = (20 + a0)) (h5 : (((a2 % 5) = 3 → (0 ≤ a3 ∧ a3 ≤ 10)))) (h6 : (((a2 % 5) = 4 → (0 ≤ a3 ∧ a3 ≤ 60)))) : ((a1 % ((5 : Nat) : Int)) = ((3 : Nat) : Int)) → ((0 ≤ a3 ∧ a3 ≤ 10)) := by omega
theorem mp_o1823 {a0 : Int} {a1 : Int} {a2 : Int} {a3 : Int} (h0 : 0 ≤ a0) (h1 : a0 ≤ 5) (h2 : a0 < 5) (h3 : a1 = (0 + a0)) (h4 : a2 = (20 + a0)) (h5 : (((a2 % 5) = 4 → (0 ≤ a3 ∧ a3 ≤ 60)))) : ((a1 % ((5 : Nat) : Int)) = ((4 : Nat) : Int)) → ((0 ≤ a3 ∧ a3 ≤ 60)) := by omega
theorem mp_o1824 {a0 : Int} {a1 : Int} {a2 : Int} (h0 : 0 ≤ a0) (h1 : a0 ≤ 5) (h2 : a0 < 5) (h3 : a1 = (0 + a0)) (h4 : a2 = (20 + a0)) : 0 ≤ a1 := by omega
theorem mp_o1825 {a0 : Int} {a1 : Nat} {a2 : Int} {a3 : Int} {a4 : Int} (h0 : 0 ≤ a0) (h1 : a0 ≤ 5) (h2 : ((-a0) + 5) ≤ ((a1 : Nat) : Int)) (h3 : a0 < 5) (h4 : a2 = (0 + a0)) (h5 : a3 = (20 + a0)) (h6 : a4 = (a0 + 1)) : (a1 - 1) < a1 := by omega
theorem mp_o1826 {a0 : Int} {a1 : Int} {a2 : Int} {a3 : Int} (h0 : 0 ≤ a0) (h1 : a0 ≤ 5) (h2 : a0 < 5) (h3 : a1 = (0 + a0)) (h4 : a2 = (20 + a0)) (h5 : a3 = (a0 + 1)) : 0 ≤ a3 := by omega
theorem mp_o1827 : (((20 + 5) ≤ 0 ∨ (0 + 5) ≤ 20)) := by omega
theorem mp_o1828 {a0 : Int} {a1 : Int} {a2 : Int} {a3 : Int} (h0 : 0 ≤ a0) (h1 : a0 ≤ 5) (h2 : a0 < 5) (h3 : a1 = (0 + a0)) (h4 : a2 = (20 + a0)) (h5 : a3 = (a0 + 1)) : a3 ≤ 5 := by omega
theorem mp_o1829 {a0 : Int} (h0 : 0 ≤ a0) (h1 : a0 ≤ 36) (h2 : 36 ≤ a0) : (Int.toNat a0) = 36 := by omega
theorem mp_o1830 {a0 : Int} {a1 : Int} (h0 : 0 ≤ a0) (h1 : a0 ≤ 36) (h2 : a0 < 36) (h3 : a1 = (0 + a0)) : (-2147483648) ≤ (144 + a0) := by omega
theorem mp_o1831 {a0 : Int} {a1 : Int} {a2 : Int} (h0 : 0 ≤ a0) (h1 : a0 ≤ 36) (h2 : a0 < 36) (h3 : a1 = (0 + a0)) (h4 : a2 = (144 + a0)) : ((0 ≤ a2 ∧ a2 < ((180 : Nat) : Int))) := by omega
theorem mp_o1832 {a0 : Int} {a1 : Int} {a2 : Int} (h0 : 0 ≤ a0) (h1 : a0 ≤ 36) (h2 : a0 < 36) (h3 : a1 = (0 + a0)) (h4 : a2 = (144 + a0)) : ((0 ≤ a1 ∧ a1 < ((180 : Nat) : Int))) := by omega
theorem mp_o1833 {a0 : Int} {a1 : Nat} {a2 : Int} {a3 : Int} {a4 : Int} (h0 : 0 ≤ a0) (h1 : a0 ≤ 36) (h2 : ((-a0) + 36) ≤ ((a1 : Nat) : Int)) (h3 : a0 < 36) (h4 : a2 = (0 + a0)) (h5 : a3 = (144 + a0)) (h6 : a4 = (a0 + 1)) : (a1 - 1) < a1 := by omega
theorem mp_o1834 {a0 : Int} {a1 : Int} {a2 : Int} {a3 : Int} (h0 : 0 ≤ a0) (h1 : a0 ≤ 36) (h2 : a0 < 36) (h3 : a1 = (0 + a0)) (h4 : a2 = (144 + a0)) (h5 : a3 = (a0 + 1)) : 0 ≤ a3 := by omega
theorem mp_o1835 : (((144 + 36) ≤ 0 ∨ (0 + 36) ≤ 144)) := by omega
theorem mp_o1836 {a0 : Int} {a1 : Int} {a2 : Int} {a3 : Int} (h0 : 0 ≤ a0) (h1 : a0 ≤ 36) (h2 : a0 < 36) (h3 : a1 = (0 + a0)) (h4 : a2 = (144 + a0)) (h5 : a3 = (a0 + 1)) : a3 ≤ 36 := by omega
theorem mp_o1837 {a0 : Int} (h0 : 0 ≤ a0) (h1 : a0 ≤ 20) (h2 : a0 ≤ 18) (h3 : 18 ≤ a0) : (Int.toNat a0) = 18 := by omega
theorem mp_o1838 {a0 : Int} {a1 : Int} (h0 : 0 ≤ a0) (h1 : a0 ≤ 20) (h2 : a0 ≤ 18) (h3 : a0 < 18) (h4 : a1 = (0 + a0)) : (-2147483648) ≤ (72 + a0) := by omega
theorem mp_o1839 {a0 : Int} {a1 : Int} {a2 : Int} (h0 : 0 ≤ a0) (h1 : a0 ≤ 20) (h2 : a0 ≤ 18) (h3 : a0 < 18) (h4 : a1 = (0 + a0)) (h5 : a2 = (72 + a0)) : ((0 ≤ a2 ∧ a2 < ((90 : Nat) : Int))) := by omega
theorem mp_o1840 {a0 : Int} {a1 : Int} {a2 : Int} {a3 : Int} (h0 : a0 = (0 + a1)) (h1 : a2 = (72 + a1)) (h2 : (((a2 % 3) = 0 → (0 ≤ a3 ∧ a3 ≤ 5)))) (h3 : (((a2 % 3) = 1 → ((-1) ≤ a3 ∧ a3 ≤ 99)))) : ((a0 % ((3 : Nat) : Int)) = ((0 : Nat) : Int)) → ((0 ≤ a3 ∧ a3 ≤ 5)) := by omega
theorem mp_o1841 {a0 : Int} {a1 : Int} {a2 : Int} {a3 : Int} (h0 : a0 = (0 + a1)) (h1 : a2 = (72 + a1)) (h2 : (((a2 % 3) = 1 → ((-1) ≤ a3 ∧ a3 ≤ 99)))) : ((a0 % ((3 : Nat) : Int)) = ((1 : Nat) : Int)) → (((-1) ≤ a3 ∧ a3 ≤ 99)) := by omega
theorem mp_o1842 {a0 : Int} {a1 : Int} {a2 : Int} (h0 : 0 ≤ a0) (h1 : a0 ≤ 20) (h2 : a0 ≤ 18) (h3 : a0 < 18) (h4 : a1 = (0 + a0)) (h5 : a2 = (72 + a0)) : ((0 ≤ a1 ∧ a1 < ((90 : Nat) : Int))) := by omega
theorem mp_o1843 {a0 : Int} {a1 : Int} {a2 : Int} (h0 : 0 ≤ a0) (h1 : a0 ≤ 20) (h2 : a0 ≤ 18) (h3 : a0 < 18) (h4 : a1 = (0 + a0)) (h5 : a2 = (72 + a0)) : 0 ≤ a1 := by omega
theorem mp_o1844 {a0 : Int} {a1 : Nat} {a2 : Int} {a3 : Int} {a4 : Int} (h0 : 0 ≤ a0) (h1 : a0 ≤ 20) (h2 : a0 ≤ 18) (h3 : ((-a0) + 18) ≤ ((a1 : Nat) : Int)) (h4 : a0 < 18) (h5 : a2 = (0 + a0)) (h6 : a3 = (72 + a0)) (h7 : a4 = (a0 + 1)) : (a1 - 1) < a1 := by omega
theorem mp_o1845 {a0 : Int} {a1 : Int} {a2 : Int} {a3 : Int} (h0 : 0 ≤ a0) (h1 : a0 ≤ 20) (h2 : a0 ≤ 18) (h3 : a0 < 18) (h4 : a1 = (0 + a0)) (h5 : a2 = (72 + a0)) (h6 : a3 = (a0 + 1)) : 0 ≤ a3 := by omega
theorem mp_o1846 : (((72 + 18) ≤ 0 ∨ (0 + 18) ≤ 72)) := by omega
theorem mp_o1847 {a0 : Int} {a1 : Int} {a2 : Int} {a3 : Int} (h0 : 0 ≤ a0) (h1 : a0 ≤ 20) (h2 : a0 ≤ 18) (h3 : a0 < 18) (h4 : a1 = (0 + a0)) (h5 : a2 = (72 + a0)) (h6 : a3 = (a0 + 1)) : a3 ≤ 20 := by omega
theorem mp_o1848 {a0 : Int} {a1 : Int} {a2 : Int} {a3 : Int} (h0 : 0 ≤ a0) (h1 : a0 ≤ 20) (h2 : a0 ≤ 18) (h3 : a0 < 18) (h4 : a1 = (0 + a0)) (h5 : a2 = (72 + a0)) (h6 : a3 = (a0 + 1)) : a1 = (((0 : Nat) : Int) + (((Int.toNat a0) : Nat) : Int)) := by omega
theorem mp_o1849 {a0 : Int} (h0 : 0 ≤ a0) (h1 : a0 ≤ 60) (h2 : 60 ≤ a0) : (Int.toNat a0) = 60 := by omega
theorem mp_o1850 {a0 : Int} {a1 : Int} (h0 : 0 ≤ a0) (h1 : a0 ≤ 60) (h2 : a0 < 60) (h3 : a1 = (0 + a0)) : (-2147483648) ≤ (240 + a0) := by omega
theorem mp_o1851 {a0 : Int} {a1 : Int} {a2 : Int} (h0 : 0 ≤ a0) (h1 : a0 ≤ 60) (h2 : a0 < 60) (h3 : a1 = (0 + a0)) (h4 : a2 = (240 + a0)) : ((0 ≤ a2 ∧ a2 < ((300 : Nat) : Int))) := by omega
theorem mp_o1852 {a0 : Int} {a1 : Int} {a2 : Int} {a3 : Int} (h0 : a0 = (0 + a1)) (h1 : a2 = (240 + a1)) (h2 : (((a2 % 6) = 0 → (0 ≤ a3 ∧ a3 ≤ 5)))) (h3 : (((a2 % 6) = 1 → (0 ≤ a3 ∧ a3 ≤ 5)))) (h4 : (((a2 % 6) = 3 → (0 ≤ a3 ∧ a3 ≤ 99)))) (h5 : (((a2 % 6) = 4 → (0 ≤ a3 ∧ a3 ≤ 1)))) : ((a0 % ((6 : Nat) : Int)) = ((0 : Nat) : Int)) → ((0 ≤ a3 ∧ a3 ≤ 5)) := by omega
theorem mp_o1853 {a0 : Int} {a1 : Int} {a2 : Int} {a3 : Int} (h0 : a0 = (0 + a1)) (h1 : a2 = (240 + a1)) (h2 : (((a2 % 6) = 1 → (0 ≤ a3 ∧ a3 ≤ 5)))) (h3 : (((a2 % 6) = 3 → (0 ≤ a3 ∧ a3 ≤ 99)))) (h4 : (((a2 % 6) = 4 → (0 ≤ a3 ∧ a3 ≤ 1)))) : ((a0 % ((6 : Nat) : Int)) = ((1 : Nat) : Int)) → ((0 ≤ a3 ∧ a3 ≤ 5)) := by omega
theorem mp_o1854 {a0 : Int} {a1 : Int} {a2 : Int} {a3 : Int} (h0 : a0 = (0 + a1)) (h1 : a2 = (240 + a1)) (h2 : (((a2 % 6) = 3 → (0 ≤ a3 ∧ a3 ≤ 99)))) (h3 : (((a2 % 6) = 4 → (0 ≤ a3 ∧ a3 ≤ 1)))) : ((a0 % ((6 : Nat) : Int)) = ((3 : Nat) : Int)) → ((0 ≤ a3 ∧ a3 ≤ 99)) := by omega
theorem mp_o1855 {a0 : Int} {a1 : Int} {a2 : Int} {a3 : Int} (h0 : a0 = (0 + a1)) (h1 : a2 = (240 + a1)) (h2 : (((a2 % 6) = 4 → (0 ≤ a3 ∧ a3 ≤ 1)))) : ((a0 % ((6 : Nat) : Int)) = ((4 : Nat) : Int)) → ((0 ≤ a3 ∧ a3 ≤ 1)) := by omega
theorem mp_o1856 {a0 : Int} {a1 : Int} {a2 : Int} (h0 : 0 ≤ a0) (h1 : a0 ≤ 60) (h2 : a0 < 60) (h3 : a1 = (0 + a0)) (h4 : a2 = (240 + a0)) : 0 ≤ a1 := by omega
theorem mp_o1857 {a0 : Int} {a1 : Nat} {a2 : Int} {a3 : Int} {a4 : Int} (h0 : 0 ≤ a0) (h1 : a0 ≤ 60) (h2 : ((-a0) + 60) ≤ ((a1 : Nat) : Int)) (h3 : a0 < 60) (h4 : a2 = (0 + a0)) (h5 : a3 = (240 + a0)) (h6 : a4 = (a0 + 1)) : (a1 - 1) < a1 := by omega
theorem mp_o1858 {a0 : Int} {a1 : Int} {a2 : Int} {a3 : Int} (h0 : 0 ≤ a0) (h1 : a0 ≤ 60) (h2 : a0 < 60) (h3 : a1 = (0 + a0)) (h4 : a2 = (240 + a0)) (h5 : a3 = (a0 + 1)) : 0 ≤ a3 := by omega
theorem mp_o1859 : (((240 + 60) ≤ 0 ∨ (0 + 60) ≤ 240)) := by omega
theorem mp_o1860 {a0 : Int} {a1 : Int} {a2 : Int} {a3 : Int} (h0 : 0 ≤ a0) (h1 : a0 ≤ 60) (h2 : a0 < 60) (h3 : a1 = (0 + a0)) (h4 : a2 = (240 + a0)) (h5 : a3 = (a0 + 1)) : a3 ≤ 60 := by omega
theorem mp_o1861 {a0 : Int} (h0 : 0 ≤ a0) (h1 : a0 ≤ 600) (h2 : 600 ≤ a0) : (Int.toNat a0) = 600 := by omega
theorem mp_o1862 {a0 : Int} (h0 : 0 ≤ a0) (h1 : a0 ≤ 600) (h2 : a0 < 600) : (-2147483648) ≤ (0 + a0) := by omega
theorem mp_o1863 {a0 : Int} (h0 : 0 ≤ a0) (h1 : a0 ≤ 600) (h2 : a0 < 600) : (0 + a0) ≤ 2147483647 := by omega
theorem mp_o1864 {a0 : Int} {a1 : Int} (h0 : 0 ≤ a0) (h1 : a0 ≤ 600) (h2 : a0 < 600) (h3 : a1 = (0 + a0)) : (-2147483648) ≤ (2400 + a0) := by omega
theorem mp_o1865 {a0 : Int} {a1 : Int} (h0 : 0 ≤ a0) (h1 : a0 ≤ 600) (h2 : a0 < 600) (h3 : a1 = (0 + a0)) : (2400 + a0) ≤ 2147483647 := by omega
theorem mp_o1866 {a0 : Int} {a1 : Int} {a2 : Int} (h0 : 0 ≤ a0) (h1 : a0 ≤ 600) (h2 : a0 < 600) (h3 : a1 = (0 + a0)) (h4 : a2 = (2400 + a0)) : ((0 ≤ a2 ∧ a2 < ((3000 : Nat) : Int))) := by omega
theorem mp_o1867 {a0 : Int} {a1 : Int} {a2 : Int} (h0 : 0 ≤ a0) (h1 : a0 ≤ 600) (h2 : a0 < 600) (h3 : a1 = (0 + a0)) (h4 : a2 = (2400 + a0)) : 0 ≤ a2 := by omega
theorem mp_o1868 {a0 : Int} {a1 : Int} {a2 : Int} (h0 : 0 ≤ a0) (h1 : a0 ≤ 600) (h2 : a0 < 600) (h3 : a1 = (0 + a0)) (h4 : a2 = (2400 + a0)) : a2 < ((3000 : Nat) : Int) := by omega
theorem mp_o1869 {a0 : Int} {a1 : Int} {a2 : Int} (h0 : 0 ≤ a0) (h1 : a0 ≤ 600) (h2 : a0 < 600) (h3 : a1 = (0 + a0)) (h4 : a2 = (2400 + a0)) : ((0 ≤ a1 ∧ a1 < ((3000 : Nat) : Int))) := by omega
theorem mp_o1870 {a0 : Int} (h0 : (0 ≤ a0 ∧ a0 ≤ 1)) : 0 ≤ a0 := by omega
theorem mp_o1871 {a0 : Int} (h0 : (0 ≤ a0 ∧ a0 ≤ 1)) : a0 ≤ 1 := by omega
theorem mp_o1872 {a0 : Int} {a1 : Int} {a2 : Int} (h0 : 0 ≤ a0) (h1 : a0 ≤ 600) (h2 : a0 < 600) (h3 : a1 = (0 + a0)) (h4 : a2 = (2400 + a0)) : (-2147483648) ≤ (a0 + 1) := by omega
theorem mp_o1873 {a0 : Int} {a1 : Int} {a2 : Int} (h0 : 0 ≤ a0) (h1 : a0 ≤ 600) (h2 : a0 < 600) (h3 : a1 = (0 + a0)) (h4 : a2 = (2400 + a0)) : (a0 + 1) ≤ 2147483647 := by omega
theorem mp_o1874 {a0 : Int} {a1 : Nat} {a2 : Int} {a3 : Int} {a4 : Int} (h0 : 0 ≤ a0) (h1 : a0 ≤ 600) (h2 : ((-a0) + 600) ≤ ((a1 : Nat) : Int)) (h3 : a0 < 600) (h4 : a2 = (0 + a0)) (h5 : a3 = (2400 + a0)) (h6 : a4 = (a0 + 1)) : (a1 - 1) < a1 := by omega
theorem mp_o1875 {a0 : Int} {a1 : Int} {a2 : Int} {a3 : Int} (h0 : 0 ≤ a0) (h1 : a0 ≤ 600) (h2 : a0 < 600) (h3 : a1 = (0 + a0)) (h4 : a2 = (2400 + a0)) (h5 : a3 = (a0 + 1)) : 0 ≤ a3 := by omega
theorem mp_o1876 {a0 : Int} {a1 : Int} {a2 : Int} {a3 : Int} (h0 : 0 ≤ a0) (h1 : a0 ≤ 600) (h2 : a0 < 600) (h3 : a1 = (0 + a0)) (h4 : a2 = (2400 + a0)) (h5 : a3 = (a0 + 1)) : a3 ≤ 600 := by omega
theorem mp_o1877 {a0 : Int} {a1 : Int} {a2 : Int} {a3 : Int} (h0 : 0 ≤ a0) (h1 : a0 ≤ 600) (h2 : a0 < 600) (h3 : a1 = (0 + a0)) (h4 : a2 = (2400 + a0)) (h5 : a3 = (a0 + 1)) : a1 = (((0 : Nat) : Int) + (((Int.toNat a0) : Nat) : Int)) := by omega
theorem mp_o1878 {a0 : Int} {a1 : Int} {a2 : Int} {a3 : Int} (h0 : 0 ≤ a0) (h1 : a0 ≤ 600) (h2 : a0 < 600) (h3 : a1 = (0 + a0)) (h4 : a2 = (2400 + a0)) (h5 : a3 = (a0 + 1)) : a2 = (((2400 : Nat) : Int) + (((Int.toNat a0) : Nat) : Int)) := by omega
theorem mp_o1879 : (((2400 + 600) ≤ 0 ∨ (0 + 600) ≤ 2400)) := by omega
theorem mp_o1880 {a0 : Int} {a1 : Int} {a2 : Int} {a3 : Int} (h0 : 0 ≤ a0) (h1 : a0 ≤ 600) (h2 : a0 < 600) (h3 : a1 = (0 + a0)) (h4 : a2 = (2400 + a0)) (h5 : a3 = (a0 + 1)) : (Int.toNat a0) < 600 := by omega
theorem mp_o1881 {a0 : Int} {a1 : Int} {a2 : Int} {a3 : Int} (h0 : 0 ≤ a0) (h1 : a0 ≤ 600) (h2 : a0 < 600) (h3 : a1 = (0 + a0)) (h4 : a2 = (2400 + a0)) (h5 : a3 = (a0 + 1)) : (Int.toNat a3) = ((Int.toNat a0) + 1) := by omega
theorem mp_o1882 {a0 : Int} {a1 : Nat} {a2 : Int} {a3 : Int} {a4 : Int} (h0 : 0 ≤ a0) (h1 : a0 ≤ 600) (h2 : ((-a0) + 600) ≤ ((a1 : Nat) : Int)) (h3 : a0 < 600) (h4 : a2 = (0 + a0)) (h5 : a3 = (2400 + a0)) (h6 : a4 = (a0 + 1)) : ((-a4) + 600) ≤ ((((a1 - 1)) : Nat) : Int) := by omega
theorem mp_o1883 {a0 : Int} (h0 : a0 = 0) : 0 ≤ a0 := by omega
theorem mp_o1884 {a0 : Int} {a1 : Int} {a2 : Int} {a3 : Int} {a4 : Int} (h0 : 0 ≤ a0) (h1 : a0 ≤ 4) (h2 : a0 = a1) (h3 : a2 ≠ 0) (h4 : ((a2 = 0 ∧ a3 = (-1)) ∨ (a2 ≠ 0 ∧ a3 = a4))) (h5 : a2 = 0) : a1 = 0 := by omega
theorem mp_o1885 {a0 : Int} {a1 : Int} {a2 : Int} {a3 : Int} {a4 : Int} (h0 : a0 ≠ 0) (h1 : ((a0 = 0 ∧ a1 = (-1)) ∨ (a0 ≠ 0 ∧ a1 = a2))) (h2 : a0 = 0) : a3 = a4 := by omega
theorem mp_o1886 {a0 : Int} {a1 : Int} {a2 : Int} (h0 : ((a0 = 0 ∧ a1 = (-1)) ∨ (a0 ≠ 0 ∧ a1 = a2))) (h1 : a0 = 0) : a1 = (-1) := by omega
theorem mp_o1887 {a0 : Int} {a1 : Int} (h0 : a0 ≠ 0) (h1 : a1 = a0) : (a1 = 0) → False := by omega
theorem mp_o1888 {a0 : Int} {a1 : Int} {a2 : Int} {a3 : Int} {a4 : Nat} (h0 : ((a0 = 0 ∧ a1 = (-1)) ∨ (a0 ≠ 0 ∧ a1 = a2))) (h1 : a0 ≠ 0) (h2 : a0 ≠ 0) (h3 : a3 = a0) (h4 : ((a4 : Nat) : Int) = a2) : a1 = ((a4 : Nat) : Int) := by omega
theorem mp_o1889 {a0 : Int} {a1 : Int} {a2 : Int} (h0 : a0 = a1) (h1 : a1 = a2) : a0 = a2 := by omega
theorem mp_o1890 {a0 : Int} {a1 : Int} {a2 : Int} (h0 : a0 = 0) (h1 : ((a0 = 0 ∧ a1 = (-1)) ∨ (a0 ≠ 0 ∧ a1 = a2))) : a1 = (-1) := by omega
theorem mp_o1891 {a0 : Int} {a1 : Int} {a2 : Int} {a3 : Int} {a4 : Int} {a5 : Int} (h0 : (0 ≤ a0 ∧ ((a1 ≠ 0 ∨ ((a0 + (5 * ((a2 - a3)))) + a4) ≤ 8004)))) (h1 : a5 = a0) : (-2147483648) ≤ (a5 + 1) := by omega
theorem mp_o1892 {a0 : Int} {a1 : Int} {a2 : Int} {a3 : Int} {a4 : Int} {a5 : Int} {a6 : Int} {a7 : Int} {a8 : Int} {a9 : Int} {a10 : Int} (h0 : (0 ≤ a0 ∧ ((a1 ≠ 0 ∨ ((a0 + (5 * ((a2 - a3)))) + a4) ≤ 8004)))) (h1 : a5 = a0) (h2 : a6 ≠ 0) (h3 : a7 = (a5 + 1)) (h4 : a8 = a7) : ((0 ≤ a8 ∧ ((a6 ≠ 0 ∨ ((a8 + (5 * ((a2 - a9)))) + a10) ≤ 8004)))) := by omega
theorem mp_o1895 {a0 : Int} {a1 : Int} {a2 : Int} {a3 : Int} (h0 : a0 = a1) (h1 : a2 = (a0 + 1)) (h2 : a3 = a2) : (a1 + 1) = a3 := by omega
theorem mp_o1896 {a0 : Int} (h0 : 1 ≤ a0) (h1 : a0 ≤ 6) : ((0 ≤ a0 ∧ a0 ≤ 6)) := by omega
theorem mp_o1898 {a0 : Int} {a1 : Int} {a2 : Int} {a3 : Int} {a4 : Int} {a5 : Int} {a6 : Int} (h0 : a0 = 0) (h1 : a1 ≠ 0) (h2 : a2 = (a0 + 1)) (h3 : a3 = a2) : ((0 ≤ a3 ∧ ((a1 ≠ 0 ∨ ((a3 + (5 * ((a4 - a5)))) + a6) ≤ 8004)))) := by omega
theorem mp_o1899 {a0 : Int} {a1 : Int} {a2 : Int} {a3 : Int} {a4 : Int} {a5 : Int} (h0 : a0 = a1) (h1 : a0 ≠ 0) (h2 : (a2 ≠ 0 ∨ (1 ≤ a3 ∧ a3 ≤ 6))) (h3 : (a4 ≠ 0 ∨ (0 ≤ a5 ∧ a5 ≤ 99))) (h4 : a4 ≠ 0) (h5 : a4 ≠ 0) (h6 : a4 ≠ 0) : (a1 = 0) → False := by omega
theorem mp_o1901 {a0 : Int} {a1 : Int} {a2 : Int} {a3 : Int} {a4 : Int} {a5 : Int} {a6 : Int} {a7 : Int} {a8 : Int} {a9 : Int} {a10 : Int} {a11 : Int} {a12 : Int} {a13 : Int} {a14 : Int} {a15 : Int} {a16 : Int} {a17 : Int} {a18 : Int} {a19 : Int} {a20 : Int} {a21 : Int} {a22 : Int} (h0 : 0 ≤ a0) (h1 : a0 ≤ 1600) (h2 : 0 ≤ a1) (h3 : a1 ≤ 1600) (h4 : 0 ≤ a2) (h5 : a2 ≤ 4) (h6 : a2 = a3) (h7 : a4 = 0) (h8 : ((5 * ((a0 - a5))) + a6) ≤ ((5 * ((a0 - a1))) + a2)) (h9 : a6 = a7) (h10 : ((5 * ((a0 - a8))) + a9) ≤ ((5 * ((a0 - a5))) + a6)) (h11 : a9 = a10) (h12 : ((5 * ((a0 - a11))) + a12) ≤ ((5 * ((a0 - a8))) + a9)) (h13 : a12 = a13) (h14 : ((5 * ((a0 - a14))) + a15) ≤ ((5 * ((a0 - a11))) + a12)) (h15 : a15 = a16) (h16 : (a17 ≠ 0 ∨ (((5 * ((a0 - a18))) + a19) + 1) ≤ ((5 * ((a0 - a14))) + a15))) (h17 : a19 = a20) (h18 : a21 = (a4 + 1)) (h19 : a22 = a21) : ((0 ≤ a22 ∧ ((a17 ≠ 0 ∨ ((a22 + (5 * ((a0 - a18)))) + a19) ≤ 8004)))) := by omega
theorem mp_o1902 {a0 : Int} {a1 : Int} {a2 : Int} {a3 : Int} {a4 : Int} {a5 : Int} {a6 : Int} {a7 : Int} {a8 : Int} {a9 : Int} {a10 : Int} {a11 : Int} {a12 : Int} (h0 : a0 = a1) (h1 : a0 ≠ 0) (h2 : (a2 ≠ 0 ∨ (1 ≤ a3 ∧ a3 ≤ 6))) (h3 : (a4 ≠ 0 ∨ (0 ≤ a5 ∧ a5 ≤ 99))) (h4 : a4 = 0) (h5 : a6 ≠ 0) (h6 : (a7 ≠ 0 ∨ (((5 * ((a8 - a9))) + a10) + 1) ≤ ((5 * ((a8 - a11))) + a12))) : (a1 = 0) → False := by omega
theorem mp_o1904 {a0 : Int} {a1 : Int} {a2 : Int} (h0 : a0 = a1) (h1 : a2 = a0) : a1 = a2 := by omega
theorem mp_o1905 {a0 : Int} {a1 : Int} {a2 : Int} {a3 : Int} (h0 : a0 = a1) (h1 : a0 = 0) (h2 : a2 = (a0 + 1)) (h3 : a3 = a2) : (a1 + 1) = a3 := by omega
theorem mp_o1907 {a0 : Int} {a1 : Int} {a2 : Int} {a3 : Int} {a4 : Int} {a5 : Int} (h0 : 0 ≤ a0) (h1 : a0 ≤ 1600) (h2 : a1 = 0) (h3 : 0 ≤ a2) (h4 : a2 ≤ 1600) (h5 : 0 ≤ a3) (h6 : a3 ≤ 4) (h7 : a3 = a4) : ((0 ≤ a1 ∧ ((a5 ≠ 0 ∨ ((a1 + (5 * ((a0 - a2)))) + a3) ≤ 8004)))) := by omega
theorem mp_o1908 {a0 : Int} (h0 : a0 = 0) : 0 = a0 := by omega
theorem mp_o1909 {a0 : Int} {a1 : Nat} (h0 : 0 ≤ a0) (h1 : a0 ≤ 1600) (h2 : a0 = ((a1 : Nat) : Int)) : a1 = (Int.toNat a0) := by omega
theorem mp_o1910 {a0 : Int} {a1 : Int} (h0 : (0 ≤ a0 ∧ a0 ≤ 6)) (h1 : a0 = a1) : (-2147483648) ≤ (a0 - 1) := by omega
theorem mp_o1911 {a0 : Int} {a1 : Int} (h0 : (0 ≤ a0 ∧ a0 ≤ 6)) (h1 : a0 = a1) : (a0 - 1) ≤ 2147483647 := by omega
theorem mp_o1912 {a0 : Int} {a1 : Int} {a2 : Int} {a3 : Int} {a4 : Int} {a5 : Int} {a6 : Int} (h0 : a0 = a1) (h1 : a2 = a3) (h2 : a4 = (a2 - 1)) (h3 : a5 = a4) (h4 : (a0 < a6 ∨ a5 < a0)) (h5 : a6 = 0) : ((a1 < 0 ∨ a3 ≤ a1)) := by omega
theorem mp_o1913 {a0 : Int} {a1 : Int} {a2 : Int} {a3 : Int} {a4 : Int} {a5 : Int} (h0 : a0 = a1) (h1 : a2 = a3) (h2 : a4 = (a2 - 1)) (h3 : a5 = a4) (h4 : a0 ≤ a5) : a1 < a3 := by omega
theorem mp_o1914 {a0 : Int} {a1 : Int} {a2 : Int} {a3 : Int} {a4 : Int} {a5 : Int} (h0 : a0 = a1) (h1 : (0 ≤ a2 ∧ a2 ≤ 6)) (h2 : a2 = a3) (h3 : a4 = (a2 - 1)) (h4 : a5 = a4) (h5 : a0 ≤ a5) : a1 ≤ 5 := by omega
theorem mp_o1915 {a0 : Int} {a1 : Int} {a2 : Int} {a3 : Int} {a4 : Int} {a5 : Int} (h0 : a0 = a1) (h1 : a2 = a3) (h2 : a4 = (a2 - 1)) (h3 : a5 = a4) (h4 : a0 ≤ a5) (h5 : 0 ≤ a0) : ((0 ≤ a1 ∧ a1 < a3)) := by omega
theorem mp_o1918 {a0 : Int} (h0 : 0 ≤ a0) (h1 : a0 ≤ 5) : (-2147483648) ≤ (3 * a0) := by omega
theorem mp_o1919 {a0 : Int} (h0 : 0 ≤ a0) (h1 : a0 ≤ 5) : (3 * a0) ≤ 2147483647 := by omega
theorem mp_o1927 {a0 : Int} {a1 : Int} (h0 : (0 ≤ a0 ∧ a0 ≤ 10)) (h1 : a0 = a1) : (-2147483648) ≤ (a0 - 1) := by omega
theorem mp_o1928 {a0 : Int} {a1 : Int} (h0 : (0 ≤ a0 ∧ a0 ≤ 10)) (h1 : a0 = a1) : (a0 - 1) ≤ 2147483647 := by omega
theorem mp_o1929 {a0 : Int} {a1 : Int} {a2 : Int} {a3 : Int} {a4 : Int} {a5 : Int} (h0 : a0 = a1) (h1 : (0 ≤ a2 ∧ a2 ≤ 10)) (h2 : a2 = a3) (h3 : a4 = (a2 - 1)) (h4 : a5 = a4) (h5 : a0 ≤ a5) : a1 ≤ 9 := by omega
theorem mp_o1930 {a0 : Int} (h0 : 0 ≤ a0) (h1 : a0 ≤ 9) : (-2147483648) ≤ (6 * a0) := by omega
theorem mp_o1931 {a0 : Int} (h0 : 0 ≤ a0) (h1 : a0 ≤ 9) : (6 * a0) ≤ 2147483647 := by omega
theorem mp_o1932 {a0 : Int} {a1 : Int} {a2 : Int} (h0 : 0 ≤ a0) (h1 : a0 ≤ 9) (h2 : 0 ≤ a1) (h3 : a1 ≤ 5) (h4 : a2 = (6 * a0)) : (-2147483648) ≤ (a2 + a1) := by omega
theorem mp_o1933 {a0 : Int} {a1 : Int} {a2 : Int} (h0 : 0 ≤ a0) (h1 : a0 ≤ 9) (h2 : 0 ≤ a1) (h3 : a1 ≤ 5) (h4 : a2 = (6 * a0)) : (a2 + a1) ≤ 2147483647 := by omega
theorem mp_o1934 {a0 : Int} {a1 : Int} {a2 : Int} {a3 : Int} (h0 : 0 ≤ a0) (h1 : a0 ≤ 9) (h2 : 0 ≤ a1) (h3 : a1 ≤ 5) (h4 : a2 = (6 * a0)) (h5 : a3 = (a2 + a1)) : ((0 ≤ a3 ∧ a3 < ((300 : Nat) : Int))) := by omega
theorem mp_o1935 {a0 : Int} {a1 : Int} {a2 : Int} {a3 : Int} (h0 : 0 ≤ a0) (h1 : a0 ≤ 9) (h2 : 0 ≤ a1) (h3 : a1 ≤ 5) (h4 : a2 = (6 * a0)) (h5 : a3 = (a2 + a1)) : 0 ≤ a3 := by omega
theorem mp_o1936 {a0 : Int} {a1 : Int} {a2 : Int} {a3 : Int} (h0 : 0 ≤ a0) (h1 : a0 ≤ 9) (h2 : 0 ≤ a1) (h3 : a1 ≤ 5) (h4 : a2 = (6 * a0)) (h5 : a3 = (a2 + a1)) : a3 < ((300 : Nat) : Int) := by omega
theorem mp_o1937 {a0 : Int} {a1 : Int} {a2 : Int} {a3 : Int} (h0 : 0 ≤ a0) (h1 : a0 ≤ 9) (h2 : 0 ≤ a1) (h3 : a1 ≤ 5) (h4 : a2 = (6 * a0)) (h5 : a3 = (a2 + a1)) : a3 = (((Int.toNat (((6 * a0) + a1))) : Nat) : Int) := by omega
theorem mp_o1938 {a0 : Int} {a1 : Int} {a2 : Int} {a3 : Int} {a4 : Int} (h0 : (a0 < 0 ∨ a1 ≤ a0)) (h1 : a2 = (-2)) : (((((a0 < 0 ∨ (a1 ≤ a0 ∨ (a3 < 0 ∨ 5 < a3)))) ∧ a2 = (-2)) ∨ (((0 ≤ a0 ∧ (a0 < a1 ∧ (0 ≤ a3 ∧ a3 ≤ 5)))) ∧ a2 = a4))) := by omega
theorem mp_o1939 {a0 : Int} {a1 : Int} {a2 : Int} {a3 : Int} {a4 : Int} {a5 : Int} {a6 : Int} {a7 : Int} (h0 : 0 ≤ a0) (h1 : a0 < a1) (h2 : a0 ≤ 9) (h3 : a2 = a3) (h4 : (a2 < a4 ∨ a5 < a2)) (h5 : a4 = 0) (h6 : a5 = 5) (h7 : a6 = (-2)) : (((((a0 < 0 ∨ (a1 ≤ a0 ∨ (a3 < 0 ∨ 5 < a3)))) ∧ a6 = (-2)) ∨ (((0 ≤ a0 ∧ (a0 < a1 ∧ (0 ≤ a3 ∧ a3 ≤ 5)))) ∧ a6 = a7))) := by omega
theorem mp_o1940 {a0 : Int} {a1 : Int} (h0 : a0 = a1) (h1 : 0 ≤ a0) (h2 : a0 ≤ 5) : 0 ≤ a1 := by omega
theorem mp_o1941 {a0 : Int} {a1 : Int} (h0 : a0 = a1) (h1 : 0 ≤ a0) (h2 : a0 ≤ 5) : a1 ≤ 5 := by omega
theorem mp_o1942 {a0 : Int} {a1 : Int} {a2 : Int} {a3 : Int} {a4 : Int} {a5 : Int} (h0 : 0 ≤ a0) (h1 : a0 < a1) (h2 : a0 ≤ 9) (h3 : a2 = a3) (h4 : 0 ≤ a2) (h5 : a2 ≤ 5) (h6 : a4 = a5) : (((((a0 < 0 ∨ (a1 ≤ a0 ∨ (a3 < 0 ∨ 5 < a3)))) ∧ a4 = (-2)) ∨ (((0 ≤ a0 ∧ (a0 < a1 ∧ (0 ≤ a3 ∧ a3 ≤ 5)))) ∧ a4 = a5))) := by omega
theorem mp_o1943 {a0 : Int} {a1 : Int} {a2 : Int} {a3 : Int} {a4 : Int} (h0 : 0 ≤ a0) (h1 : a0 < a1) (h2 : a0 ≤ 5) (h3 : (a2 < 0 ∨ a1 ≤ a2)) (h4 : a3 = (-2)) : (((((a0 < 0 ∨ (a1 ≤ a0 ∨ (a2 < 0 ∨ (a1 ≤ a2 ∨ a0 = a2))))) ∧ a3 = (-2)) ∨ (((0 ≤ a0 ∧ (a0 < a1 ∧ (0 ≤ a2 ∧ (a2 < a1 ∧ a0 ≠ a2))))) ∧ a3 = a4))) := by omega
theorem mp_o1944 {a0 : Int} {a1 : Int} {a2 : Int} {a3 : Int} {a4 : Int} (h0 : 0 ≤ a0) (h1 : a0 ≤ 5) (h2 : a1 < a2) (h3 : a0 = a1) (h4 : a3 = (-2)) : (((((a0 < 0 ∨ (a2 ≤ a0 ∨ (a1 < 0 ∨ (a2 ≤ a1 ∨ a0 = a1))))) ∧ a3 = (-2)) ∨ (((0 ≤ a0 ∧ (a0 < a2 ∧ (0 ≤ a1 ∧ (a1 < a2 ∧ a0 ≠ a1))))) ∧ a3 = a4))) := by omega
theorem mp_o1945 {a0 : Int} {a1 : Int} {a2 : Int} (h0 : 0 ≤ a0) (h1 : a0 ≤ 5) (h2 : 0 ≤ a1) (h3 : a1 ≤ 5) (h4 : a2 = (6 * a0)) : (-2147483648) ≤ (a2 + a1) := by omega
theorem mp_o1946 {a0 : Int} {a1 : Int} {a2 : Int} (h0 : 0 ≤ a0) (h1 : a0 ≤ 5) (h2 : 0 ≤ a1) (h3 : a1 ≤ 5) (h4 : a2 = (6 * a0)) : (a2 + a1) ≤ 2147483647 := by omega
theorem mp_o1947 {a0 : Int} {a1 : Int} {a2 : Int} {a3 : Int} (h0 : 0 ≤ a0) (h1 : a0 ≤ 5) (h2 : 0 ≤ a1) (h3 : a1 ≤ 5) (h4 : a2 = (6 * a0)) (h5 : a3 = (a2 + a1)) : ((0 ≤ a3 ∧ a3 < ((180 : Nat) : Int))) := by omega
theorem mp_o1948 {a0 : Int} {a1 : Int} {a2 : Int} {a3 : Int} (h0 : 0 ≤ a0) (h1 : a0 ≤ 5) (h2 : 0 ≤ a1) (h3 : a1 ≤ 5) (h4 : a2 = (6 * a0)) (h5 : a3 = (a2 + a1)) : 0 ≤ a3 := by omega
theorem mp_o1949 {a0 : Int} {a1 : Int} {a2 : Int} {a3 : Int} (h0 : 0 ≤ a0) (h1 : a0 ≤ 5) (h2 : 0 ≤ a1) (h3 : a1 ≤ 5) (h4 : a2 = (6 * a0)) (h5 : a3 = (a2 + a1)) : a3 < ((180 : Nat) : Int) := by omega
theorem mp_o1950 {a0 : Int} {a1 : Int} {a2 : Int} {a3 : Int} (h0 : 0 ≤ a0) (h1 : a0 ≤ 5) (h2 : 0 ≤ a1) (h3 : a1 ≤ 5) (h4 : a2 = (6 * a0)) (h5 : a3 = (a2 + a1)) : a3 = (((Int.toNat (((6 * a0) + a1))) : Nat) : Int) := by omega
theorem mp_o1951 {a0 : Int} {a1 : Int} (h0 : (0 ≤ a0 ∧ a0 ≤ 20)) (h1 : a0 = a1) : (-2) ≤ a0 := by omega
theorem mp_o1952 {a0 : Int} {a1 : Int} {a2 : Int} {a3 : Int} {a4 : Int} {a5 : Int} {a6 : Int} (h0 : 0 ≤ a0) (h1 : a0 < a1) (h2 : a0 ≤ 5) (h3 : 0 ≤ a2) (h4 : a2 < a1) (h5 : a2 ≤ 5) (h6 : a0 ≠ a2) (h7 : a3 = (6 * a0)) (h8 : a4 = (a3 + a2)) (h9 : (0 ≤ a5 ∧ a5 ≤ 20)) (h10 : a5 = a6) : (((((a0 < 0 ∨ (a1 ≤ a0 ∨ (a2 < 0 ∨ (a1 ≤ a2 ∨ a0 = a2))))) ∧ a5 = (-2)) ∨ (((0 ≤ a0 ∧ (a0 < a1 ∧ (0 ≤ a2 ∧ (a2 < a1 ∧ a0 ≠ a2))))) ∧ a5 = a6))) := by omega
theorem mp_o1953 {a0 : Int} {a1 : Int} {a2 : Int} {a3 : Int} (h0 : a0 = a1) (h1 : (a0 < a2 ∨ a3 < a0)) (h2 : a2 = 0) (h3 : a3 = 99) : ((a1 < 0 ∨ 99 < a1)) := by omega
theorem mp_o1954 {a0 : Int} {a1 : Int} {a2 : Int} {a3 : Int} {a4 : Int} (h0 : (a0 < 0 ∨ a1 ≤ a0)) (h1 : a2 = (-2)) : (((((a0 < 0 ∨ (a1 ≤ a0 ∨ (a3 < 0 ∨ 99 < a3)))) ∧ a2 = (-2)) ∨ (((0 ≤ a0 ∧ (a0 < a1 ∧ (0 ≤ a3 ∧ a3 ≤ 99)))) ∧ (((a4 ≠ 0 ∧ a2 = 0) ∨ (a4 = 0 ∧ a2 = 1)))))) := by omega
theorem mp_o1955 {a0 : Int} {a1 : Int} {a2 : Int} {a3 : Int} {a4 : Int} (h0 : 0 ≤ a0) (h1 : a0 < a1) (h2 : a0 ≤ 5) (h3 : (a2 < 0 ∨ 99 < a2)) (h4 : a3 = (-2)) : (((((a0 < 0 ∨ (a1 ≤ a0 ∨ (a2 < 0 ∨ 99 < a2)))) ∧ a3 = (-2)) ∨ (((0 ≤ a0 ∧ (a0 < a1 ∧ (0 ≤ a2 ∧ a2 ≤ 99)))) ∧ (((a4 ≠ 0 ∧ a3 = 0) ∨ (a4 = 0 ∧ a3 = 1)))))) := by omega
theorem mp_o1956 {a0 : Int} {a1 : Int} {a2 : Int} (h0 : 0 ≤ a0) (h1 : a0 ≤ 5) (h2 : 0 ≤ a1) (h3 : a1 ≤ 99) (h4 : a2 = (100 * a0)) : (-2147483648) ≤ (a2 + a1) := by omega
theorem mp_o1957 {a0 : Int} {a1 : Int} {a2 : Int} (h0 : 0 ≤ a0) (h1 : a0 ≤ 5) (h2 : 0 ≤ a1) (h3 : a1 ≤ 99) (h4 : a2 = (100 * a0)) : (a2 + a1) ≤ 2147483647 := by omega
theorem mp_o1958 {a0 : Int} {a1 : Int} {a2 : Int} {a3 : Int} (h0 : 0 ≤ a0) (h1 : a0 ≤ 5) (h2 : 0 ≤ a1) (h3 : a1 ≤ 99) (h4 : a2 = (100 * a0)) (h5 : a3 = (a2 + a1)) : ((0 ≤ a3 ∧ a3 < ((3000 : Nat) : Int))) := by omega
theorem mp_o1959 {a0 : Int} {a1 : Int} {a2 : Int} {a3 : Int} (h0 : 0 ≤ a0) (h1 : a0 ≤ 5) (h2 : 0 ≤ a1) (h3 : a1 ≤ 99) (h4 : a2 = (100 * a0)) (h5 : a3 = (a2 + a1)) : 0 ≤ a3 := by omega
theorem mp_o1960 {a0 : Int} {a1 : Int} {a2 : Int} {a3 : Int} (h0 : 0 ≤ a0) (h1 : a0 ≤ 5) (h2 : 0 ≤ a1) (h3 : a1 ≤ 99) (h4 : a2 = (100 * a0)) (h5 : a3 = (a2 + a1)) : a3 < ((3000 : Nat) : Int) := by omega
theorem mp_o1961 {a0 : Int} {a1 : Int} {a2 : Int} {a3 : Int} (h0 : 0 ≤ a0) (h1 : a0 ≤ 5) (h2 : 0 ≤ a1) (h3 : a1 ≤ 99) (h4 : a2 = (100 * a0)) (h5 : a3 = (a2 + a1)) : a3 = (((Int.toNat (((100 * a0) + a1))) : Nat) : Int) := by omega
theorem mp_o1962 {a0 : Int} {a1 : Int} {a2 : Int} {a3 : Int} {a4 : Int} {a5 : Int} {a6 : Int} {a7 : Int} (h0 : 0 ≤ a0) (h1 : a0 < a1) (h2 : a0 ≤ 5) (h3 : 0 ≤ a2) (h4 : a2 ≤ 99) (h5 : a3 = (100 * a0)) (h6 : a4 = (a3 + a2)) (h7 : a5 = a6) (h8 : a5 = 0) (h9 : a7 = 1) : (((((a0 < 0 ∨ (a1 ≤ a0 ∨ (a2 < 0 ∨ 99 < a2)))) ∧ a7 = (-2)) ∨ (((0 ≤ a0 ∧ (a0 < a1 ∧ (0 ≤ a2 ∧ a2 ≤ 99)))) ∧ (((a6 ≠ 0 ∧ a7 = 0) ∨ (a6 = 0 ∧ a7 = 1)))))) := by omega
theorem mp_o1963 {a0 : Int} {a1 : Int} {a2 : Int} {a3 : Int} {a4 : Int} {a5 : Int} {a6 : Int} {a7 : Int} (h0 : 0 ≤ a0) (h1 : a0 < a1) (h2 : a0 ≤ 5) (h3 : 0 ≤ a2) (h4 : a2 ≤ 99) (h5 : a3 = (100 * a0)) (h6 : a4 = (a3 + a2)) (h7 : (0 ≤ a5 ∧ a5 ≤ 1)) (h8 : a5 = a6) (h9 : a5 ≠ 0) (h10 : a7 = 0) : (((((a0 < 0 ∨ (a1 ≤ a0 ∨ (a2 < 0 ∨ 99 < a2)))) ∧ a7 = (-2)) ∨ (((0 ≤ a0 ∧ (a0 < a1 ∧ (0 ≤ a2 ∧ a2 ≤ 99)))) ∧ (((a6 ≠ 0 ∧ a7 = 0) ∨ (a6 = 0 ∧ a7 = 1)))))) := by omega
theorem mp_o1964 {a0 : Int} {a1 : Int} {a2 : Int} (h0 : a0 ≤ a1) (h1 : a2 = a1) (h2 : a2 ≤ a0) : a0 = a1 := by omega
theorem mp_o1965 {a0 : Int} {a1 : Int} {a2 : Int} {a3 : Int} {a4 : Int} (h0 : a0 = a1) (h1 : a2 = (a1 + a3)) (h2 : a3 = a4) : a2 = (a1 + a4) := by omega
theorem mp_o1966 {a0 : Int} {a1 : Int} {a2 : Int} (h0 : 0 ≤ a0) (h1 : a0 ≤ 60) (h2 : a0 ≤ a1) (h3 : a2 = a1) (h4 : a2 ≤ a0) : (Int.toNat a0) = (Int.toNat a1) := by omega
theorem mp_o1967 {a0 : Int} (h0 : 0 ≤ a0) (h1 : a0 ≤ 60) : ((0 ≤ a0 ∧ a0 < ((300 : Nat) : Int))) := by omega
theorem mp_o1968 {a0 : Int} (h0 : 0 ≤ a0) (h1 : a0 ≤ 60) : a0 < 300 := by omega
theorem mp_o1969 {a0 : Int} {a1 : Int} {a2 : Int} (h0 : a0 = a1) (h1 : a2 < a0) : (a2 + 1) ≤ a1 := by omega
theorem mp_o1970 {a0 : Int} (h0 : 0 ≤ a0) (h1 : a0 ≤ 60) : a0 = (((Int.toNat a0) : Nat) : Int) := by omega
theorem mp_o1971 {a0 : Int} {a1 : Int} {a2 : Int} {a3 : Int} {a4 : Int} (h0 : (a0 = 200 ∨ ((100 ≤ a0 ∧ a0 ≤ 109) ∨ (0 ≤ a0 ∧ (a0 ≤ 55 ∧ (a0 % 10) ≤ 5))))) (h1 : ((a0 = 200 ∧ a1 = (a2 + 1)) ∨ (a0 ≠ 200 ∧ a1 = a2))) (h2 : a0 = a3) (h3 : a0 ≠ a4) (h4 : a0 ≠ 200) : 0 ≤ a0 := by omega
theorem mp_o1972 {a0 : Int} {a1 : Int} {a2 : Int} {a3 : Int} {a4 : Int} {a5 : Int} (h0 : (a0 = 200 ∨ ((100 ≤ a0 ∧ a0 ≤ 109) ∨ (0 ≤ a0 ∧ (a0 ≤ 55 ∧ (a0 % 10) ≤ 5))))) (h1 : ((a0 = 200 ∧ a1 = (a2 + 1)) ∨ (a0 ≠ 200 ∧ a1 = a2))) (h2 : a0 = a3) (h3 : a0 ≠ a4) (h4 : a0 ≠ 200) (h5 : a0 < 100) (h6 : a5 = (a0 / 10)) : ((0 ≤ a5 ∧ a5 < ((6 : Nat) : Int))) := by omega
theorem mp_o1973 {a0 : Int} {a1 : Int} {a2 : Int} {a3 : Int} {a4 : Int} {a5 : Int} (h0 : (a0 = 200 ∨ ((100 ≤ a0 ∧ a0 ≤ 109) ∨ (0 ≤ a0 ∧ (a0 ≤ 55 ∧ (a0 % 10) ≤ 5))))) (h1 : ((a0 = 200 ∧ a1 = (a2 + 1)) ∨ (a0 ≠ 200 ∧ a1 = a2))) (h2 : a0 = a3) (h3 : a0 ≠ a4) (h4 : a0 ≠ 200) (h5 : a0 < 100) (h6 : a5 = (a0 / 10)) : a5 = (((Int.toNat ((a0 / 10))) : Nat) : Int) := by omega
theorem mp_o1974 {a0 : Int} {a1 : Int} {a2 : Int} {a3 : Int} {a4 : Int} {a5 : Int} (h0 : (a0 = 200 ∨ ((100 ≤ a0 ∧ a0 ≤ 109) ∨ (0 ≤ a0 ∧ (a0 ≤ 55 ∧ (a0 % 10) ≤ 5))))) (h1 : ((a0 = 200 ∧ a1 = (a2 + 1)) ∨ (a0 ≠ 200 ∧ a1 = a2))) (h2 : a0 = a3) (h3 : a0 ≠ a4) (h4 : a0 ≠ 200) (h5 : a0 < 100) (h6 : a5 = (a0 / 10)) : 0 ≤ a5 := by omega
theorem mp_o1975 {a0 : Int} {a1 : Int} {a2 : Int} {a3 : Int} {a4 : Int} {a5 : Int} (h0 : (a0 = 200 ∨ ((100 ≤ a0 ∧ a0 ≤ 109) ∨ (0 ≤ a0 ∧ (a0 ≤ 55 ∧ (a0 % 10) ≤ 5))))) (h1 : ((a0 = 200 ∧ a1 = (a2 + 1)) ∨ (a0 ≠ 200 ∧ a1 = a2))) (h2 : a0 = a3) (h3 : a0 ≠ a4) (h4 : a0 ≠ 200) (h5 : a0 < 100) (h6 : a5 = (a0 / 10)) : a5 < ((6 : Nat) : Int) := by omega
theorem mp_o1976 {a0 : Int} {a1 : Int} (h0 : (0 ≤ a0 ∧ a0 ≤ 5)) (h1 : a0 = a1) : (-2147483648) ≤ (6 * a0) := by omega
theorem mp_o1977 {a0 : Int} {a1 : Int} (h0 : (0 ≤ a0 ∧ a0 ≤ 5)) (h1 : a0 = a1) : (6 * a0) ≤ 2147483647 := by omega
theorem mp_o1978 {a0 : Int} {a1 : Int} {a2 : Int} {a3 : Int} {a4 : Int} {a5 : Int} (h0 : a0 = a1) (h1 : (0 ≤ a2 ∧ a2 ≤ 5)) (h2 : a2 = a3) (h3 : a4 = (6 * a2)) (h4 : a5 = (a0 % 10)) : (-2147483648) ≤ (a4 + a5) := by omega
theorem mp_o1979 {a0 : Int} {a1 : Int} {a2 : Int} {a3 : Int} {a4 : Int} {a5 : Int} (h0 : a0 = a1) (h1 : (0 ≤ a2 ∧ a2 ≤ 5)) (h2 : a2 = a3) (h3 : a4 = (6 * a2)) (h4 : a5 = (a0 % 10)) : (a4 + a5) ≤ 2147483647 := by omega
theorem mp_o1980 {a0 : Int} {a1 : Int} {a2 : Int} {a3 : Int} {a4 : Int} {a5 : Int} {a6 : Int} (h0 : a0 = a1) (h1 : (0 ≤ a2 ∧ a2 ≤ 5)) (h2 : a2 = a3) (h3 : a4 = (6 * a2)) (h4 : a5 = (a0 % 10)) (h5 : a6 = (a4 + a5)) : ((0 ≤ a6 ∧ a6 < ((180 : Nat) : Int))) := by omega
theorem mp_o1981 {a0 : Int} {a1 : Int} {a2 : Int} {a3 : Int} {a4 : Int} {a5 : Int} {a6 : Int} (h0 : a0 = a1) (h1 : (0 ≤ a2 ∧ a2 ≤ 5)) (h2 : a2 = a3) (h3 : a4 = (6 * a2)) (h4 : a5 = (a0 % 10)) (h5 : a6 = (a4 + a5)) : 0 ≤ a6 := by omega
theorem mp_o1982 {a0 : Int} {a1 : Int} {a2 : Int} {a3 : Int} {a4 : Int} {a5 : Int} {a6 : Int} (h0 : a0 = a1) (h1 : (0 ≤ a2 ∧ a2 ≤ 5)) (h2 : a2 = a3) (h3 : a4 = (6 * a2)) (h4 : a5 = (a0 % 10)) (h5 : a6 = (a4 + a5)) : a6 < ((180 : Nat) : Int) := by omega
theorem mp_o1983 {a0 : Int} {a1 : Int} {a2 : Int} {a3 : Int} {a4 : Int} {a5 : Int} {a6 : Int} (h0 : a0 = a1) (h1 : (0 ≤ a2 ∧ a2 ≤ 5)) (h2 : a2 = a3) (h3 : a4 = (6 * a2)) (h4 : a5 = (a0 % 10)) (h5 : a6 = (a4 + a5)) : a6 = (((Int.toNat (((6 * a3) + (a0 % 10)))) : Nat) : Int) := by omega
theorem mp_o1984 {a0 : Int} {a1 : Int} {a2 : Int} {a3 : Int} {a4 : Int} {a5 : Int} {a6 : Int} {a7 : Int} {a8 : Int} {a9 : Int} {a10 : Int} (h0 : (a0 = 200 ∨ ((100 ≤ a0 ∧ a0 ≤ 109) ∨ (0 ≤ a0 ∧ (a0 ≤ 55 ∧ (a0 % 10) ≤ 5))))) (h1 : ((a0 = 200 ∧ a1 = (a2 + 1)) ∨ (a0 ≠ 200 ∧ a1 = a2))) (h2 : a0 = a3) (h3 : a0 ≠ a4) (h4 : a0 ≠ 200) (h5 : a0 < 100) (h6 : a5 = (a0 / 10)) (h7 : a6 = a7) (h8 : a8 = (6 * a6)) (h9 : a9 = (a0 % 10)) (h10 : a10 = (a8 + a9)) : ((0 ≤ a5 ∧ a5 < ((6 : Nat) : Int))) := by omega
theorem mp_o1985 {a0 : Int} {a1 : Int} {a2 : Int} {a3 : Int} {a4 : Int} {a5 : Int} {a6 : Int} {a7 : Int} {a8 : Int} {a9 : Int} (h0 : (a0 = 200 ∨ ((100 ≤ a0 ∧ a0 ≤ 109) ∨ (0 ≤ a0 ∧ (a0 ≤ 55 ∧ (a0 % 10) ≤ 5))))) (h1 : ((a0 = 200 ∧ a1 = (a2 + 1)) ∨ (a0 ≠ 200 ∧ a1 = a2))) (h2 : a0 = a3) (h3 : a0 ≠ a4) (h4 : a0 ≠ 200) (h5 : a5 = a6) (h6 : a7 = (6 * a5)) (h7 : a8 = (a0 % 10)) (h8 : a9 = (a7 + a8)) : 0 ≤ a0 := by omega
theorem mp_o1986 {a0 : Int} {a1 : Int} {a2 : Int} {a3 : Int} {a4 : Int} {a5 : Int} {a6 : Int} {a7 : Int} {a8 : Int} {a9 : Int} {a10 : Int} {a11 : Int} (h0 : (a0 = 200 ∨ ((100 ≤ a0 ∧ a0 ≤ 109) ∨ (0 ≤ a0 ∧ (a0 ≤ 55 ∧ (a0 % 10) ≤ 5))))) (h1 : ((a0 = 200 ∧ a1 = (a2 + 1)) ∨ (a0 ≠ 200 ∧ a1 = a2))) (h2 : a0 = a3) (h3 : a0 ≠ a4) (h4 : a0 ≠ 200) (h5 : a0 < 100) (h6 : a5 = (a0 / 10)) (h7 : a6 = a7) (h8 : a8 = (6 * a6)) (h9 : a9 = (a0 % 10)) (h10 : a10 = (a8 + a9)) (h11 : a11 = (a0 % 10)) : ((0 ≤ a5 ∧ a5 < ((6 : Nat) : Int))) := by omega
theorem mp_o1987 {a0 : Int} {a1 : Int} {a2 : Int} {a3 : Int} {a4 : Int} {a5 : Int} {a6 : Int} {a7 : Int} (h0 : a0 = a1) (h1 : a2 = a3) (h2 : a4 = (6 * a2)) (h3 : a5 = (a0 % 10)) (h4 : a6 = (a4 + a5)) (h5 : a7 = (a0 % 10)) : 0 ≤ a7 := by omega
theorem mp_o1988 {a0 : Int} {a1 : Int} {a2 : Int} {a3 : Int} {a4 : Int} {a5 : Int} {a6 : Int} {a7 : Int} {a8 : Int} {a9 : Int} {a10 : Int} (h0 : (a0 = 200 ∨ ((100 ≤ a0 ∧ a0 ≤ 109) ∨ (0 ≤ a0 ∧ (a0 ≤ 55 ∧ (a0 % 10) ≤ 5))))) (h1 : ((a0 = 200 ∧ a1 = (a2 + 1)) ∨ (a0 ≠ 200 ∧ a1 = a2))) (h2 : a0 = a3) (h3 : a0 ≠ a4) (h4 : a0 ≠ 200) (h5 : a0 < 100) (h6 : a5 = a6) (h7 : a7 = (6 * a5)) (h8 : a8 = (a0 % 10)) (h9 : a9 = (a7 + a8)) (h10 : a10 = (a0 % 10)) : a10 ≤ 5 := by omega
theorem mp_o1989 {a0 : Int} {a1 : Int} {a2 : Nat} {a3 : Int} {a4 : Int} (h0 : (a0 - a1) ≤ ((a2 : Nat) : Int)) (h1 : a3 = a0) (h2 : a1 < a3) (h3 : a4 = (a1 + 1)) : (a2 - 1) < a2 := by omega
theorem mp_o1990 {a0 : Int} {a1 : Int} {a2 : Int} (h0 : 0 ≤ a0) (h1 : a0 ≤ 60) (h2 : (0 ≤ a1 ∧ a1 ≤ 60)) (h3 : a0 < a1) (h4 : a2 = (a0 + 1)) : a2 ≤ 60 := by omega
theorem mp_o1991 {a0 : Int} {a1 : Int} {a2 : Int} {a3 : Int} {a4 : Int} {a5 : Int} {a6 : Int} {a7 : Int} {a8 : Int} {a9 : Int} {a10 : Int} {a11 : Int} {a12 : Int} {a13 : Int} (h0 : a0 = a1) (h1 : a2 = (a1 + a3)) (h2 : ((a4 = 200 ∧ a5 = (a3 + 1)) ∨ (a4 ≠ 200 ∧ a5 = a3))) (h3 : a4 = a6) (h4 : a4 ≠ a7) (h5 : a4 ≠ 200) (h6 : a4 < 100) (h7 : a8 = a9) (h8 : a10 = (6 * a8)) (h9 : a11 = (a4 % 10)) (h10 : a12 = (a10 + a11)) (h11 : a13 = (a4 % 10)) : a2 = (a1 + a5) := by omega
theorem mp_o1992 {a0 : Int} {a1 : Int} {a2 : Int} {a3 : Int} (h0 : a0 = a1) (h1 : a2 < a0) (h2 : a3 = (a2 + 1)) : a3 ≤ a1 := by omega
theorem mp_o1993 {a0 : Int} {a1 : Int} {a2 : Int} {a3 : Int} {a4 : Int} {a5 : Int} {a6 : Int} {a7 : Int} {a8 : Int} {a9 : Int} {a10 : Int} (h0 : (a0 = 200 ∨ ((100 ≤ a0 ∧ a0 ≤ 109) ∨ (0 ≤ a0 ∧ (a0 ≤ 55 ∧ (a0 % 10) ≤ 5))))) (h1 : ((a0 = 200 ∧ a1 = (a2 + 1)) ∨ (a0 ≠ 200 ∧ a1 = a2))) (h2 : a0 = a3) (h3 : a0 ≠ a4) (h4 : a0 ≠ 200) (h5 : a5 = a6) (h6 : a7 = (6 * a5)) (h7 : a8 = (a0 % 10)) (h8 : a9 = (a7 + a8)) (h9 : a10 = (a0 % 10)) : ((a0 = a3 ∧ 0 ≤ a0)) := by omega
theorem mp_o1994 {a0 : Int} {a1 : Int} {a2 : Nat} {a3 : Int} {a4 : Int} (h0 : (a0 - a1) ≤ ((a2 : Nat) : Int)) (h1 : a3 = a0) (h2 : a1 < a3) (h3 : a4 = (a1 + 1)) : (a0 - a4) ≤ ((((a2 - 1)) : Nat) : Int) := by omega
theorem mp_o1995 {a0 : Int} {a1 : Int} (h0 : a0 = a1) (h1 : 100 ≤ a0) : (-2147483648) ≤ (a0 - 100) := by omega
theorem mp_o1996 {a0 : Int} {a1 : Int} {a2 : Int} {a3 : Int} {a4 : Int} (h0 : (a0 = 200 ∨ ((100 ≤ a0 ∧ a0 ≤ 109) ∨ (0 ≤ a0 ∧ (a0 ≤ 55 ∧ (a0 % 10) ≤ 5))))) (h1 : ((a0 = 200 ∧ a1 = (a2 + 1)) ∨ (a0 ≠ 200 ∧ a1 = a2))) (h2 : a0 = a3) (h3 : a0 ≠ a4) (h4 : a0 ≠ 200) : (a0 - 100) ≤ 2147483647 := by omega
theorem mp_o1997 {a0 : Int} {a1 : Int} {a2 : Int} (h0 : a0 = a1) (h1 : 100 ≤ a0) (h2 : a2 = (a0 - 100)) : (-2147483648) ≤ (150 * a2) := by omega
theorem mp_o1998 {a0 : Int} {a1 : Int} {a2 : Int} {a3 : Int} {a4 : Int} {a5 : Int} (h0 : (a0 = 200 ∨ ((100 ≤ a0 ∧ a0 ≤ 109) ∨ (0 ≤ a0 ∧ (a0 ≤ 55 ∧ (a0 % 10) ≤ 5))))) (h1 : ((a0 = 200 ∧ a1 = (a2 + 1)) ∨ (a0 ≠ 200 ∧ a1 = a2))) (h2 : a0 = a3) (h3 : a0 ≠ a4) (h4 : a0 ≠ 200) (h5 : a5 = (a0 - 100)) : (150 * a5) ≤ 2147483647 := by omega
theorem mp_o1999 {a0 : Int} {a1 : Int} {a2 : Int} {a3 : Int} {a4 : Int} (h0 : 0 ≤ a0) (h1 : a0 ≤ 99) (h2 : a1 = a2) (h3 : 100 ≤ a1) (h4 : a3 = (a1 - 100)) (h5 : a4 = (150 * a3)) : (-2147483648) ≤ (a4 + a0) := by omega
theorem mp_o2000 {a0 : Int} {a1 : Int} {a2 : Int} {a3 : Int} {a4 : Int} {a5 : Int} {a6 : Int} {a7 : Int} (h0 : 0 ≤ a0) (h1 : a0 ≤ 99) (h2 : (a1 = 200 ∨ ((100 ≤ a1 ∧ a1 ≤ 109) ∨ (0 ≤ a1 ∧ (a1 ≤ 55 ∧ (a1 % 10) ≤ 5))))) (h3 : ((a1 = 200 ∧ a2 = (a3 + 1)) ∨ (a1 ≠ 200 ∧ a2 = a3))) (h4 : a1 = a4) (h5 : a1 ≠ a5) (h6 : a1 ≠ 200) (h7 : 100 ≤ a1) (h8 : a6 = (a1 - 100)) (h9 : a7 = (150 * a6)) : (a7 + a0) ≤ 2147483647 := by omega
theorem mp_o2001 {a0 : Int} {a1 : Int} {a2 : Int} {a3 : Int} {a4 : Int} {a5 : Int} {a6 : Int} {a7 : Int} {a8 : Int} (h0 : 0 ≤ a0) (h1 : a0 ≤ 99) (h2 : (a1 = 200 ∨ ((100 ≤ a1 ∧ a1 ≤ 109) ∨ (0 ≤ a1 ∧ (a1 ≤ 55 ∧ (a1 % 10) ≤ 5))))) (h3 : ((a1 = 200 ∧ a2 = (a3 + 1)) ∨ (a1 ≠ 200 ∧ a2 = a3))) (h4 : a1 = a4) (h5 : a1 ≠ a5) (h6 : a1 ≠ 200) (h7 : 100 ≤ a1) (h8 : a6 = (a1 - 100)) (h9 : a7 = (150 * a6)) (h10 : a8 = (a7 + a0)) : ((0 ≤ a8 ∧ a8 < ((1500 : Nat) : Int))) := by omega
theorem mp_o2002 {a0 : Int} {a1 : Int} {a2 : Int} {a3 : Int} {a4 : Int} {a5 : Int} {a6 : Int} {a7 : Int} {a8 : Int} (h0 : a0 = a1) (h1 : a2 = (a1 + a3)) (h2 : ((a4 = 200 ∧ a5 = (a3 + 1)) ∨ (a4 ≠ 200 ∧ a5 = a3))) (h3 : a4 = a6) (h4 : a4 ≠ a7) (h5 : a4 ≠ 200) (h6 : 100 ≤ a4) (h7 : a8 = (a4 - 100)) : a2 = (a1 + a5) := by omega
theorem mp_o2003 {a0 : Int} {a1 : Int} {a2 : Int} (h0 : a0 = a1) (h1 : 100 ≤ a0) (h2 : a2 = (a0 - 100)) : ((a0 = a1 ∧ 0 ≤ a0)) := by omega
theorem mp_o2004 {a0 : Int} {a1 : Int} : (a0 + a1) = (a0 + a1) := by omega
theorem mp_o2005 {a0 : Int} {a1 : Int} {a2 : Int} {a3 : Int} {a4 : Int} {a5 : Int} {a6 : Int} {a7 : Int} {a8 : Int} (h0 : (a0 + a1) ≤ 99) (h1 : a2 = a0) (h2 : 0 ≤ a3) (h3 : a3 ≤ 99) (h4 : a3 = (a0 + a4)) (h5 : ((a5 = 200 ∧ a6 = (a4 + 1)) ∨ (a5 ≠ 200 ∧ a6 = a4))) (h6 : a6 ≤ a1) (h7 : a5 = a7) (h8 : a5 = 200) (h9 : a8 = (a3 + 1)) : a8 ≤ 99 := by omega
theorem mp_o2006 {a0 : Int} {a1 : Int} {a2 : Int} {a3 : Int} {a4 : Int} {a5 : Int} {a6 : Int} {a7 : Int} (h0 : a0 = a1) (h1 : a2 = (a1 + a3)) (h2 : ((a4 = 200 ∧ a5 = (a3 + 1)) ∨ (a4 ≠ 200 ∧ a5 = a3))) (h3 : a4 = a6) (h4 : a4 = 200) (h5 : a7 = (a2 + 1)) : a7 = (a1 + a5) := by omega
theorem mp_o2007 {a0 : Int} {a1 : Int} (h0 : a0 = a1) (h1 : a0 = 200) : 100 ≤ a0 := by omega
theorem mp_o2008 {a0 : Int} {a1 : Int} (h0 : a0 = a1) (h1 : a0 = 200) : ((a0 = a1 ∧ 0 ≤ a0)) := by omega
theorem mp_o2009 {a0 : Int} {a1 : Int} (h0 : a0 = a1) : a0 = (a1 + 0) := by omega
theorem mp_o2010 {a0 : Int} (h0 : (0 ≤ a0 ∧ a0 ≤ 60)) : 0 ≤ a0 := by omega
theorem mp_o2011 {a0 : Int} (h0 : 0 ≤ a0) (h1 : a0 ≤ 1600) (h2 : a0 < 1500) : ((0 ≤ a0 ∧ a0 < ((1500 : Nat) : Int))) := by omega
theorem mp_o2012 {a0 : Int} (h0 : 0 ≤ a0) (h1 : a0 ≤ 1600) (h2 : a0 < 1500) : (-2147483648) ≤ (a0 + 1) := by omega
theorem mp_o2013 {a0 : Int} (h0 : 0 ≤ a0) (h1 : a0 ≤ 1600) (h2 : a0 < 1500) : (a0 + 1) ≤ 2147483647 := by omega
theorem mp_o2014 {a0 : Int} {a1 : Nat} {a2 : Int} (h0 : 0 ≤ a0) (h1 : a0 ≤ 1600) (h2 : ((-a0) + 1500) ≤ ((a1 : Nat) : Int)) (h3 : a0 < 1500) (h4 : a2 = (a0 + 1)) : (a1 - 1) < a1 := by omega
theorem mp_o2015 {a0 : Int} {a1 : Int} (h0 : 0 ≤ a0) (h1 : a0 ≤ 1600) (h2 : a0 < 1500) (h3 : a1 = (a0 + 1)) : 0 ≤ a1 := by omega
theorem mp_o2016 {a0 : Int} {a1 : Int} (h0 : 0 ≤ a0) (h1 : a0 ≤ 1600) (h2 : a0 < 1500) (h3 : a1 = (a0 + 1)) : a1 ≤ 1600 := by omega
theorem mp_o2017 {a0 : Int} {a1 : Nat} {a2 : Int} (h0 : 0 ≤ a0) (h1 : a0 ≤ 1600) (h2 : ((-a0) + 1500) ≤ ((a1 : Nat) : Int)) (h3 : a0 < 1500) (h4 : a2 = (a0 + 1)) : ((-a2) + 1500) ≤ ((((a1 - 1)) : Nat) : Int) := by omega
theorem mp_o2018 {a0 : Int} (h0 : 0 ≤ a0) (h1 : a0 ≤ 6) : (-2147483648) ≤ (3 * a0) := by omega
theorem mp_o2019 {a0 : Int} (h0 : 0 ≤ a0) (h1 : a0 ≤ 6) : (3 * a0) ≤ 2147483647 := by omega
theorem mp_o2020 {a0 : Int} {a1 : Int} {a2 : Int} (h0 : 0 ≤ a0) (h1 : a0 ≤ 6) (h2 : (0 ≤ a1 ∧ a1 ≤ 6)) (h3 : a0 < a1) (h4 : a2 = (3 * a0)) : ((0 ≤ a2 ∧ a2 < ((90 : Nat) : Int))) := by omega
theorem mp_o2021 {a0 : Int} {a1 : Int} (h0 : 0 ≤ a0) (h1 : a0 ≤ 6) (h2 : a1 = (3 * a0)) : 0 ≤ a1 := by omega
theorem mp_o2022 {a0 : Int} {a1 : Int} {a2 : Int} (h0 : (0 ≤ a0 ∧ a0 ≤ 6)) (h1 : a1 < a0) (h2 : a2 = (3 * a1)) : a2 < ((90 : Nat) : Int) := by omega
theorem mp_o2023 {a0 : Int} {a1 : Int} (h0 : a0 = (3 * a1)) : (a0 % ((3 : Nat) : Int)) = ((0 : Nat) : Int) := by omega
theorem mp_o2024 {a0 : Int} {a1 : Int} (h0 : 0 ≤ a0) (h1 : a0 ≤ 6) (h2 : a1 = (3 * a0)) : a1 = ((((3 * (Int.toNat a0))) : Nat) : Int) := by omega
theorem mp_o2025 {a0 : Int} {a1 : Int} (h0 : 0 ≤ a0) (h1 : a0 ≤ 6) (h2 : (0 ≤ a1 ∧ a1 ≤ 6)) (h3 : a0 < a1) : ((0 ≤ a0 ∧ a0 < ((6 : Nat) : Int))) := by omega
theorem mp_o2026 {a0 : Int} {a1 : Int} {a2 : Int} (h0 : 0 ≤ a0) (h1 : a0 ≤ 6) (h2 : (0 ≤ a1 ∧ a1 ≤ 6)) (h3 : a0 < a1) (h4 : a2 = (a0 + 1)) : a2 ≤ 6 := by omega
theorem mp_o2027 {a0 : Int} {a1 : Int} (h0 : 0 ≤ a0) (h1 : a0 ≤ 9) (h2 : a1 = (6 * a0)) : (-2147483648) ≤ (a1 + 3) := by omega
theorem mp_o2028 {a0 : Int} {a1 : Int} {a2 : Int} (h0 : 0 ≤ a0) (h1 : a0 ≤ 9) (h2 : a1 = (6 * a0)) (h3 : a2 = (a1 + 3)) : ((0 ≤ a2 ∧ a2 < ((300 : Nat) : Int))) := by omega
theorem mp_o2029 {a0 : Int} {a1 : Int} {a2 : Int} (h0 : 0 ≤ a0) (h1 : a0 ≤ 9) (h2 : a1 = (6 * a0)) (h3 : a2 = (a1 + 3)) : 0 ≤ a2 := by omega
theorem mp_o2030 {a0 : Int} {a1 : Int} {a2 : Int} (h0 : a0 = (6 * a1)) (h1 : a2 = (a0 + 3)) : (a2 % ((6 : Nat) : Int)) = ((3 : Nat) : Int) := by omega
theorem mp_o2031 {a0 : Int} {a1 : Int} {a2 : Int} (h0 : 0 ≤ a0) (h1 : a0 ≤ 9) (h2 : a1 = (6 * a0)) (h3 : a2 = (a1 + 3)) : a2 = (((Int.toNat (((6 * a0) + 3))) : Nat) : Int) := by omega
theorem mp_o2032 {a0 : Int} {a1 : Int} {a2 : Int} (h0 : a0 = (6 * a1)) (h1 : a2 = (a0 + 3)) : a2 = ((6 * a1) + ((3 : Nat) : Int)) := by omega
theorem mp_o2033 {a0 : Int} {a1 : Int} (h0 : 0 ≤ a0) (h1 : a0 ≤ 9) (h2 : a1 = (6 * a0)) : (-2147483648) ≤ (a1 + 0) := by omega
theorem mp_o2034 {a0 : Int} {a1 : Int} {a2 : Int} (h0 : 0 ≤ a0) (h1 : a0 ≤ 9) (h2 : a1 = (6 * a0)) (h3 : a2 = (a1 + 0)) : ((0 ≤ a2 ∧ a2 < ((300 : Nat) : Int))) := by omega
theorem mp_o2035 {a0 : Int} {a1 : Int} {a2 : Int} (h0 : a0 = (6 * a1)) (h1 : a2 = (a0 + 0)) : (a2 % ((6 : Nat) : Int)) = ((0 : Nat) : Int) := by omega
theorem mp_o2036 {a0 : Int} {a1 : Int} {a2 : Int} (h0 : 0 ≤ a0) (h1 : a0 ≤ 9) (h2 : a1 = (6 * a0)) (h3 : a2 = (a1 + 0)) : a2 = (((Int.toNat ((6 * a0))) : Nat) : Int) := by omega
theorem mp_o2037 {a0 : Int} {a1 : Int} {a2 : Int} (h0 : a0 = (6 * a1)) (h1 : a2 = (a0 + 0)) : a2 = ((6 * a1) + ((0 : Nat) : Int)) := by omega
theorem mp_o2038 {a0 : Int} {a1 : Int} (h0 : 0 ≤ a0) (h1 : a0 ≤ 9) (h2 : a1 = (6 * a0)) : (-2147483648) ≤ (a1 + 4) := by omega
theorem mp_o2039 {a0 : Int} {a1 : Int} {a2 : Int} (h0 : 0 ≤ a0) (h1 : a0 ≤ 9) (h2 : a1 = (6 * a0)) (h3 : a2 = (a1 + 4)) : ((0 ≤ a2 ∧ a2 < ((300 : Nat) : Int))) := by omega
theorem mp_o2040 {a0 : Int} {a1 : Int} {a2 : Int} (h0 : 0 ≤ a0) (h1 : a0 ≤ 9) (h2 : a1 = (6 * a0)) (h3 : a2 = (a1 + 4)) : a2 = (((Int.toNat (((6 * a0) + 4))) : Nat) : Int) := by omega
theorem mp_o2041 {a0 : Int} {a1 : Int} {a2 : Int} (h0 : a0 = (6 * a1)) (h1 : a2 = (a0 + 4)) : a2 = ((6 * a1) + ((4 : Nat) : Int)) := by omega
theorem mp_o2042 {a0 : Int} {a1 : Int} (h0 : 0 ≤ a0) (h1 : a0 ≤ 9) (h2 : a1 = (6 * a0)) : (-2147483648) ≤ (a1 + 5) := by omega
theorem mp_o2043 {a0 : Int} {a1 : Int} (h0 : 0 ≤ a0) (h1 : a0 ≤ 9) (h2 : a1 = (6 * a0)) : (a1 + 5) ≤ 2147483647 := by omega
theorem mp_o2044 {a0 : Int} {a1 : Int} {a2 : Int} (h0 : 0 ≤ a0) (h1 : a0 ≤ 9) (h2 : a1 = (6 * a0)) (h3 : a2 = (a1 + 5)) : ((0 ≤ a2 ∧ a2 < ((300 : Nat) : Int))) := by omega
theorem mp_o2045 {a0 : Int} {a1 : Int} {a2 : Int} (h0 : 0 ≤ a0) (h1 : a0 ≤ 9) (h2 : a1 = (6 * a0)) (h3 : a2 = (a1 + 5)) : a2 = (((Int.toNat (((6 * a0) + 5))) : Nat) : Int) := by omega
theorem mp_o2046 {a0 : Int} {a1 : Int} {a2 : Int} (h0 : a0 = (6 * a1)) (h1 : a2 = (a0 + 5)) : a2 = ((6 * a1) + ((5 : Nat) : Int)) := by omega
theorem mp_o2047 {a0 : Int} {a1 : Nat} {a2 : Int} {a3 : Int} (h0 : a0 < ((a1 : Nat) : Int)) (h1 : ((-1) ≤ a2 ∧ a2 < a0)) (h2 : a3 = a2) : (a1 - 1) < a1 := by omega
theorem mp_o2048 {a0 : Int} {a1 : Int} {a2 : Int} {a3 : Int} (h0 : a0 = a1) (h1 : ((-1) ≤ a1 ∧ a1 < a2)) (h2 : a0 ≠ (-1)) (h3 : a3 = a1) : 0 ≤ a3 := by omega
theorem mp_o2049 {a0 : Int} {a1 : Int} {a2 : Int} (h0 : 0 ≤ a0) (h1 : a0 ≤ 9) (h2 : ((-1) ≤ a1 ∧ a1 < a0)) (h3 : a2 = a1) : a2 ≤ 9 := by omega
theorem mp_o2050 {a0 : Int} {a1 : Int} {a2 : Int} {a3 : Int} (h0 : a0 < a1) (h1 : ((-1) ≤ a2 ∧ a2 < a0)) (h2 : a3 = a2) : a3 < a1 := by omega
theorem mp_o2051 {a0 : Int} {a1 : Nat} {a2 : Int} {a3 : Int} (h0 : a0 < ((a1 : Nat) : Int)) (h1 : ((-1) ≤ a2 ∧ a2 < a0)) (h2 : a3 = a2) : a3 < ((((a1 - 1)) : Nat) : Int) := by omega
theorem mp_o2052 {a0 : Int} {a1 : Nat} {a2 : Int} {a3 : Int} (h0 : a0 < ((a1 : Nat) : Int)) (h1 : ((-1) ≤ a2 ∧ a2 < a0)) (h2 : a3 = a2) : ((2 + (1 * ((a1 - 1)))) + 1) ≤ (2 + (1 * a1)) := by omega
theorem mp_o2053 {a0 : Int} {a1 : Nat} {a2 : Int} {a3 : Int} (h0 : a0 < ((a1 : Nat) : Int)) (h1 : ((-1) ≤ a2 ∧ a2 < a0)) (h2 : a3 = a2) : ((8 + ((5 + 11))) + ((47 + (24 * ((a1 - 1)))))) ≤ (47 + (24 * a1)) := by omega
theorem mp_o2054 {a0 : Int} (h0 : 0 ≤ a0) (h1 : a0 ≤ 99) : a0 ≤ 139 := by omega
theorem mp_o2055 {a0 : Int} {a1 : Int} (h0 : 0 ≤ a0) (h1 : a0 ≤ 9) (h2 : a1 = (6 * a0)) : (-2147483648) ≤ (a1 + 2) := by omega
theorem mp_o2056 {a0 : Int} {a1 : Int} (h0 : 0 ≤ a0) (h1 : a0 ≤ 9) (h2 : a1 = (6 * a0)) : (a1 + 2) ≤ 2147483647 := by omega
theorem mp_o2057 {a0 : Int} {a1 : Int} {a2 : Int} (h0 : 0 ≤ a0) (h1 : a0 ≤ 9) (h2 : a1 = (6 * a0)) (h3 : a2 = (a1 + 2)) : ((0 ≤ a2 ∧ a2 < ((300 : Nat) : Int))) := by omega
theorem mp_o2058 {a0 : Int} {a1 : Int} {a2 : Int} (h0 : 0 ≤ a0) (h1 : a0 ≤ 9) (h2 : a1 = (6 * a0)) (h3 : a2 = (a1 + 2)) : a2 = (((Int.toNat (((6 * a0) + 2))) : Nat) : Int) := by omega
theorem mp_o2059 {a0 : Int} {a1 : Int} {a2 : Int} (h0 : a0 = (6 * a1)) (h1 : a2 = (a0 + 2)) : a2 = ((6 * a1) + ((2 : Nat) : Int)) := by omega
theorem mp_o2060 {a0 : Int} (h0 : a0 ≤ 20) : (20 < a0) → False := by omega
theorem mp_o2061 {a0 : Int} (h0 : 0 ≤ a0) (h1 : a0 ≤ 100) (h2 : a0 < 100) : a0 ≤ 139 := by omega
theorem mp_o2062 {a0 : Int} (h0 : 0 ≤ a0) (h1 : a0 ≤ 100) (h2 : a0 < 100) : (-2147483648) ≤ (a0 + 1) := by omega
theorem mp_o2063 {a0 : Int} (h0 : 0 ≤ a0) (h1 : a0 ≤ 100) (h2 : a0 < 100) : (a0 + 1) ≤ 2147483647 := by omega
theorem mp_o2064 {a0 : Int} {a1 : Nat} {a2 : Int} (h0 : 0 ≤ a0) (h1 : a0 ≤ 100) (h2 : ((-a0) + 100) ≤ ((a1 : Nat) : Int)) (h3 : a0 < 100) (h4 : a2 = (a0 + 1)) : (a1 - 1) < a1 := by omega
theorem mp_o2065 {a0 : Int} {a1 : Int} (h0 : 0 ≤ a0) (h1 : a0 ≤ 100) (h2 : a0 < 100) (h3 : a1 = (a0 + 1)) : 0 ≤ a1 := by omega
theorem mp_o2066 {a0 : Int} {a1 : Int} (h0 : 0 ≤ a0) (h1 : a0 ≤ 100) (h2 : a0 < 100) (h3 : a1 = (a0 + 1)) : a1 ≤ 100 := by omega
theorem mp_o2067 {a0 : Int} {a1 : Nat} {a2 : Int} (h0 : 0 ≤ a0) (h1 : a0 ≤ 100) (h2 : ((-a0) + 100) ≤ ((a1 : Nat) : Int)) (h3 : a0 < 100) (h4 : a2 = (a0 + 1)) : ((-a2) + 100) ≤ ((((a1 - 1)) : Nat) : Int) := by omega
theorem mp_o2068 {a0 : Int} (h0 : 0 ≤ a0) (h1 : a0 ≤ 100) (h2 : a0 < 100) : (-2) ≤ a0 := by omega
theorem mp_o2069 {a0 : Int} (h0 : 0 ≤ a0) (h1 : a0 ≤ 100) (h2 : a0 < 100) : a0 ≤ 99 := by omega
theorem mp_o2070 {a0 : Int} {a1 : Int} {a2 : Int} (h0 : 0 ≤ a0) (h1 : a0 < a1) (h2 : a0 ≤ 5) (h3 : 0 ≤ a2) (h4 : a2 < a1) (h5 : a2 ≤ 5) (h6 : a0 ≠ a2) : ((0 ≤ a0 ∧ (a0 < a1 ∧ (0 ≤ a2 ∧ (a2 < a1 ∧ a0 ≠ a2))))) := by omega
theorem mp_o2071 {a0 : Int} {a1 : Int} (h0 : 0 ≤ a0) (h1 : a0 ≤ 9) (h2 : a1 = (6 * a0)) : (-2147483648) ≤ (a1 + 1) := by omega
theorem mp_o2072 {a0 : Int} {a1 : Int} (h0 : 0 ≤ a0) (h1 : a0 ≤ 9) (h2 : a1 = (6 * a0)) : (a1 + 1) ≤ 2147483647 := by omega
theorem mp_o2073 {a0 : Int} {a1 : Int} {a2 : Int} (h0 : 0 ≤ a0) (h1 : a0 ≤ 9) (h2 : a1 = (6 * a0)) (h3 : a2 = (a1 + 1)) : ((0 ≤ a2 ∧ a2 < ((300 : Nat) : Int))) := by omega
theorem mp_o2074 {a0 : Int} {a1 : Int} {a2 : Int} (h0 : 0 ≤ a0) (h1 : a0 ≤ 9) (h2 : a1 = (6 * a0)) (h3 : a2 = (a1 + 1)) : 0 ≤ a2 := by omega
theorem mp_o2075 {a0 : Int} {a1 : Int} {a2 : Int} (h0 : 0 ≤ a0) (h1 : a0 ≤ 9) (h2 : a1 = (6 * a0)) (h3 : a2 = (a1 + 1)) : a2 < ((300 : Nat) : Int) := by omega
theorem mp_o2076 {a0 : Int} {a1 : Int} {a2 : Int} (h0 : a0 = (6 * a1)) (h1 : a2 = (a0 + 1)) : (a2 % ((6 : Nat) : Int)) = ((1 : Nat) : Int) := by omega
theorem mp_o2077 {a0 : Int} {a1 : Int} {a2 : Int} (h0 : 0 ≤ a0) (h1 : a0 ≤ 9) (h2 : a1 = (6 * a0)) (h3 : a2 = (a1 + 1)) : a2 = (((Int.toNat (((6 * a0) + 1))) : Nat) : Int) := by omega
theorem mp_o2078 {a0 : Int} {a1 : Int} {a2 : Int} (h0 : a0 = (6 * a1)) (h1 : a2 = (a0 + 1)) : a2 = ((6 * a1) + ((1 : Nat) : Int)) := by omega
theorem mp_o2079 {a0 : Int} {a1 : Int} (h0 : 0 ≤ a0) (h1 : a0 ≤ 10) (h2 : (0 ≤ a1 ∧ a1 ≤ 10)) (h3 : a0 < a1) : a0 ≤ 9 := by omega
theorem mp_o2080 {a0 : Int} {a1 : Int} {a2 : Int} (h0 : 0 ≤ a0) (h1 : a0 ≤ 10) (h2 : (0 ≤ a1 ∧ a1 ≤ 10)) (h3 : a0 < a1) (h4 : a2 = (a0 + 1)) : a2 ≤ 10 := by omega
theorem mp_o2081 {a0 : Int} {a1 : Int} {a2 : Int} (h0 : a0 = a1) (h1 : a2 < a0) : a2 < a1 := by omega
theorem mp_o2082 {a0 : Int} {a1 : Int} (h0 : 0 ≤ a0) (h1 : a0 ≤ 6) (h2 : a0 = a1) : (-2147483648) ≤ (a0 + 1) := by omega
theorem mp_o2083 {a0 : Int} {a1 : Int} (h0 : 0 ≤ a0) (h1 : a0 ≤ 6) (h2 : a0 = a1) : (a0 + 1) ≤ 2147483647 := by omega
theorem mp_o2084 {a0 : Int} {a1 : Int} {a2 : Nat} {a3 : Int} {a4 : Int} {a5 : Int} (h0 : (a0 - a1) ≤ ((a2 : Nat) : Int)) (h1 : a3 = a0) (h2 : a1 < a3) (h3 : a1 = a4) (h4 : a5 = (a1 + 1)) : (a2 - 1) < a2 := by omega
theorem mp_o2085 {a0 : Int} {a1 : Int} {a2 : Int} (h0 : 0 ≤ a0) (h1 : a0 ≤ 6) (h2 : a0 = a1) (h3 : a2 = (a0 + 1)) : 0 ≤ a2 := by omega
theorem mp_o2086 {a0 : Int} {a1 : Int} {a2 : Int} {a3 : Int} (h0 : 0 ≤ a0) (h1 : a0 ≤ 6) (h2 : (0 ≤ a1 ∧ a1 ≤ 6)) (h3 : a0 < a1) (h4 : a0 = a2) (h5 : a3 = (a0 + 1)) : a3 ≤ 6 := by omega
theorem mp_o2087 {a0 : Int} {a1 : Int} {a2 : Nat} {a3 : Int} {a4 : Int} {a5 : Int} (h0 : (a0 - a1) ≤ ((a2 : Nat) : Int)) (h1 : a3 = a0) (h2 : a1 < a3) (h3 : a1 = a4) (h4 : a5 = (a1 + 1)) : (a0 - a5) ≤ ((((a2 - 1)) : Nat) : Int) := by omega
theorem mp_o2088 {a0 : Int} {a1 : Int} (h0 : a0 = a1) (h1 : a0 ≤ 0) : a1 ≤ 0 := by omega
theorem mp_o2089 {a0 : Int} {a1 : Int} (h0 : a0 = a1) (h1 : 0 < a0) : 0 < a1 := by omega
theorem mp_o2090 {a0 : Int} {a1 : Int} {a2 : Int} (h0 : 0 ≤ a0) (h1 : a0 ≤ 6) (h2 : (0 ≤ a1 ∧ a1 ≤ 6)) (h3 : a0 < a1) (h4 : a2 = (a0 + 1)) : a0 ≤ 5 := by omega
theorem mp_o2091 {a0 : Int} {a1 : Int} {a2 : Int} (h0 : a0 < a1) (h1 : a2 = (a1 + 1)) : a0 < a2 := by omega
theorem mp_o2092 {a0 : Int} {a1 : Int} {a2 : Int} (h0 : 0 ≤ a0) (h1 : a0 ≤ 10) (h2 : (0 ≤ a1 ∧ a1 ≤ 10)) (h3 : a0 < a1) (h4 : a2 = (a0 + 1)) : a0 ≤ 9 := by omega
theorem mp_o2093 {a0 : Int} {a1 : Int} (h0 : a0 = (a1 + 1)) : a1 < a0 := by omega
theorem mp_o2094 {a0 : Int} (h0 : (-1) ≤ a0) (h1 : a0 ≤ 9) (h2 : a0 ≠ (-1)) : 0 ≤ a0 := by omega
theorem mp_o2095 {a0 : Int} {a1 : Int} {a2 : Int} {a3 : Int} (h0 : a0 < a1) (h1 : a2 = a3) (h2 : a1 < a2) : a0 < a3 := by omega
theorem mp_o2096 {a0 : Int} {a1 : Nat} {a2 : Int} {a3 : Int} (h0 : a0 < ((a1 : Nat) : Int)) (h1 : ((-1) ≤ a2 ∧ a2 < a0)) (h2 : a3 = a2) : ((1 + (1 * ((a1 - 1)))) + 1) ≤ (1 + (1 * a1)) := by omega
theorem mp_o2097 {a0 : Int} {a1 : Nat} {a2 : Int} {a3 : Int} (h0 : a0 < ((a1 : Nat) : Int)) (h1 : ((-1) ≤ a2 ∧ a2 < a0)) (h2 : a3 = a2) : ((8 + ((2 + 11))) + ((22 + (21 * ((a1 - 1)))))) ≤ (22 + (21 * a1)) := by omega
theorem mp_o2098 {a0 : Int} {a1 : Int} {a2 : Int} (h0 : a0 = a1) (h1 : a0 ≠ (-1)) (h2 : a2 = a1) : (a2 = (-1)) → False := by omega
theorem mp_o2099 {a0 : Int} {a1 : Int} {a2 : Int} (h0 : ((-1) ≤ a0 ∧ a0 < a1)) (h1 : a2 = a0) : a2 < a1 := by omega
theorem mp_o2100 {a0 : Int} (h0 : 0 ≤ a0) (h1 : a0 ≤ 9) : a0 ≤ 10 := by omega
theorem mp_o2101 {a0 : Int} {a1 : Int} (h0 : 1 ≤ a0) (h1 : a0 ≤ 10) (h2 : (0 ≤ a1 ∧ a1 ≤ 10)) (h3 : a0 < a1) : a0 ≤ 9 := by omega
theorem mp_o2102 {a0 : Int} {a1 : Int} {a2 : Int} {a3 : Int} {a4 : Int} {a5 : Int} (h0 : 0 ≤ a0) (h1 : a0 < a1) (h2 : a0 ≤ 9) (h3 : a2 = (a0 + 1)) (h4 : 1 ≤ a3) (h5 : a3 ≤ 10) (h6 : (0 ≤ a4 ∧ a4 ≤ 10)) (h7 : a4 = a1) (h8 : a3 < a4) (h9 : a5 = (a3 + 1)) : a5 ≤ 10 := by omega
theorem mp_o2103 {a0 : Int} {a1 : Int} {a2 : Int} {a3 : Int} (h0 : 0 ≤ a0) (h1 : a0 ≤ 9) (h2 : a1 = (a0 + 1)) (h3 : (a0 + 1) ≤ a2) (h4 : a3 = (a2 + 1)) : ((0 ≤ a0 ∧ ((a0 + 1) ≤ a2 ∧ a3 = (a2 + 1)))) := by omega
theorem mp_o2104 {a0 : Int} {a1 : Int} {a2 : Int} {a3 : Int} (h0 : a0 = a1) (h1 : a0 ≠ (-1)) (h2 : a2 = a1) (h3 : a3 ≠ 0) : (a2 = (-1)) → False := by omega
theorem mp_o2105 {a0 : Int} {a1 : Int} {a2 : Int} {a3 : Int} (h0 : a0 ≤ 0) (h1 : a1 = (-2)) : (((a0 ≤ 0 ∧ a1 = (-2)) ∨ (0 < a0 ∧ a1 = (a2 + a3)))) := by omega
theorem mp_o2106 {a0 : Int} {a1 : Int} {a2 : Int} {a3 : Int} (h0 : 0 < a0) (h1 : a1 = (a2 + a3)) : (((a0 ≤ 0 ∧ a1 = (-2)) ∨ (0 < a0 ∧ a1 = (a2 + a3)))) := by omega
theorem mp_o2107 {a0 : Int} {a1 : Int} (h0 : 0 ≤ a0) (h1 : a0 < a1) (h2 : a0 ≤ 5) : (((Int.toNat a0) : Nat) : Int) < a1 := by omega
theorem mp_o2108 {a0 : Int} {a1 : Int} (h0 : 0 ≤ a0) (h1 : a0 ≤ 5) (h2 : a1 = (3 * a0)) : (-2147483648) ≤ (a1 + 1) := by omega
theorem mp_o2109 {a0 : Int} {a1 : Int} (h0 : 0 ≤ a0) (h1 : a0 ≤ 5) (h2 : a1 = (3 * a0)) : (a1 + 1) ≤ 2147483647 := by omega
theorem mp_o2110 {a0 : Int} {a1 : Int} {a2 : Int} (h0 : 0 ≤ a0) (h1 : a0 ≤ 5) (h2 : a1 = (3 * a0)) (h3 : a2 = (a1 + 1)) : ((0 ≤ a2 ∧ a2 < ((90 : Nat) : Int))) := by omega
theorem mp_o2111 {a0 : Int} {a1 : Int} {a2 : Int} (h0 : 0 ≤ a0) (h1 : a0 ≤ 5) (h2 : a1 = (3 * a0)) (h3 : a2 = (a1 + 1)) : 0 ≤ a2 := by omega
theorem mp_o2112 {a0 : Int} {a1 : Int} {a2 : Int} (h0 : 0 ≤ a0) (h1 : a0 ≤ 5) (h2 : a1 = (3 * a0)) (h3 : a2 = (a1 + 1)) : a2 < ((90 : Nat) : Int) := by omega
theorem mp_o2113 {a0 : Int} {a1 : Int} {a2 : Int} (h0 : 0 ≤ a0) (h1 : a0 ≤ 5) (h2 : a1 = (3 * a0)) (h3 : a2 = (a1 + 1)) : a2 = (((((3 * (Int.toNat a0)) + 1)) : Nat) : Int) := by omega
theorem mp_o2114 {a0 : Int} {a1 : Int} {a2 : Int} {a3 : Int} (h0 : 0 ≤ a0) (h1 : a0 ≤ 5) (h2 : 0 ≤ a1) (h3 : a1 ≤ 5) (h4 : a2 = (6 * a0)) (h5 : a3 = (a2 + a1)) : a3 = (((((6 * (Int.toNat a0)) + (Int.toNat a1))) : Nat) : Int) := by omega
theorem mp_o2115 {a0 : Int} {a1 : Int} {a2 : Int} {a3 : Int} (h0 : 0 ≤ a0) (h1 : a0 ≤ 5) (h2 : 0 ≤ a1) (h3 : a1 ≤ 99) (h4 : a2 = (100 * a0)) (h5 : a3 = (a2 + a1)) : a3 = (((((100 * (Int.toNat a0)) + (Int.toNat a1))) : Nat) : Int) := by omega
theorem mp_o2116 {a0 : Int} {a1 : Int} {a2 : Int} {a3 : Int} (h0 : 0 ≤ a0) (h1 : a0 ≤ 5) (h2 : a1 = (6 * a2)) (h3 : a3 = (a1 + a0)) : (-2147483648) ≤ (100 * a0) := by omega
theorem mp_o2117 {a0 : Int} {a1 : Int} {a2 : Int} {a3 : Int} (h0 : 0 ≤ a0) (h1 : a0 ≤ 5) (h2 : a1 = (6 * a2)) (h3 : a3 = (a1 + a0)) : (100 * a0) ≤ 2147483647 := by omega
theorem mp_o2118 {a0 : Int} {a1 : Int} {a2 : Int} {a3 : Int} {a4 : Int} {a5 : Int} {a6 : Int} {a7 : Int} (h0 : 0 ≤ a0) (h1 : a0 ≤ 5) (h2 : 0 ≤ a1) (h3 : a1 ≤ 99) (h4 : a2 = (6 * a3)) (h5 : a4 = (a2 + a0)) (h6 : a5 = (100 * a3)) (h7 : a6 = (a5 + a1)) (h8 : a7 = (100 * a0)) : (-2147483648) ≤ (a7 + a1) := by omega
theorem mp_o2119 {a0 : Int} {a1 : Int} {a2 : Int} {a3 : Int} {a4 : Int} {a5 : Int} {a6 : Int} {a7 : Int} (h0 : 0 ≤ a0) (h1 : a0 ≤ 5) (h2 : 0 ≤ a1) (h3 : a1 ≤ 99) (h4 : a2 = (6 * a3)) (h5 : a4 = (a2 + a0)) (h6 : a5 = (100 * a3)) (h7 : a6 = (a5 + a1)) (h8 : a7 = (100 * a0)) : (a7 + a1) ≤ 2147483647 := by omega
theorem mp_o2120 {a0 : Int} {a1 : Int} {a2 : Int} {a3 : Int} {a4 : Int} {a5 : Int} {a6 : Int} {a7 : Int} {a8 : Int} (h0 : 0 ≤ a0) (h1 : a0 ≤ 5) (h2 : 0 ≤ a1) (h3 : a1 ≤ 99) (h4 : a2 = (6 * a3)) (h5 : a4 = (a2 + a0)) (h6 : a5 = (100 * a3)) (h7 : a6 = (a5 + a1)) (h8 : a7 = (100 * a0)) (h9 : a8 = (a7 + a1)) : ((0 ≤ a8 ∧ a8 < ((3000 : Nat) : Int))) := by omega
theorem mp_o2121 {a0 : Int} {a1 : Int} {a2 : Int} {a3 : Int} {a4 : Int} {a5 : Int} {a6 : Int} {a7 : Int} {a8 : Int} (h0 : 0 ≤ a0) (h1 : a0 ≤ 5) (h2 : 0 ≤ a1) (h3 : a1 ≤ 99) (h4 : a2 = (6 * a3)) (h5 : a4 = (a2 + a0)) (h6 : a5 = (100 * a3)) (h7 : a6 = (a5 + a1)) (h8 : a7 = (100 * a0)) (h9 : a8 = (a7 + a1)) : 0 ≤ a8 := by omega
theorem mp_o2122 {a0 : Int} {a1 : Int} {a2 : Int} {a3 : Int} {a4 : Int} {a5 : Int} {a6 : Int} {a7 : Int} {a8 : Int} (h0 : 0 ≤ a0) (h1 : a0 ≤ 5) (h2 : 0 ≤ a1) (h3 : a1 ≤ 99) (h4 : a2 = (6 * a3)) (h5 : a4 = (a2 + a0)) (h6 : a5 = (100 * a3)) (h7 : a6 = (a5 + a1)) (h8 : a7 = (100 * a0)) (h9 : a8 = (a7 + a1)) : a8 < ((3000 : Nat) : Int) := by omega
theorem mp_o2123 {a0 : Int} {a1 : Int} {a2 : Int} {a3 : Int} {a4 : Int} {a5 : Int} {a6 : Int} {a7 : Int} {a8 : Int} (h0 : 0 ≤ a0) (h1 : a0 ≤ 5) (h2 : 0 ≤ a1) (h3 : a1 ≤ 99) (h4 : a2 = (6 * a3)) (h5 : a4 = (a2 + a0)) (h6 : a5 = (100 * a3)) (h7 : a6 = (a5 + a1)) (h8 : a7 = (100 * a0)) (h9 : a8 = (a7 + a1)) : a8 = (((((100 * (Int.toNat a0)) + (Int.toNat a1))) : Nat) : Int) := by omega
theorem mp_o2124 {a0 : Int} {a1 : Int} {a2 : Int} (h0 : a0 = a1) (h1 : a0 = a2) (h2 : a1 ≠ a2) : False := by omega
theorem mp_o2125 {a0 : Int} {a1 : Int} {a2 : Int} (h0 : 0 ≤ a0) (h1 : a0 ≤ 5) (h2 : (0 ≤ a1 ∧ a1 ≤ 5)) (h3 : a1 = a2) : (Int.toNat (((6 * a2) + a0))) = ((6 * (Int.toNat a1)) + (Int.toNat a0)) := by omega
theorem mp_o2126 {a0 : Int} {a1 : Int} {a2 : Int} (h0 : 0 ≤ a0) (h1 : a0 ≤ 99) (h2 : (0 ≤ a1 ∧ a1 ≤ 5)) (h3 : a1 = a2) : (Int.toNat (((100 * a2) + a0))) = ((100 * (Int.toNat a1)) + (Int.toNat a0)) := by omega
theorem mp_o2127 {a0 : Int} {a1 : Int} (h0 : 0 ≤ a0) (h1 : a0 ≤ 5) (h2 : 0 ≤ a1) (h3 : a1 ≤ 99) : (Int.toNat (((100 * a0) + a1))) = ((100 * (Int.toNat a0)) + (Int.toNat a1)) := by omega
theorem mp_o2128 {a0 : Int} {a1 : Int} (h0 : (0 ≤ a0 ∧ a0 ≤ 60)) (h1 : a0 = a1) (h2 : a0 ≠ 60) : a1 ≤ 59 := by omega
theorem mp_o2129 {a0 : Int} {a1 : Int} (h0 : a0 = a1) (h1 : a0 = 60) : 60 ≤ a1 := by omega
theorem mp_o2130 {a0 : Int} {a1 : Int} (h0 : a0 ≤ 59) (h1 : (0 ≤ a1 ∧ a1 ≤ 60)) (h2 : a1 = a0) : ((0 ≤ a1 ∧ a1 < ((300 : Nat) : Int))) := by omega
theorem mp_o2131 {a0 : Int} {a1 : Int} (h0 : a0 ≤ 59) (h1 : (0 ≤ a1 ∧ a1 ≤ 60)) (h2 : a1 = a0) : a1 < ((60 : Nat) : Int) := by omega
theorem mp_o2132 {a0 : Int} {a1 : Int} (h0 : a0 ≤ 59) (h1 : (0 ≤ a1 ∧ a1 ≤ 60)) (h2 : a1 = a0) : (-2147483648) ≤ (a1 + 1) := by omega
theorem mp_o2133 {a0 : Int} {a1 : Int} (h0 : a0 ≤ 59) (h1 : (0 ≤ a1 ∧ a1 ≤ 60)) (h2 : a1 = a0) : (a1 + 1) ≤ 2147483647 := by omega
theorem mp_o2134 {a0 : Int} {a1 : Int} {a2 : Int} (h0 : a0 ≤ 59) (h1 : (0 ≤ a1 ∧ a1 ≤ 60)) (h2 : a1 = a0) (h3 : a2 = (a1 + 1)) : ((0 ≤ a2 ∧ a2 ≤ 60)) := by omega
theorem mp_o2135 {a0 : Int} {a1 : Int} {a2 : Int} {a3 : Int} (h0 : a0 ≤ 59) (h1 : (0 ≤ a1 ∧ a1 ≤ 60)) (h2 : a1 = a0) (h3 : a2 = (a1 + 1)) (h4 : a3 = a2) : 0 ≤ a1 := by omega
theorem mp_o2136 {a0 : Int} {a1 : Int} {a2 : Int} (h0 : a0 = (a1 + 1)) (h1 : a2 = a0) : a2 = (a1 + 1) := by omega
theorem mp_o2137 {a0 : Int} {a1 : Int} {a2 : Int} {a3 : Int} (h0 : a0 = a1) (h1 : a2 = (a0 + 1)) (h2 : a3 = a2) : a3 = (a1 + 1) := by omega
theorem mp_o2138 {a0 : Int} {a1 : Int} {a2 : Int} {a3 : Int} (h0 : a0 ≤ 59) (h1 : (0 ≤ a1 ∧ a1 ≤ 60)) (h2 : a1 = a0) (h3 : a2 = (a1 + 1)) (h4 : a3 = a2) : (Int.toNat a1) = (Int.toNat a0) := by omega
theorem mp_o2139 {a0 : Int} {a1 : Int} {a2 : Int} {a3 : Int} (h0 : 0 ≤ a0) (h1 : a0 < a1) (h2 : a0 ≤ 5) (h3 : 0 ≤ a2) (h4 : a2 < a3) (h5 : a2 ≤ 5) : ((0 ≤ a0 ∧ (a0 < a1 ∧ (0 ≤ a2 ∧ a2 < a3)))) := by omega
theorem mp_o2140 {a0 : Int} (h0 : 0 ≤ a0) (h1 : a0 ≤ 5) : (-2147483648) ≤ (10 * a0) := by omega
theorem mp_o2141 {a0 : Int} (h0 : 0 ≤ a0) (h1 : a0 ≤ 5) : (10 * a0) ≤ 2147483647 := by omega
theorem mp_o2142 {a0 : Int} {a1 : Int} {a2 : Int} (h0 : 0 ≤ a0) (h1 : a0 ≤ 5) (h2 : 0 ≤ a1) (h3 : a1 ≤ 5) (h4 : a2 = (10 * a0)) : (-2147483648) ≤ (a2 + a1) := by omega
theorem mp_o2143 {a0 : Int} {a1 : Int} {a2 : Int} (h0 : 0 ≤ a0) (h1 : a0 ≤ 5) (h2 : 0 ≤ a1) (h3 : a1 ≤ 5) (h4 : a2 = (10 * a0)) : (a2 + a1) ≤ 2147483647 := by omega
theorem mp_o2144 {a0 : Int} {a1 : Int} {a2 : Int} {a3 : Int} (h0 : 0 ≤ a0) (h1 : a0 ≤ 5) (h2 : 0 ≤ a1) (h3 : a1 ≤ 5) (h4 : a2 = (10 * a0)) (h5 : a3 = (a2 + a1)) : 0 ≤ a3 := by omega
theorem mp_o2145 {a0 : Int} {a1 : Int} {a2 : Int} {a3 : Int} (h0 : 0 ≤ a0) (h1 : a0 ≤ 5) (h2 : 0 ≤ a1) (h3 : a1 ≤ 5) (h4 : a2 = (10 * a0)) (h5 : a3 = (a2 + a1)) : a3 ≤ 200 := by omega
theorem mp_o2146 {a0 : Int} {a1 : Int} {a2 : Int} {a3 : Int} (h0 : 0 ≤ a0) (h1 : a0 ≤ 5) (h2 : 0 ≤ a1) (h3 : a1 ≤ 5) (h4 : a2 = (10 * a0)) (h5 : a3 = (a2 + a1)) : ((a3 = 200 ∨ ((100 ≤ a3 ∧ a3 ≤ 109) ∨ (0 ≤ a3 ∧ (a3 ≤ 55 ∧ (a3 % 10) ≤ 5))))) := by omega
theorem mp_o2147 {a0 : Int} (h0 : 0 ≤ a0) (h1 : a0 ≤ 5) : a0 = (((Int.toNat a0) : Nat) : Int) := by omega
theorem mp_o2148 {a0 : Int} {a1 : Int} {a2 : Int} {a3 : Int} {a4 : Int} {a5 : Int} {a6 : Int} (h0 : 0 ≤ a0) (h1 : a0 ≤ 5) (h2 : a1 = (10 * a2)) (h3 : a3 = (a1 + a0)) (h4 : (0 ≤ a4 ∧ a4 ≤ 5)) (h5 : a4 = a5) (h6 : a6 = (6 * a4)) : (-2147483648) ≤ (a6 + a0) := by omega
theorem mp_o2149 {a0 : Int} {a1 : Int} {a2 : Int} {a3 : Int} {a4 : Int} {a5 : Int} {a6 : Int} (h0 : 0 ≤ a0) (h1 : a0 ≤ 5) (h2 : a1 = (10 * a2)) (h3 : a3 = (a1 + a0)) (h4 : (0 ≤ a4 ∧ a4 ≤ 5)) (h5 : a4 = a5) (h6 : a6 = (6 * a4)) : (a6 + a0) ≤ 2147483647 := by omega
theorem mp_o2150 {a0 : Int} {a1 : Int} {a2 : Int} {a3 : Int} {a4 : Int} {a5 : Int} {a6 : Int} {a7 : Int} (h0 : 0 ≤ a0) (h1 : a0 ≤ 5) (h2 : a1 = (10 * a2)) (h3 : a3 = (a1 + a0)) (h4 : (0 ≤ a4 ∧ a4 ≤ 5)) (h5 : a4 = a5) (h6 : a6 = (6 * a4)) (h7 : a7 = (a6 + a0)) : ((0 ≤ a7 ∧ a7 < ((180 : Nat) : Int))) := by omega
theorem mp_o2151 {a0 : Int} {a1 : Int} {a2 : Int} {a3 : Int} {a4 : Int} {a5 : Int} {a6 : Int} {a7 : Int} (h0 : 0 ≤ a0) (h1 : a0 ≤ 5) (h2 : a1 = (10 * a2)) (h3 : a3 = (a1 + a0)) (h4 : (0 ≤ a4 ∧ a4 ≤ 5)) (h5 : a4 = a5) (h6 : a6 = (6 * a4)) (h7 : a7 = (a6 + a0)) : 0 ≤ a7 := by omega
theorem mp_o2152 {a0 : Int} {a1 : Int} {a2 : Int} {a3 : Int} {a4 : Int} {a5 : Int} {a6 : Int} {a7 : Int} (h0 : 0 ≤ a0) (h1 : a0 ≤ 5) (h2 : a1 = (10 * a2)) (h3 : a3 = (a1 + a0)) (h4 : (0 ≤ a4 ∧ a4 ≤ 5)) (h5 : a4 = a5) (h6 : a6 = (6 * a4)) (h7 : a7 = (a6 + a0)) : a7 < ((180 : Nat) : Int) := by omega
theorem mp_o2153 {a0 : Int} {a1 : Int} {a2 : Int} {a3 : Int} {a4 : Int} {a5 : Int} {a6 : Int} {a7 : Int} (h0 : 0 ≤ a0) (h1 : a0 ≤ 5) (h2 : a1 = (10 * a2)) (h3 : a3 = (a1 + a0)) (h4 : (0 ≤ a4 ∧ a4 ≤ 5)) (h5 : a4 = a5) (h6 : a6 = (6 * a4)) (h7 : a7 = (a6 + a0)) : a7 = (((Int.toNat (((6 * a5) + a0))) : Nat) : Int) := by omega
theorem mp_o2154 {a0 : Int} {a1 : Int} {a2 : Int} {a3 : Int} {a4 : Int} {a5 : Int} {a6 : Int} {a7 : Int} {a8 : Int} {a9 : Int} {a10 : Int} {a11 : Int} {a12 : Int} (h0 : 0 ≤ a0) (h1 : a0 ≤ 5) (h2 : 0 ≤ a1) (h3 : a1 ≤ 5) (h4 : 0 ≤ a2) (h5 : a2 ≤ 99) (h6 : a2 = (a3 + a4)) (h7 : a5 = (10 * a0)) (h8 : a6 = (a5 + a1)) (h9 : ((a6 = 200 ∧ a7 = (a4 + 1)) ∨ (a6 ≠ 200 ∧ a7 = a4))) (h10 : a8 = a3) (h11 : a9 = a10) (h12 : a11 = (6 * a9)) (h13 : a12 = (a11 + a1)) : (a8 + a7) ≤ 99 := by omega
theorem mp_o2155 {a0 : Int} {a1 : Int} {a2 : Int} {a3 : Int} {a4 : Int} {a5 : Int} {a6 : Int} {a7 : Int} {a8 : Int} {a9 : Int} {a10 : Int} {a11 : Int} (h0 : 0 ≤ a0) (h1 : a0 < a1) (h2 : a0 ≤ 5) (h3 : 0 ≤ a2) (h4 : a2 < a3) (h5 : a2 ≤ 5) (h6 : a4 = (10 * a0)) (h7 : a5 = (a4 + a2)) (h8 : a6 = a3) (h9 : a7 = a1) (h10 : a8 = a9) (h11 : a10 = (6 * a8)) (h12 : a11 = (a10 + a2)) : ((0 ≤ a0 ∧ (a0 < a1 ∧ (0 ≤ a2 ∧ a2 < a3)))) := by omega
theorem mp_o2156 {a0 : Int} {a1 : Int} {a2 : Int} (h0 : 0 ≤ a0) (h1 : a0 < a1) (h2 : a0 ≤ 5) (h3 : a2 = a1) : (((Int.toNat a0) : Nat) : Int) < a1 := by omega
theorem mp_o2157 {a0 : Int} {a1 : Int} {a2 : Int} (h0 : 0 ≤ a0) (h1 : a0 ≤ 5) (h2 : a0 = a1) (h3 : a2 = a1) : ((0 ≤ a2 ∧ a2 < ((6 : Nat) : Int))) := by omega
theorem mp_o2158 {a0 : Int} {a1 : Int} {a2 : Int} (h0 : 0 ≤ a0) (h1 : a0 ≤ 5) (h2 : a0 = a1) (h3 : a2 = a1) : a2 < ((6 : Nat) : Int) := by omega
theorem mp_o2159 {a0 : Int} {a1 : Int} (h0 : 0 ≤ a0) (h1 : a0 < a1) (h2 : a0 ≤ 9) : (((Int.toNat a0) : Nat) : Int) < a1 := by omega
theorem mp_o2160 {a0 : Int} (h0 : 0 ≤ a0) (h1 : a0 ≤ 9) : (-2147483648) ≤ (100 + a0) := by omega
theorem mp_o2161 {a0 : Int} (h0 : 0 ≤ a0) (h1 : a0 ≤ 9) : (100 + a0) ≤ 2147483647 := by omega
theorem mp_o2162 {a0 : Int} {a1 : Int} (h0 : 0 ≤ a0) (h1 : a0 ≤ 9) (h2 : a1 = (100 + a0)) : 0 ≤ a1 := by omega
theorem mp_o2163 {a0 : Int} {a1 : Int} (h0 : 0 ≤ a0) (h1 : a0 ≤ 9) (h2 : a1 = (100 + a0)) : a1 ≤ 200 := by omega
theorem mp_o2164 {a0 : Int} {a1 : Int} (h0 : 0 ≤ a0) (h1 : a0 ≤ 9) (h2 : a1 = (100 + a0)) : ((a1 = 200 ∨ ((100 ≤ a1 ∧ a1 ≤ 109) ∨ (0 ≤ a1 ∧ (a1 ≤ 55 ∧ (a1 % 10) ≤ 5))))) := by omega
theorem mp_o2165 {a0 : Int} {a1 : Int} {a2 : Int} {a3 : Int} {a4 : Int} {a5 : Int} {a6 : Int} (h0 : 0 ≤ a0) (h1 : a0 ≤ 9) (h2 : 0 ≤ a1) (h3 : a1 ≤ 99) (h4 : a1 = (a2 + a3)) (h5 : a4 = (100 + a0)) (h6 : ((a4 = 200 ∧ a5 = (a3 + 1)) ∨ (a4 ≠ 200 ∧ a5 = a3))) (h7 : a6 = a2) : (a6 + a5) ≤ 99 := by omega
theorem mp_o2166 {a0 : Int} {a1 : Int} {a2 : Int} {a3 : Int} (h0 : a0 < a1) (h1 : a2 = (100 + a0)) (h2 : a3 = a1) : a0 < a3 := by omega
theorem mp_o2167 {a0 : Int} {a1 : Int} {a2 : Int} (h0 : 0 ≤ a0) (h1 : a0 ≤ 99) (h2 : a0 = (a1 + a2)) : (a1 + a2) ≤ 99 := by omega
theorem mp_o2168 {a0 : Int} {a1 : Int} {a2 : Int} {a3 : Int} (h0 : 0 ≤ a0) (h1 : a0 < a1) (h2 : a0 ≤ 9) (h3 : a2 = (100 + a0)) (h4 : a3 = a1) : (((Int.toNat a0) : Nat) : Int) < a1 := by omega
theorem mp_o2169 {a0 : Int} {a1 : Int} {a2 : Int} {a3 : Int} (h0 : a0 = (a1 + a2)) (h1 : a0 = 99) : ((99 ≤ (a1 + a2) ∨ 60 ≤ a3)) := by omega
theorem mp_o2170 {a0 : Int} {a1 : Int} {a2 : Int} {a3 : Int} {a4 : Int} (h0 : 0 ≤ a0) (h1 : a0 ≤ 99) (h2 : a0 ≠ 99) (h3 : ((a1 = 200 ∧ a2 = (a3 + 1)) ∨ (a1 ≠ 200 ∧ a2 = a3))) (h4 : a4 = (a0 + 1)) : a0 ≤ 98 := by omega
theorem mp_o2171 {a0 : Int} {a1 : Int} {a2 : Int} {a3 : Int} {a4 : Int} (h0 : 0 ≤ a0) (h1 : a0 ≤ 99) (h2 : a0 ≠ 99) (h3 : ((a1 = 200 ∧ a2 = (a3 + 1)) ∨ (a1 ≠ 200 ∧ a2 = a3))) (h4 : a4 = (a0 + 1)) : a4 ≤ 99 := by omega
theorem mp_o2172 {a0 : Int} {a1 : Int} {a2 : Int} {a3 : Int} {a4 : Int} {a5 : Int} {a6 : Int} (h0 : 0 ≤ a0) (h1 : a0 ≤ 99) (h2 : a0 = (a1 + a2)) (h3 : a0 ≠ 99) (h4 : ((a3 = 200 ∧ a4 = (a2 + 1)) ∨ (a3 ≠ 200 ∧ a4 = a2))) (h5 : a5 = a1) (h6 : a6 = (a0 + 1)) : (a5 + a4) ≤ 99 := by omega
theorem mp_o2173 {a0 : Int} {a1 : Int} {a2 : Int} {a3 : Int} {a4 : Int} {a5 : Int} (h0 : 0 ≤ a0) (h1 : a0 ≤ 99) (h2 : a0 = (a1 + a2)) (h3 : a0 ≠ 99) (h4 : ((a3 = 200 ∧ a4 = (a2 + 1)) ∨ (a3 ≠ 200 ∧ a4 = a2))) (h5 : a5 = (a0 + 1)) : (a1 + a2) ≤ 98 := by omega
theorem mp_o2174 {a0 : Int} {a1 : Int} {a2 : Int} {a3 : Int} (h0 : a0 = (a1 + a2)) (h1 : a3 = (a0 + 1)) : a3 = ((a1 + a2) + 1) := by omega
theorem mp_o2175 {a0 : Int} {a1 : Int} {a2 : Int} (h0 : 60 ≤ a0) : ((99 ≤ (a1 + a2) ∨ 60 ≤ a0)) := by omega
theorem mp_o2176 {a0 : Int} {a1 : Int} {a2 : Int} (h0 : (0 ≤ a0 ∧ a0 ≤ 60)) (h1 : a0 = a1) (h2 : a0 ≠ 0) (h3 : a2 = (a0 - 1)) : ((0 ≤ a2 ∧ a2 ≤ 60)) := by omega
theorem mp_o2177 {a0 : Int} {a1 : Int} (h0 : a0 = a1) : a0 ≤ a1 := by omega
theorem mp_o2178 {a0 : Int} {a1 : Int} {a2 : Int} {a3 : Int} (h0 : a0 = a1) (h1 : a2 = (a0 - 1)) (h2 : a3 = a2) : a3 ≤ a1 := by omega
theorem mp_o2179 {a0 : Int} {a1 : Int} {a2 : Int} {a3 : Int} {a4 : Int} (h0 : (0 ≤ a0 ∧ a0 ≤ 60)) (h1 : a0 = a1) (h2 : a2 = (a0 - 1)) (h3 : a3 = a2) (h4 : (0 ≤ a4 ∧ a4 ≤ 60)) (h5 : a4 = a3) : 0 < a1 := by omega
theorem mp_o2180 {a0 : Int} {a1 : Int} {a2 : Int} {a3 : Int} (h0 : a0 = a1) (h1 : a2 = (a0 - 1)) (h2 : a3 = a2) : a3 = (a1 - 1) := by omega
theorem mp_o2181 {a0 : Int} {a1 : Int} (h0 : a0 = a1) (h1 : a0 = 0) : a1 ≤ 0 := by omega
theorem mp_o2182 {a0 : Int} {a1 : Int} {a2 : Int} (h0 : (0 ≤ a0 ∧ a0 ≤ 60)) (h1 : a0 = a1) (h2 : a2 = 0) : a2 ≤ a1 := by omega
theorem mp_o2183 {a0 : Int} {a1 : Int} {a2 : Int} {a3 : Int} {a4 : Int} (h0 : a0 ≤ 0) (h1 : a1 = (-2)) : (((a0 ≤ 0 ∧ a1 = (-2)) ∨ ((0 < a0 ∧ (((a2 < 0 ∨ a3 ≤ a2)) ∧ a1 = (-1))) ∨ (0 < a0 ∧ (((0 ≤ a2 ∧ a2 < a3)) ∧ a1 = a4))))) := by omega
theorem mp_o2184 {a0 : Int} {a1 : Int} {a2 : Int} {a3 : Int} {a4 : Int} {a5 : Int} {a6 : Int} {a7 : Int} {a8 : Int} {a9 : Int} (h0 : 0 < a0) (h1 : a1 = a2) (h2 : a3 = a4) (h3 : a5 = (a3 - 1)) (h4 : a6 = a5) (h5 : (a1 < a7 ∨ a6 < a1)) (h6 : a7 = 0) (h7 : a8 = (-1)) : (((a0 ≤ 0 ∧ a8 = (-2)) ∨ ((0 < a0 ∧ (((a2 < 0 ∨ a4 ≤ a2)) ∧ a8 = (-1))) ∨ (0 < a0 ∧ (((0 ≤ a2 ∧ a2 < a4)) ∧ a8 = a9))))) := by omega
theorem mp_o2185 {a0 : Int} {a1 : Int} {a2 : Int} {a3 : Int} {a4 : Int} {a5 : Int} (h0 : a0 = a1) (h1 : (0 ≤ a2 ∧ a2 ≤ 60)) (h2 : a2 = a3) (h3 : a4 = (a2 - 1)) (h4 : a5 = a4) (h5 : a0 ≤ a5) (h6 : 0 ≤ a0) : ((0 ≤ a1 ∧ a1 < ((300 : Nat) : Int))) := by omega
theorem mp_o2186 {a0 : Int} {a1 : Int} {a2 : Int} {a3 : Int} {a4 : Int} {a5 : Int} (h0 : a0 = a1) (h1 : (0 ≤ a2 ∧ a2 ≤ 60)) (h2 : a2 = a3) (h3 : a4 = (a2 - 1)) (h4 : a5 = a4) (h5 : a0 ≤ a5) : a1 < 300 := by omega
theorem mp_o2187 {a0 : Int} {a1 : Int} (h0 : (a0 = 200 ∨ ((100 ≤ a0 ∧ a0 ≤ 109) ∨ (0 ≤ a0 ∧ (a0 ≤ 55 ∧ (a0 % 10) ≤ 5))))) (h1 : a0 = a1) : (-2) ≤ a0 := by omega
theorem mp_o2188 {a0 : Int} {a1 : Int} (h0 : (a0 = 200 ∨ ((100 ≤ a0 ∧ a0 ≤ 109) ∨ (0 ≤ a0 ∧ (a0 ≤ 55 ∧ (a0 % 10) ≤ 5))))) (h1 : a0 = a1) : a0 ≤ 200 := by omega
theorem mp_o2189 {a0 : Int} {a1 : Int} {a2 : Int} {a3 : Int} {a4 : Int} {a5 : Int} {a6 : Int} {a7 : Int} {a8 : Int} (h0 : 0 < a0) (h1 : a1 = a2) (h2 : a3 = a4) (h3 : a5 = (a3 - 1)) (h4 : a6 = a5) (h5 : a1 ≤ a6) (h6 : 0 ≤ a1) (h7 : a7 = a8) : (((a0 ≤ 0 ∧ a7 = (-2)) ∨ ((0 < a0 ∧ (((a2 < 0 ∨ a4 ≤ a2)) ∧ a7 = (-1))) ∨ (0 < a0 ∧ (((0 ≤ a2 ∧ a2 < a4)) ∧ a7 = a8))))) := by omega
theorem mp_o2190 {a0 : Int} {a1 : Int} {a2 : Int} (h0 : a0 ≤ 0) (h1 : a1 = (-2)) : (((a0 ≤ 0 ∧ a1 = (-2)) ∨ (0 < a0 ∧ a1 = a2))) := by omega
theorem mp_o2191 {a0 : Int} {a1 : Int} {a2 : Int} (h0 : 0 ≤ a0) (h1 : a0 ≤ 10) (h2 : (a0 = 0 ∨ a0 ≤ a1)) (h3 : (0 ≤ a2 ∧ a2 ≤ 10)) (h4 : a2 = a1) (h5 : a2 ≤ a0) : (Int.toNat a0) = (Int.toNat a1) := by omega
theorem mp_o2192 {a0 : Int} {a1 : Int} {a2 : Int} {a3 : Int} (h0 : 0 ≤ a0) (h1 : a0 ≤ 10) (h2 : a1 = a2) (h3 : a0 < a1) (h4 : a3 = (a0 + 1)) : (((Int.toNat a0) : Nat) : Int) < a2 := by omega
theorem mp_o2193 {a0 : Int} {a1 : Int} {a2 : Int} {a3 : Int} (h0 : a0 = a1) (h1 : a2 < a0) (h2 : a3 = (a2 + 1)) : ((a3 = 0 ∨ a3 ≤ a1)) := by omega
theorem mp_o2194 {a0 : Int} {a1 : Int} {a2 : Int} (h0 : 0 ≤ a0) (h1 : a0 ≤ 6) (h2 : (a0 = 0 ∨ a0 ≤ a1)) (h3 : (0 ≤ a2 ∧ a2 ≤ 6)) (h4 : a2 = a1) (h5 : a2 ≤ a0) : (Int.toNat a0) = (Int.toNat a1) := by omega
theorem mp_o2195 {a0 : Int} {a1 : Int} (h0 : 0 ≤ a0) (h1 : a0 ≤ 6) (h2 : (0 ≤ a1 ∧ a1 ≤ 6)) (h3 : a0 < a1) : a0 ≤ 5 := by omega
theorem mp_o2196 {a0 : Int} {a1 : Int} {a2 : Int} (h0 : a0 = a1) (h1 : 1 ≤ a0) (h2 : a0 ≤ 12) (h3 : 0 ≤ a2) (h4 : a2 ≤ 99) : (-2147483648) ≤ (a2 + a1) := by omega
theorem mp_o2197 {a0 : Int} {a1 : Int} {a2 : Int} (h0 : a0 = a1) (h1 : 1 ≤ a0) (h2 : a0 ≤ 12) (h3 : 0 ≤ a2) (h4 : a2 ≤ 99) : (a2 + a1) ≤ 2147483647 := by omega
theorem mp_o2198 {a0 : Int} {a1 : Int} {a2 : Int} {a3 : Int} {a4 : Int} {a5 : Int} (h0 : a0 = a1) (h1 : a2 ≤ a0) (h2 : a0 ≤ a3) (h3 : a2 = 1) (h4 : a3 = 12) (h5 : a4 = (a5 + a1)) : 1 ≤ a1 := by omega
theorem mp_o2199 {a0 : Int} {a1 : Int} {a2 : Int} {a3 : Int} {a4 : Int} {a5 : Int} (h0 : a0 = a1) (h1 : a2 ≤ a0) (h2 : a0 ≤ a3) (h3 : a2 = 1) (h4 : a3 = 12) (h5 : a4 = (a5 + a1)) : a1 ≤ 12 := by omega
theorem mp_o2200 {a0 : Int} {a1 : Int} {a2 : Int} {a3 : Int} {a4 : Int} {a5 : Int} (h0 : a0 = a1) (h1 : a2 ≤ a0) (h2 : a0 ≤ a3) (h3 : a2 = 1) (h4 : a3 = 12) (h5 : 0 ≤ a4) (h6 : a4 ≤ 99) (h7 : a5 = (a4 + a1)) (h8 : a5 < 100) : a4 ≤ 98 := by omega
theorem mp_o2201 {a0 : Int} {a1 : Int} {a2 : Int} (h0 : a0 = (a1 + a2)) (h1 : a0 < 100) : (a1 + a2) ≤ 99 := by omega
theorem mp_o2202 {a0 : Int} {a1 : Int} {a2 : Int} (h0 : 0 ≤ a0) (h1 : a0 ≤ 10) (h2 : a0 ≤ a1) (h3 : a2 = a1) (h4 : a2 ≤ a0) : (Int.toNat a0) = (Int.toNat a1) := by omega
theorem mp_o2203 {a0 : Int} {a1 : Int} (h0 : 0 ≤ a0) (h1 : a0 ≤ 10) (h2 : a1 = (a0 + 1)) : a0 = (((Int.toNat a0) : Nat) : Int) := by omega
theorem mp_o2204 {a0 : Int} {a1 : Int} (h0 : 0 ≤ a0) (h1 : a0 ≤ 10) (h2 : a1 = (a0 + 1)) : (Int.toNat a1) = ((Int.toNat a0) + 1) := by omega
theorem mp_o2205 {a0 : Int} (h0 : (0 ≤ a0 ∧ a0 ≤ 10)) : 0 ≤ a0 := by omega
theorem mp_o2206 {a0 : Int} {a1 : Int} {a2 : Int} {a3 : Int} (h0 : ((-1) ≤ a0 ∧ a0 ≤ 99)) (h1 : a0 = a1) (h2 : a2 = 0) : ((a2 = 0 ∨ (a1 = (-1) ∨ a3 ≤ a1))) := by omega
theorem mp_o2207 {a0 : Int} {a1 : Int} {a2 : Int} {a3 : Int} (h0 : a0 = a1) (h1 : a0 = (-1)) : ((a2 = 0 ∨ (a1 = (-1) ∨ a3 ≤ a1))) := by omega
theorem mp_o2208 {a0 : Int} {a1 : Int} {a2 : Int} {a3 : Int} (h0 : a0 = a1) (h1 : a2 ≤ a0) : ((a3 = 0 ∨ (a1 = (-1) ∨ a2 ≤ a1))) := by omega
theorem mp_o2209 {a0 : Int} {a1 : Int} {a2 : Int} (h0 : a0 = a1) (h1 : a0 < a2) : a1 < a2 := by omega
theorem mp_o2210 {a0 : Int} (h0 : 0 ≤ a0) (h1 : a0 ≤ 12) : (-2147483648) ≤ (6 * a0) := by omega
theorem mp_o2211 {a0 : Int} (h0 : 0 ≤ a0) (h1 : a0 ≤ 12) : (6 * a0) ≤ 2147483647 := by omega
theorem mp_o2212 {a0 : Int} {a1 : Int} {a2 : Int} (h0 : 0 ≤ a0) (h1 : a0 ≤ 12) (h2 : 0 ≤ a1) (h3 : a1 ≤ 5) (h4 : a2 = (6 * a0)) : (-2147483648) ≤ (a2 + a1) := by omega
theorem mp_o2213 {a0 : Int} {a1 : Int} {a2 : Int} (h0 : 0 ≤ a0) (h1 : a0 ≤ 12) (h2 : 0 ≤ a1) (h3 : a1 ≤ 5) (h4 : a2 = (6 * a0)) : (a2 + a1) ≤ 2147483647 := by omega
theorem mp_o2214 {a0 : Int} {a1 : Int} {a2 : Int} {a3 : Int} (h0 : 0 ≤ a0) (h1 : a0 ≤ 12) (h2 : 0 ≤ a1) (h3 : a1 ≤ 5) (h4 : a2 = (6 * a0)) (h5 : a3 = (a2 + a1)) : ((0 ≤ a3 ∧ a3 < ((78 : Nat) : Int))) := by omega
theorem mp_o2215 {a0 : Int} {a1 : Int} {a2 : Int} (h0 : a0 ≤ a1) (h1 : (a2 + a1) ≤ 99) : (a2 + a0) ≤ 2147483647 := by omega
theorem mp_o2216 {a0 : Int} {a1 : Int} {a2 : Int} (h0 : 0 ≤ a0) (h1 : a0 ≤ 12) (h2 : 0 ≤ a1) (h3 : a1 ≤ 99) (h4 : a2 = (a1 + a0)) : (-2147483648) ≤ (a2 + 1) := by omega
theorem mp_o2217 {a0 : Int} {a1 : Int} {a2 : Int} {a3 : Int} (h0 : a0 ≤ a1) (h1 : (a2 + a1) ≤ 99) (h2 : a3 = (a2 + a0)) : (a3 + 1) ≤ 2147483647 := by omega
theorem mp_o2218 {a0 : Int} {a1 : Int} {a2 : Int} {a3 : Int} (h0 : 0 ≤ a0) (h1 : a0 ≤ 12) (h2 : 0 ≤ a1) (h3 : a1 ≤ 99) (h4 : a2 = (a1 + a0)) (h5 : a3 = (a2 + 1)) : 0 ≤ a3 := by omega
theorem mp_o2219 {a0 : Int} {a1 : Int} {a2 : Int} {a3 : Int} {a4 : Int} (h0 : a0 ≤ a1) (h1 : (a2 + a1) ≤ 99) (h2 : a0 ≠ a1) (h3 : a3 = (a2 + a0)) (h4 : a4 = (a3 + 1)) : a4 ≤ 99 := by omega
theorem mp_o2220 {a0 : Int} {a1 : Int} {a2 : Int} {a3 : Int} {a4 : Int} {a5 : Int} {a6 : Int} (h0 : 0 ≤ a0) (h1 : a0 ≤ 5) (h2 : a1 = (6 * a2)) (h3 : a3 = (a1 + a0)) (h4 : a4 = (a5 + a2)) (h5 : a6 = (a4 + 1)) : (((Int.toNat a0) : Nat) : Int) = a0 := by omega
theorem mp_o2221 {a0 : Int} (h0 : 0 ≤ a0) (h1 : a0 ≤ 6) : (((Int.toNat a0) : Nat) : Int) = a0 := by omega
theorem mp_o2222 {a0 : Int} {a1 : Int} {a2 : Int} {a3 : Int} (h0 : 0 ≤ a0) (h1 : a0 ≤ 12) (h2 : a1 = (a2 + a0)) (h3 : a3 = (a1 + 1)) : ((a2 + (((Int.toNat a0) : Nat) : Int)) + 1) = a3 := by omega
theorem mp_o2223 {a0 : Int} {a1 : Int} {a2 : Int} {a3 : Int} (h0 : 0 ≤ a0) (h1 : a0 ≤ 12) (h2 : 0 ≤ a1) (h3 : a1 ≤ 99) (h4 : a2 = (a1 + a0)) (h5 : a3 = (a2 + 1)) : (-2147483648) ≤ (a1 + a0) := by omega
theorem mp_o2224 {a0 : Int} {a1 : Int} {a2 : Int} {a3 : Int} {a4 : Int} (h0 : a0 ≤ a1) (h1 : (a2 + a1) ≤ 99) (h2 : a3 = (a2 + a0)) (h3 : a4 = (a3 + 1)) : (a2 + a0) ≤ 2147483647 := by omega
theorem mp_o2225 {a0 : Int} {a1 : Int} {a2 : Int} {a3 : Int} {a4 : Int} (h0 : 0 ≤ a0) (h1 : a0 ≤ 12) (h2 : 0 ≤ a1) (h3 : a1 ≤ 99) (h4 : a2 = (a1 + a0)) (h5 : a3 = (a2 + 1)) (h6 : a4 = (a1 + a0)) : (-2147483648) ≤ (a4 + 1) := by omega
theorem mp_o2226 {a0 : Int} {a1 : Int} {a2 : Int} {a3 : Int} {a4 : Int} {a5 : Int} (h0 : a0 ≤ a1) (h1 : (a2 + a1) ≤ 99) (h2 : a3 = (a2 + a0)) (h3 : a4 = (a3 + 1)) (h4 : a5 = (a2 + a0)) : (a5 + 1) ≤ 2147483647 := by omega
theorem mp_o2227 {a0 : Int} {a1 : Int} {a2 : Int} {a3 : Int} {a4 : Int} {a5 : Int} (h0 : 0 ≤ a0) (h1 : a0 ≤ 12) (h2 : a1 = (a2 + a0)) (h3 : a3 = (a1 + 1)) (h4 : a4 = (a2 + a0)) (h5 : a5 = (a4 + 1)) : ((a2 + (((Int.toNat a0) : Nat) : Int)) + 1) = a5 := by omega
theorem mp_o2228 {a0 : Int} {a1 : Int} {a2 : Int} {a3 : Int} {a4 : Int} {a5 : Int} (h0 : 0 ≤ a0) (h1 : a0 ≤ 12) (h2 : a1 = (a2 + a0)) (h3 : a3 = (a1 + 1)) (h4 : a4 = (a2 + a0)) (h5 : a5 = (a4 + 1)) : (-2147483648) ≤ (a0 + 1) := by omega
theorem mp_o2229 {a0 : Int} {a1 : Int} {a2 : Int} {a3 : Int} {a4 : Int} {a5 : Int} (h0 : 0 ≤ a0) (h1 : a0 ≤ 12) (h2 : a1 = (a2 + a0)) (h3 : a3 = (a1 + 1)) (h4 : a4 = (a2 + a0)) (h5 : a5 = (a4 + 1)) : (a0 + 1) ≤ 2147483647 := by omega
theorem mp_o2230 {a0 : Int} {a1 : Int} {a2 : Int} {a3 : Int} {a4 : Int} {a5 : Int} {a6 : Int} (h0 : 0 ≤ a0) (h1 : a0 ≤ 12) (h2 : a1 = (a2 + a0)) (h3 : a3 = (a1 + 1)) (h4 : a4 = (a2 + a0)) (h5 : a5 = (a4 + 1)) (h6 : a6 = (a0 + 1)) : (-2147483648) ≤ (6 * a6) := by omega
theorem mp_o2231 {a0 : Int} {a1 : Int} {a2 : Int} {a3 : Int} {a4 : Int} {a5 : Int} {a6 : Int} (h0 : 0 ≤ a0) (h1 : a0 ≤ 12) (h2 : a1 = (a2 + a0)) (h3 : a3 = (a1 + 1)) (h4 : a4 = (a2 + a0)) (h5 : a5 = (a4 + 1)) (h6 : a6 = (a0 + 1)) : (6 * a6) ≤ 2147483647 := by omega
theorem mp_o2232 {a0 : Int} {a1 : Int} {a2 : Int} {a3 : Int} {a4 : Int} {a5 : Int} {a6 : Int} {a7 : Int} {a8 : Int} (h0 : 0 ≤ a0) (h1 : a0 ≤ 12) (h2 : 0 ≤ a1) (h3 : a1 ≤ 6) (h4 : a2 = (a3 + a0)) (h5 : a4 = (a2 + 1)) (h6 : a5 = (a3 + a0)) (h7 : a6 = (a5 + 1)) (h8 : a7 = (a0 + 1)) (h9 : a8 = (6 * a7)) : (-2147483648) ≤ (a8 + a1) := by omega
theorem mp_o2233 {a0 : Int} {a1 : Int} {a2 : Int} {a3 : Int} {a4 : Int} {a5 : Int} {a6 : Int} {a7 : Int} {a8 : Int} (h0 : 0 ≤ a0) (h1 : a0 ≤ 12) (h2 : 0 ≤ a1) (h3 : a1 ≤ 6) (h4 : a2 = (a3 + a0)) (h5 : a4 = (a2 + 1)) (h6 : a5 = (a3 + a0)) (h7 : a6 = (a5 + 1)) (h8 : a7 = (a0 + 1)) (h9 : a8 = (6 * a7)) : (a8 + a1) ≤ 2147483647 := by omega
theorem mp_o2234 {a0 : Int} {a1 : Int} {a2 : Int} {a3 : Int} {a4 : Int} {a5 : Int} {a6 : Int} {a7 : Int} {a8 : Int} {a9 : Int} (h0 : 0 ≤ a0) (h1 : a0 ≤ 12) (h2 : 0 ≤ a1) (h3 : a1 ≤ 6) (h4 : a2 = (a3 + a0)) (h5 : a4 = (a2 + 1)) (h6 : a5 = (a3 + a0)) (h7 : a6 = (a5 + 1)) (h8 : a7 = (a0 + 1)) (h9 : a8 = (6 * a7)) (h10 : a9 = (a8 + a1)) : a9 = (((((6 * (((Int.toNat a0) + 1))) + (Int.toNat a1))) : Nat) : Int) := by omega
theorem mp_o2235 {a0 : Int} {a1 : Int} {a2 : Int} {a3 : Int} {a4 : Int} (h0 : 0 ≤ a0) (h1 : a0 ≤ 6) (h2 : (0 ≤ a1 ∧ a1 ≤ 6)) (h3 : a0 < a1) (h4 : a2 = (6 * a3)) (h5 : a4 = (a2 + a0)) : (Int.toNat a0) < 6 := by omega
theorem mp_o2236 {a0 : Int} {a1 : Int} {a2 : Int} {a3 : Int} (h0 : 0 ≤ a0) (h1 : a0 ≤ 1000000) (h2 : a0 = a1) (h3 : a0 < 1000000) (h4 : a2 = a3) (h5 : 0 ≤ a2) (h6 : a3 ≤ 1000000) : (-2147483648) ≤ (a2 + a0) := by omega
theorem mp_o2237 {a0 : Int} {a1 : Int} {a2 : Int} {a3 : Int} (h0 : 0 ≤ a0) (h1 : a0 ≤ 1000000) (h2 : a0 = a1) (h3 : a0 < 1000000) (h4 : a2 = a3) (h5 : 0 ≤ a2) (h6 : a3 ≤ 1000000) : (a2 + a0) ≤ 2147483647 := by omega
theorem mp_o2238 {a0 : Int} {a1 : Int} {a2 : Int} {a3 : Int} {a4 : Int} {a5 : Int} {a6 : Int} {a7 : Int} {a8 : Int} {a9 : Int} (h0 : 0 ≤ a0) (h1 : a0 ≤ 12) (h2 : 0 ≤ a1) (h3 : a1 ≤ 5) (h4 : a2 = (6 * a0)) (h5 : a3 = (a2 + a1)) (h6 : a4 = (a5 + a0)) (h7 : a6 = (a4 + 1)) (h8 : a7 = (a5 + a0)) (h9 : a8 = (a7 + 1)) (h10 : a9 = (a0 + 1)) : ((0 ≤ a3 ∧ a3 < ((78 : Nat) : Int))) := by omega
theorem mp_o2239 {a0 : Int} {a1 : Int} {a2 : Int} {a3 : Int} {a4 : Int} {a5 : Int} {a6 : Int} {a7 : Int} {a8 : Int} {a9 : Int} (h0 : 0 ≤ a0) (h1 : a0 ≤ 12) (h2 : 0 ≤ a1) (h3 : a1 ≤ 5) (h4 : a2 = (6 * a0)) (h5 : a3 = (a2 + a1)) (h6 : a4 = (a5 + a0)) (h7 : a6 = (a4 + 1)) (h8 : a7 = (a5 + a0)) (h9 : a8 = (a7 + 1)) (h10 : a9 = (a0 + 1)) : a3 = (((((6 * (Int.toNat a0)) + (Int.toNat a1))) : Nat) : Int) := by omega
theorem mp_o2240 {a0 : Int} {a1 : Int} {a2 : Int} {a3 : Int} (h0 : 0 ≤ a0) (h1 : a0 ≤ 6) (h2 : a1 = (6 * a2)) (h3 : a3 = (a1 + a0)) : (-2147483648) ≤ (a0 + 1) := by omega
theorem mp_o2241 {a0 : Int} {a1 : Int} {a2 : Int} {a3 : Int} (h0 : 0 ≤ a0) (h1 : a0 ≤ 6) (h2 : a1 = (6 * a2)) (h3 : a3 = (a1 + a0)) : (a0 + 1) ≤ 2147483647 := by omega
theorem mp_o2242 {a0 : Int} {a1 : Int} {a2 : Nat} {a3 : Int} {a4 : Int} {a5 : Int} {a6 : Int} {a7 : Int} (h0 : (a0 - a1) ≤ ((a2 : Nat) : Int)) (h1 : a3 = a0) (h2 : a1 < a3) (h3 : a4 = (6 * a5)) (h4 : a6 = (a4 + a1)) (h5 : a7 = (a1 + 1)) : (a2 - 1) < a2 := by omega
theorem mp_o2243 {a0 : Int} {a1 : Int} {a2 : Int} {a3 : Int} {a4 : Int} (h0 : 0 ≤ a0) (h1 : a0 ≤ 6) (h2 : a1 = (6 * a2)) (h3 : a3 = (a1 + a0)) (h4 : a4 = (a0 + 1)) : 0 ≤ a4 := by omega
theorem mp_o2244 {a0 : Int} {a1 : Int} {a2 : Int} {a3 : Int} {a4 : Int} {a5 : Int} (h0 : 0 ≤ a0) (h1 : a0 ≤ 6) (h2 : (0 ≤ a1 ∧ a1 ≤ 6)) (h3 : a0 < a1) (h4 : a2 = (6 * a3)) (h5 : a4 = (a2 + a0)) (h6 : a5 = (a0 + 1)) : a5 ≤ 6 := by omega
theorem mp_o2245 {a0 : Int} {a1 : Int} {a2 : Int} {a3 : Int} {a4 : Int} (h0 : 0 ≤ a0) (h1 : a0 ≤ 6) (h2 : a1 = (6 * a2)) (h3 : a3 = (a1 + a0)) (h4 : a4 = (a0 + 1)) : a0 = (((Int.toNat a0) : Nat) : Int) := by omega
theorem mp_o2246 {a0 : Int} {a1 : Int} (h0 : a0 = a1) (h1 : 0 ≤ a0) (h2 : a1 ≤ 1000000) : 0 ≤ a1 := by omega
theorem mp_o2247 {a0 : Int} {a1 : Int} {a2 : Nat} {a3 : Int} {a4 : Int} {a5 : Int} {a6 : Int} {a7 : Int} (h0 : (a0 - a1) ≤ ((a2 : Nat) : Int)) (h1 : a3 = a0) (h2 : a1 < a3) (h3 : a4 = (6 * a5)) (h4 : a6 = (a4 + a1)) (h5 : a7 = (a1 + 1)) : (a0 - a7) ≤ ((((a2 - 1)) : Nat) : Int) := by omega
theorem mp_o2248 {a0 : Int} {a1 : Int} {a2 : Int} {a3 : Int} {a4 : Int} (h0 : 0 ≤ a0) (h1 : a0 ≤ 1000000) (h2 : a0 = a1) (h3 : a0 < 1000000) (h4 : a2 = a3) (h5 : 0 ≤ a2) (h6 : a3 ≤ 1000000) (h7 : a4 = (a2 + a0)) : (-2147483648) ≤ (a2 + a0) := by omega
theorem mp_o2249 {a0 : Int} {a1 : Int} {a2 : Int} {a3 : Int} {a4 : Int} (h0 : 0 ≤ a0) (h1 : a0 ≤ 1000000) (h2 : a0 = a1) (h3 : a0 < 1000000) (h4 : a2 = a3) (h5 : 0 ≤ a2) (h6 : a3 ≤ 1000000) (h7 : a4 = (a2 + a0)) : (a2 + a0) ≤ 2147483647 := by omega
theorem mp_o2250 {a0 : Int} {a1 : Int} {a2 : Int} {a3 : Int} {a4 : Int} {a5 : Int} {a6 : Int} {a7 : Int} {a8 : Int} {a9 : Int} (h0 : 0 ≤ a0) (h1 : a0 ≤ 12) (h2 : 0 ≤ a1) (h3 : a1 ≤ 5) (h4 : a2 = (6 * a0)) (h5 : a3 = (a2 + a1)) (h6 : a4 = (a5 + a0)) (h7 : a6 = (a4 + 1)) (h8 : a7 = (a5 + a0)) (h9 : a8 = (a7 + 1)) (h10 : a9 = (a0 + 1)) : a3 = ((6 * (((Int.toNat a0) : Nat) : Int)) + (((Int.toNat a1) : Nat) : Int)) := by omega
theorem mp_o2251 {a0 : Int} {a1 : Int} {a2 : Int} {a3 : Int} {a4 : Int} {a5 : Int} {a6 : Int} {a7 : Int} {a8 : Int} {a9 : Int} (h0 : 0 ≤ a0) (h1 : a0 ≤ 5) (h2 : a1 = (6 * a2)) (h3 : a3 = (a1 + a0)) (h4 : a4 = (a5 + a2)) (h5 : a6 = (a4 + 1)) (h6 : a7 = (a5 + a2)) (h7 : a8 = (a7 + 1)) (h8 : a9 = (a2 + 1)) : (Int.toNat a0) < 6 := by omega
theorem mp_o2252 {a0 : Int} {a1 : Int} {a2 : Int} {a3 : Int} {a4 : Int} {a5 : Int} {a6 : Int} (h0 : 0 ≤ a0) (h1 : a0 ≤ 6) (h2 : a1 = a2) (h3 : a0 < a1) (h4 : a3 = (6 * a4)) (h5 : a5 = (a3 + a0)) (h6 : a6 = (a0 + 1)) : (((Int.toNat a0) : Nat) : Int) < a2 := by omega
theorem mp_o2253 {a0 : Int} {a1 : Int} {a2 : Int} {a3 : Int} {a4 : Int} {a5 : Int} (h0 : 0 ≤ a0) (h1 : a0 ≤ 1000000) (h2 : a0 = a1) (h3 : a0 < 1000000) (h4 : a2 = a3) (h5 : a4 = (a2 + a0)) (h6 : a5 = (a2 + a0)) : a1 < 1000000 := by omega
theorem mp_o2254 {a0 : Int} {a1 : Int} {a2 : Int} {a3 : Int} {a4 : Int} {a5 : Int} (h0 : a0 = a1) (h1 : a2 = a3) (h2 : a4 = (a2 + a0)) (h3 : a5 = (a2 + a0)) : a5 = (a3 + a1) := by omega
theorem mp_o2255 {a0 : Int} {a1 : Int} {a2 : Int} {a3 : Int} {a4 : Int} {a5 : Int} {a6 : Int} {a7 : Int} (h0 : a0 = a1) (h1 : a2 = a3) (h2 : a4 = (a2 + a0)) (h3 : a5 = a6) (h4 : a4 < a5) (h5 : a7 = (a2 + a0)) : a7 < a6 := by omega
theorem mp_o2256 {a0 : Int} {a1 : Int} {a2 : Int} {a3 : Int} {a4 : Int} {a5 : Int} {a6 : Int} (h0 : 0 ≤ a0) (h1 : a0 ≤ 12) (h2 : a1 = (a2 + a0)) (h3 : a3 = (a1 + 1)) (h4 : a4 = (a2 + a0)) (h5 : a5 = (a4 + 1)) (h6 : a6 = (a0 + 1)) : (-2147483648) ≤ (a0 + 1) := by omega
theorem mp_o2257 {a0 : Int} {a1 : Int} {a2 : Int} {a3 : Int} {a4 : Int} {a5 : Int} {a6 : Int} (h0 : 0 ≤ a0) (h1 : a0 ≤ 12) (h2 : a1 = (a2 + a0)) (h3 : a3 = (a1 + 1)) (h4 : a4 = (a2 + a0)) (h5 : a5 = (a4 + 1)) (h6 : a6 = (a0 + 1)) : (a0 + 1) ≤ 2147483647 := by omega
theorem mp_o2258 {a0 : Int} {a1 : Int} {a2 : Nat} {a3 : Int} {a4 : Int} {a5 : Int} {a6 : Int} {a7 : Int} {a8 : Int} {a9 : Int} (h0 : a0 ≤ a1) (h1 : (a1 - a0) < ((a2 : Nat) : Int)) (h2 : a3 = (a4 + a0)) (h3 : a5 = (a3 + 1)) (h4 : a6 = (a4 + a0)) (h5 : a7 = (a6 + 1)) (h6 : a8 = (a0 + 1)) (h7 : a9 = (a0 + 1)) : (a2 - 1) < a2 := by omega
theorem mp_o2259 {a0 : Int} {a1 : Int} {a2 : Int} {a3 : Int} {a4 : Int} {a5 : Int} {a6 : Int} {a7 : Int} (h0 : 0 ≤ a0) (h1 : a0 ≤ 12) (h2 : a1 = (a2 + a0)) (h3 : a3 = (a1 + 1)) (h4 : a4 = (a2 + a0)) (h5 : a5 = (a4 + 1)) (h6 : a6 = (a0 + 1)) (h7 : a7 = (a0 + 1)) : 0 ≤ a7 := by omega
theorem mp_o2260 {a0 : Int} {a1 : Int} {a2 : Int} {a3 : Int} {a4 : Int} {a5 : Int} {a6 : Int} {a7 : Int} {a8 : Int} {a9 : Int} {a10 : Int} {a11 : Int} (h0 : 0 ≤ a0) (h1 : a0 ≤ 6) (h2 : (0 ≤ a1 ∧ a1 ≤ 6)) (h3 : a0 < a1) (h4 : a2 = (a3 + a4)) (h5 : a5 = (a2 + 1)) (h6 : a6 = (a3 + a4)) (h7 : a7 = (a6 + 1)) (h8 : a8 = (a4 + 1)) (h9 : a9 = (6 * a8)) (h10 : a10 = (a9 + a0)) (h11 : a11 = (a4 + 1)) : a0 ≤ 5 := by omega
theorem mp_o2261 {a0 : Int} {a1 : Int} {a2 : Int} {a3 : Int} {a4 : Int} {a5 : Int} {a6 : Int} {a7 : Int} (h0 : 0 ≤ a0) (h1 : a0 ≤ 12) (h2 : a1 = (a2 + a0)) (h3 : a3 = (a1 + 1)) (h4 : a4 = (a2 + a0)) (h5 : a5 = (a4 + 1)) (h6 : a6 = (a0 + 1)) (h7 : a7 = (a0 + 1)) : ((Int.toNat a0) + 1) ≤ ((Int.toNat a7) + 1) := by omega
theorem mp_o2262 {a0 : Int} {a1 : Int} {a2 : Int} {a3 : Int} {a4 : Int} {a5 : Int} {a6 : Int} {a7 : Int} {a8 : Int} {a9 : Int} {a10 : Int} (h0 : 0 ≤ a0) (h1 : a0 ≤ 6) (h2 : a1 = (a2 + a3)) (h3 : a4 = (a1 + 1)) (h4 : a5 = (a2 + a3)) (h5 : a6 = (a5 + 1)) (h6 : a7 = (a3 + 1)) (h7 : a8 = (6 * a7)) (h8 : a9 = (a8 + a0)) (h9 : a10 = (a3 + 1)) : a0 = (((Int.toNat a0) : Nat) : Int) := by omega
theorem mp_o2263 {a0 : Int} {a1 : Int} {a2 : Int} {a3 : Int} {a4 : Int} {a5 : Int} {a6 : Int} {a7 : Int} (h0 : 0 ≤ a0) (h1 : a0 ≤ 12) (h2 : a1 = (a2 + a0)) (h3 : a3 = (a1 + 1)) (h4 : a4 = (a2 + a0)) (h5 : a5 = (a4 + 1)) (h6 : a6 = (a0 + 1)) (h7 : a7 = (a0 + 1)) : (a2 + a7) = ((a2 + (((Int.toNat a0) : Nat) : Int)) + 1) := by omega
theorem mp_o2264 {a0 : Int} {a1 : Int} {a2 : Nat} {a3 : Int} {a4 : Int} {a5 : Int} {a6 : Int} {a7 : Int} {a8 : Int} {a9 : Int} (h0 : a0 ≤ a1) (h1 : (a1 - a0) < ((a2 : Nat) : Int)) (h2 : a3 = (a4 + a0)) (h3 : a5 = (a3 + 1)) (h4 : a6 = (a4 + a0)) (h5 : a7 = (a6 + 1)) (h6 : a8 = (a0 + 1)) (h7 : a9 = (a0 + 1)) : (a1 - a9) < ((((a2 - 1)) : Nat) : Int) := by omega
theorem mp_o2265 {a0 : Int} {a1 : Int} {a2 : Nat} {a3 : Int} {a4 : Int} {a5 : Int} {a6 : Int} {a7 : Int} {a8 : Int} {a9 : Int} (h0 : a0 ≤ a1) (h1 : (a1 - a0) < ((a2 : Nat) : Int)) (h2 : a3 = (a4 + a0)) (h3 : a5 = (a3 + 1)) (h4 : a6 = (a4 + a0)) (h5 : a7 = (a6 + 1)) (h6 : a8 = (a0 + 1)) (h7 : a9 = (a0 + 1)) : ((3 + (1 * ((a2 - 1)))) + 1) ≤ (3 + (1 * a2)) := by omega
theorem mp_o2266 {a0 : Int} {a1 : Int} {a2 : Nat} {a3 : Int} {a4 : Int} {a5 : Int} {a6 : Int} {a7 : Int} {a8 : Int} {a9 : Int} (h0 : a0 ≤ a1) (h1 : (a1 - a0) < ((a2 : Nat) : Int)) (h2 : a3 = (a4 + a0)) (h3 : a5 = (a3 + 1)) (h4 : a6 = (a4 + a0)) (h5 : a7 = (a6 + 1)) (h6 : a8 = (a0 + 1)) (h7 : a9 = (a0 + 1)) : ((8 + ((9 + 11))) + ((72 + (28 * ((a2 - 1)))))) ≤ (72 + (28 * a2)) := by omega
theorem mp_o2267 {a0 : Int} {a1 : Int} {a2 : Int} {a3 : Int} {a4 : Int} {a5 : Int} {a6 : Int} {a7 : Int} (h0 : 0 ≤ a0) (h1 : a0 ≤ 12) (h2 : a1 = (a2 + a0)) (h3 : a3 = (a1 + 1)) (h4 : a4 = (a2 + a0)) (h5 : a5 = (a4 + 1)) (h6 : a6 = (a0 + 1)) (h7 : a7 = (a0 + 1)) : (Int.toNat a7) = ((Int.toNat a0) + 1) := by omega
theorem mp_o2268 {a0 : Int} {a1 : Int} {a2 : Int} {a3 : Int} {a4 : Int} {a5 : Int} {a6 : Int} {a7 : Int} {a8 : Int} {a9 : Int} {a10 : Int} {a11 : Int} (h0 : 0 ≤ a0) (h1 : a0 ≤ 6) (h2 : (0 ≤ a1 ∧ a1 ≤ 6)) (h3 : a0 < a1) (h4 : a2 = (a3 + a4)) (h5 : a5 = (a2 + 1)) (h6 : a6 = (a3 + a4)) (h7 : a7 = (a6 + 1)) (h8 : a8 = (a4 + 1)) (h9 : a9 = (6 * a8)) (h10 : a10 = (a9 + a0)) (h11 : a11 = (a4 + 1)) : (Int.toNat a0) < 6 := by omega
theorem mp_o2269 {a0 : Int} {a1 : Int} {a2 : Int} {a3 : Int} {a4 : Int} {a5 : Int} {a6 : Int} {a7 : Int} {a8 : Int} {a9 : Int} {a10 : Int} (h0 : 0 ≤ a0) (h1 : a0 ≤ 5) (h2 : a1 = (6 * a2)) (h3 : a3 = (a1 + a0)) (h4 : a4 = (a5 + a2)) (h5 : a6 = (a4 + 1)) (h6 : a7 = (a5 + a2)) (h7 : a8 = (a7 + 1)) (h8 : a9 = (a2 + 1)) (h9 : a10 = (a2 + 1)) : (Int.toNat a0) < 6 := by omega
theorem mp_o2270 {a0 : Int} {a1 : Int} (h0 : a0 = a1) (h1 : a0 < 0) : a1 < 0 := by omega
theorem mp_o2271 {a0 : Int} {a1 : Int} {a2 : Int} {a3 : Int} {a4 : Int} {a5 : Int} {a6 : Int} {a7 : Int} {a8 : Int} {a9 : Int} {a10 : Int} (h0 : 0 ≤ a0) (h1 : a0 ≤ 12) (h2 : 0 ≤ a1) (h3 : a1 ≤ 6) (h4 : a2 = (a3 + a0)) (h5 : a4 = (a2 + 1)) (h6 : a5 = (a3 + a0)) (h7 : a6 = (a5 + 1)) (h8 : a7 = (a0 + 1)) (h9 : a8 = (6 * a7)) (h10 : a9 = (a8 + a1)) (h11 : a10 = (a0 + 1)) : a9 = (((((6 * (((Int.toNat a0) + 1))) + (Int.toNat a1))) : Nat) : Int) := by omega
theorem mp_o2272 {a0 : Int} {a1 : Int} {a2 : Int} {a3 : Int} {a4 : Int} {a5 : Int} {a6 : Int} {a7 : Int} {a8 : Int} {a9 : Int} {a10 : Int} (h0 : 0 ≤ a0) (h1 : a0 ≤ 12) (h2 : 0 ≤ a1) (h3 : a1 ≤ 5) (h4 : a2 = (6 * a0)) (h5 : a3 = (a2 + a1)) (h6 : a4 = (a5 + a0)) (h7 : a6 = (a4 + 1)) (h8 : a7 = (a5 + a0)) (h9 : a8 = (a7 + 1)) (h10 : a9 = (a0 + 1)) (h11 : a10 = (a0 + 1)) : ((0 ≤ a3 ∧ a3 < ((78 : Nat) : Int))) := by omega
theorem mp_o2273 {a0 : Int} {a1 : Int} {a2 : Int} {a3 : Int} {a4 : Int} {a5 : Int} {a6 : Int} {a7 : Int} {a8 : Int} {a9 : Int} {a10 : Int} (h0 : 0 ≤ a0) (h1 : a0 ≤ 12) (h2 : 0 ≤ a1) (h3 : a1 ≤ 5) (h4 : a2 = (6 * a0)) (h5 : a3 = (a2 + a1)) (h6 : a4 = (a5 + a0)) (h7 : a6 = (a4 + 1)) (h8 : a7 = (a5 + a0)) (h9 : a8 = (a7 + 1)) (h10 : a9 = (a0 + 1)) (h11 : a10 = (a0 + 1)) : a3 = (((((6 * (Int.toNat a0)) + (Int.toNat a1))) : Nat) : Int) := by omega
theorem mp_o2274 {a0 : Int} {a1 : Int} {a2 : Int} {a3 : Int} {a4 : Int} {a5 : Int} {a6 : Int} {a7 : Int} {a8 : Int} {a9 : Int} {a10 : Int} (h0 : 0 ≤ a0) (h1 : a0 ≤ 6) (h2 : a1 = (a2 + a3)) (h3 : a4 = (a1 + 1)) (h4 : a5 = (a2 + a3)) (h5 : a6 = (a5 + 1)) (h6 : a7 = (a3 + 1)) (h7 : a8 = (6 * a7)) (h8 : a9 = (a8 + a0)) (h9 : a10 = (a3 + 1)) : (-2147483648) ≤ (a0 + 1) := by omega
theorem mp_o2275 {a0 : Int} {a1 : Int} {a2 : Int} {a3 : Int} {a4 : Int} {a5 : Int} {a6 : Int} {a7 : Int} {a8 : Int} {a9 : Int} {a10 : Int} (h0 : 0 ≤ a0) (h1 : a0 ≤ 6) (h2 : a1 = (a2 + a3)) (h3 : a4 = (a1 + 1)) (h4 : a5 = (a2 + a3)) (h5 : a6 = (a5 + 1)) (h6 : a7 = (a3 + 1)) (h7 : a8 = (6 * a7)) (h8 : a9 = (a8 + a0)) (h9 : a10 = (a3 + 1)) : (a0 + 1) ≤ 2147483647 := by omega
theorem mp_o2276 {a0 : Int} {a1 : Int} {a2 : Nat} {a3 : Int} {a4 : Int} {a5 : Int} {a6 : Int} {a7 : Int} {a8 : Int} {a9 : Int} {a10 : Int} {a11 : Int} {a12 : Int} {a13 : Int} {a14 : Int} (h0 : (a0 - a1) ≤ ((a2 : Nat) : Int)) (h1 : a3 = a0) (h2 : a1 < a3) (h3 : a4 = (a5 + a6)) (h4 : a7 = (a4 + 1)) (h5 : a8 = (a5 + a6)) (h6 : a9 = (a8 + 1)) (h7 : a10 = (a6 + 1)) (h8 : a11 = (6 * a10)) (h9 : a12 = (a11 + a1)) (h10 : a13 = (a6 + 1)) (h11 : a14 = (a1 + 1)) : (a2 - 1) < a2 := by omega
theorem mp_o2277 {a0 : Int} {a1 : Int} {a2 : Int} {a3 : Int} {a4 : Int} {a5 : Int} {a6 : Int} {a7 : Int} {a8 : Int} {a9 : Int} {a10 : Int} {a11 : Int} (h0 : 0 ≤ a0) (h1 : a0 ≤ 6) (h2 : a1 = (a2 + a3)) (h3 : a4 = (a1 + 1)) (h4 : a5 = (a2 + a3)) (h5 : a6 = (a5 + 1)) (h6 : a7 = (a3 + 1)) (h7 : a8 = (6 * a7)) (h8 : a9 = (a8 + a0)) (h9 : a10 = (a3 + 1)) (h10 : a11 = (a0 + 1)) : 0 ≤ a11 := by omega
theorem mp_o2278 {a0 : Int} {a1 : Int} {a2 : Int} {a3 : Int} {a4 : Int} {a5 : Int} {a6 : Int} {a7 : Int} {a8 : Int} {a9 : Int} {a10 : Int} {a11 : Int} {a12 : Int} (h0 : 0 ≤ a0) (h1 : a0 ≤ 6) (h2 : (0 ≤ a1 ∧ a1 ≤ 6)) (h3 : a0 < a1) (h4 : a2 = (a3 + a4)) (h5 : a5 = (a2 + 1)) (h6 : a6 = (a3 + a4)) (h7 : a7 = (a6 + 1)) (h8 : a8 = (a4 + 1)) (h9 : a9 = (6 * a8)) (h10 : a10 = (a9 + a0)) (h11 : a11 = (a4 + 1)) (h12 : a12 = (a0 + 1)) : a12 ≤ 6 := by omega
theorem mp_o2279 {a0 : Int} {a1 : Int} {a2 : Int} {a3 : Int} {a4 : Int} {a5 : Int} {a6 : Int} {a7 : Int} {a8 : Int} {a9 : Int} {a10 : Int} {a11 : Int} (h0 : 0 ≤ a0) (h1 : a0 ≤ 6) (h2 : a1 = (a2 + a3)) (h3 : a4 = (a1 + 1)) (h4 : a5 = (a2 + a3)) (h5 : a6 = (a5 + 1)) (h6 : a7 = (a3 + 1)) (h7 : a8 = (6 * a7)) (h8 : a9 = (a8 + a0)) (h9 : a10 = (a3 + 1)) (h10 : a11 = (a0 + 1)) : a0 = (((Int.toNat a0) : Nat) : Int) := by omega
theorem mp_o2280 {a0 : Int} {a1 : Int} {a2 : Nat} {a3 : Int} {a4 : Int} {a5 : Int} {a6 : Int} {a7 : Int} {a8 : Int} {a9 : Int} {a10 : Int} {a11 : Int} {a12 : Int} {a13 : Int} {a14 : Int} (h0 : (a0 - a1) ≤ ((a2 : Nat) : Int)) (h1 : a3 = a0) (h2 : a1 < a3) (h3 : a4 = (a5 + a6)) (h4 : a7 = (a4 + 1)) (h5 : a8 = (a5 + a6)) (h6 : a9 = (a8 + 1)) (h7 : a10 = (a6 + 1)) (h8 : a11 = (6 * a10)) (h9 : a12 = (a11 + a1)) (h10 : a13 = (a6 + 1)) (h11 : a14 = (a1 + 1)) : (a0 - a14) ≤ ((((a2 - 1)) : Nat) : Int) := by omega
theorem mp_o2281 {a0 : Int} {a1 : Int} {a2 : Int} {a3 : Int} {a4 : Int} {a5 : Int} {a6 : Int} {a7 : Int} {a8 : Int} {a9 : Int} {a10 : Int} (h0 : 0 ≤ a0) (h1 : a0 ≤ 12) (h2 : 0 ≤ a1) (h3 : a1 ≤ 5) (h4 : a2 = (6 * a0)) (h5 : a3 = (a2 + a1)) (h6 : a4 = (a5 + a0)) (h7 : a6 = (a4 + 1)) (h8 : a7 = (a5 + a0)) (h9 : a8 = (a7 + 1)) (h10 : a9 = (a0 + 1)) (h11 : a10 = (a0 + 1)) : a3 = ((6 * (((Int.toNat a0) : Nat) : Int)) + (((Int.toNat a1) : Nat) : Int)) := by omega
theorem mp_o2282 {a0 : Int} {a1 : Int} {a2 : Int} {a3 : Int} {a4 : Int} {a5 : Int} {a6 : Int} {a7 : Int} {a8 : Int} {a9 : Int} {a10 : Int} {a11 : Int} {a12 : Int} {a13 : Int} (h0 : 0 ≤ a0) (h1 : a0 ≤ 6) (h2 : a1 = a2) (h3 : a0 < a1) (h4 : a3 = (a4 + a5)) (h5 : a6 = (a3 + 1)) (h6 : a7 = (a4 + a5)) (h7 : a8 = (a7 + 1)) (h8 : a9 = (a5 + 1)) (h9 : a10 = (6 * a9)) (h10 : a11 = (a10 + a0)) (h11 : a12 = (a5 + 1)) (h12 : a13 = (a0 + 1)) : (((Int.toNat a0) : Nat) : Int) < a2 := by omega
theorem mp_o2283 {a0 : Int} {a1 : Int} {a2 : Int} {a3 : Int} {a4 : Int} (h0 : 0 ≤ a0) (h1 : a0 ≤ 1000000) (h2 : a0 = a1) (h3 : a0 < 1000000) (h4 : a2 = (a3 + a0)) (h5 : a4 = (a3 + a0)) : a1 < 1000000 := by omega
theorem mp_o2284 {a0 : Int} {a1 : Int} {a2 : Int} {a3 : Int} {a4 : Int} {a5 : Int} {a6 : Int} (h0 : a0 = a1) (h1 : a2 = (a3 + a0)) (h2 : a4 = a5) (h3 : a2 < a4) (h4 : a6 = (a3 + a0)) : a6 < a5 := by omega
theorem mp_o2285 {a0 : Int} {a1 : Int} {a2 : Int} {a3 : Int} (h0 : 0 ≤ a0) (h1 : a0 ≤ 12) (h2 : 0 ≤ a1) (h3 : a1 ≤ 5) (h4 : a2 = (6 * a0)) (h5 : a3 = (a2 + a1)) : a3 = ((6 * (((Int.toNat a0) : Nat) : Int)) + (((Int.toNat a1) : Nat) : Int)) := by omega
theorem mp_o2286 {a0 : Int} {a1 : Int} {a2 : Int} {a3 : Int} (h0 : 0 ≤ a0) (h1 : a0 ≤ 5) (h2 : a1 = (6 * a2)) (h3 : a3 = (a1 + a0)) : (Int.toNat a0) < 6 := by omega
theorem mp_o2287 {a0 : Int} {a1 : Int} {a2 : Int} {a3 : Int} {a4 : Int} (h0 : 0 ≤ a0) (h1 : a0 ≤ 12) (h2 : 0 ≤ a1) (h3 : a1 ≤ 5) (h4 : a2 = (6 * a0)) (h5 : a3 = (a2 + a1)) (h6 : a0 = a4) : ((0 ≤ a3 ∧ a3 < ((78 : Nat) : Int))) := by omega
theorem mp_o2288 {a0 : Int} {a1 : Int} {a2 : Int} {a3 : Int} {a4 : Int} (h0 : 0 ≤ a0) (h1 : a0 ≤ 12) (h2 : 0 ≤ a1) (h3 : a1 ≤ 5) (h4 : a2 = (6 * a0)) (h5 : a3 = (a2 + a1)) (h6 : a0 = a4) : a3 = ((6 * (((Int.toNat a0) : Nat) : Int)) + (((Int.toNat a1) : Nat) : Int)) := by omega
theorem mp_o2289 {a0 : Int} {a1 : Int} {a2 : Int} {a3 : Int} {a4 : Int} (h0 : 0 ≤ a0) (h1 : a0 ≤ 5) (h2 : a1 = (6 * a2)) (h3 : a3 = (a1 + a0)) (h4 : a2 = a4) : (Int.toNat a0) < 6 := by omega
theorem mp_o2290 {a0 : Int} {a1 : Int} (h0 : 0 ≤ a0) (h1 : a0 ≤ 12) (h2 : a0 = a1) : a1 = (((Int.toNat a0) : Nat) : Int) := by omega
theorem mp_o2291 {a0 : Int} {a1 : Int} (h0 : 1 ≤ a0) (h1 : a0 ≤ 12) (h2 : a1 = 0) : a1 ≤ a0 := by omega
theorem mp_o2292 {a0 : Int} {a1 : Nat} (h0 : 0 ≤ a0) (h1 : a0 ≤ 78) (h2 : 78 ≤ a0) (h3 : a1 < 78) : ((a1 : Nat) : Int) < a0 := by omega
theorem mp_o2293 {a0 : Int} {a1 : Int} (h0 : 1 ≤ a0) (h1 : a0 ≤ 12) (h2 : a1 = 0) : (a0 - a1) < ((13 : Nat) : Int) := by omega
theorem mp_o2294 {a0 : Int} {a1 : Int} (h0 : (0 ≤ a0 ∧ a0 ≤ 5)) (h1 : a0 = a1) : ((0 ≤ a0 ∧ a0 < ((78 : Nat) : Int))) := by omega
theorem mp_o2295 {a0 : Int} {a1 : Int} (h0 : (0 ≤ a0 ∧ a0 ≤ 5)) (h1 : a0 = a1) : a0 = (((Int.toNat a1) : Nat) : Int) := by omega
theorem mp_o2296 {a0 : Int} {a1 : Int} (h0 : (0 ≤ a0 ∧ a0 ≤ 5)) (h1 : a0 = a1) : (Int.toNat a0) = (Int.toNat a1) := by omega
theorem mp_o2297 {a0 : Int} (h0 : 0 ≤ a0) (h1 : a0 ≤ 78) (h2 : a0 < 78) : ((0 ≤ a0 ∧ a0 < ((78 : Nat) : Int))) := by omega
theorem mp_o2298 {a0 : Int} (h0 : 0 ≤ a0) (h1 : a0 ≤ 78) (h2 : a0 < 78) : (-2147483648) ≤ (a0 + 1) := by omega
theorem mp_o2299 {a0 : Int} (h0 : 0 ≤ a0) (h1 : a0 ≤ 78) (h2 : a0 < 78) : (a0 + 1) ≤ 2147483647 := by omega
theorem mp_o2300 {a0 : Int} {a1 : Nat} {a2 : Int} (h0 : 0 ≤ a0) (h1 : a0 ≤ 78) (h2 : ((-a0) + 78) ≤ ((a1 : Nat) : Int)) (h3 : a0 < 78) (h4 : a2 = (a0 + 1)) : (a1 - 1) < a1 := by omega
theorem mp_o2301 {a0 : Int} {a1 : Int} (h0 : 0 ≤ a0) (h1 : a0 ≤ 78) (h2 : a0 < 78) (h3 : a1 = (a0 + 1)) : 0 ≤ a1 := by omega
theorem mp_o2302 {a0 : Int} {a1 : Int} (h0 : 0 ≤ a0) (h1 : a0 ≤ 78) (h2 : a0 < 78) (h3 : a1 = (a0 + 1)) : a1 ≤ 78 := by omega
theorem mp_o2303 {a0 : Int} {a1 : Int} (h0 : 0 ≤ a0) (h1 : a0 ≤ 78) (h2 : a0 < 78) (h3 : a1 = (a0 + 1)) : ((0 ≤ a0 ∧ a1 = (a0 + 1))) := by omega
theorem mp_o2304 {a0 : Int} {a1 : Nat} {a2 : Int} (h0 : 0 ≤ a0) (h1 : a0 ≤ 78) (h2 : ((-a0) + 78) ≤ ((a1 : Nat) : Int)) (h3 : a0 < 78) (h4 : a2 = (a0 + 1)) : ((-a2) + 78) ≤ ((((a1 - 1)) : Nat) : Int) := by omega
theorem mp_o2305 {a0 : Int} (h0 : 0 ≤ a0) (h1 : a0 ≤ 98) : a0 ≤ 99 := by omega
theorem mp_o2306 {a0 : Int} {a1 : Int} (h0 : 0 ≤ a0) (h1 : a0 ≤ 11) (h2 : 0 ≤ a1) (h3 : a1 ≤ 99) : (-2147483648) ≤ (a1 + a0) := by omega
theorem mp_o2307 {a0 : Int} {a1 : Int} (h0 : (a0 + a1) ≤ 98) : (a0 + a1) ≤ 2147483647 := by omega
theorem mp_o2308 {a0 : Int} {a1 : Int} {a2 : Int} (h0 : 0 ≤ a0) (h1 : a0 ≤ 11) (h2 : 0 ≤ a1) (h3 : a1 ≤ 99) (h4 : a2 = (a1 + a0)) : (-2147483648) ≤ (a2 + 1) := by omega
theorem mp_o2309 {a0 : Int} {a1 : Int} {a2 : Int} (h0 : (a0 + a1) ≤ 98) (h1 : a2 = (a0 + a1)) : (a2 + 1) ≤ 2147483647 := by omega
theorem mp_o2310 {a0 : Int} {a1 : Int} {a2 : Int} {a3 : Int} (h0 : 0 ≤ a0) (h1 : a0 ≤ 11) (h2 : 0 ≤ a1) (h3 : a1 ≤ 99) (h4 : a2 = (a1 + a0)) (h5 : a3 = (a2 + 1)) : 0 ≤ a3 := by omega
theorem mp_o2311 {a0 : Int} {a1 : Int} {a2 : Int} {a3 : Int} (h0 : (a0 + a1) ≤ 98) (h1 : a2 = (a0 + a1)) (h2 : a3 = (a2 + 1)) : a3 ≤ 99 := by omega
theorem mp_o2312 {a0 : Int} (h0 : 0 ≤ a0) (h1 : a0 ≤ 5) : (((Int.toNat a0) : Nat) : Int) = a0 := by omega
theorem mp_o2313 {a0 : Int} {a1 : Int} {a2 : Int} {a3 : Int} (h0 : 0 ≤ a0) (h1 : a0 ≤ 11) (h2 : a1 = (a2 + a0)) (h3 : a3 = (a1 + 1)) : ((a2 + (((Int.toNat a0) : Nat) : Int)) + 1) = a3 := by omega
theorem mp_o2314 {a0 : Int} {a1 : Int} (h0 : 0 ≤ a0) (h1 : a0 ≤ 1000000) (h2 : a0 = a1) (h3 : 1000000 ≤ a0) (h4 : a1 < 1000000) : False := by omega
theorem mp_o2315 {a0 : Int} {a1 : Int} {a2 : Int} {a3 : Int} (h0 : 0 ≤ a0) (h1 : a0 ≤ 11) (h2 : 0 ≤ a1) (h3 : a1 ≤ 99) (h4 : a2 = (a1 + a0)) (h5 : a3 = (a2 + 1)) : (-2147483648) ≤ (a1 + a0) := by omega
theorem mp_o2316 {a0 : Int} {a1 : Int} {a2 : Int} {a3 : Int} (h0 : (a0 + a1) ≤ 98) (h1 : a2 = (a0 + a1)) (h2 : a3 = (a2 + 1)) : (a0 + a1) ≤ 2147483647 := by omega
theorem mp_o2317 {a0 : Int} {a1 : Int} {a2 : Int} {a3 : Int} {a4 : Int} (h0 : 0 ≤ a0) (h1 : a0 ≤ 11) (h2 : 0 ≤ a1) (h3 : a1 ≤ 99) (h4 : a2 = (a1 + a0)) (h5 : a3 = (a2 + 1)) (h6 : a4 = (a1 + a0)) : (-2147483648) ≤ (a4 + 1) := by omega
theorem mp_o2318 {a0 : Int} {a1 : Int} {a2 : Int} {a3 : Int} {a4 : Int} (h0 : (a0 + a1) ≤ 98) (h1 : a2 = (a0 + a1)) (h2 : a3 = (a2 + 1)) (h3 : a4 = (a0 + a1)) : (a4 + 1) ≤ 2147483647 := by omega
theorem mp_o2319 {a0 : Int} {a1 : Int} {a2 : Int} {a3 : Int} {a4 : Int} {a5 : Int} (h0 : 0 ≤ a0) (h1 : a0 ≤ 11) (h2 : a1 = (a2 + a0)) (h3 : a3 = (a1 + 1)) (h4 : a4 = (a2 + a0)) (h5 : a5 = (a4 + 1)) : ((a2 + (((Int.toNat a0) : Nat) : Int)) + 1) = a5 := by omega
theorem mp_o2320 {a0 : Int} {a1 : Int} {a2 : Int} {a3 : Int} {a4 : Int} {a5 : Int} (h0 : 0 ≤ a0) (h1 : a0 ≤ 11) (h2 : a1 = (a2 + a0)) (h3 : a3 = (a1 + 1)) (h4 : a4 = (a2 + a0)) (h5 : a5 = (a4 + 1)) : (-2147483648) ≤ (a0 + 1) := by omega
theorem mp_o2321 {a0 : Int} {a1 : Int} {a2 : Int} {a3 : Int} {a4 : Int} {a5 : Int} (h0 : 0 ≤ a0) (h1 : a0 ≤ 11) (h2 : a1 = (a2 + a0)) (h3 : a3 = (a1 + 1)) (h4 : a4 = (a2 + a0)) (h5 : a5 = (a4 + 1)) : (a0 + 1) ≤ 2147483647 := by omega
theorem mp_o2322 {a0 : Int} {a1 : Int} {a2 : Int} {a3 : Int} {a4 : Int} {a5 : Int} {a6 : Int} (h0 : 0 ≤ a0) (h1 : a0 ≤ 11) (h2 : a1 = (a2 + a0)) (h3 : a3 = (a1 + 1)) (h4 : a4 = (a2 + a0)) (h5 : a5 = (a4 + 1)) (h6 : a6 = (a0 + 1)) : (-2147483648) ≤ (6 * a6) := by omega
theorem mp_o2323 {a0 : Int} {a1 : Int} {a2 : Int} {a3 : Int} {a4 : Int} {a5 : Int} {a6 : Int} (h0 : 0 ≤ a0) (h1 : a0 ≤ 11) (h2 : a1 = (a2 + a0)) (h3 : a3 = (a1 + 1)) (h4 : a4 = (a2 + a0)) (h5 : a5 = (a4 + 1)) (h6 : a6 = (a0 + 1)) : (6 * a6) ≤ 2147483647 := by omega
theorem mp_o2324 {a0 : Int} {a1 : Int} {a2 : Int} {a3 : Int} {a4 : Int} {a5 : Int} {a6 : Int} {a7 : Int} {a8 : Int} (h0 : 0 ≤ a0) (h1 : a0 ≤ 11) (h2 : 0 ≤ a1) (h3 : a1 ≤ 5) (h4 : a2 = (a3 + a0)) (h5 : a4 = (a2 + 1)) (h6 : a5 = (a3 + a0)) (h7 : a6 = (a5 + 1)) (h8 : a7 = (a0 + 1)) (h9 : a8 = (6 * a7)) : (-2147483648) ≤ (a8 + a1) := by omega
theorem mp_o2325 {a0 : Int} {a1 : Int} {a2 : Int} {a3 : Int} {a4 : Int} {a5 : Int} {a6 : Int} {a7 : Int} {a8 : Int} (h0 : 0 ≤ a0) (h1 : a0 ≤ 11) (h2 : 0 ≤ a1) (h3 : a1 ≤ 5) (h4 : a2 = (a3 + a0)) (h5 : a4 = (a2 + 1)) (h6 : a5 = (a3 + a0)) (h7 : a6 = (a5 + 1)) (h8 : a7 = (a0 + 1)) (h9 : a8 = (6 * a7)) : (a8 + a1) ≤ 2147483647 := by omega
theorem mp_o2326 {a0 : Int} {a1 : Int} {a2 : Int} {a3 : Int} {a4 : Int} {a5 : Int} {a6 : Int} {a7 : Int} {a8 : Int} {a9 : Int} (h0 : 0 ≤ a0) (h1 : a0 ≤ 11) (h2 : 0 ≤ a1) (h3 : a1 ≤ 5) (h4 : a2 = (a3 + a0)) (h5 : a4 = (a2 + 1)) (h6 : a5 = (a3 + a0)) (h7 : a6 = (a5 + 1)) (h8 : a7 = (a0 + 1)) (h9 : a8 = (6 * a7)) (h10 : a9 = (a8 + a1)) : ((0 ≤ a9 ∧ a9 < ((78 : Nat) : Int))) := by omega
theorem mp_o2327 {a0 : Int} {a1 : Int} {a2 : Int} {a3 : Int} {a4 : Int} {a5 : Int} {a6 : Int} {a7 : Int} {a8 : Int} {a9 : Int} (h0 : 0 ≤ a0) (h1 : a0 ≤ 11) (h2 : 0 ≤ a1) (h3 : a1 ≤ 5) (h4 : a2 = (a3 + a0)) (h5 : a4 = (a2 + 1)) (h6 : a5 = (a3 + a0)) (h7 : a6 = (a5 + 1)) (h8 : a7 = (a0 + 1)) (h9 : a8 = (6 * a7)) (h10 : a9 = (a8 + a1)) : a9 = (((((6 * (((Int.toNat a0) + 1))) + (Int.toNat a1))) : Nat) : Int) := by omega
theorem mp_o2328 {a0 : Int} {a1 : Int} {a2 : Int} {a3 : Int} {a4 : Int} {a5 : Int} {a6 : Int} {a7 : Int} (h0 : 0 ≤ a0) (h1 : a0 ≤ 11) (h2 : a0 < a1) (h3 : a2 = (a3 + a0)) (h4 : a4 = (a2 + 1)) (h5 : a5 = (a3 + a0)) (h6 : a6 = (a5 + 1)) (h7 : a7 = (a0 + 1)) : (((Int.toNat a0) : Nat) : Int) < a1 := by omega
theorem mp_o2329 {a0 : Int} {a1 : Int} {a2 : Int} {a3 : Int} {a4 : Int} (h0 : 0 ≤ a0) (h1 : a0 ≤ 5) (h2 : a0 < a1) (h3 : a2 = (6 * a3)) (h4 : a4 = (a2 + a0)) : (((Int.toNat a0) : Nat) : Int) < a1 := by omega
theorem mp_o2330 {a0 : Int} {a1 : Int} (h0 : 0 ≤ a0) (h1 : a0 ≤ 1000000) (h2 : a0 = a1) (h3 : a0 < 1000000) : a1 < 1000000 := by omega
theorem mp_o2331 {a0 : Int} {a1 : Int} {a2 : Int} {a3 : Int} (h0 : 0 ≤ a0) (h1 : a0 ≤ 1000000) (h2 : a0 = a1) (h3 : a0 < 1000000) (h4 : a2 = a3) (h5 : (0 ≤ a3 ∧ a3 ≤ 1000000)) : (-2147483648) ≤ (a2 + a0) := by omega
theorem mp_o2332 {a0 : Int} {a1 : Int} {a2 : Int} {a3 : Int} (h0 : 0 ≤ a0) (h1 : a0 ≤ 1000000) (h2 : a0 = a1) (h3 : a0 < 1000000) (h4 : a2 = a3) (h5 : (0 ≤ a3 ∧ a3 ≤ 1000000)) : (a2 + a0) ≤ 2147483647 := by omega
theorem mp_o2333 {a0 : Int} {a1 : Int} {a2 : Int} {a3 : Int} {a4 : Int} {a5 : Int} {a6 : Int} (h0 : 0 ≤ a0) (h1 : a0 ≤ 11) (h2 : a1 = (a2 + a0)) (h3 : a3 = (a1 + 1)) (h4 : a4 = (a2 + a0)) (h5 : a5 = (a4 + 1)) (h6 : a6 = (a0 + 1)) : (-2147483648) ≤ (6 * a0) := by omega
theorem mp_o2334 {a0 : Int} {a1 : Int} {a2 : Int} {a3 : Int} {a4 : Int} {a5 : Int} {a6 : Int} (h0 : 0 ≤ a0) (h1 : a0 ≤ 11) (h2 : a1 = (a2 + a0)) (h3 : a3 = (a1 + 1)) (h4 : a4 = (a2 + a0)) (h5 : a5 = (a4 + 1)) (h6 : a6 = (a0 + 1)) : (6 * a0) ≤ 2147483647 := by omega
theorem mp_o2335 {a0 : Int} {a1 : Int} {a2 : Int} {a3 : Int} {a4 : Int} {a5 : Int} {a6 : Int} {a7 : Int} {a8 : Int} (h0 : 0 ≤ a0) (h1 : a0 ≤ 11) (h2 : 0 ≤ a1) (h3 : a1 ≤ 5) (h4 : a2 = (a3 + a0)) (h5 : a4 = (a2 + 1)) (h6 : a5 = (a3 + a0)) (h7 : a6 = (a5 + 1)) (h8 : a7 = (a0 + 1)) (h9 : a8 = (6 * a0)) : (-2147483648) ≤ (a8 + a1) := by omega
theorem mp_o2336 {a0 : Int} {a1 : Int} {a2 : Int} {a3 : Int} {a4 : Int} {a5 : Int} {a6 : Int} {a7 : Int} {a8 : Int} (h0 : 0 ≤ a0) (h1 : a0 ≤ 11) (h2 : 0 ≤ a1) (h3 : a1 ≤ 5) (h4 : a2 = (a3 + a0)) (h5 : a4 = (a2 + 1)) (h6 : a5 = (a3 + a0)) (h7 : a6 = (a5 + 1)) (h8 : a7 = (a0 + 1)) (h9 : a8 = (6 * a0)) : (a8 + a1) ≤ 2147483647 := by omega
theorem mp_o2337 {a0 : Int} {a1 : Int} {a2 : Int} {a3 : Int} {a4 : Int} {a5 : Int} {a6 : Int} {a7 : Int} {a8 : Int} {a9 : Int} (h0 : 0 ≤ a0) (h1 : a0 ≤ 11) (h2 : 0 ≤ a1) (h3 : a1 ≤ 5) (h4 : a2 = (a3 + a0)) (h5 : a4 = (a2 + 1)) (h6 : a5 = (a3 + a0)) (h7 : a6 = (a5 + 1)) (h8 : a7 = (a0 + 1)) (h9 : a8 = (6 * a0)) (h10 : a9 = (a8 + a1)) : ((0 ≤ a9 ∧ a9 < ((78 : Nat) : Int))) := by omega
theorem mp_o2338 {a0 : Int} {a1 : Int} {a2 : Int} {a3 : Int} {a4 : Int} {a5 : Int} {a6 : Int} {a7 : Int} {a8 : Int} {a9 : Int} (h0 : 0 ≤ a0) (h1 : a0 ≤ 11) (h2 : 0 ≤ a1) (h3 : a1 ≤ 5) (h4 : a2 = (a3 + a0)) (h5 : a4 = (a2 + 1)) (h6 : a5 = (a3 + a0)) (h7 : a6 = (a5 + 1)) (h8 : a7 = (a0 + 1)) (h9 : a8 = (6 * a0)) (h10 : a9 = (a8 + a1)) : a9 = (((((6 * (Int.toNat a0)) + (Int.toNat a1))) : Nat) : Int) := by omega
theorem mp_o2339 {a0 : Int} {a1 : Int} {a2 : Int} {a3 : Int} {a4 : Int} {a5 : Int} {a6 : Int} (h0 : a0 = a1) (h1 : a2 = a3) (h2 : a4 = (a2 + a0)) (h3 : a5 = a6) (h4 : a4 ≠ a5) (h5 : (a3 + a1) = a6) : False := by omega
theorem mp_o2340 {a0 : Int} {a1 : Int} {a2 : Int} {a3 : Int} {a4 : Int} {a5 : Int} {a6 : Int} (h0 : 0 ≤ a0) (h1 : a0 ≤ 1000000) (h2 : a0 = a1) (h3 : a0 < 1000000) (h4 : a2 = a3) (h5 : a4 = (a2 + a0)) (h6 : a5 = a6) (h7 : a4 = a5) : a1 < 1000000 := by omega
theorem mp_o2341 {a0 : Int} {a1 : Int} {a2 : Int} {a3 : Int} {a4 : Int} {a5 : Int} {a6 : Int} (h0 : a0 = a1) (h1 : a2 = a3) (h2 : a4 = (a2 + a0)) (h3 : a5 = a6) (h4 : a4 = a5) : (a3 + a1) = a6 := by omega
theorem mp_o2342 {a0 : Int} (h0 : 1 ≤ a0) (h1 : a0 ≤ 12) : (-2147483648) ≤ (a0 - 1) := by omega
theorem mp_o2343 {a0 : Int} {a1 : Int} {a2 : Int} (h0 : 1 ≤ a0) (h1 : a0 ≤ 12) (h2 : a1 = (a0 - 1)) (h3 : a2 = a1) : 0 ≤ a0 := by omega
theorem mp_o2344 {a0 : Int} {a1 : Int} {a2 : Int} {a3 : Int} {a4 : Int} {a5 : Int} {a6 : Int} (h0 : a0 = a1) (h1 : a2 = (a3 - 1)) (h2 : a4 = a2) (h3 : a5 ≤ a0) (h4 : a0 ≤ a4) (h5 : a5 = 0) (h6 : a6 ≤ a1) : (((Int.toNat a6) : Nat) : Int) < a3 := by omega
theorem mp_o2345 {a0 : Int} {a1 : Int} {a2 : Int} {a3 : Int} {a4 : Int} {a5 : Int} (h0 : 1 ≤ a0) (h1 : a0 ≤ 12) (h2 : a1 = a2) (h3 : a3 = (a0 - 1)) (h4 : a4 = a3) (h5 : a1 ≤ a4) (h6 : 0 ≤ a5) (h7 : a5 ≤ 12) (h8 : a5 ≤ a2) : a5 ≤ 11 := by omega
theorem mp_o2346 {a0 : Int} {a1 : Int} (h0 : (0 ≤ a0 ∧ a0 ≤ 6)) (h1 : a1 < a0) : a1 ≤ 5 := by omega
theorem mp_o2347 {a0 : Int} {a1 : Int} {a2 : Int} {a3 : Int} {a4 : Int} {a5 : Int} {a6 : Int} (h0 : (a0 + a1) ≤ 99) (h1 : a2 = a3) (h2 : a4 = (a1 - 1)) (h3 : a5 = a4) (h4 : a2 ≤ a5) (h5 : a6 ≤ a3) : (a0 + a6) ≤ 98 := by omega
theorem mp_o2348 {a0 : Int} {a1 : Int} {a2 : Int} {a3 : Int} {a4 : Int} {a5 : Int} (h0 : a0 = a1) (h1 : a2 = (a3 - 1)) (h2 : a4 = a2) (h3 : a0 ≤ a4) (h4 : a5 ≤ a1) : a5 < a3 := by omega
theorem mp_o2349 {a0 : Int} {a1 : Int} (h0 : (0 ≤ a0 ∧ a0 ≤ 6)) (h1 : a1 < a0) : (a1 + 1) ≤ 2147483647 := by omega
theorem mp_o2350 {a0 : Int} {a1 : Nat} {a2 : Int} {a3 : Int} (h0 : (6 - a0) ≤ ((a1 : Nat) : Int)) (h1 : (0 ≤ a2 ∧ a2 ≤ 6)) (h2 : a0 < a2) (h3 : a3 = (a0 + 1)) : (a1 - 1) < a1 := by omega
theorem mp_o2351 {a0 : Int} {a1 : Int} (h0 : 0 ≤ a0) (h1 : a1 = (a0 + 1)) : 0 ≤ a1 := by omega
theorem mp_o2352 {a0 : Int} {a1 : Int} (h0 : 0 ≤ a0) (h1 : a0 ≤ 98) (h2 : 0 ≤ a1) (h3 : a1 ≤ 12) : (-2147483648) ≤ (a0 + a1) := by omega
theorem mp_o2353 {a0 : Int} {a1 : Int} {a2 : Int} (h0 : 0 ≤ a0) (h1 : a0 ≤ 98) (h2 : 0 ≤ a1) (h3 : a1 ≤ 12) (h4 : a2 = (a0 + a1)) : (-2147483648) ≤ (a2 + 1) := by omega
theorem mp_o2354 {a0 : Int} {a1 : Int} {a2 : Int} {a3 : Int} {a4 : Int} {a5 : Int} {a6 : Int} {a7 : Int} (h0 : (a0 + a1) ≤ 99) (h1 : a2 = a3) (h2 : a4 = (a1 - 1)) (h3 : a5 = a4) (h4 : a2 ≤ a5) (h5 : a6 ≤ a3) (h6 : a7 = (a0 + a6)) : (a7 + 1) ≤ 2147483647 := by omega
theorem mp_o2355 {a0 : Int} {a1 : Int} {a2 : Int} {a3 : Int} (h0 : 0 ≤ a0) (h1 : a0 ≤ 98) (h2 : a1 = (a0 + a2)) (h3 : a3 = (a1 + 1)) : a0 ≤ 99 := by omega
theorem mp_o2356 {a0 : Int} (h0 : 0 ≤ a0) : (((Int.toNat a0) : Nat) : Int) = a0 := by omega
theorem mp_o2357 {a0 : Int} {a1 : Int} {a2 : Int} {a3 : Int} {a4 : Int} {a5 : Int} {a6 : Int} {a7 : Int} {a8 : Int} {a9 : Int} (h0 : 1 ≤ a0) (h1 : a0 ≤ 12) (h2 : 0 ≤ a1) (h3 : a1 ≤ 98) (h4 : (a1 + a0) ≤ 99) (h5 : a2 = a3) (h6 : a4 = (a0 - 1)) (h7 : a5 = a4) (h8 : a2 ≤ a5) (h9 : 0 ≤ a6) (h10 : a6 ≤ 12) (h11 : a6 ≤ a3) (h12 : a7 = (a1 + a6)) (h13 : a8 = (a7 + 1)) (h14 : a9 = (a6 + 1)) : a9 ≤ 12 := by omega
theorem mp_o2358 {a0 : Int} {a1 : Int} {a2 : Int} {a3 : Int} {a4 : Int} {a5 : Int} {a6 : Int} {a7 : Int} {a8 : Int} {a9 : Int} (h0 : 0 ≤ a0) (h1 : a0 ≤ 98) (h2 : (a0 + a1) ≤ 99) (h3 : a2 = a3) (h4 : a4 = (a1 - 1)) (h5 : a5 = a4) (h6 : a2 ≤ a5) (h7 : 0 ≤ a6) (h8 : a6 ≤ 12) (h9 : a6 ≤ a3) (h10 : a7 = (a0 + a6)) (h11 : a8 = (a7 + 1)) (h12 : a9 = (a6 + 1)) : (((Int.toNat a6) : Nat) : Int) < a1 := by omega
theorem mp_o2359 {a0 : Int} {a1 : Int} (h0 : 0 ≤ a0) (h1 : (0 ≤ a1 ∧ a1 ≤ 6)) (h2 : a0 < a1) : (((Int.toNat a0) : Nat) : Int) < a1 := by omega
theorem mp_o2360 {a0 : Int} {a1 : Int} (h0 : 0 ≤ a0) (h1 : a0 ≤ 12) (h2 : a1 = (a0 + 1)) : (Int.toNat a1) = ((Int.toNat a0) + 1) := by omega
theorem mp_o2361 {a0 : Int} {a1 : Int} (h0 : (0 ≤ a0 ∧ a0 ≤ 5)) (h1 : a0 = a1) : (Int.toNat a1) < 6 := by omega
theorem mp_o2362 {a0 : Nat} {a1 : Nat} {a2 : Int} {a3 : Nat} (h0 : ((a0 : Nat) : Int) ≤ ((a1 : Nat) : Int)) (h1 : a2 ≠ 0) (h2 : (a2 = 0 ∨ ((a3 : Nat) : Int) < ((a0 : Nat) : Int))) : (a1 - 1) < a1 := by omega
theorem mp_o2363 {a0 : Nat} {a1 : Nat} {a2 : Int} {a3 : Nat} (h0 : ((a0 : Nat) : Int) ≤ ((a1 : Nat) : Int)) (h1 : a2 ≠ 0) (h2 : (a2 = 0 ∨ ((a3 : Nat) : Int) < ((a0 : Nat) : Int))) : ((a3 : Nat) : Int) ≤ ((((a1 - 1)) : Nat) : Int) := by omega
theorem mp_o2369 {a0 : Int} (h0 : (0 ≤ a0 ∧ a0 ≤ 5)) : ((0 ≤ a0 ∧ a0 < ((78 : Nat) : Int))) := by omega
theorem mp_o2370 {a0 : Int} {a1 : Int} {a2 : Int} {a3 : Int} (h0 : a0 = a1) (h1 : a2 ≤ a0) (h2 : a2 = 0) (h3 : 0 ≤ a3) (h4 : a3 ≤ 99) : (-2147483648) ≤ (a3 + a1) := by omega
theorem mp_o2371 {a0 : Int} {a1 : Int} {a2 : Int} {a3 : Int} (h0 : a0 = a1) (h1 : a0 ≤ a2) (h2 : a2 = 12) (h3 : 0 ≤ a3) (h4 : a3 ≤ 99) : (a3 + a1) ≤ 2147483647 := by omega
theorem mp_o2372 {a0 : Int} {a1 : Int} {a2 : Int} {a3 : Int} (h0 : a0 = a1) (h1 : 0 ≤ a0) (h2 : a0 ≤ 12) (h3 : a2 = (a3 + a1)) : 0 ≤ a1 := by omega
theorem mp_o2373 {a0 : Int} {a1 : Int} {a2 : Int} {a3 : Int} (h0 : a0 = a1) (h1 : 0 ≤ a0) (h2 : a0 ≤ 12) (h3 : a2 = (a3 + a1)) : a1 ≤ 12 := by omega
theorem mp_o2374 {a0 : Int} {a1 : Int} (h0 : 0 ≤ a0) (h1 : a0 ≤ 5) (h2 : a0 = a1) : (-2147483648) ≤ (3 * a0) := by omega
theorem mp_o2375 {a0 : Int} {a1 : Int} (h0 : 0 ≤ a0) (h1 : a0 ≤ 5) (h2 : a0 = a1) : (3 * a0) ≤ 2147483647 := by omega
theorem mp_o2376 {a0 : Int} {a1 : Int} {a2 : Int} (h0 : 0 ≤ a0) (h1 : a0 ≤ 5) (h2 : a0 = a1) (h3 : a2 = (3 * a0)) : (-2147483648) ≤ (a2 + 1) := by omega
theorem mp_o2377 {a0 : Int} {a1 : Int} {a2 : Int} (h0 : 0 ≤ a0) (h1 : a0 ≤ 5) (h2 : a0 = a1) (h3 : a2 = (3 * a0)) : (a2 + 1) ≤ 2147483647 := by omega
theorem mp_o2378 {a0 : Int} {a1 : Int} {a2 : Int} {a3 : Int} (h0 : 0 ≤ a0) (h1 : a0 ≤ 5) (h2 : a0 = a1) (h3 : a2 = (3 * a0)) (h4 : a3 = (a2 + 1)) : ((0 ≤ a3 ∧ a3 < ((90 : Nat) : Int))) := by omega
theorem mp_o2379 {a0 : Int} {a1 : Int} {a2 : Int} {a3 : Int} (h0 : 0 ≤ a0) (h1 : a0 ≤ 5) (h2 : a0 = a1) (h3 : a2 = (3 * a0)) (h4 : a3 = (a2 + 1)) : 0 ≤ a3 := by omega
theorem mp_o2380 {a0 : Int} {a1 : Int} {a2 : Int} {a3 : Int} (h0 : 0 ≤ a0) (h1 : a0 ≤ 5) (h2 : a0 = a1) (h3 : a2 = (3 * a0)) (h4 : a3 = (a2 + 1)) : a3 < ((90 : Nat) : Int) := by omega
theorem mp_o2381 {a0 : Int} {a1 : Int} {a2 : Int} {a3 : Int} (h0 : a0 = a1) (h1 : a2 = (3 * a0)) (h2 : a3 = (a2 + 1)) : (a3 % ((3 : Nat) : Int)) = ((1 : Nat) : Int) := by omega
theorem mp_o2382 {a0 : Int} {a1 : Int} {a2 : Int} (h0 : 0 ≤ a0) (h1 : a0 ≤ 9) (h2 : ((-1) ≤ a1 ∧ a1 < a0)) (h3 : a2 = a1) : a2 < ((10 : Nat) : Int) := by omega
theorem mp_o2383 {a0 : Int} {a1 : Int} (h0 : 0 ≤ a0) (h1 : a0 ≤ 99) (h2 : 0 ≤ a1) (h3 : a1 ≤ 99) : (-2147483648) ≤ (a1 - a0) := by omega
theorem mp_o2384 {a0 : Int} {a1 : Int} (h0 : 0 ≤ a0) (h1 : a0 ≤ 99) (h2 : 0 ≤ a1) (h3 : a1 ≤ 99) : (a1 - a0) ≤ 2147483647 := by omega
theorem mp_o2385 {a0 : Int} {a1 : Int} {a2 : Int} (h0 : 0 ≤ a0) (h1 : a0 ≤ 99) (h2 : 0 ≤ a1) (h3 : a1 ≤ 99) (h4 : a2 = (a1 - a0)) : (-2147483648) ≤ (a2 + 0) := by omega
theorem mp_o2386 {a0 : Int} {a1 : Int} {a2 : Int} (h0 : 0 ≤ a0) (h1 : a0 ≤ 99) (h2 : 0 ≤ a1) (h3 : a1 ≤ 99) (h4 : a2 = (a1 - a0)) : (a2 + 0) ≤ 2147483647 := by omega
theorem mp_o2387 {a0 : Int} {a1 : Int} {a2 : Int} {a3 : Int} (h0 : 0 ≤ a0) (h1 : a0 ≤ 99) (h2 : 0 ≤ a1) (h3 : a1 ≤ 99) (h4 : a2 = (a1 - a0)) (h5 : a3 = (a2 + 0)) : (-196) ≤ a3 := by omega
theorem mp_o2388 {a0 : Int} {a1 : Int} {a2 : Int} {a3 : Int} (h0 : 0 ≤ a0) (h1 : a0 ≤ 99) (h2 : 0 ≤ a1) (h3 : a1 ≤ 99) (h4 : a2 = (a1 - a0)) (h5 : a3 = (a2 + 0)) : a3 ≤ 198 := by omega
theorem mp_o2389 {a0 : Int} {a1 : Int} (h0 : a0 < a1) : (-2147483648) ≤ (a1 - a0) := by omega
theorem mp_o2390 {a0 : Int} {a1 : Int} (h0 : 0 ≤ a0) (h1 : a0 ≤ 99) (h2 : ((-1) ≤ a1 ∧ a1 ≤ 99)) : (a0 - a1) ≤ 2147483647 := by omega
theorem mp_o2391 {a0 : Int} {a1 : Int} {a2 : Int} {a3 : Int} {a4 : Int} (h0 : 0 ≤ a0) (h1 : a0 ≤ 99) (h2 : 0 ≤ a1) (h3 : a1 ≤ 99) (h4 : a2 = (a1 - a0)) (h5 : a3 < a1) (h6 : a4 = (a1 - a3)) : (-2147483648) ≤ (a2 + a4) := by omega
theorem mp_o2392 {a0 : Int} {a1 : Int} {a2 : Int} {a3 : Int} {a4 : Int} (h0 : 0 ≤ a0) (h1 : a0 ≤ 99) (h2 : 0 ≤ a1) (h3 : a1 ≤ 99) (h4 : ((-1) ≤ a2 ∧ a2 ≤ 99)) (h5 : a3 = (a1 - a0)) (h6 : a4 = (a1 - a2)) : (a3 + a4) ≤ 2147483647 := by omega
theorem mp_o2393 {a0 : Int} {a1 : Int} {a2 : Int} {a3 : Int} {a4 : Int} {a5 : Int} (h0 : 0 ≤ a0) (h1 : a0 ≤ 99) (h2 : 0 ≤ a1) (h3 : a1 ≤ 99) (h4 : a2 = (a1 - a0)) (h5 : a3 < a1) (h6 : a4 = (a1 - a3)) (h7 : a5 = (a2 + a4)) : (-196) ≤ a5 := by omega
theorem mp_o2394 {a0 : Int} {a1 : Int} {a2 : Int} {a3 : Int} {a4 : Int} {a5 : Int} (h0 : 0 ≤ a0) (h1 : a0 ≤ 99) (h2 : 0 ≤ a1) (h3 : a1 ≤ 99) (h4 : ((-1) ≤ a2 ∧ a2 ≤ 99)) (h5 : a3 = (a1 - a0)) (h6 : a2 ≠ (-1)) (h7 : a4 = (a1 - a2)) (h8 : a5 = (a3 + a4)) : a5 ≤ 198 := by omega
theorem mp_o2395 {a0 : Int} {a1 : Int} {a2 : Int} (h0 : 0 ≤ a0) (h1 : a0 ≤ 12) (h2 : 0 ≤ a1) (h3 : a1 ≤ 99) (h4 : a2 = (a1 + a0)) : 0 ≤ a2 := by omega
theorem mp_o2396 {a0 : Int} {a1 : Int} {a2 : Int} (h0 : (a0 + a1) ≤ 99) (h1 : a2 = (a0 + a1)) : a2 ≤ 139 := by omega
theorem mp_o2397 {a0 : Int} {a1 : Int} {a2 : Int} {a3 : Int} {a4 : Int} (h0 : 0 ≤ a0) (h1 : a0 ≤ 12) (h2 : 0 ≤ a1) (h3 : a1 ≤ 99) (h4 : a2 = (a1 + a0)) (h5 : a3 = (a1 + a4)) : (-2147483648) ≤ (a1 + a0) := by omega
theorem mp_o2398 {a0 : Int} {a1 : Int} {a2 : Int} (h0 : (a0 + a1) ≤ 99) (h1 : a2 = (a0 + a1)) : (a0 + a1) ≤ 2147483647 := by omega
theorem mp_o2399 {a0 : Int} {a1 : Int} {a2 : Int} (h0 : 0 ≤ a0) (h1 : a0 ≤ 99) (h2 : 0 ≤ a1) (h3 : a1 ≤ 20) (h4 : a2 = (a0 + a1)) : 0 ≤ a2 := by omega
theorem mp_o2400 {a0 : Int} {a1 : Int} {a2 : Int} {a3 : Int} {a4 : Int} {a5 : Int} (h0 : (a0 + a1) ≤ 99) (h1 : a2 = (a0 + a1)) (h2 : a3 ≤ a1) (h3 : a4 = (a0 + a3)) (h4 : a5 = (a0 + a1)) : a4 ≤ 99 := by omega
theorem mp_o2401 {a0 : Int} {a1 : Int} {a2 : Int} {a3 : Int} {a4 : Int} {a5 : Int} (h0 : 0 ≤ a0) (h1 : a0 ≤ 12) (h2 : 0 ≤ a1) (h3 : a1 ≤ 99) (h4 : a2 = (a1 + a0)) (h5 : a3 = (a1 + a4)) (h6 : a5 = (a1 + a0)) : 0 ≤ a5 := by omega
theorem mp_o2402 {a0 : Int} {a1 : Int} {a2 : Int} {a3 : Int} (h0 : (a0 + a1) ≤ 99) (h1 : a2 = (a0 + a1)) (h2 : a3 = (a0 + a1)) : a3 ≤ 99 := by omega
theorem mp_o2403 {a0 : Int} {a1 : Int} (h0 : 0 ≤ a0) (h1 : a0 ≤ 5) (h2 : a0 = a1) : ((0 ≤ a0 ∧ a0 < ((6 : Nat) : Int))) := by omega
theorem mp_o2404 {a0 : Int} {a1 : Int} (h0 : 0 ≤ a0) (h1 : a0 ≤ 5) (h2 : a0 = a1) : a0 < ((6 : Nat) : Int) := by omega
theorem mp_o2405 {a0 : Int} {a1 : Int} (h0 : a0 ≤ 1000000) (h1 : a1 < a0) : a1 ≤ 1000000 := by omega
theorem mp_o2406 {a0 : Int} {a1 : Int} {a2 : Int} (h0 : 0 ≤ a0) (h1 : a0 ≤ 99) (h2 : 0 ≤ a1) (h3 : a1 ≤ 20) (h4 : a2 = (a0 + a1)) : (-1) ≤ a2 := by omega
theorem mp_o2407 {a0 : Int} {a1 : Int} {a2 : Int} {a3 : Int} {a4 : Int} {a5 : Int} (h0 : 0 ≤ a0) (h1 : a0 ≤ 12) (h2 : (a1 + a0) ≤ 99) (h3 : a2 = (a1 + a0)) (h4 : a3 ≤ a0) (h5 : a4 = (a1 + a3)) (h6 : a5 = (a1 + a0)) : a4 ≤ 240 := by omega
theorem mp_o2408 {a0 : Int} {a1 : Int} (h0 : (0 ≤ a0 ∧ a0 ≤ 6)) (h1 : 0 ≤ a1) (h2 : a1 ≤ 6) (h3 : a1 < a0) : ((0 ≤ a1 ∧ a1 < ((6 : Nat) : Int))) := by omega
theorem mp_o2409 {a0 : Int} {a1 : Int} {a2 : Int} (h0 : (0 ≤ a0 ∧ a0 ≤ 6)) (h1 : 0 ≤ a1) (h2 : a1 ≤ 6) (h3 : a1 < a0) (h4 : a2 = (a1 + 1)) : a2 ≤ 6 := by omega
theorem mp_o2410 {a0 : Int} {a1 : Int} {a2 : Int} (h0 : 0 ≤ a0) (h1 : a0 ≤ 6) (h2 : (0 ≤ a1 ∧ a1 ≤ 6)) (h3 : a0 < a1) (h4 : 0 ≤ a2) (h5 : a2 ≤ 6) (h6 : a2 < a1) : ((0 ≤ a2 ∧ a2 < ((6 : Nat) : Int))) := by omega
theorem mp_o2411 {a0 : Int} {a1 : Int} {a2 : Int} {a3 : Int} (h0 : 0 ≤ a0) (h1 : a0 ≤ 6) (h2 : (0 ≤ a1 ∧ a1 ≤ 6)) (h3 : a0 < a1) (h4 : 0 ≤ a2) (h5 : a2 ≤ 6) (h6 : a2 < a1) (h7 : a3 = (a2 + 1)) : a3 ≤ 6 := by omega
theorem mp_o2412 {a0 : Int} {a1 : Int} {a2 : Int} (h0 : 0 ≤ a0) (h1 : a0 ≤ 6) (h2 : (0 ≤ a1 ∧ a1 ≤ 6)) (h3 : a0 < a1) (h4 : 0 ≤ a2) (h5 : a2 ≤ 6) (h6 : a2 < a1) : a2 ≤ 5 := by omega
theorem mp_o2413 {a0 : Int} {a1 : Int} {a2 : Int} (h0 : 0 ≤ a0) (h1 : a0 ≤ 99) (h2 : 0 ≤ a1) (h3 : a1 ≤ 20) (h4 : a2 = (a0 + a1)) (h5 : 0 < a1) : 0 ≤ a2 := by omega
theorem mp_o2414 {a0 : Int} {a1 : Int} {a2 : Int} {a3 : Int} {a4 : Int} (h0 : (a0 + a1) ≤ 99) (h1 : a2 = (a0 + a1)) (h2 : a3 ≤ a1) (h3 : a4 = (a0 + a3)) : a4 ≤ 99 := by omega
theorem mp_o2415 {a0 : Int} (h0 : 0 ≤ a0) (h1 : a0 ≤ 6) : (-2147483648) ≤ (6 * a0) := by omega
theorem mp_o2416 {a0 : Int} (h0 : 0 ≤ a0) (h1 : a0 ≤ 6) : (6 * a0) ≤ 2147483647 := by omega
theorem mp_o2417 {a0 : Int} {a1 : Int} {a2 : Int} {a3 : Int} (h0 : 0 ≤ a0) (h1 : a0 ≤ 6) (h2 : (0 ≤ a1 ∧ a1 ≤ 6)) (h3 : a0 < a1) (h4 : 0 ≤ a2) (h5 : a2 ≤ 6) (h6 : a2 < a1) (h7 : a3 = (6 * a2)) : (-2147483648) ≤ (a3 + a0) := by omega
theorem mp_o2418 {a0 : Int} {a1 : Int} {a2 : Int} {a3 : Int} (h0 : 0 ≤ a0) (h1 : a0 ≤ 6) (h2 : (0 ≤ a1 ∧ a1 ≤ 6)) (h3 : 0 ≤ a2) (h4 : a2 ≤ 6) (h5 : a2 < a1) (h6 : a3 = (6 * a2)) : (a3 + a0) ≤ 2147483647 := by omega
theorem mp_o2419 {a0 : Int} {a1 : Int} {a2 : Int} {a3 : Int} {a4 : Int} (h0 : 0 ≤ a0) (h1 : a0 ≤ 6) (h2 : (0 ≤ a1 ∧ a1 ≤ 6)) (h3 : a0 < a1) (h4 : 0 ≤ a2) (h5 : a2 ≤ 6) (h6 : a2 < a1) (h7 : a3 = (6 * a2)) (h8 : a4 = (a3 + a0)) : ((0 ≤ a4 ∧ a4 < ((180 : Nat) : Int))) := by omega
theorem mp_o2420 {a0 : Int} {a1 : Int} {a2 : Int} {a3 : Int} {a4 : Int} (h0 : 0 ≤ a0) (h1 : a0 ≤ 6) (h2 : (0 ≤ a1 ∧ a1 ≤ 6)) (h3 : a0 < a1) (h4 : 0 ≤ a2) (h5 : a2 ≤ 6) (h6 : a2 < a1) (h7 : a3 = (6 * a2)) (h8 : a4 = (a3 + a0)) : 0 ≤ a4 := by omega
theorem mp_o2421 {a0 : Int} {a1 : Int} {a2 : Int} {a3 : Int} {a4 : Int} (h0 : 0 ≤ a0) (h1 : a0 ≤ 6) (h2 : (0 ≤ a1 ∧ a1 ≤ 6)) (h3 : a0 < a1) (h4 : 0 ≤ a2) (h5 : a2 ≤ 6) (h6 : a2 < a1) (h7 : a3 = (6 * a2)) (h8 : a4 = (a3 + a0)) : a4 < ((180 : Nat) : Int) := by omega
theorem mp_o2422 {a0 : Int} {a1 : Int} (h0 : a0 < 1000000) (h1 : (0 ≤ a1 ∧ a1 ≤ 20)) (h2 : ((-2147483648) ≤ a0 ∧ a0 ≤ 2147483647)) : (-2147483648) ≤ (a0 + a1) := by omega
theorem mp_o2423 {a0 : Int} {a1 : Int} (h0 : a0 < 1000000) (h1 : (0 ≤ a1 ∧ a1 ≤ 20)) (h2 : ((-2147483648) ≤ a0 ∧ a0 ≤ 2147483647)) : (a0 + a1) ≤ 2147483647 := by omega
theorem mp_o2424 {a0 : Int} {a1 : Int} {a2 : Int} {a3 : Int} {a4 : Int} (h0 : 0 ≤ a0) (h1 : a0 ≤ 6) (h2 : (0 ≤ a1 ∧ a1 ≤ 6)) (h3 : a0 < a1) (h4 : a2 = (6 * a3)) (h5 : a4 = (a2 + a0)) : ((0 ≤ a0 ∧ a0 < ((6 : Nat) : Int))) := by omega
theorem mp_o2425 {a0 : Int} {a1 : Int} {a2 : Int} {a3 : Int} {a4 : Int} {a5 : Int} (h0 : 0 ≤ a0) (h1 : a0 ≤ 6) (h2 : (0 ≤ a1 ∧ a1 ≤ 6)) (h3 : a0 < a1) (h4 : 0 ≤ a2) (h5 : a2 ≤ 6) (h6 : a2 < a1) (h7 : a3 = (6 * a2)) (h8 : a4 = (a3 + a0)) (h9 : a5 = (6 * a2)) : (-2147483648) ≤ (a5 + a0) := by omega
theorem mp_o2426 {a0 : Int} {a1 : Int} {a2 : Int} {a3 : Int} {a4 : Int} {a5 : Int} (h0 : 0 ≤ a0) (h1 : a0 ≤ 6) (h2 : (0 ≤ a1 ∧ a1 ≤ 6)) (h3 : a0 < a1) (h4 : 0 ≤ a2) (h5 : a2 ≤ 6) (h6 : a2 < a1) (h7 : a3 = (6 * a2)) (h8 : a4 = (a3 + a0)) (h9 : a5 = (6 * a2)) : (a5 + a0) ≤ 2147483647 := by omega
theorem mp_o2427 {a0 : Int} {a1 : Int} {a2 : Int} {a3 : Int} {a4 : Int} {a5 : Int} {a6 : Int} (h0 : 0 ≤ a0) (h1 : a0 ≤ 6) (h2 : (0 ≤ a1 ∧ a1 ≤ 6)) (h3 : a0 < a1) (h4 : 0 ≤ a2) (h5 : a2 ≤ 6) (h6 : a2 < a1) (h7 : a3 = (6 * a2)) (h8 : a4 = (a3 + a0)) (h9 : a5 = (6 * a2)) (h10 : a6 = (a5 + a0)) : ((0 ≤ a6 ∧ a6 < ((180 : Nat) : Int))) := by omega
theorem mp_o2428 {a0 : Int} {a1 : Int} {a2 : Int} {a3 : Int} {a4 : Int} {a5 : Int} {a6 : Int} (h0 : 0 ≤ a0) (h1 : a0 ≤ 6) (h2 : (0 ≤ a1 ∧ a1 ≤ 6)) (h3 : a0 < a1) (h4 : 0 ≤ a2) (h5 : a2 ≤ 6) (h6 : a2 < a1) (h7 : a3 = (6 * a2)) (h8 : a4 = (a3 + a0)) (h9 : a5 = (6 * a2)) (h10 : a6 = (a5 + a0)) : 0 ≤ a6 := by omega
theorem mp_o2429 {a0 : Int} {a1 : Int} {a2 : Int} {a3 : Int} {a4 : Int} {a5 : Int} {a6 : Int} (h0 : 0 ≤ a0) (h1 : a0 ≤ 6) (h2 : (0 ≤ a1 ∧ a1 ≤ 6)) (h3 : a0 < a1) (h4 : 0 ≤ a2) (h5 : a2 ≤ 6) (h6 : a2 < a1) (h7 : a3 = (6 * a2)) (h8 : a4 = (a3 + a0)) (h9 : a5 = (6 * a2)) (h10 : a6 = (a5 + a0)) : a6 < ((180 : Nat) : Int) := by omega
theorem mp_o2430 {a0 : Int} {a1 : Int} {a2 : Int} {a3 : Int} (h0 : a0 < 1000000) (h1 : ((-2147483648) ≤ a0 ∧ a0 ≤ 2147483647)) (h2 : a1 = (a0 + a2)) (h3 : (0 ≤ a3 ∧ a3 ≤ 20)) : (-2147483648) ≤ (a0 + a3) := by omega
theorem mp_o2431 {a0 : Int} {a1 : Int} {a2 : Int} {a3 : Int} (h0 : a0 < 1000000) (h1 : ((-2147483648) ≤ a0 ∧ a0 ≤ 2147483647)) (h2 : a1 = (a0 + a2)) (h3 : (0 ≤ a3 ∧ a3 ≤ 20)) : (a0 + a3) ≤ 2147483647 := by omega
theorem mp_o2432 {a0 : Int} {a1 : Int} {a2 : Int} {a3 : Int} {a4 : Int} {a5 : Int} {a6 : Int} (h0 : 0 ≤ a0) (h1 : a0 ≤ 6) (h2 : (0 ≤ a1 ∧ a1 ≤ 6)) (h3 : a0 < a1) (h4 : a2 = (6 * a3)) (h5 : a4 = (a2 + a0)) (h6 : a5 = (6 * a3)) (h7 : a6 = (a5 + a0)) : ((0 ≤ a0 ∧ a0 < ((6 : Nat) : Int))) := by omega
theorem mp_o2433 {a0 : Int} (h0 : 0 ≤ a0) (h1 : a0 ≤ 6) (h2 : a0 < 6) : ((0 ≤ a0 ∧ a0 < ((6 : Nat) : Int))) := by omega
theorem mp_o2434 {a0 : Int} (h0 : 0 ≤ a0) (h1 : a0 ≤ 6) (h2 : a0 < 6) : (-2147483648) ≤ (a0 + 1) := by omega
theorem mp_o2435 {a0 : Int} (h0 : 0 ≤ a0) (h1 : a0 ≤ 6) (h2 : a0 < 6) : (a0 + 1) ≤ 2147483647 := by omega
theorem mp_o2436 {a0 : Int} {a1 : Nat} {a2 : Int} (h0 : 0 ≤ a0) (h1 : a0 ≤ 6) (h2 : ((-a0) + 6) ≤ ((a1 : Nat) : Int)) (h3 : a0 < 6) (h4 : a2 = (a0 + 1)) : (a1 - 1) < a1 := by omega
theorem mp_o2437 {a0 : Int} {a1 : Int} (h0 : 0 ≤ a0) (h1 : a0 ≤ 6) (h2 : a0 < 6) (h3 : a1 = (a0 + 1)) : 0 ≤ a1 := by omega
theorem mp_o2438 {a0 : Int} {a1 : Int} (h0 : 0 ≤ a0) (h1 : a0 ≤ 6) (h2 : a0 < 6) (h3 : a1 = (a0 + 1)) : a1 ≤ 6 := by omega
theorem mp_o2439 {a0 : Int} {a1 : Nat} {a2 : Int} (h0 : 0 ≤ a0) (h1 : a0 ≤ 6) (h2 : ((-a0) + 6) ≤ ((a1 : Nat) : Int)) (h3 : a0 < 6) (h4 : a2 = (a0 + 1)) : ((-a2) + 6) ≤ ((((a1 - 1)) : Nat) : Int) := by omega
theorem mp_o2440 {a0 : Int} {a1 : Int} (h0 : (0 ≤ a0 ∧ a0 ≤ 5)) (h1 : a1 = a0) : ((0 ≤ a1 ∧ a1 < ((6 : Nat) : Int))) := by omega
theorem mp_o2441 {a0 : Int} {a1 : Int} (h0 : (0 ≤ a0 ∧ a0 ≤ 5)) (h1 : a1 = a0) : (-2147483648) ≤ (a1 + 1) := by omega
theorem mp_o2442 {a0 : Int} {a1 : Int} (h0 : (0 ≤ a0 ∧ a0 ≤ 5)) (h1 : a1 = a0) : (a1 + 1) ≤ 2147483647 := by omega
theorem mp_o2443 {a0 : Int} {a1 : Nat} {a2 : Int} {a3 : Int} (h0 : ((-a0) + 6) ≤ ((a1 : Nat) : Int)) (h1 : (0 ≤ a2 ∧ a2 ≤ 5)) (h2 : a0 = a2) (h3 : a3 = (a0 + 1)) : (a1 - 1) < a1 := by omega
theorem mp_o2444 {a0 : Int} {a1 : Int} {a2 : Int} (h0 : (0 ≤ a0 ∧ a0 ≤ 5)) (h1 : a1 = a0) (h2 : a2 = (a1 + 1)) : 0 ≤ a2 := by omega
theorem mp_o2445 {a0 : Int} {a1 : Int} {a2 : Int} (h0 : (0 ≤ a0 ∧ a0 ≤ 5)) (h1 : a1 = a0) (h2 : a2 = (a1 + 1)) : a2 ≤ 6 := by omega
theorem mp_o2446 {a0 : Int} {a1 : Nat} {a2 : Int} {a3 : Int} (h0 : ((-a0) + 6) ≤ ((a1 : Nat) : Int)) (h1 : (0 ≤ a2 ∧ a2 ≤ 5)) (h2 : a0 = a2) (h3 : a3 = (a0 + 1)) : ((-a3) + 6) ≤ ((((a1 - 1)) : Nat) : Int) := by omega
theorem mp_o2447 {a0 : Int} (h0 : a0 < 1000000) : a0 ≤ 999999 := by omega
theorem mp_o2448 {a0 : Int} {a1 : Int} {a2 : Int} (h0 : a0 = a1) (h1 : a2 = a0) (h2 : 1 ≤ a2) (h3 : a2 ≤ 20) : (-2147483648) ≤ (a0 - 1) := by omega
theorem mp_o2449 {a0 : Int} {a1 : Int} {a2 : Int} (h0 : a0 = a1) (h1 : a2 = a0) (h2 : 1 ≤ a2) (h3 : a2 ≤ 20) : (a0 - 1) ≤ 2147483647 := by omega
theorem mp_o2450 {a0 : Int} {a1 : Int} {a2 : Nat} {a3 : Int} {a4 : Int} {a5 : Int} (h0 : (a0 - a1) ≤ ((a2 : Nat) : Int)) (h1 : a3 = a0) (h2 : a1 < a3) (h3 : a4 = (a1 + 1)) (h4 : a5 = (a1 + 1)) : (a2 - 1) < a2 := by omega
theorem mp_o2451 {a0 : Int} {a1 : Int} {a2 : Int} {a3 : Int} (h0 : 0 ≤ a0) (h1 : a0 ≤ 10) (h2 : (0 ≤ a1 ∧ a1 ≤ 10)) (h3 : a0 < a1) (h4 : a2 = (a0 + 1)) (h5 : a3 = (a0 + 1)) : a3 ≤ 10 := by omega
theorem mp_o2452 {a0 : Int} {a1 : Int} {a2 : Nat} {a3 : Int} {a4 : Int} {a5 : Int} (h0 : (a0 - a1) ≤ ((a2 : Nat) : Int)) (h1 : a3 = a0) (h2 : a1 < a3) (h3 : a4 = (a1 + 1)) (h4 : a5 = (a1 + 1)) : (a0 - a5) ≤ ((((a2 - 1)) : Nat) : Int) := by omega
theorem mp_o2453 {a0 : Int} {a1 : Int} (h0 : (0 ≤ a0 ∧ a0 ≤ 10)) (h1 : 1 ≤ a1) (h2 : a1 ≤ 10) (h3 : a1 < a0) : a1 ≤ 9 := by omega
theorem mp_o2454 {a0 : Int} {a1 : Int} {a2 : Int} {a3 : Int} (h0 : a0 = a1) (h1 : a2 < a0) (h2 : a3 = (a2 + 1)) : a2 < a1 := by omega
theorem mp_o2455 {a0 : Int} {a1 : Int} {a2 : Int} {a3 : Int} {a4 : Int} (h0 : 0 ≤ a0) (h1 : a0 ≤ 10) (h2 : (0 ≤ a1 ∧ a1 ≤ 10)) (h3 : a0 < a1) (h4 : a2 = (a0 + 1)) (h5 : 1 ≤ a3) (h6 : a3 ≤ 10) (h7 : a3 < a1) (h8 : a4 = (10 * a0)) : (-2147483648) ≤ (a4 + a3) := by omega
theorem mp_o2456 {a0 : Int} {a1 : Int} {a2 : Int} {a3 : Int} {a4 : Int} (h0 : 0 ≤ a0) (h1 : a0 ≤ 10) (h2 : (0 ≤ a1 ∧ a1 ≤ 10)) (h3 : a0 < a1) (h4 : a2 = (a0 + 1)) (h5 : 1 ≤ a3) (h6 : a3 ≤ 10) (h7 : a3 < a1) (h8 : a4 = (10 * a0)) : (a4 + a3) ≤ 2147483647 := by omega
theorem mp_o2457 {a0 : Int} {a1 : Int} {a2 : Int} {a3 : Int} {a4 : Int} {a5 : Int} {a6 : Int} (h0 : (0 ≤ a0 ∧ a0 ≤ 10)) (h1 : a1 = (a2 + 1)) (h2 : 1 ≤ a3) (h3 : a3 ≤ 10) (h4 : a3 < a0) (h5 : a4 = (10 * a2)) (h6 : a5 = (a4 + a3)) (h7 : a6 = (a3 + 1)) : a6 ≤ 10 := by omega
theorem mp_o2458 {a0 : Int} {a1 : Int} (h0 : (-1000000) ≤ a0) (h1 : a0 < a1) : (-1000000) ≤ a1 := by omega
theorem mp_o2459 {a0 : Int} {a1 : Int} {a2 : Int} {a3 : Int} {a4 : Int} {a5 : Int} {a6 : Int} (h0 : 0 ≤ a0) (h1 : a0 ≤ 10) (h2 : (0 ≤ a1 ∧ a1 ≤ 10)) (h3 : a0 < a1) (h4 : a2 = (a0 + 1)) (h5 : 1 ≤ a3) (h6 : a3 ≤ 10) (h7 : a3 < a1) (h8 : a4 = (10 * a0)) (h9 : a5 = (a4 + a3)) (h10 : a6 = (a3 + 1)) : (-1) ≤ a5 := by omega
theorem mp_o2460 {a0 : Int} {a1 : Int} {a2 : Int} {a3 : Int} {a4 : Int} {a5 : Int} {a6 : Int} (h0 : 0 ≤ a0) (h1 : a0 ≤ 10) (h2 : (0 ≤ a1 ∧ a1 ≤ 10)) (h3 : a0 < a1) (h4 : a2 = (a0 + 1)) (h5 : 1 ≤ a3) (h6 : a3 ≤ 10) (h7 : a3 < a1) (h8 : a4 = (10 * a0)) (h9 : a5 = (a4 + a3)) (h10 : a6 = (a3 + 1)) : a5 ≤ 100 := by omega
theorem mp_o2461 {a0 : Int} {a1 : Int} {a2 : Int} (h0 : (0 ≤ a0 ∧ a0 ≤ 10)) (h1 : 1 ≤ a1) (h2 : a1 ≤ 10) (h3 : a1 < a0) (h4 : a2 = (a1 + 1)) : a2 ≤ 10 := by omega
theorem mp_o2462 {a0 : Int} {a1 : Int} (h0 : a0 = a1) (h1 : 0 ≤ a0) (h2 : a0 ≤ 2) : ((0 ≤ a1 ∧ a1 < ((3 : Nat) : Int))) := by omega
theorem mp_o2491 {a0 : Int} {a1 : Int} {a2 : Int} {a3 : Int} (h0 : (a0 % 2) = 0) (h1 : a1 = (60 * a2)) (h2 : a3 = (a1 + a0)) : a3 = ((60 * a2) + a0) := by omega
theorem mp_o2502 {a0 : Int} {a1 : Int} (h0 : 0 ≤ a0) (h1 : a0 ≤ 10) (h2 : a0 ≤ a1) (h3 : a0 ≤ 0) : (-2147483648) ≤ (a1 - a0) := by omega
theorem mp_o2503 {a0 : Int} {a1 : Int} (h0 : 0 ≤ a0) (h1 : a0 ≤ 10) (h2 : 0 ≤ a1) (h3 : a1 ≤ 10) (h4 : a1 ≤ 0) : (a0 - a1) ≤ 2147483647 := by omega
theorem mp_o2504 {a0 : Int} (h0 : 0 ≤ a0) (h1 : a0 ≤ 10) (h2 : a0 ≤ 0) (h3 : a0 ≠ 0) : False := by omega
theorem mp_o2505 {a0 : Int} {a1 : Int} {a2 : Int} {a3 : Int} {a4 : Int} (h0 : 0 ≤ a0) (h1 : a0 ≤ 10) (h2 : 0 ≤ a1) (h3 : a1 ≤ 10) (h4 : a1 ≤ 0) (h5 : a2 = (a0 - a1)) (h6 : 0 ≤ a3) (h7 : a3 ≤ 1) (h8 : a3 = a4) : (-2147483648) ≤ (a2 + a3) := by omega
theorem mp_o2506 {a0 : Int} {a1 : Int} {a2 : Int} {a3 : Int} {a4 : Int} (h0 : 0 ≤ a0) (h1 : a0 ≤ 10) (h2 : 0 ≤ a1) (h3 : a1 ≤ 10) (h4 : a1 ≤ 0) (h5 : a2 = (a0 - a1)) (h6 : 0 ≤ a3) (h7 : a3 ≤ 1) (h8 : a3 = a4) : (a2 + a3) ≤ 2147483647 := by omega
theorem mp_o2507 {a0 : Int} {a1 : Int} {a2 : Int} {a3 : Int} {a4 : Int} {a5 : Int} (h0 : 0 ≤ a0) (h1 : a0 ≤ 10) (h2 : 0 ≤ a1) (h3 : a1 ≤ 10) (h4 : a1 ≤ 0) (h5 : a2 = (a0 - a1)) (h6 : 0 ≤ a3) (h7 : a3 ≤ 1) (h8 : a3 = a4) (h9 : a5 = (a2 + a3)) : (Int.toNat a5) ≤ 11 := by omega
theorem mp_o2508 {a0 : Int} {a1 : Int} {a2 : Int} {a3 : Int} {a4 : Int} {a5 : Int} (h0 : 0 ≤ a0) (h1 : a0 ≤ 10) (h2 : 0 ≤ a1) (h3 : a1 ≤ 10) (h4 : a1 ≤ 0) (h5 : a2 = (a0 - a1)) (h6 : 0 ≤ a3) (h7 : a3 ≤ 1) (h8 : a3 = a4) (h9 : a5 = (a2 + a3)) : 0 ≤ a5 := by omega
theorem mp_o2509 {a0 : Int} (h0 : 0 ≤ a0) (h1 : a0 ≤ 10) (h2 : 0 < a0) : (-2147483648) ≤ (a0 - 1) := by omega
theorem mp_o2510 {a0 : Int} (h0 : 0 ≤ a0) (h1 : a0 ≤ 10) (h2 : 0 < a0) : (a0 - 1) ≤ 2147483647 := by omega
theorem mp_o2511 {a0 : Int} {a1 : Int} (h0 : 0 ≤ a0) (h1 : a0 ≤ 10) (h2 : 0 < a0) (h3 : a1 = (a0 - 1)) : (-2147483648) ≤ (a0 + (-1)) := by omega
theorem mp_o2512 {a0 : Int} {a1 : Int} (h0 : 0 ≤ a0) (h1 : a0 ≤ 10) (h2 : 0 < a0) (h3 : a1 = (a0 - 1)) : (a0 + (-1)) ≤ 2147483647 := by omega
theorem mp_o2513 {a0 : Int} {a1 : Nat} {a2 : Int} {a3 : Int} (h0 : 0 ≤ a0) (h1 : a0 ≤ 10) (h2 : a0 ≤ ((a1 : Nat) : Int)) (h3 : 0 < a0) (h4 : a2 = (a0 - 1)) (h5 : a3 = (a0 + (-1))) : (a1 - 1) < a1 := by omega
theorem mp_o2514 {a0 : Int} {a1 : Int} {a2 : Int} (h0 : 0 ≤ a0) (h1 : a0 ≤ 10) (h2 : 0 < a0) (h3 : a1 = (a0 - 1)) (h4 : a2 = (a0 + (-1))) : 0 ≤ a2 := by omega
theorem mp_o2515 {a0 : Int} {a1 : Int} {a2 : Int} (h0 : 0 ≤ a0) (h1 : a0 ≤ 10) (h2 : 0 < a0) (h3 : a1 = (a0 - 1)) (h4 : a2 = (a0 + (-1))) : a2 ≤ 10 := by omega
theorem mp_o2516 {a0 : Int} {a1 : Int} {a2 : Int} {a3 : Int} (h0 : a0 ≤ a1) (h1 : a2 = (a0 - 1)) (h2 : a3 = (a0 + (-1))) : a3 ≤ a1 := by omega
theorem mp_o2517 {a0 : Int} {a1 : Nat} {a2 : Int} {a3 : Int} (h0 : 0 ≤ a0) (h1 : a0 ≤ 10) (h2 : a0 ≤ ((a1 : Nat) : Int)) (h3 : 0 < a0) (h4 : a2 = (a0 - 1)) (h5 : a3 = (a0 + (-1))) : a3 ≤ ((((a1 - 1)) : Nat) : Int) := by omega
theorem mp_o2518 {a0 : Int} {a1 : Int} {a2 : Int} (h0 : a0 ≤ a1) (h1 : a2 = (a0 - 1)) : (-2147483648) ≤ (a1 - a0) := by omega
theorem mp_o2519 {a0 : Int} {a1 : Int} {a2 : Int} (h0 : 0 ≤ a0) (h1 : a0 ≤ 10) (h2 : 0 ≤ a1) (h3 : a1 ≤ 10) (h4 : 0 < a1) (h5 : a2 = (a1 - 1)) : (a0 - a1) ≤ 2147483647 := by omega
theorem mp_o2520 {a0 : Int} {a1 : Int} {a2 : Int} {a3 : Int} (h0 : a0 ≤ a1) (h1 : a2 = (a0 - 1)) (h2 : a3 = (a1 - a0)) : (-2147483648) ≤ (a3 + 0) := by omega
theorem mp_o2521 {a0 : Int} {a1 : Int} {a2 : Int} {a3 : Int} (h0 : 0 ≤ a0) (h1 : a0 ≤ 10) (h2 : 0 ≤ a1) (h3 : a1 ≤ 10) (h4 : 0 < a1) (h5 : a2 = (a1 - 1)) (h6 : a3 = (a0 - a1)) : (a3 + 0) ≤ 2147483647 := by omega
theorem mp_o2522 {a0 : Int} {a1 : Int} {a2 : Int} {a3 : Int} {a4 : Int} (h0 : 0 ≤ a0) (h1 : a0 ≤ 10) (h2 : 0 ≤ a1) (h3 : a1 ≤ 10) (h4 : 0 < a1) (h5 : a2 = (a1 - 1)) (h6 : a3 = (a0 - a1)) (h7 : a4 = (a3 + 0)) : (Int.toNat a4) ≤ 11 := by omega
theorem mp_o2523 {a0 : Int} {a1 : Int} {a2 : Int} {a3 : Int} {a4 : Int} (h0 : a0 ≤ a1) (h1 : a2 = (a0 - 1)) (h2 : a3 = (a1 - a0)) (h3 : a4 = (a3 + 0)) : 0 ≤ a4 := by omega
theorem mp_o2524 {a0 : Int} {a1 : Int} (h0 : 0 ≤ a0) (h1 : a0 ≤ 10) (h2 : 0 < a0) (h3 : a1 = (a0 - 1)) (h4 : a0 = 0) : False := by omega
theorem mp_o2525 {a0 : Int} {a1 : Int} {a2 : Int} (h0 : 0 ≤ a0) (h1 : a0 ≤ 3) (h2 : 0 ≤ a1) (h3 : a1 ≤ 78) (h4 : (a1 % 2) = 0) (h5 : a2 = (60 * a0)) : (-2147483648) ≤ (a2 + a1) := by omega
theorem mp_o2526 {a0 : Int} {a1 : Int} {a2 : Int} (h0 : 0 ≤ a0) (h1 : a0 ≤ 3) (h2 : 0 ≤ a1) (h3 : a1 ≤ 78) (h4 : (a1 % 2) = 0) (h5 : a2 = (60 * a0)) : (a2 + a1) ≤ 2147483647 := by omega
theorem mp_o2527 {a0 : Int} {a1 : Int} {a2 : Int} {a3 : Int} {a4 : Int} {a5 : Int} (h0 : 0 ≤ a0) (h1 : a0 ≤ 3) (h2 : (a1 % 2) = 0) (h3 : 0 ≤ a2) (h4 : a2 ≤ 78) (h5 : (a2 % 2) = 0) (h6 : (0 ≤ a3 ∧ a3 ≤ 60)) (h7 : a3 = a1) (h8 : a2 < a3) (h9 : a4 = (60 * a0)) (h10 : a5 = (a4 + a2)) : ((0 ≤ a5 ∧ a5 < ((240 : Nat) : Int))) := by omega
theorem mp_o2528 {a0 : Int} (h0 : 0 ≤ a0) (h1 : a0 ≤ 9) : ((6 * (Int.toNat a0)) + 3) < 300 := by omega
theorem mp_o2529 {a0 : Int} : ((((6 * (Int.toNat a0)) + 3)) % 6) = 3 := by omega
theorem mp_o2530 {a0 : Int} {a1 : Int} {a2 : Int} (h0 : (a0 % 2) = 0) (h1 : (a1 % 2) = 0) (h2 : a2 = a0) (h3 : a1 < a2) : a1 < a0 := by omega
theorem mp_o2531 {a0 : Int} {a1 : Int} (h0 : (0 ≤ a0 ∧ a0 ≤ 99)) (h1 : (a0 ≤ a1 ∧ a1 ≤ (a0 + 10))) : (-2147483648) ≤ a1 := by omega
theorem mp_o2532 {a0 : Int} {a1 : Int} (h0 : (0 ≤ a0 ∧ a0 ≤ 99)) (h1 : (a0 ≤ a1 ∧ a1 ≤ (a0 + 10))) : a1 ≤ 2147483647 := by omega
theorem mp_o2533 {a0 : Int} {a1 : Int} {a2 : Int} {a3 : Int} (h0 : (a0 ≤ a1 ∧ a1 ≤ (a0 + 10))) (h1 : a2 = a1) (h2 : a3 = a0) : (-2147483648) ≤ (a2 - a3) := by omega
theorem mp_o2534 {a0 : Int} {a1 : Int} {a2 : Int} {a3 : Int} (h0 : (a0 ≤ a1 ∧ a1 ≤ (a0 + 10))) (h1 : a2 = a1) (h2 : a3 = a0) : (a2 - a3) ≤ 2147483647 := by omega
theorem mp_o2535 {a0 : Int} {a1 : Int} {a2 : Int} {a3 : Int} {a4 : Int} (h0 : (a0 ≤ a1 ∧ a1 ≤ (a0 + 10))) (h1 : a2 = a1) (h2 : a3 = a0) (h3 : a4 = (a2 - a3)) : 0 ≤ a4 := by omega
theorem mp_o2536 {a0 : Int} {a1 : Int} {a2 : Int} {a3 : Int} {a4 : Int} (h0 : (a0 ≤ a1 ∧ a1 ≤ (a0 + 10))) (h1 : a2 = a1) (h2 : a3 = a0) (h3 : a4 = (a2 - a3)) : a4 ≤ 10 := by omega
theorem mp_o2548 {a0 : Int} {a1 : Int} (h0 : a0 = a1) (h1 : 0 ≤ a0) (h2 : a0 ≤ 1) : 0 ≤ a1 := by omega
theorem mp_o2549 {a0 : Int} {a1 : Int} (h0 : a0 = a1) (h1 : 0 ≤ a0) (h2 : a0 ≤ 1) : a1 ≤ 1 := by omega
theorem mp_o2674 {a0 : Int} {a1 : Int} (h0 : a0 = a1) (h1 : 0 ≤ a0) (h2 : a0 ≤ 2000000000) : 0 ≤ a1 := by omega
theorem mp_o2675 {a0 : Int} {a1 : Int} (h0 : a0 = a1) (h1 : 0 ≤ a0) (h2 : a0 ≤ 2000000000) : a1 ≤ 2000000000 := by omega
theorem mp_o2676 {a0 : Int} {a1 : Int} (h0 : a0 = a1) (h1 : 1 ≤ a0) (h2 : a0 ≤ 40) : 1 ≤ a1 := by omega
theorem mp_o2677 {a0 : Int} {a1 : Int} (h0 : a0 = a1) (h1 : 1 ≤ a0) (h2 : a0 ≤ 40) : a1 ≤ 40 := by omega
theorem mp_o2678 {a0 : Int} {a1 : Int} {a2 : Int} (h0 : 1 ≤ a0) (h1 : a0 ≤ 40) (h2 : 0 ≤ a1) (h3 : a1 ≤ 99) (h4 : a2 = (a1 + 1)) : (a1 + a0) ≤ 2147483647 := by omega
theorem mp_o2679 {a0 : Int} {a1 : Int} {a2 : Int} {a3 : Int} {a4 : Int} (h0 : a0 = (a1 + 1)) (h1 : 1 ≤ a2) (h2 : a2 ≤ 240) (h3 : a3 = (a1 + a4)) (h4 : a3 < a2) : (a1 + a4) ≤ 2147483647 := by omega
theorem mp_o2680 {a0 : Int} {a1 : Int} {a2 : Int} {a3 : Int} {a4 : Int} (h0 : 1 ≤ a0) (h1 : a0 ≤ 40) (h2 : 0 ≤ a1) (h3 : a1 ≤ 99) (h4 : a2 = (a1 + 1)) (h5 : a3 = (a1 + a0)) (h6 : a4 = (a1 + a0)) : 0 ≤ a4 := by omega
theorem mp_o2681 {a0 : Int} {a1 : Int} {a2 : Int} {a3 : Int} {a4 : Int} {a5 : Int} (h0 : 1 ≤ a0) (h1 : a0 ≤ 40) (h2 : 0 ≤ a1) (h3 : a1 ≤ 99) (h4 : a2 = (a1 + 1)) (h5 : 1 ≤ a3) (h6 : a3 ≤ 240) (h7 : a4 = (a1 + a0)) (h8 : a4 < a3) (h9 : a5 = (a1 + a0)) : a5 ≤ 139 := by omega
theorem mp_o2682 {a0 : Int} {a1 : Int} {a2 : Int} {a3 : Int} {a4 : Int} {a5 : Int} (h0 : 1 ≤ a0) (h1 : a0 ≤ 40) (h2 : 0 ≤ a1) (h3 : a1 ≤ 99) (h4 : a2 = (a1 + 1)) (h5 : 1 ≤ a3) (h6 : a3 ≤ 240) (h7 : a4 = (a1 + a0)) (h8 : a3 ≤ a4) (h9 : a5 = (a3 + 1)) : a5 ≤ 240 := by omega
theorem mp_o2683 {a0 : Int} {a1 : Int} (h0 : 0 ≤ a0) (h1 : a0 ≤ 5) (h2 : a1 = (3 * a0)) : (-2147483648) ≤ (a1 + 2) := by omega
theorem mp_o2684 {a0 : Int} {a1 : Int} (h0 : 0 ≤ a0) (h1 : a0 ≤ 5) (h2 : a1 = (3 * a0)) : (a1 + 2) ≤ 2147483647 := by omega
theorem mp_o2685 {a0 : Int} {a1 : Int} {a2 : Int} (h0 : 0 ≤ a0) (h1 : a0 ≤ 5) (h2 : a1 = (3 * a0)) (h3 : a2 = (a1 + 2)) : ((0 ≤ a2 ∧ a2 < ((90 : Nat) : Int))) := by omega
theorem mp_o2686 {a0 : Int} (h0 : 0 ≤ a0) (h1 : a0 ≤ 10) : (-2147483648) ≤ (150 * a0) := by omega
theorem mp_o2687 {a0 : Int} (h0 : 0 ≤ a0) (h1 : a0 ≤ 10) : (150 * a0) ≤ 2147483647 := by omega
theorem mp_o2688 {a0 : Int} {a1 : Int} {a2 : Int} (h0 : 1 ≤ a0) (h1 : a0 ≤ 240) (h2 : 0 ≤ a1) (h3 : a1 ≤ 10) (h4 : a2 = (150 * a1)) : (-2147483648) ≤ (a2 + a0) := by omega
theorem mp_o2689 {a0 : Int} {a1 : Int} {a2 : Int} {a3 : Int} {a4 : Int} {a5 : Int} {a6 : Int} (h0 : 1 ≤ a0) (h1 : a0 ≤ 40) (h2 : 0 ≤ a1) (h3 : a1 ≤ 99) (h4 : a2 = (a1 + 1)) (h5 : a3 = (a1 + a0)) (h6 : a4 ≤ a3) (h7 : 0 ≤ a5) (h8 : a5 ≤ 10) (h9 : a6 = (150 * a5)) : (a6 + a4) ≤ 2147483647 := by omega
theorem mp_o2690 {a0 : Int} {a1 : Int} {a2 : Int} {a3 : Int} {a4 : Int} {a5 : Int} {a6 : Int} {a7 : Int} {a8 : Int} {a9 : Int} {a10 : Int} (h0 : 1 ≤ a0) (h1 : a0 ≤ 40) (h2 : 0 ≤ a1) (h3 : a1 ≤ 9) (h4 : a1 < a2) (h5 : 0 ≤ a3) (h6 : a3 ≤ 99) (h7 : a4 = (a3 + 1)) (h8 : 1 ≤ a5) (h9 : a5 ≤ 240) (h10 : a6 = (a3 + a0)) (h11 : a5 ≤ a6) (h12 : 0 ≤ a7) (h13 : a7 ≤ 10) (h14 : (0 ≤ a8 ∧ a8 ≤ 10)) (h15 : a8 = a2) (h16 : a7 < a8) (h17 : a9 = (150 * a7)) (h18 : a10 = (a9 + a5)) : ((0 ≤ a10 ∧ a10 < ((1500 : Nat) : Int))) := by omega
theorem mp_o2691 {a0 : Int} {a1 : Int} {a2 : Int} {a3 : Int} {a4 : Int} (h0 : 0 ≤ a0) (h1 : a0 ≤ 9) (h2 : a0 < a1) (h3 : 0 ≤ a2) (h4 : a2 ≤ 10) (h5 : (0 ≤ a3 ∧ a3 ≤ 10)) (h6 : a3 = a1) (h7 : a2 < a3) (h8 : a4 = (a2 + 1)) : a4 ≤ 10 := by omega
theorem mp_o2692 {a0 : Int} {a1 : Int} {a2 : Int} {a3 : Nat} {a4 : Int} {a5 : Int} (h0 : a0 < a1) (h1 : (a1 - a2) ≤ ((a3 : Nat) : Int)) (h2 : a4 = a1) (h3 : a2 = a0) (h4 : a5 = (a2 + 1)) : (a3 - 1) < a3 := by omega
theorem mp_o2693 {a0 : Int} {a1 : Int} {a2 : Int} {a3 : Nat} {a4 : Int} {a5 : Int} (h0 : a0 < a1) (h1 : (a1 - a2) ≤ ((a3 : Nat) : Int)) (h2 : a4 = a1) (h3 : a2 = a0) (h4 : a5 = (a2 + 1)) : (a1 - a5) ≤ ((((a3 - 1)) : Nat) : Int) := by omega
theorem mp_o2694 {a0 : Int} {a1 : Int} {a2 : Int} {a3 : Int} (h0 : 0 ≤ a0) (h1 : a0 ≤ 2000000000) (h2 : 0 ≤ a1) (h3 : a1 ≤ 20) (h4 : a2 = a0) (h5 : a3 = a1) : (-9223372036854775808) ≤ (a2 + a3) := by omega
theorem mp_o2695 {a0 : Int} {a1 : Int} {a2 : Int} {a3 : Int} (h0 : 0 ≤ a0) (h1 : a0 ≤ 2000000000) (h2 : 0 ≤ a1) (h3 : a1 ≤ 20) (h4 : a2 = a0) (h5 : a3 = a1) : (a2 + a3) ≤ 9223372036854775807 := by omega
theorem mp_o2696 {a0 : Int} {a1 : Int} (h0 : 0 ≤ a0) (h1 : a0 ≤ 20) (h2 : a1 = a0) : (-2147483648) ≤ (a0 + 1) := by omega
theorem mp_o2697 {a0 : Int} {a1 : Int} (h0 : 0 ≤ a0) (h1 : a0 ≤ 20) (h2 : a1 = a0) : (a0 + 1) ≤ 2147483647 := by omega
theorem mp_o2698 {a0 : Int} {a1 : Int} {a2 : Nat} {a3 : Int} {a4 : Int} (h0 : (a0 - a1) ≤ ((a2 : Nat) : Int)) (h1 : a1 < a0) (h2 : a3 = a1) (h3 : a4 = (a1 + 1)) : (a2 - 1) < a2 := by omega
theorem mp_o2699 {a0 : Int} {a1 : Int} {a2 : Int} (h0 : 0 ≤ a0) (h1 : a0 ≤ 20) (h2 : a1 = a0) (h3 : a2 = (a0 + 1)) : 0 ≤ a2 := by omega
theorem mp_o2700 {a0 : Int} {a1 : Int} {a2 : Int} {a3 : Int} {a4 : Int} {a5 : Int} (h0 : a0 = a1) (h1 : a0 ≤ a2) (h2 : a2 = 20) (h3 : 0 ≤ a3) (h4 : a3 ≤ 20) (h5 : a3 < a1) (h6 : a4 = a3) (h7 : a5 = (a3 + 1)) : a5 ≤ 20 := by omega
theorem mp_o2701 {a0 : Int} {a1 : Int} {a2 : Nat} {a3 : Int} {a4 : Int} (h0 : (a0 - a1) ≤ ((a2 : Nat) : Int)) (h1 : a1 < a0) (h2 : a3 = a1) (h3 : a4 = (a1 + 1)) : (a0 - a4) ≤ ((((a2 - 1)) : Nat) : Int) := by omega
theorem mp_o2702 {a0 : Int} {a1 : Int} {a2 : Int} {a3 : Int} {a4 : Int} {a5 : Int} {a6 : Int} (h0 : a0 = a1) (h1 : (a0 < a2 ∨ a3 < a0)) (h2 : a2 = 1) (h3 : a3 = 1000000) : ((a4 < 0 ∨ (a5 ≤ a4 ∨ (a6 < 0 ∨ (a5 ≤ a6 ∨ (a4 = a6 ∨ (a1 < 1 ∨ 1000000 < a1))))))) := by omega
theorem mp_o2703 {a0 : Int} {a1 : Int} (h0 : (0 ≤ a0 ∧ a0 ≤ 10)) (h1 : a0 = a1) : (-2147483648) ≤ (6 * a0) := by omega
theorem mp_o2704 {a0 : Int} {a1 : Int} (h0 : (0 ≤ a0 ∧ a0 ≤ 10)) (h1 : a0 = a1) : (6 * a0) ≤ 2147483647 := by omega
theorem mp_o2705 {a0 : Int} {a1 : Int} {a2 : Int} (h0 : (0 ≤ a0 ∧ a0 ≤ 10)) (h1 : a0 = a1) (h2 : a2 = (6 * a0)) : ((0 ≤ a2 ∧ a2 < ((300 : Nat) : Int))) := by omega
theorem mp_o2706 {a0 : Int} {a1 : Int} {a2 : Int} (h0 : (0 ≤ a0 ∧ a0 ≤ 10)) (h1 : a0 = a1) (h2 : a2 = (6 * a0)) : 0 ≤ a2 := by omega
theorem mp_o2707 {a0 : Int} {a1 : Int} {a2 : Int} (h0 : (0 ≤ a0 ∧ a0 ≤ 10)) (h1 : a0 = a1) (h2 : a0 ≠ 10) (h3 : a2 = (6 * a0)) : a2 < ((60 : Nat) : Int) := by omega
theorem mp_o2708 {a0 : Int} {a1 : Int} {a2 : Int} (h0 : (0 ≤ a0 ∧ a0 ≤ 10)) (h1 : a0 = a1) (h2 : a2 = (6 * a0)) : (-2147483648) ≤ (a2 + 1) := by omega
theorem mp_o2709 {a0 : Int} {a1 : Int} {a2 : Int} (h0 : (0 ≤ a0 ∧ a0 ≤ 10)) (h1 : a0 = a1) (h2 : a2 = (6 * a0)) : (a2 + 1) ≤ 2147483647 := by omega
theorem mp_o2710 {a0 : Int} {a1 : Int} {a2 : Int} {a3 : Int} (h0 : (0 ≤ a0 ∧ a0 ≤ 10)) (h1 : a0 = a1) (h2 : a2 = (6 * a0)) (h3 : a3 = (a2 + 1)) : ((0 ≤ a3 ∧ a3 < ((300 : Nat) : Int))) := by omega
theorem mp_o2711 {a0 : Int} {a1 : Int} {a2 : Int} {a3 : Int} (h0 : (0 ≤ a0 ∧ a0 ≤ 10)) (h1 : a0 = a1) (h2 : a2 = (6 * a0)) (h3 : a3 = (a2 + 1)) : 0 ≤ a3 := by omega
theorem mp_o2712 {a0 : Int} {a1 : Int} {a2 : Int} {a3 : Int} (h0 : (0 ≤ a0 ∧ a0 ≤ 10)) (h1 : a0 = a1) (h2 : a0 ≠ 10) (h3 : a2 = (6 * a0)) (h4 : a3 = (a2 + 1)) : a3 < ((60 : Nat) : Int) := by omega
theorem mp_o2713 {a0 : Int} {a1 : Int} {a2 : Int} (h0 : (0 ≤ a0 ∧ a0 ≤ 10)) (h1 : a0 = a1) (h2 : a2 = (6 * a0)) : (-2147483648) ≤ (a2 + 2) := by omega
theorem mp_o2714 {a0 : Int} {a1 : Int} {a2 : Int} (h0 : (0 ≤ a0 ∧ a0 ≤ 10)) (h1 : a0 = a1) (h2 : a2 = (6 * a0)) : (a2 + 2) ≤ 2147483647 := by omega
theorem mp_o2715 {a0 : Int} {a1 : Int} {a2 : Int} {a3 : Int} (h0 : (0 ≤ a0 ∧ a0 ≤ 10)) (h1 : a0 = a1) (h2 : a2 = (6 * a0)) (h3 : a3 = (a2 + 2)) : ((0 ≤ a3 ∧ a3 < ((300 : Nat) : Int))) := by omega
theorem mp_o2716 {a0 : Int} {a1 : Int} {a2 : Int} {a3 : Int} (h0 : (0 ≤ a0 ∧ a0 ≤ 10)) (h1 : a0 = a1) (h2 : a2 = (6 * a0)) (h3 : a3 = (a2 + 2)) : 0 ≤ a3 := by omega
theorem mp_o2717 {a0 : Int} {a1 : Int} {a2 : Int} {a3 : Int} (h0 : (0 ≤ a0 ∧ a0 ≤ 10)) (h1 : a0 = a1) (h2 : a0 ≠ 10) (h3 : a2 = (6 * a0)) (h4 : a3 = (a2 + 2)) : a3 < ((60 : Nat) : Int) := by omega
theorem mp_o2718 {a0 : Int} {a1 : Int} {a2 : Int} (h0 : (0 ≤ a0 ∧ a0 ≤ 10)) (h1 : a0 = a1) (h2 : a2 = (6 * a0)) : (-2147483648) ≤ (a2 + 3) := by omega
theorem mp_o2719 {a0 : Int} {a1 : Int} {a2 : Int} (h0 : (0 ≤ a0 ∧ a0 ≤ 10)) (h1 : a0 = a1) (h2 : a2 = (6 * a0)) : (a2 + 3) ≤ 2147483647 := by omega
theorem mp_o2720 {a0 : Int} {a1 : Int} {a2 : Int} {a3 : Int} (h0 : (0 ≤ a0 ∧ a0 ≤ 10)) (h1 : a0 = a1) (h2 : a2 = (6 * a0)) (h3 : a3 = (a2 + 3)) : ((0 ≤ a3 ∧ a3 < ((300 : Nat) : Int))) := by omega
theorem mp_o2721 {a0 : Int} {a1 : Int} {a2 : Int} {a3 : Int} (h0 : (0 ≤ a0 ∧ a0 ≤ 10)) (h1 : a0 = a1) (h2 : a2 = (6 * a0)) (h3 : a3 = (a2 + 3)) : 0 ≤ a3 := by omega
theorem mp_o2722 {a0 : Int} (h0 : (0 ≤ a0 ∧ a0 ≤ 99)) : (¬ ((0 ≤ a0 ∧ a0 ≤ 99))) → ((0 ≤ a0 ∧ a0 ≤ 99)) := by omega
theorem mp_o2723 {a0 : Int} {a1 : Int} {a2 : Int} {a3 : Int} (h0 : (0 ≤ a0 ∧ a0 ≤ 10)) (h1 : a0 = a1) (h2 : a0 ≠ 10) (h3 : a2 = (6 * a0)) (h4 : a3 = (a2 + 3)) : a3 < ((60 : Nat) : Int) := by omega
theorem mp_o2724 {a0 : Int} {a1 : Int} {a2 : Int} (h0 : (0 ≤ a0 ∧ a0 ≤ 10)) (h1 : a0 = a1) (h2 : a2 = (6 * a0)) : (-2147483648) ≤ (a2 + 4) := by omega
theorem mp_o2725 {a0 : Int} {a1 : Int} {a2 : Int} (h0 : (0 ≤ a0 ∧ a0 ≤ 10)) (h1 : a0 = a1) (h2 : a2 = (6 * a0)) : (a2 + 4) ≤ 2147483647 := by omega
theorem mp_o2726 {a0 : Int} {a1 : Int} {a2 : Int} {a3 : Int} (h0 : (0 ≤ a0 ∧ a0 ≤ 10)) (h1 : a0 = a1) (h2 : a2 = (6 * a0)) (h3 : a3 = (a2 + 4)) : ((0 ≤ a3 ∧ a3 < ((300 : Nat) : Int))) := by omega
theorem mp_o2727 {a0 : Int} {a1 : Int} {a2 : Int} {a3 : Int} (h0 : (0 ≤ a0 ∧ a0 ≤ 10)) (h1 : a0 = a1) (h2 : a2 = (6 * a0)) (h3 : a3 = (a2 + 4)) : 0 ≤ a3 := by omega
theorem mp_o2728 {a0 : Int} {a1 : Int} {a2 : Int} {a3 : Int} (h0 : (0 ≤ a0 ∧ a0 ≤ 10)) (h1 : a0 = a1) (h2 : a0 ≠ 10) (h3 : a2 = (6 * a0)) (h4 : a3 = (a2 + 4)) : a3 < ((60 : Nat) : Int) := by omega
theorem mp_o2729 {a0 : Int} {a1 : Int} {a2 : Int} (h0 : (0 ≤ a0 ∧ a0 ≤ 10)) (h1 : a0 = a1) (h2 : a2 = (6 * a0)) : (-2147483648) ≤ (a2 + 5) := by omega
theorem mp_o2730 {a0 : Int} {a1 : Int} {a2 : Int} (h0 : (0 ≤ a0 ∧ a0 ≤ 10)) (h1 : a0 = a1) (h2 : a2 = (6 * a0)) : (a2 + 5) ≤ 2147483647 := by omega
theorem mp_o2731 {a0 : Int} {a1 : Int} {a2 : Int} {a3 : Int} (h0 : (0 ≤ a0 ∧ a0 ≤ 10)) (h1 : a0 = a1) (h2 : a2 = (6 * a0)) (h3 : a3 = (a2 + 5)) : ((0 ≤ a3 ∧ a3 < ((300 : Nat) : Int))) := by omega
theorem mp_o2732 {a0 : Int} {a1 : Int} {a2 : Int} {a3 : Int} (h0 : (0 ≤ a0 ∧ a0 ≤ 10)) (h1 : a0 = a1) (h2 : a2 = (6 * a0)) (h3 : a3 = (a2 + 5)) : 0 ≤ a3 := by omega
theorem mp_o2733 {a0 : Int} {a1 : Int} {a2 : Int} {a3 : Int} (h0 : (0 ≤ a0 ∧ a0 ≤ 10)) (h1 : a0 = a1) (h2 : a0 ≠ 10) (h3 : a2 = (6 * a0)) (h4 : a3 = (a2 + 5)) : a3 < ((60 : Nat) : Int) := by omega
theorem mp_o2734 {a0 : Int} {a1 : Int} (h0 : (0 ≤ a0 ∧ a0 ≤ 10)) (h1 : a0 = a1) : (-2147483648) ≤ (a0 + 1) := by omega
theorem mp_o2735 {a0 : Int} {a1 : Int} (h0 : (0 ≤ a0 ∧ a0 ≤ 10)) (h1 : a0 = a1) : (a0 + 1) ≤ 2147483647 := by omega
theorem mp_o2736 {a0 : Int} {a1 : Int} {a2 : Int} (h0 : (0 ≤ a0 ∧ a0 ≤ 10)) (h1 : a0 = a1) (h2 : a0 ≠ 10) (h3 : a2 = (a0 + 1)) : ((0 ≤ a2 ∧ a2 ≤ 10)) := by omega
theorem mp_o2737 {a0 : Int} {a1 : Int} {a2 : Int} {a3 : Int} {a4 : Int} (h0 : (0 ≤ a0 ∧ a0 ≤ 10)) (h1 : a0 = a1) (h2 : a2 = (a0 + 1)) (h3 : a3 = a2) (h4 : (0 ≤ a4 ∧ a4 ≤ 10)) (h5 : a4 = a3) : (-2147483648) ≤ (a4 - 1) := by omega
theorem mp_o2738 {a0 : Int} {a1 : Int} {a2 : Int} {a3 : Int} {a4 : Int} (h0 : (0 ≤ a0 ∧ a0 ≤ 10)) (h1 : a0 = a1) (h2 : a2 = (a0 + 1)) (h3 : a3 = a2) (h4 : (0 ≤ a4 ∧ a4 ≤ 10)) (h5 : a4 = a3) : (a4 - 1) ≤ 2147483647 := by omega
theorem mp_o2739 {a0 : Int} {a1 : Int} (h0 : a0 = a1) (h1 : 1 ≤ a0) (h2 : a0 ≤ 1000000) : 1 ≤ a1 := by omega
theorem mp_o2740 {a0 : Int} {a1 : Int} (h0 : a0 = a1) (h1 : 1 ≤ a0) (h2 : a0 ≤ 1000000) : a1 ≤ 1000000 := by omega
theorem mp_o2741 {a0 : Int} {a1 : Int} {a2 : Int} {a3 : Int} {a4 : Int} {a5 : Int} (h0 : (0 ≤ a0 ∧ a0 ≤ 10)) (h1 : a0 = a1) (h2 : a2 = (a0 + 1)) (h3 : a3 = a2) (h4 : (0 ≤ a4 ∧ a4 ≤ 10)) (h5 : a4 = a3) (h6 : a5 = (a4 - 1)) : (-1) ≤ a5 := by omega
theorem mp_o2742 {a0 : Int} {a1 : Int} {a2 : Int} {a3 : Int} {a4 : Int} {a5 : Int} (h0 : (0 ≤ a0 ∧ a0 ≤ 10)) (h1 : a0 = a1) (h2 : a2 = (a0 + 1)) (h3 : a3 = a2) (h4 : (0 ≤ a4 ∧ a4 ≤ 10)) (h5 : a4 = a3) (h6 : a5 = (a4 - 1)) : a5 ≤ 9 := by omega
theorem mp_o2743 {a0 : Int} {a1 : Int} {a2 : Int} {a3 : Int} {a4 : Int} {a5 : Int} {a6 : Int} {a7 : Int} {a8 : Int} {a9 : Int} {a10 : Int} {a11 : Int} (h0 : (0 ≤ a0 ∧ a0 ≤ 10)) (h1 : a0 = a1) (h2 : a2 = (6 * a0)) (h3 : a3 = (a2 + 1)) (h4 : a4 = (a2 + 2)) (h5 : a5 = (a2 + 3)) (h6 : a6 = (a2 + 4)) (h7 : a7 = (a2 + 5)) (h8 : a8 = (a0 + 1)) (h9 : a9 = a8) (h10 : (0 ≤ a10 ∧ a10 ≤ 10)) (h11 : a10 = a9) (h12 : a11 = (a10 - 1)) : ((0 ≤ a1 ∧ ((6 * a1) ≤ a2 ∧ ((6 * a1) ≤ a3 ∧ ((6 * a1) ≤ a4 ∧ ((6 * a1) ≤ a5 ∧ ((6 * a1) ≤ a6 ∧ a7 = ((6 * a1) + 5)))))))) := by omega
theorem mp_o2744 {a0 : Int} {a1 : Int} {a2 : Int} (h0 : (0 ≤ a0 ∧ a0 ≤ 60)) (h1 : a0 = a1) (h2 : a0 ≤ 0) (h3 : a2 = a1) : a2 ≤ a1 := by omega
theorem mp_o2745 {a0 : Int} {a1 : Int} {a2 : Int} {a3 : Int} {a4 : Int} {a5 : Int} {a6 : Int} {a7 : Int} {a8 : Int} {a9 : Int} {a10 : Int} {a11 : Int} {a12 : Int} {a13 : Int} (h0 : 0 ≤ a0) (h1 : 0 ≤ a1) (h2 : a0 ≤ 5) (h3 : a1 ≤ 5) (h4 : (0 ≤ a0 ∧ (a0 < a2 ∧ (0 ≤ a1 ∧ (a1 < a2 ∧ a0 ≠ a1))))) (h5 : a0 ≠ a1) (h6 : a3 ≠ 0) (h7 : a4 = a5) (h8 : 1 ≤ a4) (h9 : a4 ≤ 1000000) (h10 : a3 ≠ 0) (h11 : (0 ≤ a6 ∧ a6 ≤ 10)) (h12 : a6 = a7) (h13 : a6 ≠ a8) (h14 : a6 ≠ 10) (h15 : a9 = (a6 + 1)) (h16 : a10 = a2) (h17 : a11 = a9) (h18 : (0 ≤ a12 ∧ a12 ≤ 10)) (h19 : a12 = a11) (h20 : a13 = (a12 - 1)) : ((0 ≤ a0 ∧ (a0 < a2 ∧ (0 ≤ a1 ∧ (a1 < a2 ∧ (a0 ≠ a1 ∧ (1 ≤ a5 ∧ a5 ≤ 1000000))))))) := by omega
theorem mp_o2746 {a0 : Int} {a1 : Int} (h0 : (0 ≤ a0 ∧ a0 ≤ 60)) (h1 : a0 = a1) (h2 : a0 ≤ 0) : a1 ≤ 0 := by omega
theorem mp_o2747 {a0 : Int} {a1 : Int} {a2 : Int} {a3 : Int} {a4 : Int} {a5 : Int} (h0 : (0 ≤ a0 ∧ a0 ≤ 10)) (h1 : a0 = a1) (h2 : a2 = (a0 + 1)) (h3 : a3 = a2) (h4 : (0 ≤ a4 ∧ a4 ≤ 10)) (h5 : a4 = a3) (h6 : a5 = (a4 - 1)) : a1 < 10 := by omega
theorem mp_o2748 {a0 : Int} {a1 : Int} {a2 : Int} {a3 : Int} {a4 : Int} {a5 : Int} (h0 : a0 = a1) (h1 : a2 = (a0 + 1)) (h2 : a3 = a2) (h3 : a4 = a3) (h4 : a5 = (a4 - 1)) : a5 = a1 := by omega
theorem mp_o2749 {a0 : Int} {a1 : Int} {a2 : Int} {a3 : Int} {a4 : Int} {a5 : Int} {a6 : Int} (h0 : (0 ≤ a0 ∧ a0 ≤ 10)) (h1 : a0 = a1) (h2 : a2 = (6 * a0)) (h3 : a3 = (a0 + 1)) (h4 : a4 = a3) (h5 : (0 ≤ a5 ∧ a5 ≤ 10)) (h6 : a5 = a4) (h7 : a6 = (a5 - 1)) : (Int.toNat a2) = (Int.toNat ((6 * a1))) := by omega
theorem mp_o2750 {a0 : Int} {a1 : Int} {a2 : Int} {a3 : Int} {a4 : Int} {a5 : Int} {a6 : Int} {a7 : Int} (h0 : (0 ≤ a0 ∧ a0 ≤ 10)) (h1 : a0 = a1) (h2 : a2 = (6 * a0)) (h3 : a3 = (a2 + 1)) (h4 : a4 = (a0 + 1)) (h5 : a5 = a4) (h6 : (0 ≤ a6 ∧ a6 ≤ 10)) (h7 : a6 = a5) (h8 : a7 = (a6 - 1)) : (Int.toNat a3) = (Int.toNat (((6 * a1) + 1))) := by omega
theorem mp_o2751 {a0 : Int} {a1 : Int} {a2 : Int} {a3 : Int} {a4 : Int} {a5 : Int} {a6 : Int} {a7 : Int} (h0 : (0 ≤ a0 ∧ a0 ≤ 10)) (h1 : a0 = a1) (h2 : a2 = (6 * a0)) (h3 : a3 = (a2 + 2)) (h4 : a4 = (a0 + 1)) (h5 : a5 = a4) (h6 : (0 ≤ a6 ∧ a6 ≤ 10)) (h7 : a6 = a5) (h8 : a7 = (a6 - 1)) : (Int.toNat a3) = (Int.toNat (((6 * a1) + 2))) := by omega
theorem mp_o2752 {a0 : Int} {a1 : Int} {a2 : Int} {a3 : Int} {a4 : Int} {a5 : Int} {a6 : Int} {a7 : Int} (h0 : (0 ≤ a0 ∧ a0 ≤ 10)) (h1 : a0 = a1) (h2 : a2 = (6 * a0)) (h3 : a3 = (a2 + 3)) (h4 : a4 = (a0 + 1)) (h5 : a5 = a4) (h6 : (0 ≤ a6 ∧ a6 ≤ 10)) (h7 : a6 = a5) (h8 : a7 = (a6 - 1)) : (Int.toNat a3) = (Int.toNat (((6 * a1) + 3))) := by omega
theorem mp_o2753 {a0 : Int} {a1 : Int} {a2 : Int} {a3 : Int} {a4 : Int} {a5 : Int} {a6 : Int} {a7 : Int} (h0 : (0 ≤ a0 ∧ a0 ≤ 10)) (h1 : a0 = a1) (h2 : a2 = (6 * a0)) (h3 : a3 = (a2 + 4)) (h4 : a4 = (a0 + 1)) (h5 : a5 = a4) (h6 : (0 ≤ a6 ∧ a6 ≤ 10)) (h7 : a6 = a5) (h8 : a7 = (a6 - 1)) : (Int.toNat a3) = (Int.toNat (((6 * a1) + 4))) := by omega
theorem mp_o2754 {a0 : Int} {a1 : Int} {a2 : Int} {a3 : Int} {a4 : Int} {a5 : Int} {a6 : Int} {a7 : Int} (h0 : (0 ≤ a0 ∧ a0 ≤ 10)) (h1 : a0 = a1) (h2 : a2 = (6 * a0)) (h3 : a3 = (a2 + 5)) (h4 : a4 = (a0 + 1)) (h5 : a5 = a4) (h6 : (0 ≤ a6 ∧ a6 ≤ 10)) (h7 : a6 = a5) (h8 : a7 = (a6 - 1)) : (Int.toNat a3) = (Int.toNat (((6 * a1) + 5))) := by omega
theorem mp_o2755 {a0 : Int} {a1 : Int} {a2 : Int} {a3 : Int} {a4 : Int} {a5 : Int} (h0 : 0 ≤ a0) (h1 : 0 ≤ a1) (h2 : a0 ≤ 5) (h3 : a1 ≤ 5) (h4 : (0 ≤ a0 ∧ (a0 < a2 ∧ (0 ≤ a1 ∧ (a1 < a2 ∧ a0 ≠ a1))))) (h5 : a0 ≠ a1) (h6 : a3 ≠ 0) (h7 : a4 = a5) (h8 : 1 ≤ a4) (h9 : a4 ≤ 1000000) (h10 : a3 ≠ 0) : ((0 ≤ a0 ∧ (a0 < a2 ∧ (0 ≤ a1 ∧ (a1 < a2 ∧ (a0 ≠ a1 ∧ (1 ≤ a5 ∧ a5 ≤ 1000000))))))) := by omega
theorem mp_o2756 {a0 : Int} {a1 : Int} (h0 : a0 = a1) (h1 : a0 = 10) : 10 ≤ a1 := by omega
theorem mp_o2757 {a0 : Int} {a1 : Int} (h0 : (0 ≤ a0 ∧ a0 ≤ 60)) (h1 : a0 = a1) (h2 : 0 < a0) : 0 < a1 := by omega
theorem mp_o2758 {a0 : Int} {a1 : Int} {a2 : Int} {a3 : Int} {a4 : Int} {a5 : Int} {a6 : Int} (h0 : a0 = a1) (h1 : (a0 < a2 ∨ a3 < a0)) (h2 : a2 = 0) (h3 : a3 = 1) : ((a4 < 0 ∨ (a5 ≤ a4 ∨ (a6 < 0 ∨ (99 < a6 ∨ (a1 < 0 ∨ 1 < a1)))))) := by omega
theorem mp_o2759 {a0 : Int} {a1 : Int} {a2 : Int} {a3 : Int} {a4 : Int} (h0 : 0 ≤ a0) (h1 : a0 ≤ 5) (h2 : 0 ≤ a1) (h3 : a1 ≤ 99) (h4 : a2 = (100 * a0)) (h5 : a3 = (a2 + a1)) (h6 : a4 = (100 * a0)) : (-2147483648) ≤ (a4 + a1) := by omega
theorem mp_o2760 {a0 : Int} {a1 : Int} {a2 : Int} {a3 : Int} {a4 : Int} (h0 : 0 ≤ a0) (h1 : a0 ≤ 5) (h2 : 0 ≤ a1) (h3 : a1 ≤ 99) (h4 : a2 = (100 * a0)) (h5 : a3 = (a2 + a1)) (h6 : a4 = (100 * a0)) : (a4 + a1) ≤ 2147483647 := by omega
theorem mp_o2761 {a0 : Int} {a1 : Int} {a2 : Int} {a3 : Int} {a4 : Int} {a5 : Int} (h0 : 0 ≤ a0) (h1 : a0 ≤ 5) (h2 : 0 ≤ a1) (h3 : a1 ≤ 99) (h4 : a2 = (100 * a0)) (h5 : a3 = (a2 + a1)) (h6 : a4 = (100 * a0)) (h7 : a5 = (a4 + a1)) : ((0 ≤ a5 ∧ a5 < ((3000 : Nat) : Int))) := by omega
theorem mp_o2762 {a0 : Int} {a1 : Int} {a2 : Int} {a3 : Int} {a4 : Int} {a5 : Int} (h0 : 0 ≤ a0) (h1 : a0 ≤ 5) (h2 : 0 ≤ a1) (h3 : a1 ≤ 99) (h4 : a2 = (100 * a0)) (h5 : a3 = (a2 + a1)) (h6 : a4 = (100 * a0)) (h7 : a5 = (a4 + a1)) : a5 < ((600 : Nat) : Int) := by omega
theorem mp_o2763 {a0 : Int} {a1 : Int} {a2 : Int} {a3 : Int} {a4 : Int} {a5 : Int} {a6 : Int} {a7 : Int} {a8 : Int} (h0 : 0 ≤ a0) (h1 : a0 < a1) (h2 : a0 ≤ 5) (h3 : 0 ≤ a2) (h4 : a2 ≤ 99) (h5 : a3 = a4) (h6 : 0 ≤ a3) (h7 : a3 ≤ 1) (h8 : a5 = (100 * a0)) (h9 : a6 = (a5 + a2)) (h10 : a7 = (100 * a0)) (h11 : a8 = (a7 + a2)) : ((0 ≤ a0 ∧ (a0 < a1 ∧ (0 ≤ a2 ∧ (a2 ≤ 99 ∧ (0 ≤ a4 ∧ a4 ≤ 1)))))) := by omega
theorem mp_o2764 {a0 : Int} {a1 : Int} {a2 : Int} (h0 : a0 = a1) (h1 : a0 = 0) (h2 : a2 = 0) : (((a1 ≠ 0 ∧ a2 = 1) ∨ (a1 = 0 ∧ a2 = 0))) := by omega
theorem mp_o2765 {a0 : Int} {a1 : Int} {a2 : Int} {a3 : Int} {a4 : Int} {a5 : Int} (h0 : a0 = (100 * a1)) (h1 : a2 = (a0 + a3)) (h2 : a4 = (100 * a1)) (h3 : a5 = (a4 + a3)) : (Int.toNat a5) = (Int.toNat (((100 * a1) + a3))) := by omega
theorem mp_o2766 {a0 : Int} {a1 : Int} {a2 : Int} (h0 : (0 ≤ a0 ∧ a0 ≤ 1)) (h1 : a0 = a1) (h2 : a0 ≠ 0) (h3 : a2 = 1) : (((a1 ≠ 0 ∧ a2 = 1) ∨ (a1 = 0 ∧ a2 = 0))) := by omega
theorem mp_o2767 {a0 : Int} (h0 : a0 = 1) : a0 ≤ 1 := by omega
theorem mp_o2768 {a0 : Int} {a1 : Int} {a2 : Int} {a3 : Int} {a4 : Int} {a5 : Int} {a6 : Int} {a7 : Int} (h0 : 0 ≤ a0) (h1 : a0 < a1) (h2 : a0 ≤ 5) (h3 : 0 ≤ a2) (h4 : a2 ≤ 99) (h5 : a3 = (100 * a0)) (h6 : a4 = (a3 + a2)) (h7 : a5 = (100 * a0)) (h8 : a6 = (a5 + a2)) (h9 : a7 = 1) : ((0 ≤ a0 ∧ (a0 < a1 ∧ (0 ≤ a2 ∧ (a2 ≤ 99 ∧ (0 ≤ a7 ∧ a7 ≤ 1)))))) := by omega
theorem mp_o2769 {a0 : Int} {a1 : Int} {a2 : Int} {a3 : Int} {a4 : Int} (h0 : 0 ≤ a0) (h1 : a0 < a1) (h2 : a0 ≤ 5) (h3 : 0 ≤ a2) (h4 : a2 ≤ 99) (h5 : a3 = a4) (h6 : 0 ≤ a3) (h7 : a3 ≤ 1) : ((0 ≤ a0 ∧ (a0 < a1 ∧ (0 ≤ a2 ∧ (a2 ≤ 99 ∧ (0 ≤ a4 ∧ a4 ≤ 1)))))) := by omega
theorem mp_o2770 {a0 : Int} {a1 : Int} {a2 : Int} {a3 : Int} {a4 : Int} {a5 : Int} (h0 : a0 = a1) (h1 : (a0 < a2 ∨ a3 < a0)) (h2 : a2 = 0) (h3 : a3 = 100) : ((a4 < 0 ∨ (a5 ≤ a4 ∨ (a1 < 0 ∨ 100 < a1)))) := by omega
theorem mp_o2771 {a0 : Int} {a1 : Int} {a2 : Int} (h0 : 0 ≤ a0) (h1 : a0 ≤ 5) (h2 : a1 = (3 * a0)) (h3 : a2 = (a1 + 2)) : a2 = (((Int.toNat (((3 * a0) + 2))) : Nat) : Int) := by omega
theorem mp_o2772 {a0 : Int} {a1 : Int} {a2 : Int} (h0 : 0 ≤ a0) (h1 : a0 ≤ 5) (h2 : a1 = (3 * a0)) (h3 : a2 = (a1 + 2)) : 0 ≤ a2 := by omega
theorem mp_o2773 {a0 : Int} {a1 : Int} {a2 : Int} (h0 : 0 ≤ a0) (h1 : a0 ≤ 5) (h2 : a1 = (3 * a0)) (h3 : a2 = (a1 + 2)) : a2 < ((18 : Nat) : Int) := by omega
theorem mp_o2774 {a0 : Int} {a1 : Int} (h0 : a0 = a1) (h1 : 0 ≤ a0) (h2 : a0 ≤ 100) : a1 ≤ 100 := by omega
theorem mp_o2775 {a0 : Int} {a1 : Int} {a2 : Int} {a3 : Int} (h0 : 0 ≤ a0) (h1 : a0 < a1) (h2 : a0 ≤ 5) (h3 : a2 = a3) (h4 : 0 ≤ a2) (h5 : a2 ≤ 100) : ((0 ≤ a0 ∧ (a0 < a1 ∧ (0 ≤ a3 ∧ a3 ≤ 100)))) := by omega
theorem mp_o2776 {a0 : Int} {a1 : Int} {a2 : Int} (h0 : 0 ≤ a0) (h1 : a0 ≤ 5) (h2 : a1 = (3 * a0)) (h3 : a2 = (a1 + 2)) : (Int.toNat a2) = (Int.toNat (((3 * a0) + 2))) := by omega
theorem mp_o2788 {a0 : Int} (h0 : 0 ≤ a0) (h1 : a0 ≤ 1) (h2 : a0 < 1) : (-2147483648) ≤ (1 + a0) := by omega
theorem mp_o2789 {a0 : Int} (h0 : 0 ≤ a0) (h1 : a0 ≤ 1) (h2 : a0 < 1) : (1 + a0) ≤ 2147483647 := by omega
theorem mp_o2790 {a0 : Int} {a1 : Int} (h0 : 0 ≤ a0) (h1 : a0 ≤ 1) (h2 : a0 < 1) (h3 : a1 = (1 + a0)) : ((0 ≤ a1 ∧ a1 < ((5 : Nat) : Int))) := by omega
theorem mp_o2791 {a0 : Int} {a1 : Int} (h0 : 0 ≤ a0) (h1 : a0 ≤ 1) (h2 : a0 < 1) (h3 : a1 = (1 + a0)) : a1 = (((1 : Nat) : Int) + (((Int.toNat a0) : Nat) : Int)) := by omega
theorem mp_o2792 : (((0 + 1) ≤ 1 ∨ (1 + 1) ≤ 0)) := by omega
theorem mp_o2793 {a0 : Int} (h0 : 0 ≤ a0) (h1 : a0 ≤ 5) (h2 : a0 < 5) : (-2147483648) ≤ (5 + a0) := by omega
theorem mp_o2794 {a0 : Int} (h0 : 0 ≤ a0) (h1 : a0 ≤ 5) (h2 : a0 < 5) : (5 + a0) ≤ 2147483647 := by omega
theorem mp_o2795 {a0 : Int} {a1 : Int} (h0 : 0 ≤ a0) (h1 : a0 ≤ 5) (h2 : a0 < 5) (h3 : a1 = (5 + a0)) : (-2147483648) ≤ (0 + a0) := by omega
theorem mp_o2796 {a0 : Int} {a1 : Int} (h0 : 0 ≤ a0) (h1 : a0 ≤ 5) (h2 : a0 < 5) (h3 : a1 = (5 + a0)) : (0 + a0) ≤ 2147483647 := by omega
theorem mp_o2797 {a0 : Int} {a1 : Int} {a2 : Int} (h0 : 0 ≤ a0) (h1 : a0 ≤ 5) (h2 : a0 < 5) (h3 : a1 = (5 + a0)) (h4 : a2 = (0 + a0)) : ((0 ≤ a2 ∧ a2 < ((25 : Nat) : Int))) := by omega
theorem mp_o2798 {a0 : Int} {a1 : Int} {a2 : Int} (h0 : 0 ≤ a0) (h1 : a0 ≤ 5) (h2 : a0 < 5) (h3 : a1 = (5 + a0)) (h4 : a2 = (0 + a0)) : 0 ≤ a2 := by omega
theorem mp_o2799 {a0 : Int} {a1 : Int} {a2 : Int} (h0 : 0 ≤ a0) (h1 : a0 ≤ 5) (h2 : a0 < 5) (h3 : a1 = (5 + a0)) (h4 : a2 = (0 + a0)) : a2 < ((25 : Nat) : Int) := by omega
theorem mp_o2800 {a0 : Int} {a1 : Int} {a2 : Int} (h0 : 0 ≤ a0) (h1 : a0 ≤ 5) (h2 : a0 < 5) (h3 : a1 = (5 + a0)) (h4 : a2 = (0 + a0)) : ((0 ≤ a1 ∧ a1 < ((25 : Nat) : Int))) := by omega
theorem mp_o2801 {a0 : Int} {a1 : Int} {a2 : Int} (h0 : 0 ≤ a0) (h1 : a0 ≤ 5) (h2 : a0 < 5) (h3 : a1 = (5 + a0)) (h4 : a2 = (0 + a0)) : 0 ≤ a1 := by omega
theorem mp_o2802 {a0 : Int} {a1 : Int} {a2 : Int} {a3 : Int} (h0 : 0 ≤ a0) (h1 : a0 ≤ 5) (h2 : a0 < 5) (h3 : a1 = (5 + a0)) (h4 : a2 = (0 + a0)) (h5 : (((a2 % 5) = 0 → (0 ≤ a3 ∧ a3 ≤ 6)))) (h6 : (((a2 % 5) = 1 → (0 ≤ a3 ∧ a3 ≤ 99)))) (h7 : (((a2 % 5) = 2 → (0 ≤ a3 ∧ a3 ≤ 6)))) (h8 : (((a2 % 5) = 3 → (0 ≤ a3 ∧ a3 ≤ 10)))) (h9 : (((a2 % 5) = 4 → (0 ≤ a3 ∧ a3 ≤ 60)))) : ((a1 % ((5 : Nat) : Int)) = ((0 : Nat) : Int)) → ((0 ≤ a3 ∧ a3 ≤ 6)) := by omega
theorem mp_o2803 {a0 : Int} {a1 : Int} {a2 : Int} {a3 : Int} (h0 : 0 ≤ a0) (h1 : a0 ≤ 5) (h2 : a0 < 5) (h3 : a1 = (5 + a0)) (h4 : a2 = (0 + a0)) (h5 : (((a2 % 5) = 1 → (0 ≤ a3 ∧ a3 ≤ 99)))) (h6 : (((a2 % 5) = 2 → (0 ≤ a3 ∧ a3 ≤ 6)))) (h7 : (((a2 % 5) = 3 → (0 ≤ a3 ∧ a3 ≤ 10)))) (h8 : (((a2 % 5) = 4 → (0 ≤ a3 ∧ a3 ≤ 60)))) : ((a1 % ((5 : Nat) : Int)) = ((1 : Nat) : Int)) → ((0 ≤ a3 ∧ a3 ≤ 99)) := by omega
theorem mp_o2804 {a0 : Int} {a1 : Int} {a2 : Int} {a3 : Int} (h0 : 0 ≤ a0) (h1 : a0 ≤ 5) (h2 : a0 < 5) (h3 : a1 = (5 + a0)) (h4 : a2 = (0 + a0)) (h5 : (((a2 % 5) = 2 → (0 ≤ a3 ∧ a3 ≤ 6)))) (h6 : (((a2 % 5) = 3 → (0 ≤ a3 ∧ a3 ≤ 10)))) (h7 : (((a2 % 5) = 4 → (0 ≤ a3 ∧ a3 ≤ 60)))) : ((a1 % ((5 : Nat) : Int)) = ((2 : Nat) : Int)) → ((0 ≤ a3 ∧ a3 ≤ 6)) := by omega
theorem mp_o2805 {a0 : Int} {a1 : Int} {a2 : Int} {a3 : Int} (h0 : 0 ≤ a0) (h1 : a0 ≤ 5) (h2 : a0 < 5) (h3 : a1 = (5 + a0)) (h4 : a2 = (0 + a0)) (h5 : (((a2 % 5) = 3 → (0 ≤ a3 ∧ a3 ≤ 10)))) (h6 : (((a2 % 5) = 4 → (0 ≤ a3 ∧ a3 ≤ 60)))) : ((a1 % ((5 : Nat) : Int)) = ((3 : Nat) : Int)) → ((0 ≤ a3 ∧ a3 ≤ 10)) := by omega
theorem mp_o2806 {a0 : Int} {a1 : Int} {a2 : Int} {a3 : Int} (h0 : 0 ≤ a0) (h1 : a0 ≤ 5) (h2 : a0 < 5) (h3 : a1 = (5 + a0)) (h4 : a2 = (0 + a0)) (h5 : (((a2 % 5) = 4 → (0 ≤ a3 ∧ a3 ≤ 60)))) : ((a1 % ((5 : Nat) : Int)) = ((4 : Nat) : Int)) → ((0 ≤ a3 ∧ a3 ≤ 60)) := by omega
theorem mp_o2807 {a0 : Int} {a1 : Int} {a2 : Int} (h0 : 0 ≤ a0) (h1 : a0 ≤ 5) (h2 : a0 < 5) (h3 : a1 = (5 + a0)) (h4 : a2 = (0 + a0)) : (-2147483648) ≤ (a0 + 1) := by omega
theorem mp_o2808 {a0 : Int} {a1 : Int} {a2 : Int} (h0 : 0 ≤ a0) (h1 : a0 ≤ 5) (h2 : a0 < 5) (h3 : a1 = (5 + a0)) (h4 : a2 = (0 + a0)) : (a0 + 1) ≤ 2147483647 := by omega
theorem mp_o2809 {a0 : Int} {a1 : Nat} {a2 : Int} {a3 : Int} {a4 : Int} (h0 : 0 ≤ a0) (h1 : a0 ≤ 5) (h2 : ((-a0) + 5) ≤ ((a1 : Nat) : Int)) (h3 : a0 < 5) (h4 : a2 = (5 + a0)) (h5 : a3 = (0 + a0)) (h6 : a4 = (a0 + 1)) : (a1 - 1) < a1 := by omega
theorem mp_o2810 {a0 : Int} {a1 : Int} {a2 : Int} {a3 : Int} (h0 : 0 ≤ a0) (h1 : a0 ≤ 5) (h2 : a0 < 5) (h3 : a1 = (5 + a0)) (h4 : a2 = (0 + a0)) (h5 : a3 = (a0 + 1)) : 0 ≤ a3 := by omega
theorem mp_o2811 {a0 : Int} {a1 : Int} {a2 : Int} {a3 : Int} (h0 : 0 ≤ a0) (h1 : a0 ≤ 5) (h2 : a0 < 5) (h3 : a1 = (5 + a0)) (h4 : a2 = (0 + a0)) (h5 : a3 = (a0 + 1)) : a3 ≤ 5 := by omega
theorem mp_o2812 {a0 : Int} {a1 : Int} {a2 : Int} {a3 : Int} (h0 : 0 ≤ a0) (h1 : a0 ≤ 5) (h2 : a0 < 5) (h3 : a1 = (5 + a0)) (h4 : a2 = (0 + a0)) (h5 : a3 = (a0 + 1)) : a1 = (((5 : Nat) : Int) + (((Int.toNat a0) : Nat) : Int)) := by omega
theorem mp_o2813 {a0 : Int} {a1 : Int} {a2 : Int} {a3 : Int} (h0 : 0 ≤ a0) (h1 : a0 ≤ 5) (h2 : a0 < 5) (h3 : a1 = (5 + a0)) (h4 : a2 = (0 + a0)) (h5 : a3 = (a0 + 1)) : a2 = (((0 : Nat) : Int) + (((Int.toNat a0) : Nat) : Int)) := by omega
theorem mp_o2814 : (((0 + 5) ≤ 5 ∨ (5 + 5) ≤ 0)) := by omega
theorem mp_o2815 {a0 : Int} {a1 : Int} {a2 : Int} {a3 : Int} (h0 : 0 ≤ a0) (h1 : a0 ≤ 5) (h2 : a0 < 5) (h3 : a1 = (5 + a0)) (h4 : a2 = (0 + a0)) (h5 : a3 = (a0 + 1)) : (Int.toNat a0) < 5 := by omega
theorem mp_o2816 {a0 : Int} {a1 : Int} {a2 : Int} {a3 : Int} (h0 : 0 ≤ a0) (h1 : a0 ≤ 5) (h2 : a0 < 5) (h3 : a1 = (5 + a0)) (h4 : a2 = (0 + a0)) (h5 : a3 = (a0 + 1)) : (Int.toNat a3) = ((Int.toNat a0) + 1) := by omega
theorem mp_o2817 {a0 : Int} {a1 : Nat} {a2 : Int} {a3 : Int} {a4 : Int} (h0 : 0 ≤ a0) (h1 : a0 ≤ 5) (h2 : ((-a0) + 5) ≤ ((a1 : Nat) : Int)) (h3 : a0 < 5) (h4 : a2 = (5 + a0)) (h5 : a3 = (0 + a0)) (h6 : a4 = (a0 + 1)) : ((-a4) + 5) ≤ ((((a1 - 1)) : Nat) : Int) := by omega
theorem mp_o2818 {a0 : Int} (h0 : 0 ≤ a0) (h1 : a0 ≤ 36) (h2 : a0 < 36) : (-2147483648) ≤ (36 + a0) := by omega
theorem mp_o2819 {a0 : Int} (h0 : 0 ≤ a0) (h1 : a0 ≤ 36) (h2 : a0 < 36) : (36 + a0) ≤ 2147483647 := by omega
theorem mp_o2820 {a0 : Int} {a1 : Int} (h0 : 0 ≤ a0) (h1 : a0 ≤ 36) (h2 : a0 < 36) (h3 : a1 = (36 + a0)) : (-2147483648) ≤ (0 + a0) := by omega
theorem mp_o2821 {a0 : Int} {a1 : Int} (h0 : 0 ≤ a0) (h1 : a0 ≤ 36) (h2 : a0 < 36) (h3 : a1 = (36 + a0)) : (0 + a0) ≤ 2147483647 := by omega
theorem mp_o2822 {a0 : Int} {a1 : Int} {a2 : Int} (h0 : 0 ≤ a0) (h1 : a0 ≤ 36) (h2 : a0 < 36) (h3 : a1 = (36 + a0)) (h4 : a2 = (0 + a0)) : ((0 ≤ a2 ∧ a2 < ((180 : Nat) : Int))) := by omega
theorem mp_o2823 {a0 : Int} {a1 : Int} {a2 : Int} (h0 : 0 ≤ a0) (h1 : a0 ≤ 36) (h2 : a0 < 36) (h3 : a1 = (36 + a0)) (h4 : a2 = (0 + a0)) : 0 ≤ a2 := by omega
theorem mp_o2824 {a0 : Int} {a1 : Int} {a2 : Int} (h0 : 0 ≤ a0) (h1 : a0 ≤ 36) (h2 : a0 < 36) (h3 : a1 = (36 + a0)) (h4 : a2 = (0 + a0)) : a2 < ((180 : Nat) : Int) := by omega
theorem mp_o2825 {a0 : Int} {a1 : Int} {a2 : Int} (h0 : 0 ≤ a0) (h1 : a0 ≤ 36) (h2 : a0 < 36) (h3 : a1 = (36 + a0)) (h4 : a2 = (0 + a0)) : ((0 ≤ a1 ∧ a1 < ((180 : Nat) : Int))) := by omega
theorem mp_o2826 {a0 : Int} {a1 : Int} {a2 : Int} (h0 : 0 ≤ a0) (h1 : a0 ≤ 36) (h2 : a0 < 36) (h3 : a1 = (36 + a0)) (h4 : a2 = (0 + a0)) : (-2147483648) ≤ (a0 + 1) := by omega
theorem mp_o2827 {a0 : Int} {a1 : Int} {a2 : Int} (h0 : 0 ≤ a0) (h1 : a0 ≤ 36) (h2 : a0 < 36) (h3 : a1 = (36 + a0)) (h4 : a2 = (0 + a0)) : (a0 + 1) ≤ 2147483647 := by omega
theorem mp_o2828 {a0 : Int} {a1 : Nat} {a2 : Int} {a3 : Int} {a4 : Int} (h0 : 0 ≤ a0) (h1 : a0 ≤ 36) (h2 : ((-a0) + 36) ≤ ((a1 : Nat) : Int)) (h3 : a0 < 36) (h4 : a2 = (36 + a0)) (h5 : a3 = (0 + a0)) (h6 : a4 = (a0 + 1)) : (a1 - 1) < a1 := by omega
theorem mp_o2829 {a0 : Int} {a1 : Int} {a2 : Int} {a3 : Int} (h0 : 0 ≤ a0) (h1 : a0 ≤ 36) (h2 : a0 < 36) (h3 : a1 = (36 + a0)) (h4 : a2 = (0 + a0)) (h5 : a3 = (a0 + 1)) : 0 ≤ a3 := by omega
theorem mp_o2830 {a0 : Int} {a1 : Int} {a2 : Int} {a3 : Int} (h0 : 0 ≤ a0) (h1 : a0 ≤ 36) (h2 : a0 < 36) (h3 : a1 = (36 + a0)) (h4 : a2 = (0 + a0)) (h5 : a3 = (a0 + 1)) : a3 ≤ 36 := by omega
theorem mp_o2831 {a0 : Int} {a1 : Int} {a2 : Int} {a3 : Int} (h0 : 0 ≤ a0) (h1 : a0 ≤ 36) (h2 : a0 < 36) (h3 : a1 = (36 + a0)) (h4 : a2 = (0 + a0)) (h5 : a3 = (a0 + 1)) : a1 = (((36 : Nat) : Int) + (((Int.toNat a0) : Nat) : Int)) := by omega
theorem mp_o2832 {a0 : Int} {a1 : Int} {a2 : Int} {a3 : Int} (h0 : 0 ≤ a0) (h1 : a0 ≤ 36) (h2 : a0 < 36) (h3 : a1 = (36 + a0)) (h4 : a2 = (0 + a0)) (h5 : a3 = (a0 + 1)) : a2 = (((0 : Nat) : Int) + (((Int.toNat a0) : Nat) : Int)) := by omega
theorem mp_o2833 : (((0 + 36) ≤ 36 ∨ (36 + 36) ≤ 0)) := by omega
theorem mp_o2834 {a0 : Int} {a1 : Int} {a2 : Int} {a3 : Int} (h0 : 0 ≤ a0) (h1 : a0 ≤ 36) (h2 : a0 < 36) (h3 : a1 = (36 + a0)) (h4 : a2 = (0 + a0)) (h5 : a3 = (a0 + 1)) : (Int.toNat a0) < 36 := by omega
theorem mp_o2835 {a0 : Int} {a1 : Int} {a2 : Int} {a3 : Int} (h0 : 0 ≤ a0) (h1 : a0 ≤ 36) (h2 : a0 < 36) (h3 : a1 = (36 + a0)) (h4 : a2 = (0 + a0)) (h5 : a3 = (a0 + 1)) : (Int.toNat a3) = ((Int.toNat a0) + 1) := by omega
theorem mp_o2836 {a0 : Int} {a1 : Nat} {a2 : Int} {a3 : Int} {a4 : Int} (h0 : 0 ≤ a0) (h1 : a0 ≤ 36) (h2 : ((-a0) + 36) ≤ ((a1 : Nat) : Int)) (h3 : a0 < 36) (h4 : a2 = (36 + a0)) (h5 : a3 = (0 + a0)) (h6 : a4 = (a0 + 1)) : ((-a4) + 36) ≤ ((((a1 - 1)) : Nat) : Int) := by omega
theorem mp_o2837 {a0 : Int} (h0 : 0 ≤ a0) (h1 : a0 ≤ 20) (h2 : a0 ≤ 18) (h3 : a0 < 18) : (-2147483648) ≤ (18 + a0) := by omega
theorem mp_o2838 {a0 : Int} (h0 : 0 ≤ a0) (h1 : a0 ≤ 20) (h2 : a0 ≤ 18) (h3 : a0 < 18) : (18 + a0) ≤ 2147483647 := by omega
theorem mp_o2839 {a0 : Int} {a1 : Int} (h0 : 0 ≤ a0) (h1 : a0 ≤ 20) (h2 : a0 ≤ 18) (h3 : a0 < 18) (h4 : a1 = (18 + a0)) : (-2147483648) ≤ (0 + a0) := by omega
theorem mp_o2840 {a0 : Int} {a1 : Int} (h0 : 0 ≤ a0) (h1 : a0 ≤ 20) (h2 : a0 ≤ 18) (h3 : a0 < 18) (h4 : a1 = (18 + a0)) : (0 + a0) ≤ 2147483647 := by omega
theorem mp_o2841 {a0 : Int} {a1 : Int} {a2 : Int} (h0 : 0 ≤ a0) (h1 : a0 ≤ 20) (h2 : a0 ≤ 18) (h3 : a0 < 18) (h4 : a1 = (18 + a0)) (h5 : a2 = (0 + a0)) : ((0 ≤ a2 ∧ a2 < ((90 : Nat) : Int))) := by omega
theorem mp_o2842 {a0 : Int} {a1 : Int} {a2 : Int} (h0 : 0 ≤ a0) (h1 : a0 ≤ 20) (h2 : a0 ≤ 18) (h3 : a0 < 18) (h4 : a1 = (18 + a0)) (h5 : a2 = (0 + a0)) : 0 ≤ a2 := by omega
theorem mp_o2843 {a0 : Int} {a1 : Int} {a2 : Int} (h0 : 0 ≤ a0) (h1 : a0 ≤ 20) (h2 : a0 ≤ 18) (h3 : a0 < 18) (h4 : a1 = (18 + a0)) (h5 : a2 = (0 + a0)) : a2 < ((90 : Nat) : Int) := by omega
theorem mp_o2844 {a0 : Int} {a1 : Int} {a2 : Int} (h0 : 0 ≤ a0) (h1 : a0 ≤ 20) (h2 : a0 ≤ 18) (h3 : a0 < 18) (h4 : a1 = (18 + a0)) (h5 : a2 = (0 + a0)) : ((0 ≤ a1 ∧ a1 < ((90 : Nat) : Int))) := by omega
theorem mp_o2845 {a0 : Int} {a1 : Int} {a2 : Int} (h0 : 0 ≤ a0) (h1 : a0 ≤ 20) (h2 : a0 ≤ 18) (h3 : a0 < 18) (h4 : a1 = (18 + a0)) (h5 : a2 = (0 + a0)) : 0 ≤ a1 := by omega
theorem mp_o2846 {a0 : Int} {a1 : Int} {a2 : Int} {a3 : Int} (h0 : a0 = (18 + a1)) (h1 : a2 = (0 + a1)) (h2 : (((a2 % 3) = 0 → (0 ≤ a3 ∧ a3 ≤ 5)))) (h3 : (((a2 % 3) = 1 → ((-1) ≤ a3 ∧ a3 ≤ 99)))) : ((a0 % ((3 : Nat) : Int)) = ((0 : Nat) : Int)) → ((0 ≤ a3 ∧ a3 ≤ 5)) := by omega
theorem mp_o2847 {a0 : Int} {a1 : Int} {a2 : Int} {a3 : Int} (h0 : a0 = (18 + a1)) (h1 : a2 = (0 + a1)) (h2 : (((a2 % 3) = 1 → ((-1) ≤ a3 ∧ a3 ≤ 99)))) : ((a0 % ((3 : Nat) : Int)) = ((1 : Nat) : Int)) → (((-1) ≤ a3 ∧ a3 ≤ 99)) := by omega
theorem mp_o2848 {a0 : Int} {a1 : Int} {a2 : Int} (h0 : 0 ≤ a0) (h1 : a0 ≤ 20) (h2 : a0 ≤ 18) (h3 : a0 < 18) (h4 : a1 = (18 + a0)) (h5 : a2 = (0 + a0)) : (-2147483648) ≤ (a0 + 1) := by omega
theorem mp_o2849 {a0 : Int} {a1 : Int} {a2 : Int} (h0 : 0 ≤ a0) (h1 : a0 ≤ 20) (h2 : a0 ≤ 18) (h3 : a0 < 18) (h4 : a1 = (18 + a0)) (h5 : a2 = (0 + a0)) : (a0 + 1) ≤ 2147483647 := by omega
theorem mp_o2850 {a0 : Int} {a1 : Nat} {a2 : Int} {a3 : Int} {a4 : Int} (h0 : 0 ≤ a0) (h1 : a0 ≤ 20) (h2 : a0 ≤ 18) (h3 : ((-a0) + 18) ≤ ((a1 : Nat) : Int)) (h4 : a0 < 18) (h5 : a2 = (18 + a0)) (h6 : a3 = (0 + a0)) (h7 : a4 = (a0 + 1)) : (a1 - 1) < a1 := by omega
theorem mp_o2851 {a0 : Int} {a1 : Int} {a2 : Int} {a3 : Int} (h0 : 0 ≤ a0) (h1 : a0 ≤ 20) (h2 : a0 ≤ 18) (h3 : a0 < 18) (h4 : a1 = (18 + a0)) (h5 : a2 = (0 + a0)) (h6 : a3 = (a0 + 1)) : 0 ≤ a3 := by omega
theorem mp_o2852 {a0 : Int} {a1 : Int} {a2 : Int} {a3 : Int} (h0 : 0 ≤ a0) (h1 : a0 ≤ 20) (h2 : a0 ≤ 18) (h3 : a0 < 18) (h4 : a1 = (18 + a0)) (h5 : a2 = (0 + a0)) (h6 : a3 = (a0 + 1)) : a3 ≤ 20 := by omega
theorem mp_o2853 {a0 : Int} {a1 : Int} {a2 : Int} {a3 : Int} (h0 : 0 ≤ a0) (h1 : a0 ≤ 20) (h2 : a0 ≤ 18) (h3 : a0 < 18) (h4 : a1 = (18 + a0)) (h5 : a2 = (0 + a0)) (h6 : a3 = (a0 + 1)) : a1 = (((18 : Nat) : Int) + (((Int.toNat a0) : Nat) : Int)) := by omega
theorem mp_o2854 {a0 : Int} {a1 : Int} {a2 : Int} {a3 : Int} (h0 : 0 ≤ a0) (h1 : a0 ≤ 20) (h2 : a0 ≤ 18) (h3 : a0 < 18) (h4 : a1 = (18 + a0)) (h5 : a2 = (0 + a0)) (h6 : a3 = (a0 + 1)) : a2 = (((0 : Nat) : Int) + (((Int.toNat a0) : Nat) : Int)) := by omega
theorem mp_o2855 : (((0 + 18) ≤ 18 ∨ (18 + 18) ≤ 0)) := by omega
theorem mp_o2856 {a0 : Int} {a1 : Int} {a2 : Int} {a3 : Int} (h0 : 0 ≤ a0) (h1 : a0 ≤ 20) (h2 : a0 ≤ 18) (h3 : a0 < 18) (h4 : a1 = (18 + a0)) (h5 : a2 = (0 + a0)) (h6 : a3 = (a0 + 1)) : (Int.toNat a0) < 18 := by omega
theorem mp_o2857 {a0 : Int} {a1 : Int} {a2 : Int} {a3 : Int} (h0 : 0 ≤ a0) (h1 : a0 ≤ 20) (h2 : a0 ≤ 18) (h3 : a0 < 18) (h4 : a1 = (18 + a0)) (h5 : a2 = (0 + a0)) (h6 : a3 = (a0 + 1)) : (Int.toNat a3) = ((Int.toNat a0) + 1) := by omega
theorem mp_o2858 {a0 : Int} {a1 : Int} {a2 : Int} {a3 : Int} (h0 : 0 ≤ a0) (h1 : a0 ≤ 20) (h2 : a0 ≤ 18) (h3 : a0 < 18) (h4 : a1 = (18 + a0)) (h5 : a2 = (0 + a0)) (h6 : a3 = (a0 + 1)) : a3 ≤ 18 := by omega
theorem mp_o2859 {a0 : Int} {a1 : Nat} {a2 : Int} {a3 : Int} {a4 : Int} (h0 : 0 ≤ a0) (h1 : a0 ≤ 20) (h2 : a0 ≤ 18) (h3 : ((-a0) + 18) ≤ ((a1 : Nat) : Int)) (h4 : a0 < 18) (h5 : a2 = (18 + a0)) (h6 : a3 = (0 + a0)) (h7 : a4 = (a0 + 1)) : ((-a4) + 18) ≤ ((((a1 - 1)) : Nat) : Int) := by omega
theorem mp_o2860 {a0 : Int} (h0 : 0 ≤ a0) (h1 : a0 ≤ 60) (h2 : a0 < 60) : (-2147483648) ≤ (60 + a0) := by omega
theorem mp_o2861 {a0 : Int} (h0 : 0 ≤ a0) (h1 : a0 ≤ 60) (h2 : a0 < 60) : (60 + a0) ≤ 2147483647 := by omega
theorem mp_o2862 {a0 : Int} {a1 : Int} (h0 : 0 ≤ a0) (h1 : a0 ≤ 60) (h2 : a0 < 60) (h3 : a1 = (60 + a0)) : (-2147483648) ≤ (0 + a0) := by omega
theorem mp_o2863 {a0 : Int} {a1 : Int} (h0 : 0 ≤ a0) (h1 : a0 ≤ 60) (h2 : a0 < 60) (h3 : a1 = (60 + a0)) : (0 + a0) ≤ 2147483647 := by omega
theorem mp_o2864 {a0 : Int} {a1 : Int} {a2 : Int} (h0 : 0 ≤ a0) (h1 : a0 ≤ 60) (h2 : a0 < 60) (h3 : a1 = (60 + a0)) (h4 : a2 = (0 + a0)) : ((0 ≤ a2 ∧ a2 < ((300 : Nat) : Int))) := by omega
theorem mp_o2865 {a0 : Int} {a1 : Int} {a2 : Int} (h0 : 0 ≤ a0) (h1 : a0 ≤ 60) (h2 : a0 < 60) (h3 : a1 = (60 + a0)) (h4 : a2 = (0 + a0)) : 0 ≤ a2 := by omega
theorem mp_o2866 {a0 : Int} {a1 : Int} {a2 : Int} (h0 : 0 ≤ a0) (h1 : a0 ≤ 60) (h2 : a0 < 60) (h3 : a1 = (60 + a0)) (h4 : a2 = (0 + a0)) : a2 < ((300 : Nat) : Int) := by omega
theorem mp_o2867 {a0 : Int} {a1 : Int} {a2 : Int} (h0 : 0 ≤ a0) (h1 : a0 ≤ 60) (h2 : a0 < 60) (h3 : a1 = (60 + a0)) (h4 : a2 = (0 + a0)) : ((0 ≤ a1 ∧ a1 < ((300 : Nat) : Int))) := by omega
theorem mp_o2868 {a0 : Int} {a1 : Int} {a2 : Int} (h0 : 0 ≤ a0) (h1 : a0 ≤ 60) (h2 : a0 < 60) (h3 : a1 = (60 + a0)) (h4 : a2 = (0 + a0)) : 0 ≤ a1 := by omega
theorem mp_o2869 {a0 : Int} {a1 : Int} {a2 : Int} {a3 : Int} (h0 : a0 = (60 + a1)) (h1 : a2 = (0 + a1)) (h2 : (((a2 % 6) = 0 → (0 ≤ a3 ∧ a3 ≤ 5)))) (h3 : (((a2 % 6) = 1 → (0 ≤ a3 ∧ a3 ≤ 5)))) (h4 : (((a2 % 6) = 3 → (0 ≤ a3 ∧ a3 ≤ 99)))) (h5 : (((a2 % 6) = 4 → (0 ≤ a3 ∧ a3 ≤ 1)))) : ((a0 % ((6 : Nat) : Int)) = ((0 : Nat) : Int)) → ((0 ≤ a3 ∧ a3 ≤ 5)) := by omega
theorem mp_o2870 {a0 : Int} {a1 : Int} {a2 : Int} {a3 : Int} (h0 : a0 = (60 + a1)) (h1 : a2 = (0 + a1)) (h2 : (((a2 % 6) = 1 → (0 ≤ a3 ∧ a3 ≤ 5)))) (h3 : (((a2 % 6) = 3 → (0 ≤ a3 ∧ a3 ≤ 99)))) (h4 : (((a2 % 6) = 4 → (0 ≤ a3 ∧ a3 ≤ 1)))) : ((a0 % ((6 : Nat) : Int)) = ((1 : Nat) : Int)) → ((0 ≤ a3 ∧ a3 ≤ 5)) := by omega
theorem mp_o2871 {a0 : Int} {a1 : Int} {a2 : Int} {a3 : Int} (h0 : a0 = (60 + a1)) (h1 : a2 = (0 + a1)) (h2 : (((a2 % 6) = 3 → (0 ≤ a3 ∧ a3 ≤ 99)))) (h3 : (((a2 % 6) = 4 → (0 ≤ a3 ∧ a3 ≤ 1)))) : ((a0 % ((6 : Nat) : Int)) = ((3 : Nat) : Int)) → ((0 ≤ a3 ∧ a3 ≤ 99)) := by omega
theorem mp_o2872 {a0 : Int} {a1 : Int} {a2 : Int} {a3 : Int} (h0 : a0 = (60 + a1)) (h1 : a2 = (0 + a1)) (h2 : (((a2 % 6) = 4 → (0 ≤ a3 ∧ a3 ≤ 1)))) : ((a0 % ((6 : Nat) : Int)) = ((4 : Nat) : Int)) → ((0 ≤ a3 ∧ a3 ≤ 1)) := by omega
theorem mp_o2873 {a0 : Int} {a1 : Int} {a2 : Int} (h0 : 0 ≤ a0) (h1 : a0 ≤ 60) (h2 : a0 < 60) (h3 : a1 = (60 + a0)) (h4 : a2 = (0 + a0)) : (-2147483648) ≤ (a0 + 1) := by omega
theorem mp_o2874 {a0 : Int} {a1 : Int} {a2 : Int} (h0 : 0 ≤ a0) (h1 : a0 ≤ 60) (h2 : a0 < 60) (h3 : a1 = (60 + a0)) (h4 : a2 = (0 + a0)) : (a0 + 1) ≤ 2147483647 := by omega
theorem mp_o2875 {a0 : Int} {a1 : Nat} {a2 : Int} {a3 : Int} {a4 : Int} (h0 : 0 ≤ a0) (h1 : a0 ≤ 60) (h2 : ((-a0) + 60) ≤ ((a1 : Nat) : Int)) (h3 : a0 < 60) (h4 : a2 = (60 + a0)) (h5 : a3 = (0 + a0)) (h6 : a4 = (a0 + 1)) : (a1 - 1) < a1 := by omega
theorem mp_o2876 {a0 : Int} {a1 : Int} {a2 : Int} {a3 : Int} (h0 : 0 ≤ a0) (h1 : a0 ≤ 60) (h2 : a0 < 60) (h3 : a1 = (60 + a0)) (h4 : a2 = (0 + a0)) (h5 : a3 = (a0 + 1)) : 0 ≤ a3 := by omega
theorem mp_o2877 {a0 : Int} {a1 : Int} {a2 : Int} {a3 : Int} (h0 : 0 ≤ a0) (h1 : a0 ≤ 60) (h2 : a0 < 60) (h3 : a1 = (60 + a0)) (h4 : a2 = (0 + a0)) (h5 : a3 = (a0 + 1)) : a3 ≤ 60 := by omega
theorem mp_o2878 {a0 : Int} {a1 : Int} {a2 : Int} {a3 : Int} (h0 : 0 ≤ a0) (h1 : a0 ≤ 60) (h2 : a0 < 60) (h3 : a1 = (60 + a0)) (h4 : a2 = (0 + a0)) (h5 : a3 = (a0 + 1)) : a1 = (((60 : Nat) : Int) + (((Int.toNat a0) : Nat) : Int)) := by omega
theorem mp_o2879 {a0 : Int} {a1 : Int} {a2 : Int} {a3 : Int} (h0 : 0 ≤ a0) (h1 : a0 ≤ 60) (h2 : a0 < 60) (h3 : a1 = (60 + a0)) (h4 : a2 = (0 + a0)) (h5 : a3 = (a0 + 1)) : a2 = (((0 : Nat) : Int) + (((Int.toNat a0) : Nat) : Int)) := by omega
theorem mp_o2880 : (((0 + 60) ≤ 60 ∨ (60 + 60) ≤ 0)) := by omega
theorem mp_o2881 {a0 : Int} {a1 : Int} {a2 : Int} {a3 : Int} (h0 : 0 ≤ a0) (h1 : a0 ≤ 60) (h2 : a0 < 60) (h3 : a1 = (60 + a0)) (h4 : a2 = (0 + a0)) (h5 : a3 = (a0 + 1)) : (Int.toNat a0) < 60 := by omega
theorem mp_o2882 {a0 : Int} {a1 : Int} {a2 : Int} {a3 : Int} (h0 : 0 ≤ a0) (h1 : a0 ≤ 60) (h2 : a0 < 60) (h3 : a1 = (60 + a0)) (h4 : a2 = (0 + a0)) (h5 : a3 = (a0 + 1)) : (Int.toNat a3) = ((Int.toNat a0) + 1) := by omega
theorem mp_o2883 {a0 : Int} {a1 : Nat} {a2 : Int} {a3 : Int} {a4 : Int} (h0 : 0 ≤ a0) (h1 : a0 ≤ 60) (h2 : ((-a0) + 60) ≤ ((a1 : Nat) : Int)) (h3 : a0 < 60) (h4 : a2 = (60 + a0)) (h5 : a3 = (0 + a0)) (h6 : a4 = (a0 + 1)) : ((-a4) + 60) ≤ ((((a1 - 1)) : Nat) : Int) := by omega
theorem mp_o2884 {a0 : Int} {a1 : Int} {a2 : Int} (h0 : 0 ≤ a0) (h1 : a0 ≤ 60) (h2 : a0 < 60) (h3 : a1 = (60 + a0)) (h4 : a2 = (0 + a0)) : a2 < 300 := by omega
theorem mp_o2885 {a0 : Int} (h0 : 0 ≤ a0) (h1 : a0 ≤ 600) (h2 : a0 < 600) : (-2147483648) ≤ (600 + a0) := by omega
theorem mp_o2886 {a0 : Int} (h0 : 0 ≤ a0) (h1 : a0 ≤ 600) (h2 : a0 < 600) : (600 + a0) ≤ 2147483647 := by omega
theorem mp_o2887 {a0 : Int} {a1 : Int} (h0 : 0 ≤ a0) (h1 : a0 ≤ 600) (h2 : a0 < 600) (h3 : a1 = (600 + a0)) : (-2147483648) ≤ (0 + a0) := by omega
theorem mp_o2888 {a0 : Int} {a1 : Int} (h0 : 0 ≤ a0) (h1 : a0 ≤ 600) (h2 : a0 < 600) (h3 : a1 = (600 + a0)) : (0 + a0) ≤ 2147483647 := by omega
theorem mp_o2889 {a0 : Int} {a1 : Int} {a2 : Int} (h0 : 0 ≤ a0) (h1 : a0 ≤ 600) (h2 : a0 < 600) (h3 : a1 = (600 + a0)) (h4 : a2 = (0 + a0)) : ((0 ≤ a2 ∧ a2 < ((3000 : Nat) : Int))) := by omega
theorem mp_o2890 {a0 : Int} {a1 : Int} {a2 : Int} (h0 : 0 ≤ a0) (h1 : a0 ≤ 600) (h2 : a0 < 600) (h3 : a1 = (600 + a0)) (h4 : a2 = (0 + a0)) : 0 ≤ a2 := by omega
theorem mp_o2891 {a0 : Int} {a1 : Int} {a2 : Int} (h0 : 0 ≤ a0) (h1 : a0 ≤ 600) (h2 : a0 < 600) (h3 : a1 = (600 + a0)) (h4 : a2 = (0 + a0)) : a2 < ((3000 : Nat) : Int) := by omega
theorem mp_o2892 {a0 : Int} {a1 : Int} {a2 : Int} (h0 : 0 ≤ a0) (h1 : a0 ≤ 600) (h2 : a0 < 600) (h3 : a1 = (600 + a0)) (h4 : a2 = (0 + a0)) : ((0 ≤ a1 ∧ a1 < ((3000 : Nat) : Int))) := by omega
theorem mp_o2893 {a0 : Int} {a1 : Int} {a2 : Int} (h0 : 0 ≤ a0) (h1 : a0 ≤ 600) (h2 : a0 < 600) (h3 : a1 = (600 + a0)) (h4 : a2 = (0 + a0)) : (-2147483648) ≤ (a0 + 1) := by omega
theorem mp_o2894 {a0 : Int} {a1 : Int} {a2 : Int} (h0 : 0 ≤ a0) (h1 : a0 ≤ 600) (h2 : a0 < 600) (h3 : a1 = (600 + a0)) (h4 : a2 = (0 + a0)) : (a0 + 1) ≤ 2147483647 := by omega
theorem mp_o2895 {a0 : Int} {a1 : Nat} {a2 : Int} {a3 : Int} {a4 : Int} (h0 : 0 ≤ a0) (h1 : a0 ≤ 600) (h2 : ((-a0) + 600) ≤ ((a1 : Nat) : Int)) (h3 : a0 < 600) (h4 : a2 = (600 + a0)) (h5 : a3 = (0 + a0)) (h6 : a4 = (a0 + 1)) : (a1 - 1) < a1 := by omega
theorem mp_o2896 {a0 : Int} {a1 : Int} {a2 : Int} {a3 : Int} (h0 : 0 ≤ a0) (h1 : a0 ≤ 600) (h2 : a0 < 600) (h3 : a1 = (600 + a0)) (h4 : a2 = (0 + a0)) (h5 : a3 = (a0 + 1)) : 0 ≤ a3 := by omega
theorem mp_o2897 {a0 : Int} {a1 : Int} {a2 : Int} {a3 : Int} (h0 : 0 ≤ a0) (h1 : a0 ≤ 600) (h2 : a0 < 600) (h3 : a1 = (600 + a0)) (h4 : a2 = (0 + a0)) (h5 : a3 = (a0 + 1)) : a3 ≤ 600 := by omega
theorem mp_o2898 {a0 : Int} {a1 : Int} {a2 : Int} {a3 : Int} (h0 : 0 ≤ a0) (h1 : a0 ≤ 600) (h2 : a0 < 600) (h3 : a1 = (600 + a0)) (h4 : a2 = (0 + a0)) (h5 : a3 = (a0 + 1)) : a1 = (((600 : Nat) : Int) + (((Int.toNat a0) : Nat) : Int)) := by omega
theorem mp_o2899 {a0 : Int} {a1 : Int} {a2 : Int} {a3 : Int} (h0 : 0 ≤ a0) (h1 : a0 ≤ 600) (h2 : a0 < 600) (h3 : a1 = (600 + a0)) (h4 : a2 = (0 + a0)) (h5 : a3 = (a0 + 1)) : a2 = (((0 : Nat) : Int) + (((Int.toNat a0) : Nat) : Int)) := by omega
theorem mp_o2900 : (((0 + 600) ≤ 600 ∨ (600 + 600) ≤ 0)) := by omega
theorem mp_o2901 {a0 : Int} {a1 : Int} {a2 : Int} {a3 : Int} (h0 : 0 ≤ a0) (h1 : a0 ≤ 600) (h2 : a0 < 600) (h3 : a1 = (600 + a0)) (h4 : a2 = (0 + a0)) (h5 : a3 = (a0 + 1)) : (Int.toNat a0) < 600 := by omega
theorem mp_o2902 {a0 : Int} {a1 : Int} {a2 : Int} {a3 : Int} (h0 : 0 ≤ a0) (h1 : a0 ≤ 600) (h2 : a0 < 600) (h3 : a1 = (600 + a0)) (h4 : a2 = (0 + a0)) (h5 : a3 = (a0 + 1)) : (Int.toNat a3) = ((Int.toNat a0) + 1) := by omega
theorem mp_o2903 {a0 : Int} {a1 : Nat} {a2 : Int} {a3 : Int} {a4 : Int} (h0 : 0 ≤ a0) (h1 : a0 ≤ 600) (h2 : ((-a0) + 600) ≤ ((a1 : Nat) : Int)) (h3 : a0 < 600) (h4 : a2 = (600 + a0)) (h5 : a3 = (0 + a0)) (h6 : a4 = (a0 + 1)) : ((-a4) + 600) ≤ ((((a1 - 1)) : Nat) : Int) := by omega
theorem mp_o2904 {a0 : Int} (h0 : 0 ≤ a0) (h1 : a0 ≤ 1) (h2 : a0 < 1) : (-2147483648) ≤ (2 + a0) := by omega
theorem mp_o2905 {a0 : Int} (h0 : 0 ≤ a0) (h1 : a0 ≤ 1) (h2 : a0 < 1) : (2 + a0) ≤ 2147483647 := by omega
theorem mp_o2906 {a0 : Int} {a1 : Int} (h0 : 0 ≤ a0) (h1 : a0 ≤ 1) (h2 : a0 < 1) (h3 : a1 = (2 + a0)) : ((0 ≤ a1 ∧ a1 < ((5 : Nat) : Int))) := by omega
theorem mp_o2907 {a0 : Int} {a1 : Int} (h0 : 0 ≤ a0) (h1 : a0 ≤ 1) (h2 : a0 < 1) (h3 : a1 = (2 + a0)) : a1 = (((2 : Nat) : Int) + (((Int.toNat a0) : Nat) : Int)) := by omega
theorem mp_o2908 : (((0 + 1) ≤ 2 ∨ (2 + 1) ≤ 0)) := by omega
theorem mp_o2909 {a0 : Int} (h0 : 0 ≤ a0) (h1 : a0 ≤ 5) (h2 : a0 < 5) : (-2147483648) ≤ (10 + a0) := by omega
theorem mp_o2910 {a0 : Int} (h0 : 0 ≤ a0) (h1 : a0 ≤ 5) (h2 : a0 < 5) : (10 + a0) ≤ 2147483647 := by omega
theorem mp_o2911 {a0 : Int} {a1 : Int} (h0 : 0 ≤ a0) (h1 : a0 ≤ 5) (h2 : a0 < 5) (h3 : a1 = (10 + a0)) : (-2147483648) ≤ (0 + a0) := by omega
theorem mp_o2912 {a0 : Int} {a1 : Int} (h0 : 0 ≤ a0) (h1 : a0 ≤ 5) (h2 : a0 < 5) (h3 : a1 = (10 + a0)) : (0 + a0) ≤ 2147483647 := by omega
theorem mp_o2913 {a0 : Int} {a1 : Int} {a2 : Int} (h0 : 0 ≤ a0) (h1 : a0 ≤ 5) (h2 : a0 < 5) (h3 : a1 = (10 + a0)) (h4 : a2 = (0 + a0)) : ((0 ≤ a2 ∧ a2 < ((25 : Nat) : Int))) := by omega
theorem mp_o2914 {a0 : Int} {a1 : Int} {a2 : Int} (h0 : 0 ≤ a0) (h1 : a0 ≤ 5) (h2 : a0 < 5) (h3 : a1 = (10 + a0)) (h4 : a2 = (0 + a0)) : 0 ≤ a2 := by omega
theorem mp_o2915 {a0 : Int} {a1 : Int} {a2 : Int} (h0 : 0 ≤ a0) (h1 : a0 ≤ 5) (h2 : a0 < 5) (h3 : a1 = (10 + a0)) (h4 : a2 = (0 + a0)) : a2 < ((25 : Nat) : Int) := by omega
theorem mp_o2916 {a0 : Int} {a1 : Int} {a2 : Int} (h0 : 0 ≤ a0) (h1 : a0 ≤ 5) (h2 : a0 < 5) (h3 : a1 = (10 + a0)) (h4 : a2 = (0 + a0)) : ((0 ≤ a1 ∧ a1 < ((25 : Nat) : Int))) := by omega
theorem mp_o2917 {a0 : Int} {a1 : Int} {a2 : Int} (h0 : 0 ≤ a0) (h1 : a0 ≤ 5) (h2 : a0 < 5) (h3 : a1 = (10 + a0)) (h4 : a2 = (0 + a0)) : 0 ≤ a1 := by omega
theorem mp_o2918 {a0 : Int} {a1 : Int} {a2 : Int} {a3 : Int} (h0 : 0 ≤ a0) (h1 : a0 ≤ 5) (h2 : a0 < 5) (h3 : a1 = (10 + a0)) (h4 : a2 = (0 + a0)) (h5 : (((a2 % 5) = 0 → (0 ≤ a3 ∧ a3 ≤ 6)))) (h6 : (((a2 % 5) = 1 → (0 ≤ a3 ∧ a3 ≤ 99)))) (h7 : (((a2 % 5) = 2 → (0 ≤ a3 ∧ a3 ≤ 6)))) (h8 : (((a2 % 5) = 3 → (0 ≤ a3 ∧ a3 ≤ 10)))) (h9 : (((a2 % 5) = 4 → (0 ≤ a3 ∧ a3 ≤ 60)))) : ((a1 % ((5 : Nat) : Int)) = ((0 : Nat) : Int)) → ((0 ≤ a3 ∧ a3 ≤ 6)) := by omega
theorem mp_o2919 {a0 : Int} {a1 : Int} {a2 : Int} {a3 : Int} (h0 : 0 ≤ a0) (h1 : a0 ≤ 5) (h2 : a0 < 5) (h3 : a1 = (10 + a0)) (h4 : a2 = (0 + a0)) (h5 : (((a2 % 5) = 1 → (0 ≤ a3 ∧ a3 ≤ 99)))) (h6 : (((a2 % 5) = 2 → (0 ≤ a3 ∧ a3 ≤ 6)))) (h7 : (((a2 % 5) = 3 → (0 ≤ a3 ∧ a3 ≤ 10)))) (h8 : (((a2 % 5) = 4 → (0 ≤ a3 ∧ a3 ≤ 60)))) : ((a1 % ((5 : Nat) : Int)) = ((1 : Nat) : Int)) → ((0 ≤ a3 ∧ a3 ≤ 99)) := by omega
theorem mp_o2920 {a0 : Int} {a1 : Int} {a2 : Int} {a3 : Int} (h0 : 0 ≤ a0) (h1 : a0 ≤ 5) (h2 : a0 < 5) (h3 : a1 = (10 + a0)) (h4 : a2 = (0 + a0)) (h5 : (((a2 % 5) = 2 → (0 ≤ a3 ∧ a3 ≤ 6)))) (h6 : (((a2 % 5) = 3 → (0 ≤ a3 ∧ a3 ≤ 10)))) (h7 : (((a2 % 5) = 4 → (0 ≤ a3 ∧ a3 ≤ 60)))) : ((a1 % ((5 : Nat) : Int)) = ((2 : Nat) : Int)) → ((0 ≤ a3 ∧ a3 ≤ 6)) := by omega
theorem mp_o2921 {a0 : Int} {a1 : Int} {a2 : Int} {a3 : Int} (h0 : 0 ≤ a0) (h1 : a0 ≤ 5) (h2 : a0 < 5) (h3 : a1 = (10 + a0)) (h4 : a2 = (0 + a0)) (h5 : (((a2 % 5) = 3 → (0 ≤ a3 ∧ a3 ≤ 10)))) (h6 : (((a2 % 5) = 4 → (0 ≤ a3 ∧ a3 ≤ 60)))) : ((a1 % ((5 : Nat) : Int)) = ((3 : Nat) : Int)) → ((0 ≤ a3 ∧ a3 ≤ 10)) := by omega
theorem mp_o2922 {a0 : Int} {a1 : Int} {a2 : Int} {a3 : Int} (h0 : 0 ≤ a0) (h1 : a0 ≤ 5) (h2 : a0 < 5) (h3 : a1 = (10 + a0)) (h4 : a2 = (0 + a0)) (h5 : (((a2 % 5) = 4 → (0 ≤ a3 ∧ a3 ≤ 60)))) : ((a1 % ((5 : Nat) : Int)) = ((4 : Nat) : Int)) → ((0 ≤ a3 ∧ a3 ≤ 60)) := by omega
theorem mp_o2923 {a0 : Int} {a1 : Int} {a2 : Int} (h0 : 0 ≤ a0) (h1 : a0 ≤ 5) (h2 : a0 < 5) (h3 : a1 = (10 + a0)) (h4 : a2 = (0 + a0)) : (-2147483648) ≤ (a0 + 1) := by omega
theorem mp_o2924 {a0 : Int} {a1 : Int} {a2 : Int} (h0 : 0 ≤ a0) (h1 : a0 ≤ 5) (h2 : a0 < 5) (h3 : a1 = (10 + a0)) (h4 : a2 = (0 + a0)) : (a0 + 1) ≤ 2147483647 := by omega
theorem mp_o2925 {a0 : Int} {a1 : Nat} {a2 : Int} {a3 : Int} {a4 : Int} (h0 : 0 ≤ a0) (h1 : a0 ≤ 5) (h2 : ((-a0) + 5) ≤ ((a1 : Nat) : Int)) (h3 : a0 < 5) (h4 : a2 = (10 + a0)) (h5 : a3 = (0 + a0)) (h6 : a4 = (a0 + 1)) : (a1 - 1) < a1 := by omega
theorem mp_o2926 {a0 : Int} {a1 : Int} {a2 : Int} {a3 : Int} (h0 : 0 ≤ a0) (h1 : a0 ≤ 5) (h2 : a0 < 5) (h3 : a1 = (10 + a0)) (h4 : a2 = (0 + a0)) (h5 : a3 = (a0 + 1)) : 0 ≤ a3 := by omega
theorem mp_o2927 {a0 : Int} {a1 : Int} {a2 : Int} {a3 : Int} (h0 : 0 ≤ a0) (h1 : a0 ≤ 5) (h2 : a0 < 5) (h3 : a1 = (10 + a0)) (h4 : a2 = (0 + a0)) (h5 : a3 = (a0 + 1)) : a3 ≤ 5 := by omega
theorem mp_o2928 {a0 : Int} {a1 : Int} {a2 : Int} {a3 : Int} (h0 : 0 ≤ a0) (h1 : a0 ≤ 5) (h2 : a0 < 5) (h3 : a1 = (10 + a0)) (h4 : a2 = (0 + a0)) (h5 : a3 = (a0 + 1)) : a1 = (((10 : Nat) : Int) + (((Int.toNat a0) : Nat) : Int)) := by omega
theorem mp_o2929 {a0 : Int} {a1 : Int} {a2 : Int} {a3 : Int} (h0 : 0 ≤ a0) (h1 : a0 ≤ 5) (h2 : a0 < 5) (h3 : a1 = (10 + a0)) (h4 : a2 = (0 + a0)) (h5 : a3 = (a0 + 1)) : a2 = (((0 : Nat) : Int) + (((Int.toNat a0) : Nat) : Int)) := by omega
theorem mp_o2930 : (((0 + 5) ≤ 10 ∨ (10 + 5) ≤ 0)) := by omega
theorem mp_o2931 {a0 : Int} {a1 : Int} {a2 : Int} {a3 : Int} (h0 : 0 ≤ a0) (h1 : a0 ≤ 5) (h2 : a0 < 5) (h3 : a1 = (10 + a0)) (h4 : a2 = (0 + a0)) (h5 : a3 = (a0 + 1)) : (Int.toNat a0) < 5 := by omega
theorem mp_o2932 {a0 : Int} {a1 : Int} {a2 : Int} {a3 : Int} (h0 : 0 ≤ a0) (h1 : a0 ≤ 5) (h2 : a0 < 5) (h3 : a1 = (10 + a0)) (h4 : a2 = (0 + a0)) (h5 : a3 = (a0 + 1)) : (Int.toNat a3) = ((Int.toNat a0) + 1) := by omega
theorem mp_o2933 {a0 : Int} {a1 : Nat} {a2 : Int} {a3 : Int} {a4 : Int} (h0 : 0 ≤ a0) (h1 : a0 ≤ 5) (h2 : ((-a0) + 5) ≤ ((a1 : Nat) : Int)) (h3 : a0 < 5) (h4 : a2 = (10 + a0)) (h5 : a3 = (0 + a0)) (h6 : a4 = (a0 + 1)) : ((-a4) + 5) ≤ ((((a1 - 1)) : Nat) : Int) := by omega
theorem mp_o2934 {a0 : Int} (h0 : 0 ≤ a0) (h1 : a0 ≤ 36) (h2 : a0 < 36) : (-2147483648) ≤ (72 + a0) := by omega
theorem mp_o2935 {a0 : Int} (h0 : 0 ≤ a0) (h1 : a0 ≤ 36) (h2 : a0 < 36) : (72 + a0) ≤ 2147483647 := by omega
theorem mp_o2936 {a0 : Int} {a1 : Int} (h0 : 0 ≤ a0) (h1 : a0 ≤ 36) (h2 : a0 < 36) (h3 : a1 = (72 + a0)) : (-2147483648) ≤ (0 + a0) := by omega
theorem mp_o2937 {a0 : Int} {a1 : Int} (h0 : 0 ≤ a0) (h1 : a0 ≤ 36) (h2 : a0 < 36) (h3 : a1 = (72 + a0)) : (0 + a0) ≤ 2147483647 := by omega
theorem mp_o2938 {a0 : Int} {a1 : Int} {a2 : Int} (h0 : 0 ≤ a0) (h1 : a0 ≤ 36) (h2 : a0 < 36) (h3 : a1 = (72 + a0)) (h4 : a2 = (0 + a0)) : ((0 ≤ a2 ∧ a2 < ((180 : Nat) : Int))) := by omega
theorem mp_o2939 {a0 : Int} {a1 : Int} {a2 : Int} (h0 : 0 ≤ a0) (h1 : a0 ≤ 36) (h2 : a0 < 36) (h3 : a1 = (72 + a0)) (h4 : a2 = (0 + a0)) : 0 ≤ a2 := by omega
theorem mp_o2940 {a0 : Int} {a1 : Int} {a2 : Int} (h0 : 0 ≤ a0) (h1 : a0 ≤ 36) (h2 : a0 < 36) (h3 : a1 = (72 + a0)) (h4 : a2 = (0 + a0)) : a2 < ((180 : Nat) : Int) := by omega
theorem mp_o2941 {a0 : Int} {a1 : Int} {a2 : Int} (h0 : 0 ≤ a0) (h1 : a0 ≤ 36) (h2 : a0 < 36) (h3 : a1 = (72 + a0)) (h4 : a2 = (0 + a0)) : ((0 ≤ a1 ∧ a1 < ((180 : Nat) : Int))) := by omega
theorem mp_o2942 {a0 : Int} {a1 : Int} {a2 : Int} (h0 : 0 ≤ a0) (h1 : a0 ≤ 36) (h2 : a0 < 36) (h3 : a1 = (72 + a0)) (h4 : a2 = (0 + a0)) : (-2147483648) ≤ (a0 + 1) := by omega
theorem mp_o2943 {a0 : Int} {a1 : Int} {a2 : Int} (h0 : 0 ≤ a0) (h1 : a0 ≤ 36) (h2 : a0 < 36) (h3 : a1 = (72 + a0)) (h4 : a2 = (0 + a0)) : (a0 + 1) ≤ 2147483647 := by omega
theorem mp_o2944 {a0 : Int} {a1 : Nat} {a2 : Int} {a3 : Int} {a4 : Int} (h0 : 0 ≤ a0) (h1 : a0 ≤ 36) (h2 : ((-a0) + 36) ≤ ((a1 : Nat) : Int)) (h3 : a0 < 36) (h4 : a2 = (72 + a0)) (h5 : a3 = (0 + a0)) (h6 : a4 = (a0 + 1)) : (a1 - 1) < a1 := by omega
theorem mp_o2945 {a0 : Int} {a1 : Int} {a2 : Int} {a3 : Int} (h0 : 0 ≤ a0) (h1 : a0 ≤ 36) (h2 : a0 < 36) (h3 : a1 = (72 + a0)) (h4 : a2 = (0 + a0)) (h5 : a3 = (a0 + 1)) : 0 ≤ a3 := by omega
theorem mp_o2946 {a0 : Int} {a1 : Int} {a2 : Int} {a3 : Int} (h0 : 0 ≤ a0) (h1 : a0 ≤ 36) (h2 : a0 < 36) (h3 : a1 = (72 + a0)) (h4 : a2 = (0 + a0)) (h5 : a3 = (a0 + 1)) : a3 ≤ 36 := by omega
theorem mp_o2947 {a0 : Int} {a1 : Int} {a2 : Int} {a3 : Int} (h0 : 0 ≤ a0) (h1 : a0 ≤ 36) (h2 : a0 < 36) (h3 : a1 = (72 + a0)) (h4 : a2 = (0 + a0)) (h5 : a3 = (a0 + 1)) : a1 = (((72 : Nat) : Int) + (((Int.toNat a0) : Nat) : Int)) := by omega
theorem mp_o2948 {a0 : Int} {a1 : Int} {a2 : Int} {a3 : Int} (h0 : 0 ≤ a0) (h1 : a0 ≤ 36) (h2 : a0 < 36) (h3 : a1 = (72 + a0)) (h4 : a2 = (0 + a0)) (h5 : a3 = (a0 + 1)) : a2 = (((0 : Nat) : Int) + (((Int.toNat a0) : Nat) : Int)) := by omega
theorem mp_o2949 : (((0 + 36) ≤ 72 ∨ (72 + 36) ≤ 0)) := by omega
theorem mp_o2950 {a0 : Int} {a1 : Int} {a2 : Int} {a3 : Int} (h0 : 0 ≤ a0) (h1 : a0 ≤ 36) (h2 : a0 < 36) (h3 : a1 = (72 + a0)) (h4 : a2 = (0 + a0)) (h5 : a3 = (a0 + 1)) : (Int.toNat a0) < 36 := by omega
theorem mp_o2951 {a0 : Int} {a1 : Int} {a2 : Int} {a3 : Int} (h0 : 0 ≤ a0) (h1 : a0 ≤ 36) (h2 : a0 < 36) (h3 : a1 = (72 + a0)) (h4 : a2 = (0 + a0)) (h5 : a3 = (a0 + 1)) : (Int.toNat a3) = ((Int.toNat a0) + 1) := by omega
theorem mp_o2952 {a0 : Int} {a1 : Nat} {a2 : Int} {a3 : Int} {a4 : Int} (h0 : 0 ≤ a0) (h1 : a0 ≤ 36) (h2 : ((-a0) + 36) ≤ ((a1 : Nat) : Int)) (h3 : a0 < 36) (h4 : a2 = (72 + a0)) (h5 : a3 = (0 + a0)) (h6 : a4 = (a0 + 1)) : ((-a4) + 36) ≤ ((((a1 - 1)) : Nat) : Int) := by omega
theorem mp_o2953 {a0 : Int} (h0 : 0 ≤ a0) (h1 : a0 ≤ 20) (h2 : a0 ≤ 18) (h3 : a0 < 18) : (-2147483648) ≤ (36 + a0) := by omega
theorem mp_o2954 {a0 : Int} (h0 : 0 ≤ a0) (h1 : a0 ≤ 20) (h2 : a0 ≤ 18) (h3 : a0 < 18) : (36 + a0) ≤ 2147483647 := by omega
theorem mp_o2955 {a0 : Int} {a1 : Int} (h0 : 0 ≤ a0) (h1 : a0 ≤ 20) (h2 : a0 ≤ 18) (h3 : a0 < 18) (h4 : a1 = (36 + a0)) : (-2147483648) ≤ (0 + a0) := by omega
theorem mp_o2956 {a0 : Int} {a1 : Int} (h0 : 0 ≤ a0) (h1 : a0 ≤ 20) (h2 : a0 ≤ 18) (h3 : a0 < 18) (h4 : a1 = (36 + a0)) : (0 + a0) ≤ 2147483647 := by omega
theorem mp_o2957 {a0 : Int} {a1 : Int} {a2 : Int} (h0 : 0 ≤ a0) (h1 : a0 ≤ 20) (h2 : a0 ≤ 18) (h3 : a0 < 18) (h4 : a1 = (36 + a0)) (h5 : a2 = (0 + a0)) : ((0 ≤ a2 ∧ a2 < ((90 : Nat) : Int))) := by omega
theorem mp_o2958 {a0 : Int} {a1 : Int} {a2 : Int} (h0 : 0 ≤ a0) (h1 : a0 ≤ 20) (h2 : a0 ≤ 18) (h3 : a0 < 18) (h4 : a1 = (36 + a0)) (h5 : a2 = (0 + a0)) : 0 ≤ a2 := by omega
theorem mp_o2959 {a0 : Int} {a1 : Int} {a2 : Int} (h0 : 0 ≤ a0) (h1 : a0 ≤ 20) (h2 : a0 ≤ 18) (h3 : a0 < 18) (h4 : a1 = (36 + a0)) (h5 : a2 = (0 + a0)) : a2 < ((90 : Nat) : Int) := by omega
theorem mp_o2960 {a0 : Int} {a1 : Int} {a2 : Int} (h0 : 0 ≤ a0) (h1 : a0 ≤ 20) (h2 : a0 ≤ 18) (h3 : a0 < 18) (h4 : a1 = (36 + a0)) (h5 : a2 = (0 + a0)) : ((0 ≤ a1 ∧ a1 < ((90 : Nat) : Int))) := by omega
theorem mp_o2961 {a0 : Int} {a1 : Int} {a2 : Int} (h0 : 0 ≤ a0) (h1 : a0 ≤ 20) (h2 : a0 ≤ 18) (h3 : a0 < 18) (h4 : a1 = (36 + a0)) (h5 : a2 = (0 + a0)) : 0 ≤ a1 := by omega
theorem mp_o2962 {a0 : Int} {a1 : Int} {a2 : Int} {a3 : Int} (h0 : a0 = (36 + a1)) (h1 : a2 = (0 + a1)) (h2 : (((a2 % 3) = 0 → (0 ≤ a3 ∧ a3 ≤ 5)))) (h3 : (((a2 % 3) = 1 → ((-1) ≤ a3 ∧ a3 ≤ 99)))) : ((a0 % ((3 : Nat) : Int)) = ((0 : Nat) : Int)) → ((0 ≤ a3 ∧ a3 ≤ 5)) := by omega
theorem mp_o2963 {a0 : Int} {a1 : Int} {a2 : Int} {a3 : Int} (h0 : a0 = (36 + a1)) (h1 : a2 = (0 + a1)) (h2 : (((a2 % 3) = 1 → ((-1) ≤ a3 ∧ a3 ≤ 99)))) : ((a0 % ((3 : Nat) : Int)) = ((1 : Nat) : Int)) → (((-1) ≤ a3 ∧ a3 ≤ 99)) := by omega
theorem mp_o2964 {a0 : Int} {a1 : Int} {a2 : Int} (h0 : 0 ≤ a0) (h1 : a0 ≤ 20) (h2 : a0 ≤ 18) (h3 : a0 < 18) (h4 : a1 = (36 + a0)) (h5 : a2 = (0 + a0)) : (-2147483648) ≤ (a0 + 1) := by omega
theorem mp_o2965 {a0 : Int} {a1 : Int} {a2 : Int} (h0 : 0 ≤ a0) (h1 : a0 ≤ 20) (h2 : a0 ≤ 18) (h3 : a0 < 18) (h4 : a1 = (36 + a0)) (h5 : a2 = (0 + a0)) : (a0 + 1) ≤ 2147483647 := by omega
theorem mp_o2966 {a0 : Int} {a1 : Nat} {a2 : Int} {a3 : Int} {a4 : Int} (h0 : 0 ≤ a0) (h1 : a0 ≤ 20) (h2 : a0 ≤ 18) (h3 : ((-a0) + 18) ≤ ((a1 : Nat) : Int)) (h4 : a0 < 18) (h5 : a2 = (36 + a0)) (h6 : a3 = (0 + a0)) (h7 : a4 = (a0 + 1)) : (a1 - 1) < a1 := by omega
theorem mp_o2967 {a0 : Int} {a1 : Int} {a2 : Int} {a3 : Int} (h0 : 0 ≤ a0) (h1 : a0 ≤ 20) (h2 : a0 ≤ 18) (h3 : a0 < 18) (h4 : a1 = (36 + a0)) (h5 : a2 = (0 + a0)) (h6 : a3 = (a0 + 1)) : 0 ≤ a3 := by omega
theorem mp_o2968 {a0 : Int} {a1 : Int} {a2 : Int} {a3 : Int} (h0 : 0 ≤ a0) (h1 : a0 ≤ 20) (h2 : a0 ≤ 18) (h3 : a0 < 18) (h4 : a1 = (36 + a0)) (h5 : a2 = (0 + a0)) (h6 : a3 = (a0 + 1)) : a3 ≤ 20 := by omega
theorem mp_o2969 {a0 : Int} {a1 : Int} {a2 : Int} {a3 : Int} (h0 : 0 ≤ a0) (h1 : a0 ≤ 20) (h2 : a0 ≤ 18) (h3 : a0 < 18) (h4 : a1 = (36 + a0)) (h5 : a2 = (0 + a0)) (h6 : a3 = (a0 + 1)) : a1 = (((36 : Nat) : Int) + (((Int.toNat a0) : Nat) : Int)) := by omega
theorem mp_o2970 {a0 : Int} {a1 : Int} {a2 : Int} {a3 : Int} (h0 : 0 ≤ a0) (h1 : a0 ≤ 20) (h2 : a0 ≤ 18) (h3 : a0 < 18) (h4 : a1 = (36 + a0)) (h5 : a2 = (0 + a0)) (h6 : a3 = (a0 + 1)) : a2 = (((0 : Nat) : Int) + (((Int.toNat a0) : Nat) : Int)) := by omega
theorem mp_o2971 : (((0 + 18) ≤ 36 ∨ (36 + 18) ≤ 0)) := by omega
theorem mp_o2972 {a0 : Int} {a1 : Int} {a2 : Int} {a3 : Int} (h0 : 0 ≤ a0) (h1 : a0 ≤ 20) (h2 : a0 ≤ 18) (h3 : a0 < 18) (h4 : a1 = (36 + a0)) (h5 : a2 = (0 + a0)) (h6 : a3 = (a0 + 1)) : (Int.toNat a0) < 18 := by omega
theorem mp_o2973 {a0 : Int} {a1 : Int} {a2 : Int} {a3 : Int} (h0 : 0 ≤ a0) (h1 : a0 ≤ 20) (h2 : a0 ≤ 18) (h3 : a0 < 18) (h4 : a1 = (36 + a0)) (h5 : a2 = (0 + a0)) (h6 : a3 = (a0 + 1)) : (Int.toNat a3) = ((Int.toNat a0) + 1) := by omega
theorem mp_o2974 {a0 : Int} {a1 : Int} {a2 : Int} {a3 : Int} (h0 : 0 ≤ a0) (h1 : a0 ≤ 20) (h2 : a0 ≤ 18) (h3 : a0 < 18) (h4 : a1 = (36 + a0)) (h5 : a2 = (0 + a0)) (h6 : a3 = (a0 + 1)) : a3 ≤ 18 := by omega
theorem mp_o2975 {a0 : Int} {a1 : Nat} {a2 : Int} {a3 : Int} {a4 : Int} (h0 : 0 ≤ a0) (h1 : a0 ≤ 20) (h2 : a0 ≤ 18) (h3 : ((-a0) + 18) ≤ ((a1 : Nat) : Int)) (h4 : a0 < 18) (h5 : a2 = (36 + a0)) (h6 : a3 = (0 + a0)) (h7 : a4 = (a0 + 1)) : ((-a4) + 18) ≤ ((((a1 - 1)) : Nat) : Int) := by omega
theorem mp_o2976 {a0 : Int} (h0 : 0 ≤ a0) (h1 : a0 ≤ 60) (h2 : a0 < 60) : (-2147483648) ≤ (120 + a0) := by omega
theorem mp_o2977 {a0 : Int} (h0 : 0 ≤ a0) (h1 : a0 ≤ 60) (h2 : a0 < 60) : (120 + a0) ≤ 2147483647 := by omega
theorem mp_o2978 {a0 : Int} {a1 : Int} (h0 : 0 ≤ a0) (h1 : a0 ≤ 60) (h2 : a0 < 60) (h3 : a1 = (120 + a0)) : (-2147483648) ≤ (0 + a0) := by omega
theorem mp_o2979 {a0 : Int} {a1 : Int} (h0 : 0 ≤ a0) (h1 : a0 ≤ 60) (h2 : a0 < 60) (h3 : a1 = (120 + a0)) : (0 + a0) ≤ 2147483647 := by omega
theorem mp_o2980 {a0 : Int} {a1 : Int} {a2 : Int} (h0 : 0 ≤ a0) (h1 : a0 ≤ 60) (h2 : a0 < 60) (h3 : a1 = (120 + a0)) (h4 : a2 = (0 + a0)) : ((0 ≤ a2 ∧ a2 < ((300 : Nat) : Int))) := by omega
theorem mp_o2981 {a0 : Int} {a1 : Int} {a2 : Int} (h0 : 0 ≤ a0) (h1 : a0 ≤ 60) (h2 : a0 < 60) (h3 : a1 = (120 + a0)) (h4 : a2 = (0 + a0)) : 0 ≤ a2 := by omega
theorem mp_o2982 {a0 : Int} {a1 : Int} {a2 : Int} (h0 : 0 ≤ a0) (h1 : a0 ≤ 60) (h2 : a0 < 60) (h3 : a1 = (120 + a0)) (h4 : a2 = (0 + a0)) : a2 < ((300 : Nat) : Int) := by omega
theorem mp_o2983 {a0 : Int} {a1 : Int} {a2 : Int} (h0 : 0 ≤ a0) (h1 : a0 ≤ 60) (h2 : a0 < 60) (h3 : a1 = (120 + a0)) (h4 : a2 = (0 + a0)) : ((0 ≤ a1 ∧ a1 < ((300 : Nat) : Int))) := by omega
theorem mp_o2984 {a0 : Int} {a1 : Int} {a2 : Int} (h0 : 0 ≤ a0) (h1 : a0 ≤ 60) (h2 : a0 < 60) (h3 : a1 = (120 + a0)) (h4 : a2 = (0 + a0)) : 0 ≤ a1 := by omega
theorem mp_o2985 {a0 : Int} {a1 : Int} {a2 : Int} {a3 : Int} (h0 : a0 = (120 + a1)) (h1 : a2 = (0 + a1)) (h2 : (((a2 % 6) = 0 → (0 ≤ a3 ∧ a3 ≤ 5)))) (h3 : (((a2 % 6) = 1 → (0 ≤ a3 ∧ a3 ≤ 5)))) (h4 : (((a2 % 6) = 3 → (0 ≤ a3 ∧ a3 ≤ 99)))) (h5 : (((a2 % 6) = 4 → (0 ≤ a3 ∧ a3 ≤ 1)))) : ((a0 % ((6 : Nat) : Int)) = ((0 : Nat) : Int)) → ((0 ≤ a3 ∧ a3 ≤ 5)) := by omega
theorem mp_o2986 {a0 : Int} {a1 : Int} {a2 : Int} {a3 : Int} (h0 : a0 = (120 + a1)) (h1 : a2 = (0 + a1)) (h2 : (((a2 % 6) = 1 → (0 ≤ a3 ∧ a3 ≤ 5)))) (h3 : (((a2 % 6) = 3 → (0 ≤ a3 ∧ a3 ≤ 99)))) (h4 : (((a2 % 6) = 4 → (0 ≤ a3 ∧ a3 ≤ 1)))) : ((a0 % ((6 : Nat) : Int)) = ((1 : Nat) : Int)) → ((0 ≤ a3 ∧ a3 ≤ 5)) := by omega
theorem mp_o2987 {a0 : Int} {a1 : Int} {a2 : Int} {a3 : Int} (h0 : a0 = (120 + a1)) (h1 : a2 = (0 + a1)) (h2 : (((a2 % 6) = 3 → (0 ≤ a3 ∧ a3 ≤ 99)))) (h3 : (((a2 % 6) = 4 → (0 ≤ a3 ∧ a3 ≤ 1)))) : ((a0 % ((6 : Nat) : Int)) = ((3 : Nat) : Int)) → ((0 ≤ a3 ∧ a3 ≤ 99)) := by omega
theorem mp_o2988 {a0 : Int} {a1 : Int} {a2 : Int} {a3 : Int} (h0 : a0 = (120 + a1)) (h1 : a2 = (0 + a1)) (h2 : (((a2 % 6) = 4 → (0 ≤ a3 ∧ a3 ≤ 1)))) : ((a0 % ((6 : Nat) : Int)) = ((4 : Nat) : Int)) → ((0 ≤ a3 ∧ a3 ≤ 1)) := by omega
theorem mp_o2989 {a0 : Int} {a1 : Int} {a2 : Int} (h0 : 0 ≤ a0) (h1 : a0 ≤ 60) (h2 : a0 < 60) (h3 : a1 = (120 + a0)) (h4 : a2 = (0 + a0)) : (-2147483648) ≤ (a0 + 1) := by omega
theorem mp_o2990 {a0 : Int} {a1 : Int} {a2 : Int} (h0 : 0 ≤ a0) (h1 : a0 ≤ 60) (h2 : a0 < 60) (h3 : a1 = (120 + a0)) (h4 : a2 = (0 + a0)) : (a0 + 1) ≤ 2147483647 := by omega
theorem mp_o2991 {a0 : Int} {a1 : Nat} {a2 : Int} {a3 : Int} {a4 : Int} (h0 : 0 ≤ a0) (h1 : a0 ≤ 60) (h2 : ((-a0) + 60) ≤ ((a1 : Nat) : Int)) (h3 : a0 < 60) (h4 : a2 = (120 + a0)) (h5 : a3 = (0 + a0)) (h6 : a4 = (a0 + 1)) : (a1 - 1) < a1 := by omega
theorem mp_o2992 {a0 : Int} {a1 : Int} {a2 : Int} {a3 : Int} (h0 : 0 ≤ a0) (h1 : a0 ≤ 60) (h2 : a0 < 60) (h3 : a1 = (120 + a0)) (h4 : a2 = (0 + a0)) (h5 : a3 = (a0 + 1)) : 0 ≤ a3 := by omega
theorem mp_o2993 {a0 : Int} {a1 : Int} {a2 : Int} {a3 : Int} (h0 : 0 ≤ a0) (h1 : a0 ≤ 60) (h2 : a0 < 60) (h3 : a1 = (120 + a0)) (h4 : a2 = (0 + a0)) (h5 : a3 = (a0 + 1)) : a3 ≤ 60 := by omega
theorem mp_o2994 {a0 : Int} {a1 : Int} {a2 : Int} {a3 : Int} (h0 : 0 ≤ a0) (h1 : a0 ≤ 60) (h2 : a0 < 60) (h3 : a1 = (120 + a0)) (h4 : a2 = (0 + a0)) (h5 : a3 = (a0 + 1)) : a1 = (((120 : Nat) : Int) + (((Int.toNat a0) : Nat) : Int)) := by omega
theorem mp_o2995 {a0 : Int} {a1 : Int} {a2 : Int} {a3 : Int} (h0 : 0 ≤ a0) (h1 : a0 ≤ 60) (h2 : a0 < 60) (h3 : a1 = (120 + a0)) (h4 : a2 = (0 + a0)) (h5 : a3 = (a0 + 1)) : a2 = (((0 : Nat) : Int) + (((Int.toNat a0) : Nat) : Int)) := by omega
theorem mp_o2996 : (((0 + 60) ≤ 120 ∨ (120 + 60) ≤ 0)) := by omega
theorem mp_o2997 {a0 : Int} {a1 : Int} {a2 : Int} {a3 : Int} (h0 : 0 ≤ a0) (h1 : a0 ≤ 60) (h2 : a0 < 60) (h3 : a1 = (120 + a0)) (h4 : a2 = (0 + a0)) (h5 : a3 = (a0 + 1)) : (Int.toNat a0) < 60 := by omega
theorem mp_o2998 {a0 : Int} {a1 : Int} {a2 : Int} {a3 : Int} (h0 : 0 ≤ a0) (h1 : a0 ≤ 60) (h2 : a0 < 60) (h3 : a1 = (120 + a0)) (h4 : a2 = (0 + a0)) (h5 : a3 = (a0 + 1)) : (Int.toNat a3) = ((Int.toNat a0) + 1) := by omega
theorem mp_o2999 {a0 : Int} {a1 : Nat} {a2 : Int} {a3 : Int} {a4 : Int} (h0 : 0 ≤ a0) (h1 : a0 ≤ 60) (h2 : ((-a0) + 60) ≤ ((a1 : Nat) : Int)) (h3 : a0 < 60) (h4 : a2 = (120 + a0)) (h5 : a3 = (0 + a0)) (h6 : a4 = (a0 + 1)) : ((-a4) + 60) ≤ ((((a1 - 1)) : Nat) : Int) := by omega
theorem mp_o3000 {a0 : Int} {a1 : Int} {a2 : Int} (h0 : 0 ≤ a0) (h1 : a0 ≤ 60) (h2 : a0 < 60) (h3 : a1 = (120 + a0)) (h4 : a2 = (0 + a0)) : a2 < 300 := by omega
theorem mp_o3001 {a0 : Int} (h0 : 0 ≤ a0) (h1 : a0 ≤ 600) (h2 : a0 < 600) : (-2147483648) ≤ (1200 + a0) := by omega
theorem mp_o3002 {a0 : Int} (h0 : 0 ≤ a0) (h1 : a0 ≤ 600) (h2 : a0 < 600) : (1200 + a0) ≤ 2147483647 := by omega
theorem mp_o3003 {a0 : Int} {a1 : Int} (h0 : 0 ≤ a0) (h1 : a0 ≤ 600) (h2 : a0 < 600) (h3 : a1 = (1200 + a0)) : (-2147483648) ≤ (0 + a0) := by omega
theorem mp_o3004 {a0 : Int} {a1 : Int} (h0 : 0 ≤ a0) (h1 : a0 ≤ 600) (h2 : a0 < 600) (h3 : a1 = (1200 + a0)) : (0 + a0) ≤ 2147483647 := by omega
theorem mp_o3005 {a0 : Int} {a1 : Int} {a2 : Int} (h0 : 0 ≤ a0) (h1 : a0 ≤ 600) (h2 : a0 < 600) (h3 : a1 = (1200 + a0)) (h4 : a2 = (0 + a0)) : ((0 ≤ a2 ∧ a2 < ((3000 : Nat) : Int))) := by omega
theorem mp_o3006 {a0 : Int} {a1 : Int} {a2 : Int} (h0 : 0 ≤ a0) (h1 : a0 ≤ 600) (h2 : a0 < 600) (h3 : a1 = (1200 + a0)) (h4 : a2 = (0 + a0)) : 0 ≤ a2 := by omega
theorem mp_o3007 {a0 : Int} {a1 : Int} {a2 : Int} (h0 : 0 ≤ a0) (h1 : a0 ≤ 600) (h2 : a0 < 600) (h3 : a1 = (1200 + a0)) (h4 : a2 = (0 + a0)) : a2 < ((3000 : Nat) : Int) := by omega
theorem mp_o3008 {a0 : Int} {a1 : Int} {a2 : Int} (h0 : 0 ≤ a0) (h1 : a0 ≤ 600) (h2 : a0 < 600) (h3 : a1 = (1200 + a0)) (h4 : a2 = (0 + a0)) : ((0 ≤ a1 ∧ a1 < ((3000 : Nat) : Int))) := by omega
theorem mp_o3009 {a0 : Int} {a1 : Int} {a2 : Int} (h0 : 0 ≤ a0) (h1 : a0 ≤ 600) (h2 : a0 < 600) (h3 : a1 = (1200 + a0)) (h4 : a2 = (0 + a0)) : (-2147483648) ≤ (a0 + 1) := by omega
theorem mp_o3010 {a0 : Int} {a1 : Int} {a2 : Int} (h0 : 0 ≤ a0) (h1 : a0 ≤ 600) (h2 : a0 < 600) (h3 : a1 = (1200 + a0)) (h4 : a2 = (0 + a0)) : (a0 + 1) ≤ 2147483647 := by omega
theorem mp_o3011 {a0 : Int} {a1 : Nat} {a2 : Int} {a3 : Int} {a4 : Int} (h0 : 0 ≤ a0) (h1 : a0 ≤ 600) (h2 : ((-a0) + 600) ≤ ((a1 : Nat) : Int)) (h3 : a0 < 600) (h4 : a2 = (1200 + a0)) (h5 : a3 = (0 + a0)) (h6 : a4 = (a0 + 1)) : (a1 - 1) < a1 := by omega
theorem mp_o3012 {a0 : Int} {a1 : Int} {a2 : Int} {a3 : Int} (h0 : 0 ≤ a0) (h1 : a0 ≤ 600) (h2 : a0 < 600) (h3 : a1 = (1200 + a0)) (h4 : a2 = (0 + a0)) (h5 : a3 = (a0 + 1)) : 0 ≤ a3 := by omega
theorem mp_o3013 {a0 : Int} {a1 : Int} {a2 : Int} {a3 : Int} (h0 : 0 ≤ a0) (h1 : a0 ≤ 600) (h2 : a0 < 600) (h3 : a1 = (1200 + a0)) (h4 : a2 = (0 + a0)) (h5 : a3 = (a0 + 1)) : a3 ≤ 600 := by omega
theorem mp_o3014 {a0 : Int} {a1 : Int} {a2 : Int} {a3 : Int} (h0 : 0 ≤ a0) (h1 : a0 ≤ 600) (h2 : a0 < 600) (h3 : a1 = (1200 + a0)) (h4 : a2 = (0 + a0)) (h5 : a3 = (a0 + 1)) : a1 = (((1200 : Nat) : Int) + (((Int.toNat a0) : Nat) : Int)) := by omega
theorem mp_o3015 {a0 : Int} {a1 : Int} {a2 : Int} {a3 : Int} (h0 : 0 ≤ a0) (h1 : a0 ≤ 600) (h2 : a0 < 600) (h3 : a1 = (1200 + a0)) (h4 : a2 = (0 + a0)) (h5 : a3 = (a0 + 1)) : a2 = (((0 : Nat) : Int) + (((Int.toNat a0) : Nat) : Int)) := by omega
theorem mp_o3016 : (((0 + 600) ≤ 1200 ∨ (1200 + 600) ≤ 0)) := by omega
theorem mp_o3017 {a0 : Int} {a1 : Int} {a2 : Int} {a3 : Int} (h0 : 0 ≤ a0) (h1 : a0 ≤ 600) (h2 : a0 < 600) (h3 : a1 = (1200 + a0)) (h4 : a2 = (0 + a0)) (h5 : a3 = (a0 + 1)) : (Int.toNat a0) < 600 := by omega
theorem mp_o3018 {a0 : Int} {a1 : Int} {a2 : Int} {a3 : Int} (h0 : 0 ≤ a0) (h1 : a0 ≤ 600) (h2 : a0 < 600) (h3 : a1 = (1200 + a0)) (h4 : a2 = (0 + a0)) (h5 : a3 = (a0 + 1)) : (Int.toNat a3) = ((Int.toNat a0) + 1) := by omega
theorem mp_o3019 {a0 : Int} {a1 : Nat} {a2 : Int} {a3 : Int} {a4 : Int} (h0 : 0 ≤ a0) (h1 : a0 ≤ 600) (h2 : ((-a0) + 600) ≤ ((a1 : Nat) : Int)) (h3 : a0 < 600) (h4 : a2 = (1200 + a0)) (h5 : a3 = (0 + a0)) (h6 : a4 = (a0 + 1)) : ((-a4) + 600) ≤ ((((a1 - 1)) : Nat) : Int) := by omega
theorem mp_o3020 {a0 : Int} (h0 : 0 ≤ a0) (h1 : a0 ≤ 1) (h2 : a0 < 1) : (-2147483648) ≤ (3 + a0) := by omega
theorem mp_o3021 {a0 : Int} (h0 : 0 ≤ a0) (h1 : a0 ≤ 1) (h2 : a0 < 1) : (3 + a0) ≤ 2147483647 := by omega
theorem mp_o3022 {a0 : Int} {a1 : Int} (h0 : 0 ≤ a0) (h1 : a0 ≤ 1) (h2 : a0 < 1) (h3 : a1 = (3 + a0)) : ((0 ≤ a1 ∧ a1 < ((5 : Nat) : Int))) := by omega
theorem mp_o3023 {a0 : Int} {a1 : Int} (h0 : 0 ≤ a0) (h1 : a0 ≤ 1) (h2 : a0 < 1) (h3 : a1 = (3 + a0)) : a1 = (((3 : Nat) : Int) + (((Int.toNat a0) : Nat) : Int)) := by omega
theorem mp_o3024 : (((0 + 1) ≤ 3 ∨ (3 + 1) ≤ 0)) := by omega
theorem mp_o3025 {a0 : Int} (h0 : 0 ≤ a0) (h1 : a0 ≤ 5) (h2 : a0 < 5) : (-2147483648) ≤ (15 + a0) := by omega
theorem mp_o3026 {a0 : Int} (h0 : 0 ≤ a0) (h1 : a0 ≤ 5) (h2 : a0 < 5) : (15 + a0) ≤ 2147483647 := by omega
theorem mp_o3027 {a0 : Int} {a1 : Int} (h0 : 0 ≤ a0) (h1 : a0 ≤ 5) (h2 : a0 < 5) (h3 : a1 = (15 + a0)) : (-2147483648) ≤ (0 + a0) := by omega
theorem mp_o3028 {a0 : Int} {a1 : Int} (h0 : 0 ≤ a0) (h1 : a0 ≤ 5) (h2 : a0 < 5) (h3 : a1 = (15 + a0)) : (0 + a0) ≤ 2147483647 := by omega
theorem mp_o3029 {a0 : Int} {a1 : Int} {a2 : Int} (h0 : 0 ≤ a0) (h1 : a0 ≤ 5) (h2 : a0 < 5) (h3 : a1 = (15 + a0)) (h4 : a2 = (0 + a0)) : ((0 ≤ a2 ∧ a2 < ((25 : Nat) : Int))) := by omega
theorem mp_o3030 {a0 : Int} {a1 : Int} {a2 : Int} (h0 : 0 ≤ a0) (h1 : a0 ≤ 5) (h2 : a0 < 5) (h3 : a1 = (15 + a0)) (h4 : a2 = (0 + a0)) : 0 ≤ a2 := by omega
theorem mp_o3031 {a0 : Int} {a1 : Int} {a2 : Int} (h0 : 0 ≤ a0) (h1 : a0 ≤ 5) (h2 : a0 < 5) (h3 : a1 = (15 + a0)) (h4 : a2 = (0 + a0)) : a2 < ((25 : Nat) : Int) := by omega
theorem mp_o3032 {a0 : Int} {a1 : Int} {a2 : Int} (h0 : 0 ≤ a0) (h1 : a0 ≤ 5) (h2 : a0 < 5) (h3 : a1 = (15 + a0)) (h4 : a2 = (0 + a0)) : ((0 ≤ a1 ∧ a1 < ((25 : Nat) : Int))) := by omega
theorem mp_o3033 {a0 : Int} {a1 : Int} {a2 : Int} (h0 : 0 ≤ a0) (h1 : a0 ≤ 5) (h2 : a0 < 5) (h3 : a1 = (15 + a0)) (h4 : a2 = (0 + a0)) : 0 ≤ a1 := by omega
theorem mp_o3034 {a0 : Int} {a1 : Int} {a2 : Int} {a3 : Int} (h0 : 0 ≤ a0) (h1 : a0 ≤ 5) (h2 : a0 < 5) (h3 : a1 = (15 + a0)) (h4 : a2 = (0 + a0)) (h5 : (((a2 % 5) = 0 → (0 ≤ a3 ∧ a3 ≤ 6)))) (h6 : (((a2 % 5) = 1 → (0 ≤ a3 ∧ a3 ≤ 99)))) (h7 : (((a2 % 5) = 2 → (0 ≤ a3 ∧ a3 ≤ 6)))) (h8 : (((a2 % 5) = 3 → (0 ≤ a3 ∧ a3 ≤ 10)))) (h9 : (((a2 % 5) = 4 → (0 ≤ a3 ∧ a3 ≤ 60)))) : ((a1 % ((5 : Nat) : Int)) = ((0 : Nat) : Int)) → ((0 ≤ a3 ∧ a3 ≤ 6)) := by omega
theorem mp_o3035 {a0 : Int} {a1 : Int} {a2 : Int} {a3 : Int} (h0 : 0 ≤ a0) (h1 : a0 ≤ 5) (h2 : a0 < 5) (h3 : a1 = (15 + a0)) (h4 : a2 = (0 + a0)) (h5 : (((a2 % 5) = 1 → (0 ≤ a3 ∧ a3 ≤ 99)))) (h6 : (((a2 % 5) = 2 → (0 ≤ a3 ∧ a3 ≤ 6)))) (h7 : (((a2 % 5) = 3 → (0 ≤ a3 ∧ a3 ≤ 10)))) (h8 : (((a2 % 5) = 4 → (0 ≤ a3 ∧ a3 ≤ 60)))) : ((a1 % ((5 : Nat) : Int)) = ((1 : Nat) : Int)) → ((0 ≤ a3 ∧ a3 ≤ 99)) := by omega
theorem mp_o3036 {a0 : Int} {a1 : Int} {a2 : Int} {a3 : Int} (h0 : 0 ≤ a0) (h1 : a0 ≤ 5) (h2 : a0 < 5) (h3 : a1 = (15 + a0)) (h4 : a2 = (0 + a0)) (h5 : (((a2 % 5) = 2 → (0 ≤ a3 ∧ a3 ≤ 6)))) (h6 : (((a2 % 5) = 3 → (0 ≤ a3 ∧ a3 ≤ 10)))) (h7 : (((a2 % 5) = 4 → (0 ≤ a3 ∧ a3 ≤ 60)))) : ((a1 % ((5 : Nat) : Int)) = ((2 : Nat) : Int)) → ((0 ≤ a3 ∧ a3 ≤ 6)) := by omega
theorem mp_o3037 {a0 : Int} {a1 : Int} {a2 : Int} {a3 : Int} (h0 : 0 ≤ a0) (h1 : a0 ≤ 5) (h2 : a0 < 5) (h3 : a1 = (15 + a0)) (h4 : a2 = (0 + a0)) (h5 : (((a2 % 5) = 3 → (0 ≤ a3 ∧ a3 ≤ 10)))) (h6 : (((a2 % 5) = 4 → (0 ≤ a3 ∧ a3 ≤ 60)))) : ((a1 % ((5 : Nat) : Int)) = ((3 : Nat) : Int)) → ((0 ≤ a3 ∧ a3 ≤ 10)) := by omega
theorem mp_o3038 {a0 : Int} {a1 : Int} {a2 : Int} {a3 : Int} (h0 : 0 ≤ a0) (h1 : a0 ≤ 5) (h2 : a0 < 5) (h3 : a1 = (15 + a0)) (h4 : a2 = (0 + a0)) (h5 : (((a2 % 5) = 4 → (0 ≤ a3 ∧ a3 ≤ 60)))) : ((a1 % ((5 : Nat) : Int)) = ((4 : Nat) : Int)) → ((0 ≤ a3 ∧ a3 ≤ 60)) := by omega
theorem mp_o3039 {a0 : Int} {a1 : Int} {a2 : Int} (h0 : 0 ≤ a0) (h1 : a0 ≤ 5) (h2 : a0 < 5) (h3 : a1 = (15 + a0)) (h4 : a2 = (0 + a0)) : (-2147483648) ≤ (a0 + 1) := by omega
theorem mp_o3040 {a0 : Int} {a1 : Int} {a2 : Int} (h0 : 0 ≤ a0) (h1 : a0 ≤ 5) (h2 : a0 < 5) (h3 : a1 = (15 + a0)) (h4 : a2 = (0 + a0)) : (a0 + 1) ≤ 2147483647 := by omega
theorem mp_o3041 {a0 : Int} {a1 : Nat} {a2 : Int} {a3 : Int} {a4 : Int} (h0 : 0 ≤ a0) (h1 : a0 ≤ 5) (h2 : ((-a0) + 5) ≤ ((a1 : Nat) : Int)) (h3 : a0 < 5) (h4 : a2 = (15 + a0)) (h5 : a3 = (0 + a0)) (h6 : a4 = (a0 + 1)) : (a1 - 1) < a1 := by omega
theorem mp_o3042 {a0 : Int} {a1 : Int} {a2 : Int} {a3 : Int} (h0 : 0 ≤ a0) (h1 : a0 ≤ 5) (h2 : a0 < 5) (h3 : a1 = (15 + a0)) (h4 : a2 = (0 + a0)) (h5 : a3 = (a0 + 1)) : 0 ≤ a3 := by omega
theorem mp_o3043 {a0 : Int} {a1 : Int} {a2 : Int} {a3 : Int} (h0 : 0 ≤ a0) (h1 : a0 ≤ 5) (h2 : a0 < 5) (h3 : a1 = (15 + a0)) (h4 : a2 = (0 + a0)) (h5 : a3 = (a0 + 1)) : a3 ≤ 5 := by omega
theorem mp_o3044 {a0 : Int} {a1 : Int} {a2 : Int} {a3 : Int} (h0 : 0 ≤ a0) (h1 : a0 ≤ 5) (h2 : a0 < 5) (h3 : a1 = (15 + a0)) (h4 : a2 = (0 + a0)) (h5 : a3 = (a0 + 1)) : a1 = (((15 : Nat) : Int) + (((Int.toNat a0) : Nat) : Int)) := by omega
theorem mp_o3045 {a0 : Int} {a1 : Int} {a2 : Int} {a3 : Int} (h0 : 0 ≤ a0) (h1 : a0 ≤ 5) (h2 : a0 < 5) (h3 : a1 = (15 + a0)) (h4 : a2 = (0 + a0)) (h5 : a3 = (a0 + 1)) : a2 = (((0 : Nat) : Int) + (((Int.toNat a0) : Nat) : Int)) := by omega
theorem mp_o3046 : (((0 + 5) ≤ 15 ∨ (15 + 5) ≤ 0)) := by omega
theorem mp_o3047 {a0 : Int} {a1 : Int} {a2 : Int} {a3 : Int} (h0 : 0 ≤ a0) (h1 : a0 ≤ 5) (h2 : a0 < 5) (h3 : a1 = (15 + a0)) (h4 : a2 = (0 + a0)) (h5 : a3 = (a0 + 1)) : (Int.toNat a0) < 5 := by omega
theorem mp_o3048 {a0 : Int} {a1 : Int} {a2 : Int} {a3 : Int} (h0 : 0 ≤ a0) (h1 : a0 ≤ 5) (h2 : a0 < 5) (h3 : a1 = (15 + a0)) (h4 : a2 = (0 + a0)) (h5 : a3 = (a0 + 1)) : (Int.toNat a3) = ((Int.toNat a0) + 1) := by omega
theorem mp_o3049 {a0 : Int} {a1 : Nat} {a2 : Int} {a3 : Int} {a4 : Int} (h0 : 0 ≤ a0) (h1 : a0 ≤ 5) (h2 : ((-a0) + 5) ≤ ((a1 : Nat) : Int)) (h3 : a0 < 5) (h4 : a2 = (15 + a0)) (h5 : a3 = (0 + a0)) (h6 : a4 = (a0 + 1)) : ((-a4) + 5) ≤ ((((a1 - 1)) : Nat) : Int) := by omega
theorem mp_o3050 {a0 : Int} (h0 : 0 ≤ a0) (h1 : a0 ≤ 36) (h2 : a0 < 36) : (-2147483648) ≤ (108 + a0) := by omega
theorem mp_o3051 {a0 : Int} (h0 : 0 ≤ a0) (h1 : a0 ≤ 36) (h2 : a0 < 36) : (108 + a0) ≤ 2147483647 := by omega
theorem mp_o3052 {a0 : Int} {a1 : Int} (h0 : 0 ≤ a0) (h1 : a0 ≤ 36) (h2 : a0 < 36) (h3 : a1 = (108 + a0)) : (-2147483648) ≤ (0 + a0) := by omega
theorem mp_o3053 {a0 : Int} {a1 : Int} (h0 : 0 ≤ a0) (h1 : a0 ≤ 36) (h2 : a0 < 36) (h3 : a1 = (108 + a0)) : (0 + a0) ≤ 2147483647 := by omega
theorem mp_o3054 {a0 : Int} {a1 : Int} {a2 : Int} (h0 : 0 ≤ a0) (h1 : a0 ≤ 36) (h2 : a0 < 36) (h3 : a1 = (108 + a0)) (h4 : a2 = (0 + a0)) : ((0 ≤ a2 ∧ a2 < ((180 : Nat) : Int))) := by omega
theorem mp_o3055 {a0 : Int} {a1 : Int} {a2 : Int} (h0 : 0 ≤ a0) (h1 : a0 ≤ 36) (h2 : a0 < 36) (h3 : a1 = (108 + a0)) (h4 : a2 = (0 + a0)) : 0 ≤ a2 := by omega
theorem mp_o3056 {a0 : Int} {a1 : Int} {a2 : Int} (h0 : 0 ≤ a0) (h1 : a0 ≤ 36) (h2 : a0 < 36) (h3 : a1 = (108 + a0)) (h4 : a2 = (0 + a0)) : a2 < ((180 : Nat) : Int) := by omega
theorem mp_o3057 {a0 : Int} {a1 : Int} {a2 : Int} (h0 : 0 ≤ a0) (h1 : a0 ≤ 36) (h2 : a0 < 36) (h3 : a1 = (108 + a0)) (h4 : a2 = (0 + a0)) : ((0 ≤ a1 ∧ a1 < ((180 : Nat) : Int))) := by omega
theorem mp_o3058 {a0 : Int} {a1 : Int} {a2 : Int} (h0 : 0 ≤ a0) (h1 : a0 ≤ 36) (h2 : a0 < 36) (h3 : a1 = (108 + a0)) (h4 : a2 = (0 + a0)) : (-2147483648) ≤ (a0 + 1) := by omega
theorem mp_o3059 {a0 : Int} {a1 : Int} {a2 : Int} (h0 : 0 ≤ a0) (h1 : a0 ≤ 36) (h2 : a0 < 36) (h3 : a1 = (108 + a0)) (h4 : a2 = (0 + a0)) : (a0 + 1) ≤ 2147483647 := by omega
theorem mp_o3060 {a0 : Int} {a1 : Nat} {a2 : Int} {a3 : Int} {a4 : Int} (h0 : 0 ≤ a0) (h1 : a0 ≤ 36) (h2 : ((-a0) + 36) ≤ ((a1 : Nat) : Int)) (h3 : a0 < 36) (h4 : a2 = (108 + a0)) (h5 : a3 = (0 + a0)) (h6 : a4 = (a0 + 1)) : (a1 - 1) < a1 := by omega
theorem mp_o3061 {a0 : Int} {a1 : Int} {a2 : Int} {a3 : Int} (h0 : 0 ≤ a0) (h1 : a0 ≤ 36) (h2 : a0 < 36) (h3 : a1 = (108 + a0)) (h4 : a2 = (0 + a0)) (h5 : a3 = (a0 + 1)) : 0 ≤ a3 := by omega
theorem mp_o3062 {a0 : Int} {a1 : Int} {a2 : Int} {a3 : Int} (h0 : 0 ≤ a0) (h1 : a0 ≤ 36) (h2 : a0 < 36) (h3 : a1 = (108 + a0)) (h4 : a2 = (0 + a0)) (h5 : a3 = (a0 + 1)) : a3 ≤ 36 := by omega
theorem mp_o3063 {a0 : Int} {a1 : Int} {a2 : Int} {a3 : Int} (h0 : 0 ≤ a0) (h1 : a0 ≤ 36) (h2 : a0 < 36) (h3 : a1 = (108 + a0)) (h4 : a2 = (0 + a0)) (h5 : a3 = (a0 + 1)) : a1 = (((108 : Nat) : Int) + (((Int.toNat a0) : Nat) : Int)) := by omega
theorem mp_o3064 {a0 : Int} {a1 : Int} {a2 : Int} {a3 : Int} (h0 : 0 ≤ a0) (h1 : a0 ≤ 36) (h2 : a0 < 36) (h3 : a1 = (108 + a0)) (h4 : a2 = (0 + a0)) (h5 : a3 = (a0 + 1)) : a2 = (((0 : Nat) : Int) + (((Int.toNat a0) : Nat) : Int)) := by omega
theorem mp_o3065 : (((0 + 36) ≤ 108 ∨ (108 + 36) ≤ 0)) := by omega
theorem mp_o3066 {a0 : Int} {a1 : Int} {a2 : Int} {a3 : Int} (h0 : 0 ≤ a0) (h1 : a0 ≤ 36) (h2 : a0 < 36) (h3 : a1 = (108 + a0)) (h4 : a2 = (0 + a0)) (h5 : a3 = (a0 + 1)) : (Int.toNat a0) < 36 := by omega
theorem mp_o3067 {a0 : Int} {a1 : Int} {a2 : Int} {a3 : Int} (h0 : 0 ≤ a0) (h1 : a0 ≤ 36) (h2 : a0 < 36) (h3 : a1 = (108 + a0)) (h4 : a2 = (0 + a0)) (h5 : a3 = (a0 + 1)) : (Int.toNat a3) = ((Int.toNat a0) + 1) := by omega
theorem mp_o3068 {a0 : Int} {a1 : Nat} {a2 : Int} {a3 : Int} {a4 : Int} (h0 : 0 ≤ a0) (h1 : a0 ≤ 36) (h2 : ((-a0) + 36) ≤ ((a1 : Nat) : Int)) (h3 : a0 < 36) (h4 : a2 = (108 + a0)) (h5 : a3 = (0 + a0)) (h6 : a4 = (a0 + 1)) : ((-a4) + 36) ≤ ((((a1 - 1)) : Nat) : Int) := by omega
theorem mp_o3069 {a0 : Int} (h0 : 0 ≤ a0) (h1 : a0 ≤ 20) (h2 : a0 ≤ 18) (h3 : a0 < 18) : (-2147483648) ≤ (54 + a0) := by omega
theorem mp_o3070 {a0 : Int} (h0 : 0 ≤ a0) (h1 : a0 ≤ 20) (h2 : a0 ≤ 18) (h3 : a0 < 18) : (54 + a0) ≤ 2147483647 := by omega
theorem mp_o3071 {a0 : Int} {a1 : Int} (h0 : 0 ≤ a0) (h1 : a0 ≤ 20) (h2 : a0 ≤ 18) (h3 : a0 < 18) (h4 : a1 = (54 + a0)) : (-2147483648) ≤ (0 + a0) := by omega
theorem mp_o3072 {a0 : Int} {a1 : Int} (h0 : 0 ≤ a0) (h1 : a0 ≤ 20) (h2 : a0 ≤ 18) (h3 : a0 < 18) (h4 : a1 = (54 + a0)) : (0 + a0) ≤ 2147483647 := by omega
theorem mp_o3073 {a0 : Int} {a1 : Int} {a2 : Int} (h0 : 0 ≤ a0) (h1 : a0 ≤ 20) (h2 : a0 ≤ 18) (h3 : a0 < 18) (h4 : a1 = (54 + a0)) (h5 : a2 = (0 + a0)) : ((0 ≤ a2 ∧ a2 < ((90 : Nat) : Int))) := by omega
theorem mp_o3074 {a0 : Int} {a1 : Int} {a2 : Int} (h0 : 0 ≤ a0) (h1 : a0 ≤ 20) (h2 : a0 ≤ 18) (h3 : a0 < 18) (h4 : a1 = (54 + a0)) (h5 : a2 = (0 + a0)) : 0 ≤ a2 := by omega
theorem mp_o3075 {a0 : Int} {a1 : Int} {a2 : Int} (h0 : 0 ≤ a0) (h1 : a0 ≤ 20) (h2 : a0 ≤ 18) (h3 : a0 < 18) (h4 : a1 = (54 + a0)) (h5 : a2 = (0 + a0)) : a2 < ((90 : Nat) : Int) := by omega
theorem mp_o3076 {a0 : Int} {a1 : Int} {a2 : Int} (h0 : 0 ≤ a0) (h1 : a0 ≤ 20) (h2 : a0 ≤ 18) (h3 : a0 < 18) (h4 : a1 = (54 + a0)) (h5 : a2 = (0 + a0)) : ((0 ≤ a1 ∧ a1 < ((90 : Nat) : Int))) := by omega
theorem mp_o3077 {a0 : Int} {a1 : Int} {a2 : Int} (h0 : 0 ≤ a0) (h1 : a0 ≤ 20) (h2 : a0 ≤ 18) (h3 : a0 < 18) (h4 : a1 = (54 + a0)) (h5 : a2 = (0 + a0)) : 0 ≤ a1 := by omega
theorem mp_o3078 {a0 : Int} {a1 : Int} {a2 : Int} {a3 : Int} (h0 : a0 = (54 + a1)) (h1 : a2 = (0 + a1)) (h2 : (((a2 % 3) = 0 → (0 ≤ a3 ∧ a3 ≤ 5)))) (h3 : (((a2 % 3) = 1 → ((-1) ≤ a3 ∧ a3 ≤ 99)))) : ((a0 % ((3 : Nat) : Int)) = ((0 : Nat) : Int)) → ((0 ≤ a3 ∧ a3 ≤ 5)) := by omega
theorem mp_o3079 {a0 : Int} {a1 : Int} {a2 : Int} {a3 : Int} (h0 : a0 = (54 + a1)) (h1 : a2 = (0 + a1)) (h2 : (((a2 % 3) = 1 → ((-1) ≤ a3 ∧ a3 ≤ 99)))) : ((a0 % ((3 : Nat) : Int)) = ((1 : Nat) : Int)) → (((-1) ≤ a3 ∧ a3 ≤ 99)) := by omega
theorem mp_o3080 {a0 : Int} {a1 : Int} {a2 : Int} (h0 : 0 ≤ a0) (h1 : a0 ≤ 20) (h2 : a0 ≤ 18) (h3 : a0 < 18) (h4 : a1 = (54 + a0)) (h5 : a2 = (0 + a0)) : (-2147483648) ≤ (a0 + 1) := by omega
theorem mp_o3081 {a0 : Int} {a1 : Int} {a2 : Int} (h0 : 0 ≤ a0) (h1 : a0 ≤ 20) (h2 : a0 ≤ 18) (h3 : a0 < 18) (h4 : a1 = (54 + a0)) (h5 : a2 = (0 + a0)) : (a0 + 1) ≤ 2147483647 := by omega
theorem mp_o3082 {a0 : Int} {a1 : Nat} {a2 : Int} {a3 : Int} {a4 : Int} (h0 : 0 ≤ a0) (h1 : a0 ≤ 20) (h2 : a0 ≤ 18) (h3 : ((-a0) + 18) ≤ ((a1 : Nat) : Int)) (h4 : a0 < 18) (h5 : a2 = (54 + a0)) (h6 : a3 = (0 + a0)) (h7 : a4 = (a0 + 1)) : (a1 - 1) < a1 := by omega
theorem mp_o3083 {a0 : Int} {a1 : Int} {a2 : Int} {a3 : Int} (h0 : 0 ≤ a0) (h1 : a0 ≤ 20) (h2 : a0 ≤ 18) (h3 : a0 < 18) (h4 : a1 = (54 + a0)) (h5 : a2 = (0 + a0)) (h6 : a3 = (a0 + 1)) : 0 ≤ a3 := by omega
theorem mp_o3084 {a0 : Int} {a1 : Int} {a2 : Int} {a3 : Int} (h0 : 0 ≤ a0) (h1 : a0 ≤ 20) (h2 : a0 ≤ 18) (h3 : a0 < 18) (h4 : a1 = (54 + a0)) (h5 : a2 = (0 + a0)) (h6 : a3 = (a0 + 1)) : a3 ≤ 20 := by omega
theorem mp_o3085 {a0 : Int} {a1 : Int} {a2 : Int} {a3 : Int} (h0 : 0 ≤ a0) (h1 : a0 ≤ 20) (h2 : a0 ≤ 18) (h3 : a0 < 18) (h4 : a1 = (54 + a0)) (h5 : a2 = (0 + a0)) (h6 : a3 = (a0 + 1)) : a1 = (((54 : Nat) : Int) + (((Int.toNat a0) : Nat) : Int)) := by omega
theorem mp_o3086 {a0 : Int} {a1 : Int} {a2 : Int} {a3 : Int} (h0 : 0 ≤ a0) (h1 : a0 ≤ 20) (h2 : a0 ≤ 18) (h3 : a0 < 18) (h4 : a1 = (54 + a0)) (h5 : a2 = (0 + a0)) (h6 : a3 = (a0 + 1)) : a2 = (((0 : Nat) : Int) + (((Int.toNat a0) : Nat) : Int)) := by omega
theorem mp_o3087 : (((0 + 18) ≤ 54 ∨ (54 + 18) ≤ 0)) := by omega
theorem mp_o3088 {a0 : Int} {a1 : Int} {a2 : Int} {a3 : Int} (h0 : 0 ≤ a0) (h1 : a0 ≤ 20) (h2 : a0 ≤ 18) (h3 : a0 < 18) (h4 : a1 = (54 + a0)) (h5 : a2 = (0 + a0)) (h6 : a3 = (a0 + 1)) : (Int.toNat a0) < 18 := by omega
theorem mp_o3089 {a0 : Int} {a1 : Int} {a2 : Int} {a3 : Int} (h0 : 0 ≤ a0) (h1 : a0 ≤ 20) (h2 : a0 ≤ 18) (h3 : a0 < 18) (h4 : a1 = (54 + a0)) (h5 : a2 = (0 + a0)) (h6 : a3 = (a0 + 1)) : (Int.toNat a3) = ((Int.toNat a0) + 1) := by omega
theorem mp_o3090 {a0 : Int} {a1 : Int} {a2 : Int} {a3 : Int} (h0 : 0 ≤ a0) (h1 : a0 ≤ 20) (h2 : a0 ≤ 18) (h3 : a0 < 18) (h4 : a1 = (54 + a0)) (h5 : a2 = (0 + a0)) (h6 : a3 = (a0 + 1)) : a3 ≤ 18 := by omega
theorem mp_o3091 {a0 : Int} {a1 : Nat} {a2 : Int} {a3 : Int} {a4 : Int} (h0 : 0 ≤ a0) (h1 : a0 ≤ 20) (h2 : a0 ≤ 18) (h3 : ((-a0) + 18) ≤ ((a1 : Nat) : Int)) (h4 : a0 < 18) (h5 : a2 = (54 + a0)) (h6 : a3 = (0 + a0)) (h7 : a4 = (a0 + 1)) : ((-a4) + 18) ≤ ((((a1 - 1)) : Nat) : Int) := by omega
theorem mp_o3092 {a0 : Int} (h0 : 0 ≤ a0) (h1 : a0 ≤ 60) (h2 : a0 < 60) : (-2147483648) ≤ (180 + a0) := by omega
theorem mp_o3093 {a0 : Int} (h0 : 0 ≤ a0) (h1 : a0 ≤ 60) (h2 : a0 < 60) : (180 + a0) ≤ 2147483647 := by omega
theorem mp_o3094 {a0 : Int} {a1 : Int} (h0 : 0 ≤ a0) (h1 : a0 ≤ 60) (h2 : a0 < 60) (h3 : a1 = (180 + a0)) : (-2147483648) ≤ (0 + a0) := by omega
theorem mp_o3095 {a0 : Int} {a1 : Int} (h0 : 0 ≤ a0) (h1 : a0 ≤ 60) (h2 : a0 < 60) (h3 : a1 = (180 + a0)) : (0 + a0) ≤ 2147483647 := by omega
theorem mp_o3096 {a0 : Int} {a1 : Int} {a2 : Int} (h0 : 0 ≤ a0) (h1 : a0 ≤ 60) (h2 : a0 < 60) (h3 : a1 = (180 + a0)) (h4 : a2 = (0 + a0)) : ((0 ≤ a2 ∧ a2 < ((300 : Nat) : Int))) := by omega
theorem mp_o3097 {a0 : Int} {a1 : Int} {a2 : Int} (h0 : 0 ≤ a0) (h1 : a0 ≤ 60) (h2 : a0 < 60) (h3 : a1 = (180 + a0)) (h4 : a2 = (0 + a0)) : 0 ≤ a2 := by omega
theorem mp_o3098 {a0 : Int} {a1 : Int} {a2 : Int} (h0 : 0 ≤ a0) (h1 : a0 ≤ 60) (h2 : a0 < 60) (h3 : a1 = (180 + a0)) (h4 : a2 = (0 + a0)) : a2 < ((300 : Nat) : Int) := by omega
theorem mp_o3099 {a0 : Int} {a1 : Int} {a2 : Int} (h0 : 0 ≤ a0) (h1 : a0 ≤ 60) (h2 : a0 < 60) (h3 : a1 = (180 + a0)) (h4 : a2 = (0 + a0)) : ((0 ≤ a1 ∧ a1 < ((300 : Nat) : Int))) := by omega
theorem mp_o3100 {a0 : Int} {a1 : Int} {a2 : Int} (h0 : 0 ≤ a0) (h1 : a0 ≤ 60) (h2 : a0 < 60) (h3 : a1 = (180 + a0)) (h4 : a2 = (0 + a0)) : 0 ≤ a1 := by omega
theorem mp_o3101 {a0 : Int} {a1 : Int} {a2 : Int} {a3 : Int} (h0 : a0 = (180 + a1)) (h1 : a2 = (0 + a1)) (h2 : (((a2 % 6) = 0 → (0 ≤ a3 ∧ a3 ≤ 5)))) (h3 : (((a2 % 6) = 1 → (0 ≤ a3 ∧ a3 ≤ 5)))) (h4 : (((a2 % 6) = 3 → (0 ≤ a3 ∧ a3 ≤ 99)))) (h5 : (((a2 % 6) = 4 → (0 ≤ a3 ∧ a3 ≤ 1)))) : ((a0 % ((6 : Nat) : Int)) = ((0 : Nat) : Int)) → ((0 ≤ a3 ∧ a3 ≤ 5)) := by omega
theorem mp_o3102 {a0 : Int} {a1 : Int} {a2 : Int} {a3 : Int} (h0 : a0 = (180 + a1)) (h1 : a2 = (0 + a1)) (h2 : (((a2 % 6) = 1 → (0 ≤ a3 ∧ a3 ≤ 5)))) (h3 : (((a2 % 6) = 3 → (0 ≤ a3 ∧ a3 ≤ 99)))) (h4 : (((a2 % 6) = 4 → (0 ≤ a3 ∧ a3 ≤ 1)))) : ((a0 % ((6 : Nat) : Int)) = ((1 : Nat) : Int)) → ((0 ≤ a3 ∧ a3 ≤ 5)) := by omega
theorem mp_o3103 {a0 : Int} {a1 : Int} {a2 : Int} {a3 : Int} (h0 : a0 = (180 + a1)) (h1 : a2 = (0 + a1)) (h2 : (((a2 % 6) = 3 → (0 ≤ a3 ∧ a3 ≤ 99)))) (h3 : (((a2 % 6) = 4 → (0 ≤ a3 ∧ a3 ≤ 1)))) : ((a0 % ((6 : Nat) : Int)) = ((3 : Nat) : Int)) → ((0 ≤ a3 ∧ a3 ≤ 99)) := by omega
theorem mp_o3104 {a0 : Int} {a1 : Int} {a2 : Int} {a3 : Int} (h0 : a0 = (180 + a1)) (h1 : a2 = (0 + a1)) (h2 : (((a2 % 6) = 4 → (0 ≤ a3 ∧ a3 ≤ 1)))) : ((a0 % ((6 : Nat) : Int)) = ((4 : Nat) : Int)) → ((0 ≤ a3 ∧ a3 ≤ 1)) := by omega
theorem mp_o3105 {a0 : Int} {a1 : Int} {a2 : Int} (h0 : 0 ≤ a0) (h1 : a0 ≤ 60) (h2 : a0 < 60) (h3 : a1 = (180 + a0)) (h4 : a2 = (0 + a0)) : (-2147483648) ≤ (a0 + 1) := by omega
theorem mp_o3106 {a0 : Int} {a1 : Int} {a2 : Int} (h0 : 0 ≤ a0) (h1 : a0 ≤ 60) (h2 : a0 < 60) (h3 : a1 = (180 + a0)) (h4 : a2 = (0 + a0)) : (a0 + 1) ≤ 2147483647 := by omega
theorem mp_o3107 {a0 : Int} {a1 : Nat} {a2 : Int} {a3 : Int} {a4 : Int} (h0 : 0 ≤ a0) (h1 : a0 ≤ 60) (h2 : ((-a0) + 60) ≤ ((a1 : Nat) : Int)) (h3 : a0 < 60) (h4 : a2 = (180 + a0)) (h5 : a3 = (0 + a0)) (h6 : a4 = (a0 + 1)) : (a1 - 1) < a1 := by omega
theorem mp_o3108 {a0 : Int} {a1 : Int} {a2 : Int} {a3 : Int} (h0 : 0 ≤ a0) (h1 : a0 ≤ 60) (h2 : a0 < 60) (h3 : a1 = (180 + a0)) (h4 : a2 = (0 + a0)) (h5 : a3 = (a0 + 1)) : 0 ≤ a3 := by omega
theorem mp_o3109 {a0 : Int} {a1 : Int} {a2 : Int} {a3 : Int} (h0 : 0 ≤ a0) (h1 : a0 ≤ 60) (h2 : a0 < 60) (h3 : a1 = (180 + a0)) (h4 : a2 = (0 + a0)) (h5 : a3 = (a0 + 1)) : a3 ≤ 60 := by omega
theorem mp_o3110 {a0 : Int} {a1 : Int} {a2 : Int} {a3 : Int} (h0 : 0 ≤ a0) (h1 : a0 ≤ 60) (h2 : a0 < 60) (h3 : a1 = (180 + a0)) (h4 : a2 = (0 + a0)) (h5 : a3 = (a0 + 1)) : a1 = (((180 : Nat) : Int) + (((Int.toNat a0) : Nat) : Int)) := by omega
theorem mp_o3111 {a0 : Int} {a1 : Int} {a2 : Int} {a3 : Int} (h0 : 0 ≤ a0) (h1 : a0 ≤ 60) (h2 : a0 < 60) (h3 : a1 = (180 + a0)) (h4 : a2 = (0 + a0)) (h5 : a3 = (a0 + 1)) : a2 = (((0 : Nat) : Int) + (((Int.toNat a0) : Nat) : Int)) := by omega
theorem mp_o3112 : (((0 + 60) ≤ 180 ∨ (180 + 60) ≤ 0)) := by omega
theorem mp_o3113 {a0 : Int} {a1 : Int} {a2 : Int} {a3 : Int} (h0 : 0 ≤ a0) (h1 : a0 ≤ 60) (h2 : a0 < 60) (h3 : a1 = (180 + a0)) (h4 : a2 = (0 + a0)) (h5 : a3 = (a0 + 1)) : (Int.toNat a0) < 60 := by omega
theorem mp_o3114 {a0 : Int} {a1 : Int} {a2 : Int} {a3 : Int} (h0 : 0 ≤ a0) (h1 : a0 ≤ 60) (h2 : a0 < 60) (h3 : a1 = (180 + a0)) (h4 : a2 = (0 + a0)) (h5 : a3 = (a0 + 1)) : (Int.toNat a3) = ((Int.toNat a0) + 1) := by omega
theorem mp_o3115 {a0 : Int} {a1 : Nat} {a2 : Int} {a3 : Int} {a4 : Int} (h0 : 0 ≤ a0) (h1 : a0 ≤ 60) (h2 : ((-a0) + 60) ≤ ((a1 : Nat) : Int)) (h3 : a0 < 60) (h4 : a2 = (180 + a0)) (h5 : a3 = (0 + a0)) (h6 : a4 = (a0 + 1)) : ((-a4) + 60) ≤ ((((a1 - 1)) : Nat) : Int) := by omega
theorem mp_o3116 {a0 : Int} {a1 : Int} {a2 : Int} (h0 : 0 ≤ a0) (h1 : a0 ≤ 60) (h2 : a0 < 60) (h3 : a1 = (180 + a0)) (h4 : a2 = (0 + a0)) : a2 < 300 := by omega
theorem mp_o3117 {a0 : Int} (h0 : 0 ≤ a0) (h1 : a0 ≤ 600) (h2 : a0 < 600) : (-2147483648) ≤ (1800 + a0) := by omega
theorem mp_o3118 {a0 : Int} (h0 : 0 ≤ a0) (h1 : a0 ≤ 600) (h2 : a0 < 600) : (1800 + a0) ≤ 2147483647 := by omega
theorem mp_o3119 {a0 : Int} {a1 : Int} (h0 : 0 ≤ a0) (h1 : a0 ≤ 600) (h2 : a0 < 600) (h3 : a1 = (1800 + a0)) : (-2147483648) ≤ (0 + a0) := by omega
theorem mp_o3120 {a0 : Int} {a1 : Int} (h0 : 0 ≤ a0) (h1 : a0 ≤ 600) (h2 : a0 < 600) (h3 : a1 = (1800 + a0)) : (0 + a0) ≤ 2147483647 := by omega
theorem mp_o3121 {a0 : Int} {a1 : Int} {a2 : Int} (h0 : 0 ≤ a0) (h1 : a0 ≤ 600) (h2 : a0 < 600) (h3 : a1 = (1800 + a0)) (h4 : a2 = (0 + a0)) : ((0 ≤ a2 ∧ a2 < ((3000 : Nat) : Int))) := by omega
theorem mp_o3122 {a0 : Int} {a1 : Int} {a2 : Int} (h0 : 0 ≤ a0) (h1 : a0 ≤ 600) (h2 : a0 < 600) (h3 : a1 = (1800 + a0)) (h4 : a2 = (0 + a0)) : 0 ≤ a2 := by omega
theorem mp_o3123 {a0 : Int} {a1 : Int} {a2 : Int} (h0 : 0 ≤ a0) (h1 : a0 ≤ 600) (h2 : a0 < 600) (h3 : a1 = (1800 + a0)) (h4 : a2 = (0 + a0)) : a2 < ((3000 : Nat) : Int) := by omega
theorem mp_o3124 {a0 : Int} {a1 : Int} {a2 : Int} (h0 : 0 ≤ a0) (h1 : a0 ≤ 600) (h2 : a0 < 600) (h3 : a1 = (1800 + a0)) (h4 : a2 = (0 + a0)) : ((0 ≤ a1 ∧ a1 < ((3000 : Nat) : Int))) := by omega
theorem mp_o3125 {a0 : Int} {a1 : Int} {a2 : Int} (h0 : 0 ≤ a0) (h1 : a0 ≤ 600) (h2 : a0 < 600) (h3 : a1 = (1800 + a0)) (h4 : a2 = (0 + a0)) : (-2147483648) ≤ (a0 + 1) := by omega
theorem mp_o3126 {a0 : Int} {a1 : Int} {a2 : Int} (h0 : 0 ≤ a0) (h1 : a0 ≤ 600) (h2 : a0 < 600) (h3 : a1 = (1800 + a0)) (h4 : a2 = (0 + a0)) : (a0 + 1) ≤ 2147483647 := by omega
theorem mp_o3127 {a0 : Int} {a1 : Nat} {a2 : Int} {a3 : Int} {a4 : Int} (h0 : 0 ≤ a0) (h1 : a0 ≤ 600) (h2 : ((-a0) + 600) ≤ ((a1 : Nat) : Int)) (h3 : a0 < 600) (h4 : a2 = (1800 + a0)) (h5 : a3 = (0 + a0)) (h6 : a4 = (a0 + 1)) : (a1 - 1) < a1 := by omega
theorem mp_o3128 {a0 : Int} {a1 : Int} {a2 : Int} {a3 : Int} (h0 : 0 ≤ a0) (h1 : a0 ≤ 600) (h2 : a0 < 600) (h3 : a1 = (1800 + a0)) (h4 : a2 = (0 + a0)) (h5 : a3 = (a0 + 1)) : 0 ≤ a3 := by omega
theorem mp_o3129 {a0 : Int} {a1 : Int} {a2 : Int} {a3 : Int} (h0 : 0 ≤ a0) (h1 : a0 ≤ 600) (h2 : a0 < 600) (h3 : a1 = (1800 + a0)) (h4 : a2 = (0 + a0)) (h5 : a3 = (a0 + 1)) : a3 ≤ 600 := by omega
theorem mp_o3130 {a0 : Int} {a1 : Int} {a2 : Int} {a3 : Int} (h0 : 0 ≤ a0) (h1 : a0 ≤ 600) (h2 : a0 < 600) (h3 : a1 = (1800 + a0)) (h4 : a2 = (0 + a0)) (h5 : a3 = (a0 + 1)) : a1 = (((1800 : Nat) : Int) + (((Int.toNat a0) : Nat) : Int)) := by omega
theorem mp_o3131 {a0 : Int} {a1 : Int} {a2 : Int} {a3 : Int} (h0 : 0 ≤ a0) (h1 : a0 ≤ 600) (h2 : a0 < 600) (h3 : a1 = (1800 + a0)) (h4 : a2 = (0 + a0)) (h5 : a3 = (a0 + 1)) : a2 = (((0 : Nat) : Int) + (((Int.toNat a0) : Nat) : Int)) := by omega
theorem mp_o3132 : (((0 + 600) ≤ 1800 ∨ (1800 + 600) ≤ 0)) := by omega
theorem mp_o3133 {a0 : Int} {a1 : Int} {a2 : Int} {a3 : Int} (h0 : 0 ≤ a0) (h1 : a0 ≤ 600) (h2 : a0 < 600) (h3 : a1 = (1800 + a0)) (h4 : a2 = (0 + a0)) (h5 : a3 = (a0 + 1)) : (Int.toNat a0) < 600 := by omega
theorem mp_o3134 {a0 : Int} {a1 : Int} {a2 : Int} {a3 : Int} (h0 : 0 ≤ a0) (h1 : a0 ≤ 600) (h2 : a0 < 600) (h3 : a1 = (1800 + a0)) (h4 : a2 = (0 + a0)) (h5 : a3 = (a0 + 1)) : (Int.toNat a3) = ((Int.toNat a0) + 1) := by omega
theorem mp_o3135 {a0 : Int} {a1 : Nat} {a2 : Int} {a3 : Int} {a4 : Int} (h0 : 0 ≤ a0) (h1 : a0 ≤ 600) (h2 : ((-a0) + 600) ≤ ((a1 : Nat) : Int)) (h3 : a0 < 600) (h4 : a2 = (1800 + a0)) (h5 : a3 = (0 + a0)) (h6 : a4 = (a0 + 1)) : ((-a4) + 600) ≤ ((((a1 - 1)) : Nat) : Int) := by omega
theorem mp_o3136 {a0 : Int} {a1 : Int} {a2 : Int} {a3 : Int} (h0 : a0 = a1) (h1 : (a0 < a2 ∨ a3 < a0)) (h2 : a2 = 0) (h3 : a3 = 2) : ((a1 < 0 ∨ 2 < a1)) := by omega
theorem mp_o3137 {a0 : Int} {a1 : Int} (h0 : a0 = a1) (h1 : 0 ≤ a0) (h2 : a0 ≤ 2) : ((a1 = 0 ∨ (a1 = 1 ∨ a1 = 2))) := by omega
theorem mp_o3138 {a0 : Int} (h0 : a0 = 0) : a0 ≤ 2 := by omega
theorem mp_o3139 {a0 : Int} (h0 : a0 = 0) : ((0 ≤ a0 ∧ a0 ≤ 2)) := by omega
theorem mp_o3140 {a0 : Int} (h0 : a0 = 1) : a0 ≤ 2 := by omega
theorem mp_o3141 {a0 : Int} (h0 : a0 = 1) : ((0 ≤ a0 ∧ a0 ≤ 2)) := by omega
theorem mp_o3142 {a0 : Int} (h0 : a0 = 2) : 0 ≤ a0 := by omega
theorem mp_o3143 {a0 : Int} (h0 : a0 = 2) : a0 ≤ 2 := by omega
theorem mp_o3144 {a0 : Int} (h0 : a0 = 2) : ((0 ≤ a0 ∧ a0 ≤ 2)) := by omega
theorem mp_o3145 : (((1 + 1) ≤ 0 ∨ (0 + 1) ≤ 1)) := by omega
theorem mp_o3146 {a0 : Int} (h0 : 0 ≤ a0) (h1 : a0 ≤ 5) (h2 : a0 < 5) : (-2147483648) ≤ (0 + a0) := by omega
theorem mp_o3147 {a0 : Int} (h0 : 0 ≤ a0) (h1 : a0 ≤ 5) (h2 : a0 < 5) : (0 + a0) ≤ 2147483647 := by omega
theorem mp_o3148 {a0 : Int} {a1 : Int} (h0 : 0 ≤ a0) (h1 : a0 ≤ 5) (h2 : a0 < 5) (h3 : a1 = (0 + a0)) : (-2147483648) ≤ (5 + a0) := by omega
theorem mp_o3149 {a0 : Int} {a1 : Int} (h0 : 0 ≤ a0) (h1 : a0 ≤ 5) (h2 : a0 < 5) (h3 : a1 = (0 + a0)) : (5 + a0) ≤ 2147483647 := by omega
theorem mp_o3150 {a0 : Int} {a1 : Int} {a2 : Int} (h0 : 0 ≤ a0) (h1 : a0 ≤ 5) (h2 : a0 < 5) (h3 : a1 = (0 + a0)) (h4 : a2 = (5 + a0)) : ((0 ≤ a2 ∧ a2 < ((25 : Nat) : Int))) := by omega
theorem mp_o3151 {a0 : Int} {a1 : Int} {a2 : Int} (h0 : 0 ≤ a0) (h1 : a0 ≤ 5) (h2 : a0 < 5) (h3 : a1 = (0 + a0)) (h4 : a2 = (5 + a0)) : 0 ≤ a2 := by omega
theorem mp_o3152 {a0 : Int} {a1 : Int} {a2 : Int} (h0 : 0 ≤ a0) (h1 : a0 ≤ 5) (h2 : a0 < 5) (h3 : a1 = (0 + a0)) (h4 : a2 = (5 + a0)) : a2 < ((25 : Nat) : Int) := by omega
theorem mp_o3153 {a0 : Int} {a1 : Int} {a2 : Int} (h0 : 0 ≤ a0) (h1 : a0 ≤ 5) (h2 : a0 < 5) (h3 : a1 = (0 + a0)) (h4 : a2 = (5 + a0)) : ((0 ≤ a1 ∧ a1 < ((25 : Nat) : Int))) := by omega
theorem mp_o3154 {a0 : Int} {a1 : Int} {a2 : Int} (h0 : 0 ≤ a0) (h1 : a0 ≤ 5) (h2 : a0 < 5) (h3 : a1 = (0 + a0)) (h4 : a2 = (5 + a0)) : 0 ≤ a1 := by omega
theorem mp_o3155 {a0 : Int} {a1 : Int} {a2 : Int} {a3 : Int} (h0 : 0 ≤ a0) (h1 : a0 ≤ 5) (h2 : a0 < 5) (h3 : a1 = (0 + a0)) (h4 : a2 = (5 + a0)) (h5 : (((a2 % 5) = 0 → (0 ≤ a3 ∧ a3 ≤ 6)))) (h6 : (((a2 % 5) = 1 → (0 ≤ a3 ∧ a3 ≤ 99)))) (h7 : (((a2 % 5) = 2 → (0 ≤ a3 ∧ a3 ≤ 6)))) (h8 : (((a2 % 5) = 3 → (0 ≤ a3 ∧ a3 ≤ 10)))) (h9 : (((a2 % 5) = 4 → (0 ≤ a3 ∧ a3 ≤ 60)))) : ((a1 % ((5 : Nat) : Int)) = ((0 : Nat) : Int)) → ((0 ≤ a3 ∧ a3 ≤ 6)) := by omega
theorem mp_o3156 {a0 : Int} {a1 : Int} {a2 : Int} {a3 : Int} (h0 : 0 ≤ a0) (h1 : a0 ≤ 5) (h2 : a0 < 5) (h3 : a1 = (0 + a0)) (h4 : a2 = (5 + a0)) (h5 : (((a2 % 5) = 1 → (0 ≤ a3 ∧ a3 ≤ 99)))) (h6 : (((a2 % 5) = 2 → (0 ≤ a3 ∧ a3 ≤ 6)))) (h7 : (((a2 % 5) = 3 → (0 ≤ a3 ∧ a3 ≤ 10)))) (h8 : (((a2 % 5) = 4 → (0 ≤ a3 ∧ a3 ≤ 60)))) : ((a1 % ((5 : Nat) : Int)) = ((1 : Nat) : Int)) → ((0 ≤ a3 ∧ a3 ≤ 99)) := by omega
theorem mp_o3157 {a0 : Int} {a1 : Int} {a2 : Int} {a3 : Int} (h0 : 0 ≤ a0) (h1 : a0 ≤ 5) (h2 : a0 < 5) (h3 : a1 = (0 + a0)) (h4 : a2 = (5 + a0)) (h5 : (((a2 % 5) = 2 → (0 ≤ a3 ∧ a3 ≤ 6)))) (h6 : (((a2 % 5) = 3 → (0 ≤ a3 ∧ a3 ≤ 10)))) (h7 : (((a2 % 5) = 4 → (0 ≤ a3 ∧ a3 ≤ 60)))) : ((a1 % ((5 : Nat) : Int)) = ((2 : Nat) : Int)) → ((0 ≤ a3 ∧ a3 ≤ 6)) := by omega
theorem mp_o3158 {a0 : Int} {a1 : Int} {a2 : Int} {a3 : Int} (h0 : 0 ≤ a0) (h1 : a0 ≤ 5) (h2 : a0 < 5) (h3 : a1 = (0 + a0)) (h4 : a2 = (5 + a0)) (h5 : (((a2 % 5) = 3 → (0 ≤ a3 ∧ a3 ≤ 10)))) (h6 : (((a2 % 5) = 4 → (0 ≤ a3 ∧ a3 ≤ 60)))) : ((a1 % ((5 : Nat) : Int)) = ((3 : Nat) : Int)) → ((0 ≤ a3 ∧ a3 ≤ 10)) := by omega
theorem mp_o3159 {a0 : Int} {a1 : Int} {a2 : Int} {a3 : Int} (h0 : 0 ≤ a0) (h1 : a0 ≤ 5) (h2 : a0 < 5) (h3 : a1 = (0 + a0)) (h4 : a2 = (5 + a0)) (h5 : (((a2 % 5) = 4 → (0 ≤ a3 ∧ a3 ≤ 60)))) : ((a1 % ((5 : Nat) : Int)) = ((4 : Nat) : Int)) → ((0 ≤ a3 ∧ a3 ≤ 60)) := by omega
theorem mp_o3160 {a0 : Int} {a1 : Int} {a2 : Int} (h0 : 0 ≤ a0) (h1 : a0 ≤ 5) (h2 : a0 < 5) (h3 : a1 = (0 + a0)) (h4 : a2 = (5 + a0)) : (-2147483648) ≤ (a0 + 1) := by omega
theorem mp_o3161 {a0 : Int} {a1 : Int} {a2 : Int} (h0 : 0 ≤ a0) (h1 : a0 ≤ 5) (h2 : a0 < 5) (h3 : a1 = (0 + a0)) (h4 : a2 = (5 + a0)) : (a0 + 1) ≤ 2147483647 := by omega
theorem mp_o3162 {a0 : Int} {a1 : Nat} {a2 : Int} {a3 : Int} {a4 : Int} (h0 : 0 ≤ a0) (h1 : a0 ≤ 5) (h2 : ((-a0) + 5) ≤ ((a1 : Nat) : Int)) (h3 : a0 < 5) (h4 : a2 = (0 + a0)) (h5 : a3 = (5 + a0)) (h6 : a4 = (a0 + 1)) : (a1 - 1) < a1 := by omega
theorem mp_o3163 {a0 : Int} {a1 : Int} {a2 : Int} {a3 : Int} (h0 : 0 ≤ a0) (h1 : a0 ≤ 5) (h2 : a0 < 5) (h3 : a1 = (0 + a0)) (h4 : a2 = (5 + a0)) (h5 : a3 = (a0 + 1)) : 0 ≤ a3 := by omega
theorem mp_o3164 {a0 : Int} {a1 : Int} {a2 : Int} {a3 : Int} (h0 : 0 ≤ a0) (h1 : a0 ≤ 5) (h2 : a0 < 5) (h3 : a1 = (0 + a0)) (h4 : a2 = (5 + a0)) (h5 : a3 = (a0 + 1)) : a3 ≤ 5 := by omega
theorem mp_o3165 {a0 : Int} {a1 : Int} {a2 : Int} {a3 : Int} (h0 : 0 ≤ a0) (h1 : a0 ≤ 5) (h2 : a0 < 5) (h3 : a1 = (0 + a0)) (h4 : a2 = (5 + a0)) (h5 : a3 = (a0 + 1)) : a1 = (((0 : Nat) : Int) + (((Int.toNat a0) : Nat) : Int)) := by omega
theorem mp_o3166 {a0 : Int} {a1 : Int} {a2 : Int} {a3 : Int} (h0 : 0 ≤ a0) (h1 : a0 ≤ 5) (h2 : a0 < 5) (h3 : a1 = (0 + a0)) (h4 : a2 = (5 + a0)) (h5 : a3 = (a0 + 1)) : a2 = (((5 : Nat) : Int) + (((Int.toNat a0) : Nat) : Int)) := by omega
theorem mp_o3167 : (((5 + 5) ≤ 0 ∨ (0 + 5) ≤ 5)) := by omega
theorem mp_o3168 {a0 : Int} {a1 : Int} {a2 : Int} {a3 : Int} (h0 : 0 ≤ a0) (h1 : a0 ≤ 5) (h2 : a0 < 5) (h3 : a1 = (0 + a0)) (h4 : a2 = (5 + a0)) (h5 : a3 = (a0 + 1)) : (Int.toNat a0) < 5 := by omega
theorem mp_o3169 {a0 : Int} {a1 : Int} {a2 : Int} {a3 : Int} (h0 : 0 ≤ a0) (h1 : a0 ≤ 5) (h2 : a0 < 5) (h3 : a1 = (0 + a0)) (h4 : a2 = (5 + a0)) (h5 : a3 = (a0 + 1)) : (Int.toNat a3) = ((Int.toNat a0) + 1) := by omega
theorem mp_o3170 {a0 : Int} {a1 : Nat} {a2 : Int} {a3 : Int} {a4 : Int} (h0 : 0 ≤ a0) (h1 : a0 ≤ 5) (h2 : ((-a0) + 5) ≤ ((a1 : Nat) : Int)) (h3 : a0 < 5) (h4 : a2 = (0 + a0)) (h5 : a3 = (5 + a0)) (h6 : a4 = (a0 + 1)) : ((-a4) + 5) ≤ ((((a1 - 1)) : Nat) : Int) := by omega
theorem mp_o3171 {a0 : Int} (h0 : 0 ≤ a0) (h1 : a0 ≤ 36) (h2 : a0 < 36) : (-2147483648) ≤ (0 + a0) := by omega
theorem mp_o3172 {a0 : Int} (h0 : 0 ≤ a0) (h1 : a0 ≤ 36) (h2 : a0 < 36) : (0 + a0) ≤ 2147483647 := by omega
theorem mp_o3173 {a0 : Int} {a1 : Int} (h0 : 0 ≤ a0) (h1 : a0 ≤ 36) (h2 : a0 < 36) (h3 : a1 = (0 + a0)) : (-2147483648) ≤ (36 + a0) := by omega
theorem mp_o3174 {a0 : Int} {a1 : Int} (h0 : 0 ≤ a0) (h1 : a0 ≤ 36) (h2 : a0 < 36) (h3 : a1 = (0 + a0)) : (36 + a0) ≤ 2147483647 := by omega
theorem mp_o3175 {a0 : Int} {a1 : Int} {a2 : Int} (h0 : 0 ≤ a0) (h1 : a0 ≤ 36) (h2 : a0 < 36) (h3 : a1 = (0 + a0)) (h4 : a2 = (36 + a0)) : ((0 ≤ a2 ∧ a2 < ((180 : Nat) : Int))) := by omega
theorem mp_o3176 {a0 : Int} {a1 : Int} {a2 : Int} (h0 : 0 ≤ a0) (h1 : a0 ≤ 36) (h2 : a0 < 36) (h3 : a1 = (0 + a0)) (h4 : a2 = (36 + a0)) : 0 ≤ a2 := by omega
theorem mp_o3177 {a0 : Int} {a1 : Int} {a2 : Int} (h0 : 0 ≤ a0) (h1 : a0 ≤ 36) (h2 : a0 < 36) (h3 : a1 = (0 + a0)) (h4 : a2 = (36 + a0)) : a2 < ((180 : Nat) : Int) := by omega
theorem mp_o3178 {a0 : Int} {a1 : Int} {a2 : Int} (h0 : 0 ≤ a0) (h1 : a0 ≤ 36) (h2 : a0 < 36) (h3 : a1 = (0 + a0)) (h4 : a2 = (36 + a0)) : ((0 ≤ a1 ∧ a1 < ((180 : Nat) : Int))) := by omega
theorem mp_o3179 {a0 : Int} {a1 : Int} {a2 : Int} (h0 : 0 ≤ a0) (h1 : a0 ≤ 36) (h2 : a0 < 36) (h3 : a1 = (0 + a0)) (h4 : a2 = (36 + a0)) : (-2147483648) ≤ (a0 + 1) := by omega
theorem mp_o3180 {a0 : Int} {a1 : Int} {a2 : Int} (h0 : 0 ≤ a0) (h1 : a0 ≤ 36) (h2 : a0 < 36) (h3 : a1 = (0 + a0)) (h4 : a2 = (36 + a0)) : (a0 + 1) ≤ 2147483647 := by omega
theorem mp_o3181 {a0 : Int} {a1 : Nat} {a2 : Int} {a3 : Int} {a4 : Int} (h0 : 0 ≤ a0) (h1 : a0 ≤ 36) (h2 : ((-a0) + 36) ≤ ((a1 : Nat) : Int)) (h3 : a0 < 36) (h4 : a2 = (0 + a0)) (h5 : a3 = (36 + a0)) (h6 : a4 = (a0 + 1)) : (a1 - 1) < a1 := by omega
theorem mp_o3182 {a0 : Int} {a1 : Int} {a2 : Int} {a3 : Int} (h0 : 0 ≤ a0) (h1 : a0 ≤ 36) (h2 : a0 < 36) (h3 : a1 = (0 + a0)) (h4 : a2 = (36 + a0)) (h5 : a3 = (a0 + 1)) : 0 ≤ a3 := by omega
theorem mp_o3183 {a0 : Int} {a1 : Int} {a2 : Int} {a3 : Int} (h0 : 0 ≤ a0) (h1 : a0 ≤ 36) (h2 : a0 < 36) (h3 : a1 = (0 + a0)) (h4 : a2 = (36 + a0)) (h5 : a3 = (a0 + 1)) : a3 ≤ 36 := by omega
theorem mp_o3184 {a0 : Int} {a1 : Int} {a2 : Int} {a3 : Int} (h0 : 0 ≤ a0) (h1 : a0 ≤ 36) (h2 : a0 < 36) (h3 : a1 = (0 + a0)) (h4 : a2 = (36 + a0)) (h5 : a3 = (a0 + 1)) : a1 = (((0 : Nat) : Int) + (((Int.toNat a0) : Nat) : Int)) := by omega
theorem mp_o3185 {a0 : Int} {a1 : Int} {a2 : Int} {a3 : Int} (h0 : 0 ≤ a0) (h1 : a0 ≤ 36) (h2 : a0 < 36) (h3 : a1 = (0 + a0)) (h4 : a2 = (36 + a0)) (h5 : a3 = (a0 + 1)) : a2 = (((36 : Nat) : Int) + (((Int.toNat a0) : Nat) : Int)) := by omega
theorem mp_o3186 : (((36 + 36) ≤ 0 ∨ (0 + 36) ≤ 36)) := by omega
theorem mp_o3187 {a0 : Int} {a1 : Int} {a2 : Int} {a3 : Int} (h0 : 0 ≤ a0) (h1 : a0 ≤ 36) (h2 : a0 < 36) (h3 : a1 = (0 + a0)) (h4 : a2 = (36 + a0)) (h5 : a3 = (a0 + 1)) : (Int.toNat a0) < 36 := by omega
theorem mp_o3188 {a0 : Int} {a1 : Int} {a2 : Int} {a3 : Int} (h0 : 0 ≤ a0) (h1 : a0 ≤ 36) (h2 : a0 < 36) (h3 : a1 = (0 + a0)) (h4 : a2 = (36 + a0)) (h5 : a3 = (a0 + 1)) : (Int.toNat a3) = ((Int.toNat a0) + 1) := by omega
theorem mp_o3189 {a0 : Int} {a1 : Nat} {a2 : Int} {a3 : Int} {a4 : Int} (h0 : 0 ≤ a0) (h1 : a0 ≤ 36) (h2 : ((-a0) + 36) ≤ ((a1 : Nat) : Int)) (h3 : a0 < 36) (h4 : a2 = (0 + a0)) (h5 : a3 = (36 + a0)) (h6 : a4 = (a0 + 1)) : ((-a4) + 36) ≤ ((((a1 - 1)) : Nat) : Int) := by omega
theorem mp_o3190 {a0 : Int} (h0 : 0 ≤ a0) (h1 : a0 ≤ 20) (h2 : a0 ≤ 18) (h3 : a0 < 18) : (-2147483648) ≤ (0 + a0) := by omega
theorem mp_o3191 {a0 : Int} (h0 : 0 ≤ a0) (h1 : a0 ≤ 20) (h2 : a0 ≤ 18) (h3 : a0 < 18) : (0 + a0) ≤ 2147483647 := by omega
theorem mp_o3192 {a0 : Int} {a1 : Int} (h0 : 0 ≤ a0) (h1 : a0 ≤ 20) (h2 : a0 ≤ 18) (h3 : a0 < 18) (h4 : a1 = (0 + a0)) : (-2147483648) ≤ (18 + a0) := by omega
theorem mp_o3193 {a0 : Int} {a1 : Int} (h0 : 0 ≤ a0) (h1 : a0 ≤ 20) (h2 : a0 ≤ 18) (h3 : a0 < 18) (h4 : a1 = (0 + a0)) : (18 + a0) ≤ 2147483647 := by omega
theorem mp_o3194 {a0 : Int} {a1 : Int} {a2 : Int} (h0 : 0 ≤ a0) (h1 : a0 ≤ 20) (h2 : a0 ≤ 18) (h3 : a0 < 18) (h4 : a1 = (0 + a0)) (h5 : a2 = (18 + a0)) : ((0 ≤ a2 ∧ a2 < ((90 : Nat) : Int))) := by omega
theorem mp_o3195 {a0 : Int} {a1 : Int} {a2 : Int} (h0 : 0 ≤ a0) (h1 : a0 ≤ 20) (h2 : a0 ≤ 18) (h3 : a0 < 18) (h4 : a1 = (0 + a0)) (h5 : a2 = (18 + a0)) : 0 ≤ a2 := by omega
theorem mp_o3196 {a0 : Int} {a1 : Int} {a2 : Int} (h0 : 0 ≤ a0) (h1 : a0 ≤ 20) (h2 : a0 ≤ 18) (h3 : a0 < 18) (h4 : a1 = (0 + a0)) (h5 : a2 = (18 + a0)) : a2 < ((90 : Nat) : Int) := by omega
theorem mp_o3197 {a0 : Int} {a1 : Int} {a2 : Int} (h0 : 0 ≤ a0) (h1 : a0 ≤ 20) (h2 : a0 ≤ 18) (h3 : a0 < 18) (h4 : a1 = (0 + a0)) (h5 : a2 = (18 + a0)) : ((0 ≤ a1 ∧ a1 < ((90 : Nat) : Int))) := by omega
theorem mp_o3198 {a0 : Int} {a1 : Int} {a2 : Int} (h0 : 0 ≤ a0) (h1 : a0 ≤ 20) (h2 : a0 ≤ 18) (h3 : a0 < 18) (h4 : a1 = (0 + a0)) (h5 : a2 = (18 + a0)) : 0 ≤ a1 := by omega
theorem mp_o3199 {a0 : Int} {a1 : Int} {a2 : Int} {a3 : Int} (h0 : a0 = (0 + a1)) (h1 : a2 = (18 + a1)) (h2 : (((a2 % 3) = 0 → (0 ≤ a3 ∧ a3 ≤ 5)))) (h3 : (((a2 % 3) = 1 → ((-1) ≤ a3 ∧ a3 ≤ 99)))) : ((a0 % ((3 : Nat) : Int)) = ((0 : Nat) : Int)) → ((0 ≤ a3 ∧ a3 ≤ 5)) := by omega
theorem mp_o3200 {a0 : Int} {a1 : Int} {a2 : Int} {a3 : Int} (h0 : a0 = (0 + a1)) (h1 : a2 = (18 + a1)) (h2 : (((a2 % 3) = 1 → ((-1) ≤ a3 ∧ a3 ≤ 99)))) : ((a0 % ((3 : Nat) : Int)) = ((1 : Nat) : Int)) → (((-1) ≤ a3 ∧ a3 ≤ 99)) := by omega
theorem mp_o3201 {a0 : Int} {a1 : Int} {a2 : Int} (h0 : 0 ≤ a0) (h1 : a0 ≤ 20) (h2 : a0 ≤ 18) (h3 : a0 < 18) (h4 : a1 = (0 + a0)) (h5 : a2 = (18 + a0)) : (-2147483648) ≤ (a0 + 1) := by omega
theorem mp_o3202 {a0 : Int} {a1 : Int} {a2 : Int} (h0 : 0 ≤ a0) (h1 : a0 ≤ 20) (h2 : a0 ≤ 18) (h3 : a0 < 18) (h4 : a1 = (0 + a0)) (h5 : a2 = (18 + a0)) : (a0 + 1) ≤ 2147483647 := by omega
theorem mp_o3203 {a0 : Int} {a1 : Nat} {a2 : Int} {a3 : Int} {a4 : Int} (h0 : 0 ≤ a0) (h1 : a0 ≤ 20) (h2 : a0 ≤ 18) (h3 : ((-a0) + 18) ≤ ((a1 : Nat) : Int)) (h4 : a0 < 18) (h5 : a2 = (0 + a0)) (h6 : a3 = (18 + a0)) (h7 : a4 = (a0 + 1)) : (a1 - 1) < a1 := by omega
theorem mp_o3204 {a0 : Int} {a1 : Int} {a2 : Int} {a3 : Int} (h0 : 0 ≤ a0) (h1 : a0 ≤ 20) (h2 : a0 ≤ 18) (h3 : a0 < 18) (h4 : a1 = (0 + a0)) (h5 : a2 = (18 + a0)) (h6 : a3 = (a0 + 1)) : 0 ≤ a3 := by omega
theorem mp_o3205 {a0 : Int} {a1 : Int} {a2 : Int} {a3 : Int} (h0 : 0 ≤ a0) (h1 : a0 ≤ 20) (h2 : a0 ≤ 18) (h3 : a0 < 18) (h4 : a1 = (0 + a0)) (h5 : a2 = (18 + a0)) (h6 : a3 = (a0 + 1)) : a3 ≤ 20 := by omega
theorem mp_o3206 {a0 : Int} {a1 : Int} {a2 : Int} {a3 : Int} (h0 : 0 ≤ a0) (h1 : a0 ≤ 20) (h2 : a0 ≤ 18) (h3 : a0 < 18) (h4 : a1 = (0 + a0)) (h5 : a2 = (18 + a0)) (h6 : a3 = (a0 + 1)) : a1 = (((0 : Nat) : Int) + (((Int.toNat a0) : Nat) : Int)) := by omega
theorem mp_o3207 {a0 : Int} {a1 : Int} {a2 : Int} {a3 : Int} (h0 : 0 ≤ a0) (h1 : a0 ≤ 20) (h2 : a0 ≤ 18) (h3 : a0 < 18) (h4 : a1 = (0 + a0)) (h5 : a2 = (18 + a0)) (h6 : a3 = (a0 + 1)) : a2 = (((18 : Nat) : Int) + (((Int.toNat a0) : Nat) : Int)) := by omega
theorem mp_o3208 : (((18 + 18) ≤ 0 ∨ (0 + 18) ≤ 18)) := by omega
theorem mp_o3209 {a0 : Int} {a1 : Int} {a2 : Int} {a3 : Int} (h0 : 0 ≤ a0) (h1 : a0 ≤ 20) (h2 : a0 ≤ 18) (h3 : a0 < 18) (h4 : a1 = (0 + a0)) (h5 : a2 = (18 + a0)) (h6 : a3 = (a0 + 1)) : (Int.toNat a0) < 18 := by omega
theorem mp_o3210 {a0 : Int} {a1 : Int} {a2 : Int} {a3 : Int} (h0 : 0 ≤ a0) (h1 : a0 ≤ 20) (h2 : a0 ≤ 18) (h3 : a0 < 18) (h4 : a1 = (0 + a0)) (h5 : a2 = (18 + a0)) (h6 : a3 = (a0 + 1)) : (Int.toNat a3) = ((Int.toNat a0) + 1) := by omega
theorem mp_o3211 {a0 : Int} {a1 : Int} {a2 : Int} {a3 : Int} (h0 : 0 ≤ a0) (h1 : a0 ≤ 20) (h2 : a0 ≤ 18) (h3 : a0 < 18) (h4 : a1 = (0 + a0)) (h5 : a2 = (18 + a0)) (h6 : a3 = (a0 + 1)) : a3 ≤ 18 := by omega
theorem mp_o3212 {a0 : Int} {a1 : Nat} {a2 : Int} {a3 : Int} {a4 : Int} (h0 : 0 ≤ a0) (h1 : a0 ≤ 20) (h2 : a0 ≤ 18) (h3 : ((-a0) + 18) ≤ ((a1 : Nat) : Int)) (h4 : a0 < 18) (h5 : a2 = (0 + a0)) (h6 : a3 = (18 + a0)) (h7 : a4 = (a0 + 1)) : ((-a4) + 18) ≤ ((((a1 - 1)) : Nat) : Int) := by omega
theorem mp_o3213 {a0 : Int} (h0 : 0 ≤ a0) (h1 : a0 ≤ 60) (h2 : a0 < 60) : (-2147483648) ≤ (0 + a0) := by omega
theorem mp_o3214 {a0 : Int} (h0 : 0 ≤ a0) (h1 : a0 ≤ 60) (h2 : a0 < 60) : (0 + a0) ≤ 2147483647 := by omega
theorem mp_o3215 {a0 : Int} {a1 : Int} (h0 : 0 ≤ a0) (h1 : a0 ≤ 60) (h2 : a0 < 60) (h3 : a1 = (0 + a0)) : (-2147483648) ≤ (60 + a0) := by omega
theorem mp_o3216 {a0 : Int} {a1 : Int} (h0 : 0 ≤ a0) (h1 : a0 ≤ 60) (h2 : a0 < 60) (h3 : a1 = (0 + a0)) : (60 + a0) ≤ 2147483647 := by omega
theorem mp_o3217 {a0 : Int} {a1 : Int} {a2 : Int} (h0 : 0 ≤ a0) (h1 : a0 ≤ 60) (h2 : a0 < 60) (h3 : a1 = (0 + a0)) (h4 : a2 = (60 + a0)) : ((0 ≤ a2 ∧ a2 < ((300 : Nat) : Int))) := by omega
theorem mp_o3218 {a0 : Int} {a1 : Int} {a2 : Int} (h0 : 0 ≤ a0) (h1 : a0 ≤ 60) (h2 : a0 < 60) (h3 : a1 = (0 + a0)) (h4 : a2 = (60 + a0)) : 0 ≤ a2 := by omega
theorem mp_o3219 {a0 : Int} {a1 : Int} {a2 : Int} (h0 : 0 ≤ a0) (h1 : a0 ≤ 60) (h2 : a0 < 60) (h3 : a1 = (0 + a0)) (h4 : a2 = (60 + a0)) : a2 < ((300 : Nat) : Int) := by omega
theorem mp_o3220 {a0 : Int} {a1 : Int} {a2 : Int} (h0 : 0 ≤ a0) (h1 : a0 ≤ 60) (h2 : a0 < 60) (h3 : a1 = (0 + a0)) (h4 : a2 = (60 + a0)) : ((0 ≤ a1 ∧ a1 < ((300 : Nat) : Int))) := by omega
theorem mp_o3221 {a0 : Int} {a1 : Int} {a2 : Int} (h0 : 0 ≤ a0) (h1 : a0 ≤ 60) (h2 : a0 < 60) (h3 : a1 = (0 + a0)) (h4 : a2 = (60 + a0)) : 0 ≤ a1 := by omega
theorem mp_o3222 {a0 : Int} {a1 : Int} {a2 : Int} {a3 : Int} (h0 : a0 = (0 + a1)) (h1 : a2 = (60 + a1)) (h2 : (((a2 % 6) = 0 → (0 ≤ a3 ∧ a3 ≤ 5)))) (h3 : (((a2 % 6) = 1 → (0 ≤ a3 ∧ a3 ≤ 5)))) (h4 : (((a2 % 6) = 3 → (0 ≤ a3 ∧ a3 ≤ 99)))) (h5 : (((a2 % 6) = 4 → (0 ≤ a3 ∧ a3 ≤ 1)))) : ((a0 % ((6 : Nat) : Int)) = ((0 : Nat) : Int)) → ((0 ≤ a3 ∧ a3 ≤ 5)) := by omega
theorem mp_o3223 {a0 : Int} {a1 : Int} {a2 : Int} {a3 : Int} (h0 : a0 = (0 + a1)) (h1 : a2 = (60 + a1)) (h2 : (((a2 % 6) = 1 → (0 ≤ a3 ∧ a3 ≤ 5)))) (h3 : (((a2 % 6) = 3 → (0 ≤ a3 ∧ a3 ≤ 99)))) (h4 : (((a2 % 6) = 4 → (0 ≤ a3 ∧ a3 ≤ 1)))) : ((a0 % ((6 : Nat) : Int)) = ((1 : Nat) : Int)) → ((0 ≤ a3 ∧ a3 ≤ 5)) := by omega
theorem mp_o3224 {a0 : Int} {a1 : Int} {a2 : Int} {a3 : Int} (h0 : a0 = (0 + a1)) (h1 : a2 = (60 + a1)) (h2 : (((a2 % 6) = 3 → (0 ≤ a3 ∧ a3 ≤ 99)))) (h3 : (((a2 % 6) = 4 → (0 ≤ a3 ∧ a3 ≤ 1)))) : ((a0 % ((6 : Nat) : Int)) = ((3 : Nat) : Int)) → ((0 ≤ a3 ∧ a3 ≤ 99)) := by omega
theorem mp_o3225 {a0 : Int} {a1 : Int} {a2 : Int} {a3 : Int} (h0 : a0 = (0 + a1)) (h1 : a2 = (60 + a1)) (h2 : (((a2 % 6) = 4 → (0 ≤ a3 ∧ a3 ≤ 1)))) : ((a0 % ((6 : Nat) : Int)) = ((4 : Nat) : Int)) → ((0 ≤ a3 ∧ a3 ≤ 1)) := by omega
theorem mp_o3226 {a0 : Int} {a1 : Int} {a2 : Int} (h0 : 0 ≤ a0) (h1 : a0 ≤ 60) (h2 : a0 < 60) (h3 : a1 = (0 + a0)) (h4 : a2 = (60 + a0)) : (-2147483648) ≤ (a0 + 1) := by omega
theorem mp_o3227 {a0 : Int} {a1 : Int} {a2 : Int} (h0 : 0 ≤ a0) (h1 : a0 ≤ 60) (h2 : a0 < 60) (h3 : a1 = (0 + a0)) (h4 : a2 = (60 + a0)) : (a0 + 1) ≤ 2147483647 := by omega
theorem mp_o3228 {a0 : Int} {a1 : Nat} {a2 : Int} {a3 : Int} {a4 : Int} (h0 : 0 ≤ a0) (h1 : a0 ≤ 60) (h2 : ((-a0) + 60) ≤ ((a1 : Nat) : Int)) (h3 : a0 < 60) (h4 : a2 = (0 + a0)) (h5 : a3 = (60 + a0)) (h6 : a4 = (a0 + 1)) : (a1 - 1) < a1 := by omega
theorem mp_o3229 {a0 : Int} {a1 : Int} {a2 : Int} {a3 : Int} (h0 : 0 ≤ a0) (h1 : a0 ≤ 60) (h2 : a0 < 60) (h3 : a1 = (0 + a0)) (h4 : a2 = (60 + a0)) (h5 : a3 = (a0 + 1)) : 0 ≤ a3 := by omega
theorem mp_o3230 {a0 : Int} {a1 : Int} {a2 : Int} {a3 : Int} (h0 : 0 ≤ a0) (h1 : a0 ≤ 60) (h2 : a0 < 60) (h3 : a1 = (0 + a0)) (h4 : a2 = (60 + a0)) (h5 : a3 = (a0 + 1)) : a3 ≤ 60 := by omega
theorem mp_o3231 {a0 : Int} {a1 : Int} {a2 : Int} {a3 : Int} (h0 : 0 ≤ a0) (h1 : a0 ≤ 60) (h2 : a0 < 60) (h3 : a1 = (0 + a0)) (h4 : a2 = (60 + a0)) (h5 : a3 = (a0 + 1)) : a1 = (((0 : Nat) : Int) + (((Int.toNat a0) : Nat) : Int)) := by omega
theorem mp_o3232 {a0 : Int} {a1 : Int} {a2 : Int} {a3 : Int} (h0 : 0 ≤ a0) (h1 : a0 ≤ 60) (h2 : a0 < 60) (h3 : a1 = (0 + a0)) (h4 : a2 = (60 + a0)) (h5 : a3 = (a0 + 1)) : a2 = (((60 : Nat) : Int) + (((Int.toNat a0) : Nat) : Int)) := by omega
theorem mp_o3233 : (((60 + 60) ≤ 0 ∨ (0 + 60) ≤ 60)) := by omega
theorem mp_o3234 {a0 : Int} {a1 : Int} {a2 : Int} {a3 : Int} (h0 : 0 ≤ a0) (h1 : a0 ≤ 60) (h2 : a0 < 60) (h3 : a1 = (0 + a0)) (h4 : a2 = (60 + a0)) (h5 : a3 = (a0 + 1)) : (Int.toNat a0) < 60 := by omega
theorem mp_o3235 {a0 : Int} {a1 : Int} {a2 : Int} {a3 : Int} (h0 : 0 ≤ a0) (h1 : a0 ≤ 60) (h2 : a0 < 60) (h3 : a1 = (0 + a0)) (h4 : a2 = (60 + a0)) (h5 : a3 = (a0 + 1)) : (Int.toNat a3) = ((Int.toNat a0) + 1) := by omega
theorem mp_o3236 {a0 : Int} {a1 : Nat} {a2 : Int} {a3 : Int} {a4 : Int} (h0 : 0 ≤ a0) (h1 : a0 ≤ 60) (h2 : ((-a0) + 60) ≤ ((a1 : Nat) : Int)) (h3 : a0 < 60) (h4 : a2 = (0 + a0)) (h5 : a3 = (60 + a0)) (h6 : a4 = (a0 + 1)) : ((-a4) + 60) ≤ ((((a1 - 1)) : Nat) : Int) := by omega
theorem mp_o3237 {a0 : Int} {a1 : Int} {a2 : Int} (h0 : 0 ≤ a0) (h1 : a0 ≤ 60) (h2 : a0 < 60) (h3 : a1 = (0 + a0)) (h4 : a2 = (60 + a0)) : a2 < 300 := by omega
theorem mp_o3238 {a0 : Int} {a1 : Int} (h0 : 0 ≤ a0) (h1 : a0 ≤ 600) (h2 : a0 < 600) (h3 : a1 = (0 + a0)) : (-2147483648) ≤ (600 + a0) := by omega
theorem mp_o3239 {a0 : Int} {a1 : Int} (h0 : 0 ≤ a0) (h1 : a0 ≤ 600) (h2 : a0 < 600) (h3 : a1 = (0 + a0)) : (600 + a0) ≤ 2147483647 := by omega
theorem mp_o3240 {a0 : Int} {a1 : Int} {a2 : Int} (h0 : 0 ≤ a0) (h1 : a0 ≤ 600) (h2 : a0 < 600) (h3 : a1 = (0 + a0)) (h4 : a2 = (600 + a0)) : ((0 ≤ a2 ∧ a2 < ((3000 : Nat) : Int))) := by omega
theorem mp_o3241 {a0 : Int} {a1 : Int} {a2 : Int} (h0 : 0 ≤ a0) (h1 : a0 ≤ 600) (h2 : a0 < 600) (h3 : a1 = (0 + a0)) (h4 : a2 = (600 + a0)) : 0 ≤ a2 := by omega
theorem mp_o3242 {a0 : Int} {a1 : Int} {a2 : Int} (h0 : 0 ≤ a0) (h1 : a0 ≤ 600) (h2 : a0 < 600) (h3 : a1 = (0 + a0)) (h4 : a2 = (600 + a0)) : a2 < ((3000 : Nat) : Int) := by omega
theorem mp_o3243 {a0 : Int} {a1 : Int} {a2 : Int} (h0 : 0 ≤ a0) (h1 : a0 ≤ 600) (h2 : a0 < 600) (h3 : a1 = (0 + a0)) (h4 : a2 = (600 + a0)) : ((0 ≤ a1 ∧ a1 < ((3000 : Nat) : Int))) := by omega
theorem mp_o3244 {a0 : Int} {a1 : Int} {a2 : Int} (h0 : 0 ≤ a0) (h1 : a0 ≤ 600) (h2 : a0 < 600) (h3 : a1 = (0 + a0)) (h4 : a2 = (600 + a0)) : (-2147483648) ≤ (a0 + 1) := by omega
theorem mp_o3245 {a0 : Int} {a1 : Int} {a2 : Int} (h0 : 0 ≤ a0) (h1 : a0 ≤ 600) (h2 : a0 < 600) (h3 : a1 = (0 + a0)) (h4 : a2 = (600 + a0)) : (a0 + 1) ≤ 2147483647 := by omega
theorem mp_o3246 {a0 : Int} {a1 : Nat} {a2 : Int} {a3 : Int} {a4 : Int} (h0 : 0 ≤ a0) (h1 : a0 ≤ 600) (h2 : ((-a0) + 600) ≤ ((a1 : Nat) : Int)) (h3 : a0 < 600) (h4 : a2 = (0 + a0)) (h5 : a3 = (600 + a0)) (h6 : a4 = (a0 + 1)) : (a1 - 1) < a1 := by omega
theorem mp_o3247 {a0 : Int} {a1 : Int} {a2 : Int} {a3 : Int} (h0 : 0 ≤ a0) (h1 : a0 ≤ 600) (h2 : a0 < 600) (h3 : a1 = (0 + a0)) (h4 : a2 = (600 + a0)) (h5 : a3 = (a0 + 1)) : 0 ≤ a3 := by omega
theorem mp_o3248 {a0 : Int} {a1 : Int} {a2 : Int} {a3 : Int} (h0 : 0 ≤ a0) (h1 : a0 ≤ 600) (h2 : a0 < 600) (h3 : a1 = (0 + a0)) (h4 : a2 = (600 + a0)) (h5 : a3 = (a0 + 1)) : a3 ≤ 600 := by omega
theorem mp_o3249 {a0 : Int} {a1 : Int} {a2 : Int} {a3 : Int} (h0 : 0 ≤ a0) (h1 : a0 ≤ 600) (h2 : a0 < 600) (h3 : a1 = (0 + a0)) (h4 : a2 = (600 + a0)) (h5 : a3 = (a0 + 1)) : a1 = (((0 : Nat) : Int) + (((Int.toNat a0) : Nat) : Int)) := by omega
theorem mp_o3250 {a0 : Int} {a1 : Int} {a2 : Int} {a3 : Int} (h0 : 0 ≤ a0) (h1 : a0 ≤ 600) (h2 : a0 < 600) (h3 : a1 = (0 + a0)) (h4 : a2 = (600 + a0)) (h5 : a3 = (a0 + 1)) : a2 = (((600 : Nat) : Int) + (((Int.toNat a0) : Nat) : Int)) := by omega
theorem mp_o3251 : (((600 + 600) ≤ 0 ∨ (0 + 600) ≤ 600)) := by omega
theorem mp_o3252 {a0 : Int} {a1 : Int} {a2 : Int} {a3 : Int} (h0 : 0 ≤ a0) (h1 : a0 ≤ 600) (h2 : a0 < 600) (h3 : a1 = (0 + a0)) (h4 : a2 = (600 + a0)) (h5 : a3 = (a0 + 1)) : (Int.toNat a0) < 600 := by omega
theorem mp_o3253 {a0 : Int} {a1 : Int} {a2 : Int} {a3 : Int} (h0 : 0 ≤ a0) (h1 : a0 ≤ 600) (h2 : a0 < 600) (h3 : a1 = (0 + a0)) (h4 : a2 = (600 + a0)) (h5 : a3 = (a0 + 1)) : (Int.toNat a3) = ((Int.toNat a0) + 1) := by omega
theorem mp_o3254 {a0 : Int} {a1 : Nat} {a2 : Int} {a3 : Int} {a4 : Int} (h0 : 0 ≤ a0) (h1 : a0 ≤ 600) (h2 : ((-a0) + 600) ≤ ((a1 : Nat) : Int)) (h3 : a0 < 600) (h4 : a2 = (0 + a0)) (h5 : a3 = (600 + a0)) (h6 : a4 = (a0 + 1)) : ((-a4) + 600) ≤ ((((a1 - 1)) : Nat) : Int) := by omega
theorem mp_o3255 : (((2 + 1) ≤ 0 ∨ (0 + 1) ≤ 2)) := by omega
theorem mp_o3256 {a0 : Int} {a1 : Int} (h0 : 0 ≤ a0) (h1 : a0 ≤ 5) (h2 : a0 < 5) (h3 : a1 = (0 + a0)) : (-2147483648) ≤ (10 + a0) := by omega
theorem mp_o3257 {a0 : Int} {a1 : Int} (h0 : 0 ≤ a0) (h1 : a0 ≤ 5) (h2 : a0 < 5) (h3 : a1 = (0 + a0)) : (10 + a0) ≤ 2147483647 := by omega
theorem mp_o3258 {a0 : Int} {a1 : Int} {a2 : Int} (h0 : 0 ≤ a0) (h1 : a0 ≤ 5) (h2 : a0 < 5) (h3 : a1 = (0 + a0)) (h4 : a2 = (10 + a0)) : ((0 ≤ a2 ∧ a2 < ((25 : Nat) : Int))) := by omega
theorem mp_o3259 {a0 : Int} {a1 : Int} {a2 : Int} (h0 : 0 ≤ a0) (h1 : a0 ≤ 5) (h2 : a0 < 5) (h3 : a1 = (0 + a0)) (h4 : a2 = (10 + a0)) : 0 ≤ a2 := by omega
theorem mp_o3260 {a0 : Int} {a1 : Int} {a2 : Int} (h0 : 0 ≤ a0) (h1 : a0 ≤ 5) (h2 : a0 < 5) (h3 : a1 = (0 + a0)) (h4 : a2 = (10 + a0)) : a2 < ((25 : Nat) : Int) := by omega
theorem mp_o3261 {a0 : Int} {a1 : Int} {a2 : Int} (h0 : 0 ≤ a0) (h1 : a0 ≤ 5) (h2 : a0 < 5) (h3 : a1 = (0 + a0)) (h4 : a2 = (10 + a0)) : ((0 ≤ a1 ∧ a1 < ((25 : Nat) : Int))) := by omega
theorem mp_o3262 {a0 : Int} {a1 : Int} {a2 : Int} (h0 : 0 ≤ a0) (h1 : a0 ≤ 5) (h2 : a0 < 5) (h3 : a1 = (0 + a0)) (h4 : a2 = (10 + a0)) : 0 ≤ a1 := by omega
theorem mp_o3263 {a0 : Int} {a1 : Int} {a2 : Int} {a3 : Int} (h0 : 0 ≤ a0) (h1 : a0 ≤ 5) (h2 : a0 < 5) (h3 : a1 = (0 + a0)) (h4 : a2 = (10 + a0)) (h5 : (((a2 % 5) = 0 → (0 ≤ a3 ∧ a3 ≤ 6)))) (h6 : (((a2 % 5) = 1 → (0 ≤ a3 ∧ a3 ≤ 99)))) (h7 : (((a2 % 5) = 2 → (0 ≤ a3 ∧ a3 ≤ 6)))) (h8 : (((a2 % 5) = 3 → (0 ≤ a3 ∧ a3 ≤ 10)))) (h9 : (((a2 % 5) = 4 → (0 ≤ a3 ∧ a3 ≤ 60)))) : ((a1 % ((5 : Nat) : Int)) = ((0 : Nat) : Int)) → ((0 ≤ a3 ∧ a3 ≤ 6)) := by omega
theorem mp_o3264 {a0 : Int} {a1 : Int} {a2 : Int} {a3 : Int} (h0 : 0 ≤ a0) (h1 : a0 ≤ 5) (h2 : a0 < 5) (h3 : a1 = (0 + a0)) (h4 : a2 = (10 + a0)) (h5 : (((a2 % 5) = 1 → (0 ≤ a3 ∧ a3 ≤ 99)))) (h6 : (((a2 % 5) = 2 → (0 ≤ a3 ∧ a3 ≤ 6)))) (h7 : (((a2 % 5) = 3 → (0 ≤ a3 ∧ a3 ≤ 10)))) (h8 : (((a2 % 5) = 4 → (0 ≤ a3 ∧ a3 ≤ 60)))) : ((a1 % ((5 : Nat) : Int)) = ((1 : Nat) : Int)) → ((0 ≤ a3 ∧ a3 ≤ 99)) := by omega
theorem mp_o3265 {a0 : Int} {a1 : Int} {a2 : Int} {a3 : Int} (h0 : 0 ≤ a0) (h1 : a0 ≤ 5) (h2 : a0 < 5) (h3 : a1 = (0 + a0)) (h4 : a2 = (10 + a0)) (h5 : (((a2 % 5) = 2 → (0 ≤ a3 ∧ a3 ≤ 6)))) (h6 : (((a2 % 5) = 3 → (0 ≤ a3 ∧ a3 ≤ 10)))) (h7 : (((a2 % 5) = 4 → (0 ≤ a3 ∧ a3 ≤ 60)))) : ((a1 % ((5 : Nat) : Int)) = ((2 : Nat) : Int)) → ((0 ≤ a3 ∧ a3 ≤ 6)) := by omega
theorem mp_o3266 {a0 : Int} {a1 : Int} {a2 : Int} {a3 : Int} (h0 : 0 ≤ a0) (h1 : a0 ≤ 5) (h2 : a0 < 5) (h3 : a1 = (0 + a0)) (h4 : a2 = (10 + a0)) (h5 : (((a2 % 5) = 3 → (0 ≤ a3 ∧ a3 ≤ 10)))) (h6 : (((a2 % 5) = 4 → (0 ≤ a3 ∧ a3 ≤ 60)))) : ((a1 % ((5 : Nat) : Int)) = ((3 : Nat) : Int)) → ((0 ≤ a3 ∧ a3 ≤ 10)) := by omega
theorem mp_o3267 {a0 : Int} {a1 : Int} {a2 : Int} {a3 : Int} (h0 : 0 ≤ a0) (h1 : a0 ≤ 5) (h2 : a0 < 5) (h3 : a1 = (0 + a0)) (h4 : a2 = (10 + a0)) (h5 : (((a2 % 5) = 4 → (0 ≤ a3 ∧ a3 ≤ 60)))) : ((a1 % ((5 : Nat) : Int)) = ((4 : Nat) : Int)) → ((0 ≤ a3 ∧ a3 ≤ 60)) := by omega
theorem mp_o3268 {a0 : Int} {a1 : Int} {a2 : Int} (h0 : 0 ≤ a0) (h1 : a0 ≤ 5) (h2 : a0 < 5) (h3 : a1 = (0 + a0)) (h4 : a2 = (10 + a0)) : (-2147483648) ≤ (a0 + 1) := by omega
theorem mp_o3269 {a0 : Int} {a1 : Int} {a2 : Int} (h0 : 0 ≤ a0) (h1 : a0 ≤ 5) (h2 : a0 < 5) (h3 : a1 = (0 + a0)) (h4 : a2 = (10 + a0)) : (a0 + 1) ≤ 2147483647 := by omega
theorem mp_o3270 {a0 : Int} {a1 : Nat} {a2 : Int} {a3 : Int} {a4 : Int} (h0 : 0 ≤ a0) (h1 : a0 ≤ 5) (h2 : ((-a0) + 5) ≤ ((a1 : Nat) : Int)) (h3 : a0 < 5) (h4 : a2 = (0 + a0)) (h5 : a3 = (10 + a0)) (h6 : a4 = (a0 + 1)) : (a1 - 1) < a1 := by omega
theorem mp_o3271 {a0 : Int} {a1 : Int} {a2 : Int} {a3 : Int} (h0 : 0 ≤ a0) (h1 : a0 ≤ 5) (h2 : a0 < 5) (h3 : a1 = (0 + a0)) (h4 : a2 = (10 + a0)) (h5 : a3 = (a0 + 1)) : 0 ≤ a3 := by omega
theorem mp_o3272 {a0 : Int} {a1 : Int} {a2 : Int} {a3 : Int} (h0 : 0 ≤ a0) (h1 : a0 ≤ 5) (h2 : a0 < 5) (h3 : a1 = (0 + a0)) (h4 : a2 = (10 + a0)) (h5 : a3 = (a0 + 1)) : a3 ≤ 5 := by omega
theorem mp_o3273 {a0 : Int} {a1 : Int} {a2 : Int} {a3 : Int} (h0 : 0 ≤ a0) (h1 : a0 ≤ 5) (h2 : a0 < 5) (h3 : a1 = (0 + a0)) (h4 : a2 = (10 + a0)) (h5 : a3 = (a0 + 1)) : a1 = (((0 : Nat) : Int) + (((Int.toNat a0) : Nat) : Int)) := by omega
theorem mp_o3274 {a0 : Int} {a1 : Int} {a2 : Int} {a3 : Int} (h0 : 0 ≤ a0) (h1 : a0 ≤ 5) (h2 : a0 < 5) (h3 : a1 = (0 + a0)) (h4 : a2 = (10 + a0)) (h5 : a3 = (a0 + 1)) : a2 = (((10 : Nat) : Int) + (((Int.toNat a0) : Nat) : Int)) := by omega
theorem mp_o3275 : (((10 + 5) ≤ 0 ∨ (0 + 5) ≤ 10)) := by omega
theorem mp_o3276 {a0 : Int} {a1 : Int} {a2 : Int} {a3 : Int} (h0 : 0 ≤ a0) (h1 : a0 ≤ 5) (h2 : a0 < 5) (h3 : a1 = (0 + a0)) (h4 : a2 = (10 + a0)) (h5 : a3 = (a0 + 1)) : (Int.toNat a0) < 5 := by omega
theorem mp_o3277 {a0 : Int} {a1 : Int} {a2 : Int} {a3 : Int} (h0 : 0 ≤ a0) (h1 : a0 ≤ 5) (h2 : a0 < 5) (h3 : a1 = (0 + a0)) (h4 : a2 = (10 + a0)) (h5 : a3 = (a0 + 1)) : (Int.toNat a3) = ((Int.toNat a0) + 1) := by omega
theorem mp_o3278 {a0 : Int} {a1 : Nat} {a2 : Int} {a3 : Int} {a4 : Int} (h0 : 0 ≤ a0) (h1 : a0 ≤ 5) (h2 : ((-a0) + 5) ≤ ((a1 : Nat) : Int)) (h3 : a0 < 5) (h4 : a2 = (0 + a0)) (h5 : a3 = (10 + a0)) (h6 : a4 = (a0 + 1)) : ((-a4) + 5) ≤ ((((a1 - 1)) : Nat) : Int) := by omega
theorem mp_o3279 {a0 : Int} {a1 : Int} (h0 : 0 ≤ a0) (h1 : a0 ≤ 36) (h2 : a0 < 36) (h3 : a1 = (0 + a0)) : (-2147483648) ≤ (72 + a0) := by omega
theorem mp_o3280 {a0 : Int} {a1 : Int} (h0 : 0 ≤ a0) (h1 : a0 ≤ 36) (h2 : a0 < 36) (h3 : a1 = (0 + a0)) : (72 + a0) ≤ 2147483647 := by omega
theorem mp_o3281 {a0 : Int} {a1 : Int} {a2 : Int} (h0 : 0 ≤ a0) (h1 : a0 ≤ 36) (h2 : a0 < 36) (h3 : a1 = (0 + a0)) (h4 : a2 = (72 + a0)) : ((0 ≤ a2 ∧ a2 < ((180 : Nat) : Int))) := by omega
theorem mp_o3282 {a0 : Int} {a1 : Int} {a2 : Int} (h0 : 0 ≤ a0) (h1 : a0 ≤ 36) (h2 : a0 < 36) (h3 : a1 = (0 + a0)) (h4 : a2 = (72 + a0)) : 0 ≤ a2 := by omega
theorem mp_o3283 {a0 : Int} {a1 : Int} {a2 : Int} (h0 : 0 ≤ a0) (h1 : a0 ≤ 36) (h2 : a0 < 36) (h3 : a1 = (0 + a0)) (h4 : a2 = (72 + a0)) : a2 < ((180 : Nat) : Int) := by omega
theorem mp_o3284 {a0 : Int} {a1 : Int} {a2 : Int} (h0 : 0 ≤ a0) (h1 : a0 ≤ 36) (h2 : a0 < 36) (h3 : a1 = (0 + a0)) (h4 : a2 = (72 + a0)) : ((0 ≤ a1 ∧ a1 < ((180 : Nat) : Int))) := by omega
theorem mp_o3285 {a0 : Int} {a1 : Int} {a2 : Int} (h0 : 0 ≤ a0) (h1 : a0 ≤ 36) (h2 : a0 < 36) (h3 : a1 = (0 + a0)) (h4 : a2 = (72 + a0)) : (-2147483648) ≤ (a0 + 1) := by omega
theorem mp_o3286 {a0 : Int} {a1 : Int} {a2 : Int} (h0 : 0 ≤ a0) (h1 : a0 ≤ 36) (h2 : a0 < 36) (h3 : a1 = (0 + a0)) (h4 : a2 = (72 + a0)) : (a0 + 1) ≤ 2147483647 := by omega
theorem mp_o3287 {a0 : Int} {a1 : Nat} {a2 : Int} {a3 : Int} {a4 : Int} (h0 : 0 ≤ a0) (h1 : a0 ≤ 36) (h2 : ((-a0) + 36) ≤ ((a1 : Nat) : Int)) (h3 : a0 < 36) (h4 : a2 = (0 + a0)) (h5 : a3 = (72 + a0)) (h6 : a4 = (a0 + 1)) : (a1 - 1) < a1 := by omega
theorem mp_o3288 {a0 : Int} {a1 : Int} {a2 : Int} {a3 : Int} (h0 : 0 ≤ a0) (h1 : a0 ≤ 36) (h2 : a0 < 36) (h3 : a1 = (0 + a0)) (h4 : a2 = (72 + a0)) (h5 : a3 = (a0 + 1)) : 0 ≤ a3 := by omega
theorem mp_o3289 {a0 : Int} {a1 : Int} {a2 : Int} {a3 : Int} (h0 : 0 ≤ a0) (h1 : a0 ≤ 36) (h2 : a0 < 36) (h3 : a1 = (0 + a0)) (h4 : a2 = (72 + a0)) (h5 : a3 = (a0 + 1)) : a3 ≤ 36 := by omega
theorem mp_o3290 {a0 : Int} {a1 : Int} {a2 : Int} {a3 : Int} (h0 : 0 ≤ a0) (h1 : a0 ≤ 36) (h2 : a0 < 36) (h3 : a1 = (0 + a0)) (h4 : a2 = (72 + a0)) (h5 : a3 = (a0 + 1)) : a1 = (((0 : Nat) : Int) + (((Int.toNat a0) : Nat) : Int)) := by omega
theorem mp_o3291 {a0 : Int} {a1 : Int} {a2 : Int} {a3 : Int} (h0 : 0 ≤ a0) (h1 : a0 ≤ 36) (h2 : a0 < 36) (h3 : a1 = (0 + a0)) (h4 : a2 = (72 + a0)) (h5 : a3 = (a0 + 1)) : a2 = (((72 : Nat) : Int) + (((Int.toNat a0) : Nat) : Int)) := by omega
theorem mp_o3292 : (((72 + 36) ≤ 0 ∨ (0 + 36) ≤ 72)) := by omega
theorem mp_o3293 {a0 : Int} {a1 : Int} {a2 : Int} {a3 : Int} (h0 : 0 ≤ a0) (h1 : a0 ≤ 36) (h2 : a0 < 36) (h3 : a1 = (0 + a0)) (h4 : a2 = (72 + a0)) (h5 : a3 = (a0 + 1)) : (Int.toNat a0) < 36 := by omega
theorem mp_o3294 {a0 : Int} {a1 : Int} {a2 : Int} {a3 : Int} (h0 : 0 ≤ a0) (h1 : a0 ≤ 36) (h2 : a0 < 36) (h3 : a1 = (0 + a0)) (h4 : a2 = (72 + a0)) (h5 : a3 = (a0 + 1)) : (Int.toNat a3) = ((Int.toNat a0) + 1) := by omega
theorem mp_o3295 {a0 : Int} {a1 : Nat} {a2 : Int} {a3 : Int} {a4 : Int} (h0 : 0 ≤ a0) (h1 : a0 ≤ 36) (h2 : ((-a0) + 36) ≤ ((a1 : Nat) : Int)) (h3 : a0 < 36) (h4 : a2 = (0 + a0)) (h5 : a3 = (72 + a0)) (h6 : a4 = (a0 + 1)) : ((-a4) + 36) ≤ ((((a1 - 1)) : Nat) : Int) := by omega
theorem mp_o3296 {a0 : Int} {a1 : Int} (h0 : 0 ≤ a0) (h1 : a0 ≤ 20) (h2 : a0 ≤ 18) (h3 : a0 < 18) (h4 : a1 = (0 + a0)) : (-2147483648) ≤ (36 + a0) := by omega
theorem mp_o3297 {a0 : Int} {a1 : Int} (h0 : 0 ≤ a0) (h1 : a0 ≤ 20) (h2 : a0 ≤ 18) (h3 : a0 < 18) (h4 : a1 = (0 + a0)) : (36 + a0) ≤ 2147483647 := by omega
theorem mp_o3298 {a0 : Int} {a1 : Int} {a2 : Int} (h0 : 0 ≤ a0) (h1 : a0 ≤ 20) (h2 : a0 ≤ 18) (h3 : a0 < 18) (h4 : a1 = (0 + a0)) (h5 : a2 = (36 + a0)) : ((0 ≤ a2 ∧ a2 < ((90 : Nat) : Int))) := by omega
theorem mp_o3299 {a0 : Int} {a1 : Int} {a2 : Int} (h0 : 0 ≤ a0) (h1 : a0 ≤ 20) (h2 : a0 ≤ 18) (h3 : a0 < 18) (h4 : a1 = (0 + a0)) (h5 : a2 = (36 + a0)) : 0 ≤ a2 := by omega
theorem mp_o3300 {a0 : Int} {a1 : Int} {a2 : Int} (h0 : 0 ≤ a0) (h1 : a0 ≤ 20) (h2 : a0 ≤ 18) (h3 : a0 < 18) (h4 : a1 = (0 + a0)) (h5 : a2 = (36 + a0)) : a2 < ((90 : Nat) : Int) := by omega
theorem mp_o3301 {a0 : Int} {a1 : Int} {a2 : Int} (h0 : 0 ≤ a0) (h1 : a0 ≤ 20) (h2 : a0 ≤ 18) (h3 : a0 < 18) (h4 : a1 = (0 + a0)) (h5 : a2 = (36 + a0)) : ((0 ≤ a1 ∧ a1 < ((90 : Nat) : Int))) := by omega
theorem mp_o3302 {a0 : Int} {a1 : Int} {a2 : Int} (h0 : 0 ≤ a0) (h1 : a0 ≤ 20) (h2 : a0 ≤ 18) (h3 : a0 < 18) (h4 : a1 = (0 + a0)) (h5 : a2 = (36 + a0)) : 0 ≤ a1 := by omega
theorem mp_o3303 {a0 : Int} {a1 : Int} {a2 : Int} {a3 : Int} (h0 : a0 = (0 + a1)) (h1 : a2 = (36 + a1)) (h2 : (((a2 % 3) = 0 → (0 ≤ a3 ∧ a3 ≤ 5)))) (h3 : (((a2 % 3) = 1 → ((-1) ≤ a3 ∧ a3 ≤ 99)))) : ((a0 % ((3 : Nat) : Int)) = ((0 : Nat) : Int)) → ((0 ≤ a3 ∧ a3 ≤ 5)) := by omega
theorem mp_o3304 {a0 : Int} {a1 : Int} {a2 : Int} {a3 : Int} (h0 : a0 = (0 + a1)) (h1 : a2 = (36 + a1)) (h2 : (((a2 % 3) = 1 → ((-1) ≤ a3 ∧ a3 ≤ 99)))) : ((a0 % ((3 : Nat) : Int)) = ((1 : Nat) : Int)) → (((-1) ≤ a3 ∧ a3 ≤ 99)) := by omega
theorem mp_o3305 {a0 : Int} {a1 : Int} {a2 : Int} (h0 : 0 ≤ a0) (h1 : a0 ≤ 20) (h2 : a0 ≤ 18) (h3 : a0 < 18) (h4 : a1 = (0 + a0)) (h5 : a2 = (36 + a0)) : (-2147483648) ≤ (a0 + 1) := by omega
theorem mp_o3306 {a0 : Int} {a1 : Int} {a2 : Int} (h0 : 0 ≤ a0) (h1 : a0 ≤ 20) (h2 : a0 ≤ 18) (h3 : a0 < 18) (h4 : a1 = (0 + a0)) (h5 : a2 = (36 + a0)) : (a0 + 1) ≤ 2147483647 := by omega
theorem mp_o3307 {a0 : Int} {a1 : Nat} {a2 : Int} {a3 : Int} {a4 : Int} (h0 : 0 ≤ a0) (h1 : a0 ≤ 20) (h2 : a0 ≤ 18) (h3 : ((-a0) + 18) ≤ ((a1 : Nat) : Int)) (h4 : a0 < 18) (h5 : a2 = (0 + a0)) (h6 : a3 = (36 + a0)) (h7 : a4 = (a0 + 1)) : (a1 - 1) < a1 := by omega
theorem mp_o3308 {a0 : Int} {a1 : Int} {a2 : Int} {a3 : Int} (h0 : 0 ≤ a0) (h1 : a0 ≤ 20) (h2 : a0 ≤ 18) (h3 : a0 < 18) (h4 : a1 = (0 + a0)) (h5 : a2 = (36 + a0)) (h6 : a3 = (a0 + 1)) : 0 ≤ a3 := by omega
theorem mp_o3309 {a0 : Int} {a1 : Int} {a2 : Int} {a3 : Int} (h0 : 0 ≤ a0) (h1 : a0 ≤ 20) (h2 : a0 ≤ 18) (h3 : a0 < 18) (h4 : a1 = (0 + a0)) (h5 : a2 = (36 + a0)) (h6 : a3 = (a0 + 1)) : a3 ≤ 20 := by omega
theorem mp_o3310 {a0 : Int} {a1 : Int} {a2 : Int} {a3 : Int} (h0 : 0 ≤ a0) (h1 : a0 ≤ 20) (h2 : a0 ≤ 18) (h3 : a0 < 18) (h4 : a1 = (0 + a0)) (h5 : a2 = (36 + a0)) (h6 : a3 = (a0 + 1)) : a1 = (((0 : Nat) : Int) + (((Int.toNat a0) : Nat) : Int)) := by omega
theorem mp_o3311 {a0 : Int} {a1 : Int} {a2 : Int} {a3 : Int} (h0 : 0 ≤ a0) (h1 : a0 ≤ 20) (h2 : a0 ≤ 18) (h3 : a0 < 18) (h4 : a1 = (0 + a0)) (h5 : a2 = (36 + a0)) (h6 : a3 = (a0 + 1)) : a2 = (((36 : Nat) : Int) + (((Int.toNat a0) : Nat) : Int)) := by omega
theorem mp_o3312 : (((36 + 18) ≤ 0 ∨ (0 + 18) ≤ 36)) := by omega
theorem mp_o3313 {a0 : Int} {a1 : Int} {a2 : Int} {a3 : Int} (h0 : 0 ≤ a0) (h1 : a0 ≤ 20) (h2 : a0 ≤ 18) (h3 : a0 < 18) (h4 : a1 = (0 + a0)) (h5 : a2 = (36 + a0)) (h6 : a3 = (a0 + 1)) : (Int.toNat a0) < 18 := by omega
theorem mp_o3314 {a0 : Int} {a1 : Int} {a2 : Int} {a3 : Int} (h0 : 0 ≤ a0) (h1 : a0 ≤ 20) (h2 : a0 ≤ 18) (h3 : a0 < 18) (h4 : a1 = (0 + a0)) (h5 : a2 = (36 + a0)) (h6 : a3 = (a0 + 1)) : (Int.toNat a3) = ((Int.toNat a0) + 1) := by omega
theorem mp_o3315 {a0 : Int} {a1 : Int} {a2 : Int} {a3 : Int} (h0 : 0 ≤ a0) (h1 : a0 ≤ 20) (h2 : a0 ≤ 18) (h3 : a0 < 18) (h4 : a1 = (0 + a0)) (h5 : a2 = (36 + a0)) (h6 : a3 = (a0 + 1)) : a3 ≤ 18 := by omega
theorem mp_o3316 {a0 : Int} {a1 : Nat} {a2 : Int} {a3 : Int} {a4 : Int} (h0 : 0 ≤ a0) (h1 : a0 ≤ 20) (h2 : a0 ≤ 18) (h3 : ((-a0) + 18) ≤ ((a1 : Nat) : Int)) (h4 : a0 < 18) (h5 : a2 = (0 + a0)) (h6 : a3 = (36 + a0)) (h7 : a4 = (a0 + 1)) : ((-a4) + 18) ≤ ((((a1 - 1)) : Nat) : Int) := by omega
theorem mp_o3317 {a0 : Int} {a1 : Int} (h0 : 0 ≤ a0) (h1 : a0 ≤ 60) (h2 : a0 < 60) (h3 : a1 = (0 + a0)) : (-2147483648) ≤ (120 + a0) := by omega
theorem mp_o3318 {a0 : Int} {a1 : Int} (h0 : 0 ≤ a0) (h1 : a0 ≤ 60) (h2 : a0 < 60) (h3 : a1 = (0 + a0)) : (120 + a0) ≤ 2147483647 := by omega
theorem mp_o3319 {a0 : Int} {a1 : Int} {a2 : Int} (h0 : 0 ≤ a0) (h1 : a0 ≤ 60) (h2 : a0 < 60) (h3 : a1 = (0 + a0)) (h4 : a2 = (120 + a0)) : ((0 ≤ a2 ∧ a2 < ((300 : Nat) : Int))) := by omega
theorem mp_o3320 {a0 : Int} {a1 : Int} {a2 : Int} (h0 : 0 ≤ a0) (h1 : a0 ≤ 60) (h2 : a0 < 60) (h3 : a1 = (0 + a0)) (h4 : a2 = (120 + a0)) : 0 ≤ a2 := by omega
theorem mp_o3321 {a0 : Int} {a1 : Int} {a2 : Int} (h0 : 0 ≤ a0) (h1 : a0 ≤ 60) (h2 : a0 < 60) (h3 : a1 = (0 + a0)) (h4 : a2 = (120 + a0)) : a2 < ((300 : Nat) : Int) := by omega
theorem mp_o3322 {a0 : Int} {a1 : Int} {a2 : Int} (h0 : 0 ≤ a0) (h1 : a0 ≤ 60) (h2 : a0 < 60) (h3 : a1 = (0 + a0)) (h4 : a2 = (120 + a0)) : ((0 ≤ a1 ∧ a1 < ((300 : Nat) : Int))) := by omega
theorem mp_o3323 {a0 : Int} {a1 : Int} {a2 : Int} (h0 : 0 ≤ a0) (h1 : a0 ≤ 60) (h2 : a0 < 60) (h3 : a1 = (0 + a0)) (h4 : a2 = (120 + a0)) : 0 ≤ a1 := by omega
theorem mp_o3324 {a0 : Int} {a1 : Int} {a2 : Int} {a3 : Int} (h0 : a0 = (0 + a1)) (h1 : a2 = (120 + a1)) (h2 : (((a2 % 6) = 0 → (0 ≤ a3 ∧ a3 ≤ 5)))) (h3 : (((a2 % 6) = 1 → (0 ≤ a3 ∧ a3 ≤ 5)))) (h4 : (((a2 % 6) = 3 → (0 ≤ a3 ∧ a3 ≤ 99)))) (h5 : (((a2 % 6) = 4 → (0 ≤ a3 ∧ a3 ≤ 1)))) : ((a0 % ((6 : Nat) : Int)) = ((0 : Nat) : Int)) → ((0 ≤ a3 ∧ a3 ≤ 5)) := by omega
theorem mp_o3325 {a0 : Int} {a1 : Int} {a2 : Int} {a3 : Int} (h0 : a0 = (0 + a1)) (h1 : a2 = (120 + a1)) (h2 : (((a2 % 6) = 1 → (0 ≤ a3 ∧ a3 ≤ 5)))) (h3 : (((a2 % 6) = 3 → (0 ≤ a3 ∧ a3 ≤ 99)))) (h4 : (((a2 % 6) = 4 → (0 ≤ a3 ∧ a3 ≤ 1)))) : ((a0 % ((6 : Nat) : Int)) = ((1 : Nat) : Int)) → ((0 ≤ a3 ∧ a3 ≤ 5)) := by omega
theorem mp_o3326 {a0 : Int} {a1 : Int} {a2 : Int} {a3 : Int} (h0 : a0 = (0 + a1)) (h1 : a2 = (120 + a1)) (h2 : (((a2 % 6) = 3 → (0 ≤ a3 ∧ a3 ≤ 99)))) (h3 : (((a2 % 6) = 4 → (0 ≤ a3 ∧ a3 ≤ 1)))) : ((a0 % ((6 : Nat) : Int)) = ((3 : Nat) : Int)) → ((0 ≤ a3 ∧ a3 ≤ 99)) := by omega
theorem mp_o3327 {a0 : Int} {a1 : Int} {a2 : Int} {a3 : Int} (h0 : a0 = (0 + a1)) (h1 : a2 = (120 + a1)) (h2 : (((a2 % 6) = 4 → (0 ≤ a3 ∧ a3 ≤ 1)))) : ((a0 % ((6 : Nat) : Int)) = ((4 : Nat) : Int)) → ((0 ≤ a3 ∧ a3 ≤ 1)) := by omega
theorem mp_o3328 {a0 : Int} {a1 : Int} {a2 : Int} (h0 : 0 ≤ a0) (h1 : a0 ≤ 60) (h2 : a0 < 60) (h3 : a1 = (0 + a0)) (h4 : a2 = (120 + a0)) : (-2147483648) ≤ (a0 + 1) := by omega
theorem mp_o3329 {a0 : Int} {a1 : Int} {a2 : Int} (h0 : 0 ≤ a0) (h1 : a0 ≤ 60) (h2 : a0 < 60) (h3 : a1 = (0 + a0)) (h4 : a2 = (120 + a0)) : (a0 + 1) ≤ 2147483647 := by omega
theorem mp_o3330 {a0 : Int} {a1 : Nat} {a2 : Int} {a3 : Int} {a4 : Int} (h0 : 0 ≤ a0) (h1 : a0 ≤ 60) (h2 : ((-a0) + 60) ≤ ((a1 : Nat) : Int)) (h3 : a0 < 60) (h4 : a2 = (0 + a0)) (h5 : a3 = (120 + a0)) (h6 : a4 = (a0 + 1)) : (a1 - 1) < a1 := by omega
theorem mp_o3331 {a0 : Int} {a1 : Int} {a2 : Int} {a3 : Int} (h0 : 0 ≤ a0) (h1 : a0 ≤ 60) (h2 : a0 < 60) (h3 : a1 = (0 + a0)) (h4 : a2 = (120 + a0)) (h5 : a3 = (a0 + 1)) : 0 ≤ a3 := by omega
theorem mp_o3332 {a0 : Int} {a1 : Int} {a2 : Int} {a3 : Int} (h0 : 0 ≤ a0) (h1 : a0 ≤ 60) (h2 : a0 < 60) (h3 : a1 = (0 + a0)) (h4 : a2 = (120 + a0)) (h5 : a3 = (a0 + 1)) : a3 ≤ 60 := by omega
theorem mp_o3333 {a0 : Int} {a1 : Int} {a2 : Int} {a3 : Int} (h0 : 0 ≤ a0) (h1 : a0 ≤ 60) (h2 : a0 < 60) (h3 : a1 = (0 + a0)) (h4 : a2 = (120 + a0)) (h5 : a3 = (a0 + 1)) : a1 = (((0 : Nat) : Int) + (((Int.toNat a0) : Nat) : Int)) := by omega
theorem mp_o3334 {a0 : Int} {a1 : Int} {a2 : Int} {a3 : Int} (h0 : 0 ≤ a0) (h1 : a0 ≤ 60) (h2 : a0 < 60) (h3 : a1 = (0 + a0)) (h4 : a2 = (120 + a0)) (h5 : a3 = (a0 + 1)) : a2 = (((120 : Nat) : Int) + (((Int.toNat a0) : Nat) : Int)) := by omega
theorem mp_o3335 : (((120 + 60) ≤ 0 ∨ (0 + 60) ≤ 120)) := by omega
theorem mp_o3336 {a0 : Int} {a1 : Int} {a2 : Int} {a3 : Int} (h0 : 0 ≤ a0) (h1 : a0 ≤ 60) (h2 : a0 < 60) (h3 : a1 = (0 + a0)) (h4 : a2 = (120 + a0)) (h5 : a3 = (a0 + 1)) : (Int.toNat a0) < 60 := by omega
theorem mp_o3337 {a0 : Int} {a1 : Int} {a2 : Int} {a3 : Int} (h0 : 0 ≤ a0) (h1 : a0 ≤ 60) (h2 : a0 < 60) (h3 : a1 = (0 + a0)) (h4 : a2 = (120 + a0)) (h5 : a3 = (a0 + 1)) : (Int.toNat a3) = ((Int.toNat a0) + 1) := by omega
theorem mp_o3338 {a0 : Int} {a1 : Nat} {a2 : Int} {a3 : Int} {a4 : Int} (h0 : 0 ≤ a0) (h1 : a0 ≤ 60) (h2 : ((-a0) + 60) ≤ ((a1 : Nat) : Int)) (h3 : a0 < 60) (h4 : a2 = (0 + a0)) (h5 : a3 = (120 + a0)) (h6 : a4 = (a0 + 1)) : ((-a4) + 60) ≤ ((((a1 - 1)) : Nat) : Int) := by omega
theorem mp_o3339 {a0 : Int} {a1 : Int} {a2 : Int} (h0 : 0 ≤ a0) (h1 : a0 ≤ 60) (h2 : a0 < 60) (h3 : a1 = (0 + a0)) (h4 : a2 = (120 + a0)) : a2 < 300 := by omega
theorem mp_o3340 {a0 : Int} {a1 : Int} (h0 : 0 ≤ a0) (h1 : a0 ≤ 600) (h2 : a0 < 600) (h3 : a1 = (0 + a0)) : (-2147483648) ≤ (1200 + a0) := by omega
theorem mp_o3341 {a0 : Int} {a1 : Int} (h0 : 0 ≤ a0) (h1 : a0 ≤ 600) (h2 : a0 < 600) (h3 : a1 = (0 + a0)) : (1200 + a0) ≤ 2147483647 := by omega
theorem mp_o3342 {a0 : Int} {a1 : Int} {a2 : Int} (h0 : 0 ≤ a0) (h1 : a0 ≤ 600) (h2 : a0 < 600) (h3 : a1 = (0 + a0)) (h4 : a2 = (1200 + a0)) : ((0 ≤ a2 ∧ a2 < ((3000 : Nat) : Int))) := by omega
theorem mp_o3343 {a0 : Int} {a1 : Int} {a2 : Int} (h0 : 0 ≤ a0) (h1 : a0 ≤ 600) (h2 : a0 < 600) (h3 : a1 = (0 + a0)) (h4 : a2 = (1200 + a0)) : 0 ≤ a2 := by omega
theorem mp_o3344 {a0 : Int} {a1 : Int} {a2 : Int} (h0 : 0 ≤ a0) (h1 : a0 ≤ 600) (h2 : a0 < 600) (h3 : a1 = (0 + a0)) (h4 : a2 = (1200 + a0)) : a2 < ((3000 : Nat) : Int) := by omega
theorem mp_o3345 {a0 : Int} {a1 : Int} {a2 : Int} (h0 : 0 ≤ a0) (h1 : a0 ≤ 600) (h2 : a0 < 600) (h3 : a1 = (0 + a0)) (h4 : a2 = (1200 + a0)) : ((0 ≤ a1 ∧ a1 < ((3000 : Nat) : Int))) := by omega
theorem mp_o3346 {a0 : Int} {a1 : Int} {a2 : Int} (h0 : 0 ≤ a0) (h1 : a0 ≤ 600) (h2 : a0 < 600) (h3 : a1 = (0 + a0)) (h4 : a2 = (1200 + a0)) : (-2147483648) ≤ (a0 + 1) := by omega
theorem mp_o3347 {a0 : Int} {a1 : Int} {a2 : Int} (h0 : 0 ≤ a0) (h1 : a0 ≤ 600) (h2 : a0 < 600) (h3 : a1 = (0 + a0)) (h4 : a2 = (1200 + a0)) : (a0 + 1) ≤ 2147483647 := by omega
theorem mp_o3348 {a0 : Int} {a1 : Nat} {a2 : Int} {a3 : Int} {a4 : Int} (h0 : 0 ≤ a0) (h1 : a0 ≤ 600) (h2 : ((-a0) + 600) ≤ ((a1 : Nat) : Int)) (h3 : a0 < 600) (h4 : a2 = (0 + a0)) (h5 : a3 = (1200 + a0)) (h6 : a4 = (a0 + 1)) : (a1 - 1) < a1 := by omega
theorem mp_o3349 {a0 : Int} {a1 : Int} {a2 : Int} {a3 : Int} (h0 : 0 ≤ a0) (h1 : a0 ≤ 600) (h2 : a0 < 600) (h3 : a1 = (0 + a0)) (h4 : a2 = (1200 + a0)) (h5 : a3 = (a0 + 1)) : 0 ≤ a3 := by omega
theorem mp_o3350 {a0 : Int} {a1 : Int} {a2 : Int} {a3 : Int} (h0 : 0 ≤ a0) (h1 : a0 ≤ 600) (h2 : a0 < 600) (h3 : a1 = (0 + a0)) (h4 : a2 = (1200 + a0)) (h5 : a3 = (a0 + 1)) : a3 ≤ 600 := by omega
theorem mp_o3351 {a0 : Int} {a1 : Int} {a2 : Int} {a3 : Int} (h0 : 0 ≤ a0) (h1 : a0 ≤ 600) (h2 : a0 < 600) (h3 : a1 = (0 + a0)) (h4 : a2 = (1200 + a0)) (h5 : a3 = (a0 + 1)) : a1 = (((0 : Nat) : Int) + (((Int.toNat a0) : Nat) : Int)) := by omega
theorem mp_o3352 {a0 : Int} {a1 : Int} {a2 : Int} {a3 : Int} (h0 : 0 ≤ a0) (h1 : a0 ≤ 600) (h2 : a0 < 600) (h3 : a1 = (0 + a0)) (h4 : a2 = (1200 + a0)) (h5 : a3 = (a0 + 1)) : a2 = (((1200 : Nat) : Int) + (((Int.toNat a0) : Nat) : Int)) := by omega
theorem mp_o3353 : (((1200 + 600) ≤ 0 ∨ (0 + 600) ≤ 1200)) := by omega
theorem mp_o3354 {a0 : Int} {a1 : Int} {a2 : Int} {a3 : Int} (h0 : 0 ≤ a0) (h1 : a0 ≤ 600) (h2 : a0 < 600) (h3 : a1 = (0 + a0)) (h4 : a2 = (1200 + a0)) (h5 : a3 = (a0 + 1)) : (Int.toNat a0) < 600 := by omega
theorem mp_o3355 {a0 : Int} {a1 : Int} {a2 : Int} {a3 : Int} (h0 : 0 ≤ a0) (h1 : a0 ≤ 600) (h2 : a0 < 600) (h3 : a1 = (0 + a0)) (h4 : a2 = (1200 + a0)) (h5 : a3 = (a0 + 1)) : (Int.toNat a3) = ((Int.toNat a0) + 1) := by omega
theorem mp_o3356 {a0 : Int} {a1 : Nat} {a2 : Int} {a3 : Int} {a4 : Int} (h0 : 0 ≤ a0) (h1 : a0 ≤ 600) (h2 : ((-a0) + 600) ≤ ((a1 : Nat) : Int)) (h3 : a0 < 600) (h4 : a2 = (0 + a0)) (h5 : a3 = (1200 + a0)) (h6 : a4 = (a0 + 1)) : ((-a4) + 600) ≤ ((((a1 - 1)) : Nat) : Int) := by omega
theorem mp_o3357 : (((3 + 1) ≤ 0 ∨ (0 + 1) ≤ 3)) := by omega
theorem mp_o3358 {a0 : Int} {a1 : Int} (h0 : 0 ≤ a0) (h1 : a0 ≤ 5) (h2 : a0 < 5) (h3 : a1 = (0 + a0)) : (-2147483648) ≤ (15 + a0) := by omega
theorem mp_o3359 {a0 : Int} {a1 : Int} (h0 : 0 ≤ a0) (h1 : a0 ≤ 5) (h2 : a0 < 5) (h3 : a1 = (0 + a0)) : (15 + a0) ≤ 2147483647 := by omega
theorem mp_o3360 {a0 : Int} {a1 : Int} {a2 : Int} (h0 : 0 ≤ a0) (h1 : a0 ≤ 5) (h2 : a0 < 5) (h3 : a1 = (0 + a0)) (h4 : a2 = (15 + a0)) : ((0 ≤ a2 ∧ a2 < ((25 : Nat) : Int))) := by omega
theorem mp_o3361 {a0 : Int} {a1 : Int} {a2 : Int} (h0 : 0 ≤ a0) (h1 : a0 ≤ 5) (h2 : a0 < 5) (h3 : a1 = (0 + a0)) (h4 : a2 = (15 + a0)) : 0 ≤ a2 := by omega
theorem mp_o3362 {a0 : Int} {a1 : Int} {a2 : Int} (h0 : 0 ≤ a0) (h1 : a0 ≤ 5) (h2 : a0 < 5) (h3 : a1 = (0 + a0)) (h4 : a2 = (15 + a0)) : a2 < ((25 : Nat) : Int) := by omega
theorem mp_o3363 {a0 : Int} {a1 : Int} {a2 : Int} (h0 : 0 ≤ a0) (h1 : a0 ≤ 5) (h2 : a0 < 5) (h3 : a1 = (0 + a0)) (h4 : a2 = (15 + a0)) : ((0 ≤ a1 ∧ a1 < ((25 : Nat) : Int))) := by omega
theorem mp_o3364 {a0 : Int} {a1 : Int} {a2 : Int} (h0 : 0 ≤ a0) (h1 : a0 ≤ 5) (h2 : a0 < 5) (h3 : a1 = (0 + a0)) (h4 : a2 = (15 + a0)) : 0 ≤ a1 := by omega
theorem mp_o3365 {a0 : Int} {a1 : Int} {a2 : Int} {a3 : Int} (h0 : 0 ≤ a0) (h1 : a0 ≤ 5) (h2 : a0 < 5) (h3 : a1 = (0 + a0)) (h4 : a2 = (15 + a0)) (h5 : (((a2 % 5) = 0 → (0 ≤ a3 ∧ a3 ≤ 6)))) (h6 : (((a2 % 5) = 1 → (0 ≤ a3 ∧ a3 ≤ 99)))) (h7 : (((a2 % 5) = 2 → (0 ≤ a3 ∧ a3 ≤ 6)))) (h8 : (((a2 % 5) = 3 → (0 ≤ a3 ∧ a3 ≤ 10)))) (h9 : (((a2 % 5) = 4 → (0 ≤ a3 ∧ a3 ≤ 60)))) : ((a1 % ((5 : Nat) : Int)) = ((0 : Nat) : Int)) → ((0 ≤ a3 ∧ a3 ≤ 6)) := by omega
theorem mp_o3366 {a0 : Int} {a1 : Int} {a2 : Int} {a3 : Int} (h0 : 0 ≤ a0) (h1 : a0 ≤ 5) (h2 : a0 < 5) (h3 : a1 = (0 + a0)) (h4 : a2 = (15 + a0)) (h5 : (((a2 % 5) = 1 → (0 ≤ a3 ∧ a3 ≤ 99)))) (h6 : (((a2 % 5) = 2 → (0 ≤ a3 ∧ a3 ≤ 6)))) (h7 : (((a2 % 5) = 3 → (0 ≤ a3 ∧ a3 ≤ 10)))) (h8 : (((a2 % 5) = 4 → (0 ≤ a3 ∧ a3 ≤ 60)))) : ((a1 % ((5 : Nat) : Int)) = ((1 : Nat) : Int)) → ((0 ≤ a3 ∧ a3 ≤ 99)) := by omega
theorem mp_o3367 {a0 : Int} {a1 : Int} {a2 : Int} {a3 : Int} (h0 : 0 ≤ a0) (h1 : a0 ≤ 5) (h2 : a0 < 5) (h3 : a1 = (0 + a0)) (h4 : a2 = (15 + a0)) (h5 : (((a2 % 5) = 2 → (0 ≤ a3 ∧ a3 ≤ 6)))) (h6 : (((a2 % 5) = 3 → (0 ≤ a3 ∧ a3 ≤ 10)))) (h7 : (((a2 % 5) = 4 → (0 ≤ a3 ∧ a3 ≤ 60)))) : ((a1 % ((5 : Nat) : Int)) = ((2 : Nat) : Int)) → ((0 ≤ a3 ∧ a3 ≤ 6)) := by omega
theorem mp_o3368 {a0 : Int} {a1 : Int} {a2 : Int} {a3 : Int} (h0 : 0 ≤ a0) (h1 : a0 ≤ 5) (h2 : a0 < 5) (h3 : a1 = (0 + a0)) (h4 : a2 = (15 + a0)) (h5 : (((a2 % 5) = 3 → (0 ≤ a3 ∧ a3 ≤ 10)))) (h6 : (((a2 % 5) = 4 → (0 ≤ a3 ∧ a3 ≤ 60)))) : ((a1 % ((5 : Nat) : Int)) = ((3 : Nat) : Int)) → ((0 ≤ a3 ∧ a3 ≤ 10)) := by omega
theorem mp_o3369 {a0 : Int} {a1 : Int} {a2 : Int} {a3 : Int} (h0 : 0 ≤ a0) (h1 : a0 ≤ 5) (h2 : a0 < 5) (h3 : a1 = (0 + a0)) (h4 : a2 = (15 + a0)) (h5 : (((a2 % 5) = 4 → (0 ≤ a3 ∧ a3 ≤ 60)))) : ((a1 % ((5 : Nat) : Int)) = ((4 : Nat) : Int)) → ((0 ≤ a3 ∧ a3 ≤ 60)) := by omega
theorem mp_o3370 {a0 : Int} {a1 : Int} {a2 : Int} (h0 : 0 ≤ a0) (h1 : a0 ≤ 5) (h2 : a0 < 5) (h3 : a1 = (0 + a0)) (h4 : a2 = (15 + a0)) : (-2147483648) ≤ (a0 + 1) := by omega
theorem mp_o3371 {a0 : Int} {a1 : Int} {a2 : Int} (h0 : 0 ≤ a0) (h1 : a0 ≤ 5) (h2 : a0 < 5) (h3 : a1 = (0 + a0)) (h4 : a2 = (15 + a0)) : (a0 + 1) ≤ 2147483647 := by omega
theorem mp_o3372 {a0 : Int} {a1 : Nat} {a2 : Int} {a3 : Int} {a4 : Int} (h0 : 0 ≤ a0) (h1 : a0 ≤ 5) (h2 : ((-a0) + 5) ≤ ((a1 : Nat) : Int)) (h3 : a0 < 5) (h4 : a2 = (0 + a0)) (h5 : a3 = (15 + a0)) (h6 : a4 = (a0 + 1)) : (a1 - 1) < a1 := by omega
theorem mp_o3373 {a0 : Int} {a1 : Int} {a2 : Int} {a3 : Int} (h0 : 0 ≤ a0) (h1 : a0 ≤ 5) (h2 : a0 < 5) (h3 : a1 = (0 + a0)) (h4 : a2 = (15 + a0)) (h5 : a3 = (a0 + 1)) : 0 ≤ a3 := by omega
theorem mp_o3374 {a0 : Int} {a1 : Int} {a2 : Int} {a3 : Int} (h0 : 0 ≤ a0) (h1 : a0 ≤ 5) (h2 : a0 < 5) (h3 : a1 = (0 + a0)) (h4 : a2 = (15 + a0)) (h5 : a3 = (a0 + 1)) : a3 ≤ 5 := by omega
theorem mp_o3375 {a0 : Int} {a1 : Int} {a2 : Int} {a3 : Int} (h0 : 0 ≤ a0) (h1 : a0 ≤ 5) (h2 : a0 < 5) (h3 : a1 = (0 + a0)) (h4 : a2 = (15 + a0)) (h5 : a3 = (a0 + 1)) : a1 = (((0 : Nat) : Int) + (((Int.toNat a0) : Nat) : Int)) := by omega
theorem mp_o3376 {a0 : Int} {a1 : Int} {a2 : Int} {a3 : Int} (h0 : 0 ≤ a0) (h1 : a0 ≤ 5) (h2 : a0 < 5) (h3 : a1 = (0 + a0)) (h4 : a2 = (15 + a0)) (h5 : a3 = (a0 + 1)) : a2 = (((15 : Nat) : Int) + (((Int.toNat a0) : Nat) : Int)) := by omega
theorem mp_o3377 : (((15 + 5) ≤ 0 ∨ (0 + 5) ≤ 15)) := by omega
theorem mp_o3378 {a0 : Int} {a1 : Int} {a2 : Int} {a3 : Int} (h0 : 0 ≤ a0) (h1 : a0 ≤ 5) (h2 : a0 < 5) (h3 : a1 = (0 + a0)) (h4 : a2 = (15 + a0)) (h5 : a3 = (a0 + 1)) : (Int.toNat a0) < 5 := by omega
theorem mp_o3379 {a0 : Int} {a1 : Int} {a2 : Int} {a3 : Int} (h0 : 0 ≤ a0) (h1 : a0 ≤ 5) (h2 : a0 < 5) (h3 : a1 = (0 + a0)) (h4 : a2 = (15 + a0)) (h5 : a3 = (a0 + 1)) : (Int.toNat a3) = ((Int.toNat a0) + 1) := by omega
theorem mp_o3380 {a0 : Int} {a1 : Nat} {a2 : Int} {a3 : Int} {a4 : Int} (h0 : 0 ≤ a0) (h1 : a0 ≤ 5) (h2 : ((-a0) + 5) ≤ ((a1 : Nat) : Int)) (h3 : a0 < 5) (h4 : a2 = (0 + a0)) (h5 : a3 = (15 + a0)) (h6 : a4 = (a0 + 1)) : ((-a4) + 5) ≤ ((((a1 - 1)) : Nat) : Int) := by omega
theorem mp_o3381 {a0 : Int} {a1 : Int} (h0 : 0 ≤ a0) (h1 : a0 ≤ 36) (h2 : a0 < 36) (h3 : a1 = (0 + a0)) : (-2147483648) ≤ (108 + a0) := by omega
theorem mp_o3382 {a0 : Int} {a1 : Int} (h0 : 0 ≤ a0) (h1 : a0 ≤ 36) (h2 : a0 < 36) (h3 : a1 = (0 + a0)) : (108 + a0) ≤ 2147483647 := by omega
theorem mp_o3383 {a0 : Int} {a1 : Int} {a2 : Int} (h0 : 0 ≤ a0) (h1 : a0 ≤ 36) (h2 : a0 < 36) (h3 : a1 = (0 + a0)) (h4 : a2 = (108 + a0)) : ((0 ≤ a2 ∧ a2 < ((180 : Nat) : Int))) := by omega
theorem mp_o3384 {a0 : Int} {a1 : Int} {a2 : Int} (h0 : 0 ≤ a0) (h1 : a0 ≤ 36) (h2 : a0 < 36) (h3 : a1 = (0 + a0)) (h4 : a2 = (108 + a0)) : 0 ≤ a2 := by omega
theorem mp_o3385 {a0 : Int} {a1 : Int} {a2 : Int} (h0 : 0 ≤ a0) (h1 : a0 ≤ 36) (h2 : a0 < 36) (h3 : a1 = (0 + a0)) (h4 : a2 = (108 + a0)) : a2 < ((180 : Nat) : Int) := by omega
theorem mp_o3386 {a0 : Int} {a1 : Int} {a2 : Int} (h0 : 0 ≤ a0) (h1 : a0 ≤ 36) (h2 : a0 < 36) (h3 : a1 = (0 + a0)) (h4 : a2 = (108 + a0)) : ((0 ≤ a1 ∧ a1 < ((180 : Nat) : Int))) := by omega
theorem mp_o3387 {a0 : Int} {a1 : Int} {a2 : Int} (h0 : 0 ≤ a0) (h1 : a0 ≤ 36) (h2 : a0 < 36) (h3 : a1 = (0 + a0)) (h4 : a2 = (108 + a0)) : (-2147483648) ≤ (a0 + 1) := by omega
theorem mp_o3388 {a0 : Int} {a1 : Int} {a2 : Int} (h0 : 0 ≤ a0) (h1 : a0 ≤ 36) (h2 : a0 < 36) (h3 : a1 = (0 + a0)) (h4 : a2 = (108 + a0)) : (a0 + 1) ≤ 2147483647 := by omega
theorem mp_o3389 {a0 : Int} {a1 : Nat} {a2 : Int} {a3 : Int} {a4 : Int} (h0 : 0 ≤ a0) (h1 : a0 ≤ 36) (h2 : ((-a0) + 36) ≤ ((a1 : Nat) : Int)) (h3 : a0 < 36) (h4 : a2 = (0 + a0)) (h5 : a3 = (108 + a0)) (h6 : a4 = (a0 + 1)) : (a1 - 1) < a1 := by omega
theorem mp_o3390 {a0 : Int} {a1 : Int} {a2 : Int} {a3 : Int} (h0 : 0 ≤ a0) (h1 : a0 ≤ 36) (h2 : a0 < 36) (h3 : a1 = (0 + a0)) (h4 : a2 = (108 + a0)) (h5 : a3 = (a0 + 1)) : 0 ≤ a3 := by omega
theorem mp_o3391 {a0 : Int} {a1 : Int} {a2 : Int} {a3 : Int} (h0 : 0 ≤ a0) (h1 : a0 ≤ 36) (h2 : a0 < 36) (h3 : a1 = (0 + a0)) (h4 : a2 = (108 + a0)) (h5 : a3 = (a0 + 1)) : a3 ≤ 36 := by omega
theorem mp_o3392 {a0 : Int} {a1 : Int} {a2 : Int} {a3 : Int} (h0 : 0 ≤ a0) (h1 : a0 ≤ 36) (h2 : a0 < 36) (h3 : a1 = (0 + a0)) (h4 : a2 = (108 + a0)) (h5 : a3 = (a0 + 1)) : a1 = (((0 : Nat) : Int) + (((Int.toNat a0) : Nat) : Int)) := by omega
theorem mp_o3393 {a0 : Int} {a1 : Int} {a2 : Int} {a3 : Int} (h0 : 0 ≤ a0) (h1 : a0 ≤ 36) (h2 : a0 < 36) (h3 : a1 = (0 + a0)) (h4 : a2 = (108 + a0)) (h5 : a3 = (a0 + 1)) : a2 = (((108 : Nat) : Int) + (((Int.toNat a0) : Nat) : Int)) := by omega
theorem mp_o3394 : (((108 + 36) ≤ 0 ∨ (0 + 36) ≤ 108)) := by omega
theorem mp_o3395 {a0 : Int} {a1 : Int} {a2 : Int} {a3 : Int} (h0 : 0 ≤ a0) (h1 : a0 ≤ 36) (h2 : a0 < 36) (h3 : a1 = (0 + a0)) (h4 : a2 = (108 + a0)) (h5 : a3 = (a0 + 1)) : (Int.toNat a0) < 36 := by omega
theorem mp_o3396 {a0 : Int} {a1 : Int} {a2 : Int} {a3 : Int} (h0 : 0 ≤ a0) (h1 : a0 ≤ 36) (h2 : a0 < 36) (h3 : a1 = (0 + a0)) (h4 : a2 = (108 + a0)) (h5 : a3 = (a0 + 1)) : (Int.toNat a3) = ((Int.toNat a0) + 1) := by omega
theorem mp_o3397 {a0 : Int} {a1 : Nat} {a2 : Int} {a3 : Int} {a4 : Int} (h0 : 0 ≤ a0) (h1 : a0 ≤ 36) (h2 : ((-a0) + 36) ≤ ((a1 : Nat) : Int)) (h3 : a0 < 36) (h4 : a2 = (0 + a0)) (h5 : a3 = (108 + a0)) (h6 : a4 = (a0 + 1)) : ((-a4) + 36) ≤ ((((a1 - 1)) : Nat) : Int) := by omega
theorem mp_o3398 {a0 : Int} {a1 : Int} (h0 : 0 ≤ a0) (h1 : a0 ≤ 20) (h2 : a0 ≤ 18) (h3 : a0 < 18) (h4 : a1 = (0 + a0)) : (-2147483648) ≤ (54 + a0) := by omega
theorem mp_o3399 {a0 : Int} {a1 : Int} (h0 : 0 ≤ a0) (h1 : a0 ≤ 20) (h2 : a0 ≤ 18) (h3 : a0 < 18) (h4 : a1 = (0 + a0)) : (54 + a0) ≤ 2147483647 := by omega
theorem mp_o3400 {a0 : Int} {a1 : Int} {a2 : Int} (h0 : 0 ≤ a0) (h1 : a0 ≤ 20) (h2 : a0 ≤ 18) (h3 : a0 < 18) (h4 : a1 = (0 + a0)) (h5 : a2 = (54 + a0)) : ((0 ≤ a2 ∧ a2 < ((90 : Nat) : Int))) := by omega
theorem mp_o3401 {a0 : Int} {a1 : Int} {a2 : Int} (h0 : 0 ≤ a0) (h1 : a0 ≤ 20) (h2 : a0 ≤ 18) (h3 : a0 < 18) (h4 : a1 = (0 + a0)) (h5 : a2 = (54 + a0)) : 0 ≤ a2 := by omega
theorem mp_o3402 {a0 : Int} {a1 : Int} {a2 : Int} (h0 : 0 ≤ a0) (h1 : a0 ≤ 20) (h2 : a0 ≤ 18) (h3 : a0 < 18) (h4 : a1 = (0 + a0)) (h5 : a2 = (54 + a0)) : a2 < ((90 : Nat) : Int) := by omega
theorem mp_o3403 {a0 : Int} {a1 : Int} {a2 : Int} (h0 : 0 ≤ a0) (h1 : a0 ≤ 20) (h2 : a0 ≤ 18) (h3 : a0 < 18) (h4 : a1 = (0 + a0)) (h5 : a2 = (54 + a0)) : ((0 ≤ a1 ∧ a1 < ((90 : Nat) : Int))) := by omega
theorem mp_o3404 {a0 : Int} {a1 : Int} {a2 : Int} (h0 : 0 ≤ a0) (h1 : a0 ≤ 20) (h2 : a0 ≤ 18) (h3 : a0 < 18) (h4 : a1 = (0 + a0)) (h5 : a2 = (54 + a0)) : 0 ≤ a1 := by omega
theorem mp_o3405 {a0 : Int} {a1 : Int} {a2 : Int} {a3 : Int} (h0 : a0 = (0 + a1)) (h1 : a2 = (54 + a1)) (h2 : (((a2 % 3) = 0 → (0 ≤ a3 ∧ a3 ≤ 5)))) (h3 : (((a2 % 3) = 1 → ((-1) ≤ a3 ∧ a3 ≤ 99)))) : ((a0 % ((3 : Nat) : Int)) = ((0 : Nat) : Int)) → ((0 ≤ a3 ∧ a3 ≤ 5)) := by omega
theorem mp_o3406 {a0 : Int} {a1 : Int} {a2 : Int} {a3 : Int} (h0 : a0 = (0 + a1)) (h1 : a2 = (54 + a1)) (h2 : (((a2 % 3) = 1 → ((-1) ≤ a3 ∧ a3 ≤ 99)))) : ((a0 % ((3 : Nat) : Int)) = ((1 : Nat) : Int)) → (((-1) ≤ a3 ∧ a3 ≤ 99)) := by omega
theorem mp_o3407 {a0 : Int} {a1 : Int} {a2 : Int} (h0 : 0 ≤ a0) (h1 : a0 ≤ 20) (h2 : a0 ≤ 18) (h3 : a0 < 18) (h4 : a1 = (0 + a0)) (h5 : a2 = (54 + a0)) : (-2147483648) ≤ (a0 + 1) := by omega
theorem mp_o3408 {a0 : Int} {a1 : Int} {a2 : Int} (h0 : 0 ≤ a0) (h1 : a0 ≤ 20) (h2 : a0 ≤ 18) (h3 : a0 < 18) (h4 : a1 = (0 + a0)) (h5 : a2 = (54 + a0)) : (a0 + 1) ≤ 2147483647 := by omega
theorem mp_o3409 {a0 : Int} {a1 : Nat} {a2 : Int} {a3 : Int} {a4 : Int} (h0 : 0 ≤ a0) (h1 : a0 ≤ 20) (h2 : a0 ≤ 18) (h3 : ((-a0) + 18) ≤ ((a1 : Nat) : Int)) (h4 : a0 < 18) (h5 : a2 = (0 + a0)) (h6 : a3 = (54 + a0)) (h7 : a4 = (a0 + 1)) : (a1 - 1) < a1 := by omega
theorem mp_o3410 {a0 : Int} {a1 : Int} {a2 : Int} {a3 : Int} (h0 : 0 ≤ a0) (h1 : a0 ≤ 20) (h2 : a0 ≤ 18) (h3 : a0 < 18) (h4 : a1 = (0 + a0)) (h5 : a2 = (54 + a0)) (h6 : a3 = (a0 + 1)) : 0 ≤ a3 := by omega
theorem mp_o3411 {a0 : Int} {a1 : Int} {a2 : Int} {a3 : Int} (h0 : 0 ≤ a0) (h1 : a0 ≤ 20) (h2 : a0 ≤ 18) (h3 : a0 < 18) (h4 : a1 = (0 + a0)) (h5 : a2 = (54 + a0)) (h6 : a3 = (a0 + 1)) : a3 ≤ 20 := by omega
theorem mp_o3412 {a0 : Int} {a1 : Int} {a2 : Int} {a3 : Int} (h0 : 0 ≤ a0) (h1 : a0 ≤ 20) (h2 : a0 ≤ 18) (h3 : a0 < 18) (h4 : a1 = (0 + a0)) (h5 : a2 = (54 + a0)) (h6 : a3 = (a0 + 1)) : a1 = (((0 : Nat) : Int) + (((Int.toNat a0) : Nat) : Int)) := by omega
theorem mp_o3413 {a0 : Int} {a1 : Int} {a2 : Int} {a3 : Int} (h0 : 0 ≤ a0) (h1 : a0 ≤ 20) (h2 : a0 ≤ 18) (h3 : a0 < 18) (h4 : a1 = (0 + a0)) (h5 : a2 = (54 + a0)) (h6 : a3 = (a0 + 1)) : a2 = (((54 : Nat) : Int) + (((Int.toNat a0) : Nat) : Int)) := by omega
theorem mp_o3414 : (((54 + 18) ≤ 0 ∨ (0 + 18) ≤ 54)) := by omega
theorem mp_o3415 {a0 : Int} {a1 : Int} {a2 : Int} {a3 : Int} (h0 : 0 ≤ a0) (h1 : a0 ≤ 20) (h2 : a0 ≤ 18) (h3 : a0 < 18) (h4 : a1 = (0 + a0)) (h5 : a2 = (54 + a0)) (h6 : a3 = (a0 + 1)) : (Int.toNat a0) < 18 := by omega
theorem mp_o3416 {a0 : Int} {a1 : Int} {a2 : Int} {a3 : Int} (h0 : 0 ≤ a0) (h1 : a0 ≤ 20) (h2 : a0 ≤ 18) (h3 : a0 < 18) (h4 : a1 = (0 + a0)) (h5 : a2 = (54 + a0)) (h6 : a3 = (a0 + 1)) : (Int.toNat a3) = ((Int.toNat a0) + 1) := by omega
theorem mp_o3417 {a0 : Int} {a1 : Int} {a2 : Int} {a3 : Int} (h0 : 0 ≤ a0) (h1 : a0 ≤ 20) (h2 : a0 ≤ 18) (h3 : a0 < 18) (h4 : a1 = (0 + a0)) (h5 : a2 = (54 + a0)) (h6 : a3 = (a0 + 1)) : a3 ≤ 18 := by omega
theorem mp_o3418 {a0 : Int} {a1 : Nat} {a2 : Int} {a3 : Int} {a4 : Int} (h0 : 0 ≤ a0) (h1 : a0 ≤ 20) (h2 : a0 ≤ 18) (h3 : ((-a0) + 18) ≤ ((a1 : Nat) : Int)) (h4 : a0 < 18) (h5 : a2 = (0 + a0)) (h6 : a3 = (54 + a0)) (h7 : a4 = (a0 + 1)) : ((-a4) + 18) ≤ ((((a1 - 1)) : Nat) : Int) := by omega
theorem mp_o3419 {a0 : Int} {a1 : Int} (h0 : 0 ≤ a0) (h1 : a0 ≤ 60) (h2 : a0 < 60) (h3 : a1 = (0 + a0)) : (-2147483648) ≤ (180 + a0) := by omega
theorem mp_o3420 {a0 : Int} {a1 : Int} (h0 : 0 ≤ a0) (h1 : a0 ≤ 60) (h2 : a0 < 60) (h3 : a1 = (0 + a0)) : (180 + a0) ≤ 2147483647 := by omega
theorem mp_o3421 {a0 : Int} {a1 : Int} {a2 : Int} (h0 : 0 ≤ a0) (h1 : a0 ≤ 60) (h2 : a0 < 60) (h3 : a1 = (0 + a0)) (h4 : a2 = (180 + a0)) : ((0 ≤ a2 ∧ a2 < ((300 : Nat) : Int))) := by omega
theorem mp_o3422 {a0 : Int} {a1 : Int} {a2 : Int} (h0 : 0 ≤ a0) (h1 : a0 ≤ 60) (h2 : a0 < 60) (h3 : a1 = (0 + a0)) (h4 : a2 = (180 + a0)) : 0 ≤ a2 := by omega
theorem mp_o3423 {a0 : Int} {a1 : Int} {a2 : Int} (h0 : 0 ≤ a0) (h1 : a0 ≤ 60) (h2 : a0 < 60) (h3 : a1 = (0 + a0)) (h4 : a2 = (180 + a0)) : a2 < ((300 : Nat) : Int) := by omega
theorem mp_o3424 {a0 : Int} {a1 : Int} {a2 : Int} (h0 : 0 ≤ a0) (h1 : a0 ≤ 60) (h2 : a0 < 60) (h3 : a1 = (0 + a0)) (h4 : a2 = (180 + a0)) : ((0 ≤ a1 ∧ a1 < ((300 : Nat) : Int))) := by omega
theorem mp_o3425 {a0 : Int} {a1 : Int} {a2 : Int} (h0 : 0 ≤ a0) (h1 : a0 ≤ 60) (h2 : a0 < 60) (h3 : a1 = (0 + a0)) (h4 : a2 = (180 + a0)) : 0 ≤ a1 := by omega
theorem mp_o3426 {a0 : Int} {a1 : Int} {a2 : Int} {a3 : Int} (h0 : a0 = (0 + a1)) (h1 : a2 = (180 + a1)) (h2 : (((a2 % 6) = 0 → (0 ≤ a3 ∧ a3 ≤ 5)))) (h3 : (((a2 % 6) = 1 → (0 ≤ a3 ∧ a3 ≤ 5)))) (h4 : (((a2 % 6) = 3 → (0 ≤ a3 ∧ a3 ≤ 99)))) (h5 : (((a2 % 6) = 4 → (0 ≤ a3 ∧ a3 ≤ 1)))) : ((a0 % ((6 : Nat) : Int)) = ((0 : Nat) : Int)) → ((0 ≤ a3 ∧ a3 ≤ 5)) := by omega
theorem mp_o3427 {a0 : Int} {a1 : Int} {a2 : Int} {a3 : Int} (h0 : a0 = (0 + a1)) (h1 : a2 = (180 + a1)) (h2 : (((a2 % 6) = 1 → (0 ≤ a3 ∧ a3 ≤ 5)))) (h3 : (((a2 % 6) = 3 → (0 ≤ a3 ∧ a3 ≤ 99)))) (h4 : (((a2 % 6) = 4 → (0 ≤ a3 ∧ a3 ≤ 1)))) : ((a0 % ((6 : Nat) : Int)) = ((1 : Nat) : Int)) → ((0 ≤ a3 ∧ a3 ≤ 5)) := by omega
theorem mp_o3428 {a0 : Int} {a1 : Int} {a2 : Int} {a3 : Int} (h0 : a0 = (0 + a1)) (h1 : a2 = (180 + a1)) (h2 : (((a2 % 6) = 3 → (0 ≤ a3 ∧ a3 ≤ 99)))) (h3 : (((a2 % 6) = 4 → (0 ≤ a3 ∧ a3 ≤ 1)))) : ((a0 % ((6 : Nat) : Int)) = ((3 : Nat) : Int)) → ((0 ≤ a3 ∧ a3 ≤ 99)) := by omega
theorem mp_o3429 {a0 : Int} {a1 : Int} {a2 : Int} {a3 : Int} (h0 : a0 = (0 + a1)) (h1 : a2 = (180 + a1)) (h2 : (((a2 % 6) = 4 → (0 ≤ a3 ∧ a3 ≤ 1)))) : ((a0 % ((6 : Nat) : Int)) = ((4 : Nat) : Int)) → ((0 ≤ a3 ∧ a3 ≤ 1)) := by omega
theorem mp_o3430 {a0 : Int} {a1 : Int} {a2 : Int} (h0 : 0 ≤ a0) (h1 : a0 ≤ 60) (h2 : a0 < 60) (h3 : a1 = (0 + a0)) (h4 : a2 = (180 + a0)) : (-2147483648) ≤ (a0 + 1) := by omega
theorem mp_o3431 {a0 : Int} {a1 : Int} {a2 : Int} (h0 : 0 ≤ a0) (h1 : a0 ≤ 60) (h2 : a0 < 60) (h3 : a1 = (0 + a0)) (h4 : a2 = (180 + a0)) : (a0 + 1) ≤ 2147483647 := by omega
theorem mp_o3432 {a0 : Int} {a1 : Nat} {a2 : Int} {a3 : Int} {a4 : Int} (h0 : 0 ≤ a0) (h1 : a0 ≤ 60) (h2 : ((-a0) + 60) ≤ ((a1 : Nat) : Int)) (h3 : a0 < 60) (h4 : a2 = (0 + a0)) (h5 : a3 = (180 + a0)) (h6 : a4 = (a0 + 1)) : (a1 - 1) < a1 := by omega
theorem mp_o3433 {a0 : Int} {a1 : Int} {a2 : Int} {a3 : Int} (h0 : 0 ≤ a0) (h1 : a0 ≤ 60) (h2 : a0 < 60) (h3 : a1 = (0 + a0)) (h4 : a2 = (180 + a0)) (h5 : a3 = (a0 + 1)) : 0 ≤ a3 := by omega
theorem mp_o3434 {a0 : Int} {a1 : Int} {a2 : Int} {a3 : Int} (h0 : 0 ≤ a0) (h1 : a0 ≤ 60) (h2 : a0 < 60) (h3 : a1 = (0 + a0)) (h4 : a2 = (180 + a0)) (h5 : a3 = (a0 + 1)) : a3 ≤ 60 := by omega
theorem mp_o3435 {a0 : Int} {a1 : Int} {a2 : Int} {a3 : Int} (h0 : 0 ≤ a0) (h1 : a0 ≤ 60) (h2 : a0 < 60) (h3 : a1 = (0 + a0)) (h4 : a2 = (180 + a0)) (h5 : a3 = (a0 + 1)) : a1 = (((0 : Nat) : Int) + (((Int.toNat a0) : Nat) : Int)) := by omega
theorem mp_o3436 {a0 : Int} {a1 : Int} {a2 : Int} {a3 : Int} (h0 : 0 ≤ a0) (h1 : a0 ≤ 60) (h2 : a0 < 60) (h3 : a1 = (0 + a0)) (h4 : a2 = (180 + a0)) (h5 : a3 = (a0 + 1)) : a2 = (((180 : Nat) : Int) + (((Int.toNat a0) : Nat) : Int)) := by omega
theorem mp_o3437 : (((180 + 60) ≤ 0 ∨ (0 + 60) ≤ 180)) := by omega
theorem mp_o3438 {a0 : Int} {a1 : Int} {a2 : Int} {a3 : Int} (h0 : 0 ≤ a0) (h1 : a0 ≤ 60) (h2 : a0 < 60) (h3 : a1 = (0 + a0)) (h4 : a2 = (180 + a0)) (h5 : a3 = (a0 + 1)) : (Int.toNat a0) < 60 := by omega
theorem mp_o3439 {a0 : Int} {a1 : Int} {a2 : Int} {a3 : Int} (h0 : 0 ≤ a0) (h1 : a0 ≤ 60) (h2 : a0 < 60) (h3 : a1 = (0 + a0)) (h4 : a2 = (180 + a0)) (h5 : a3 = (a0 + 1)) : (Int.toNat a3) = ((Int.toNat a0) + 1) := by omega
theorem mp_o3440 {a0 : Int} {a1 : Nat} {a2 : Int} {a3 : Int} {a4 : Int} (h0 : 0 ≤ a0) (h1 : a0 ≤ 60) (h2 : ((-a0) + 60) ≤ ((a1 : Nat) : Int)) (h3 : a0 < 60) (h4 : a2 = (0 + a0)) (h5 : a3 = (180 + a0)) (h6 : a4 = (a0 + 1)) : ((-a4) + 60) ≤ ((((a1 - 1)) : Nat) : Int) := by omega
theorem mp_o3441 {a0 : Int} {a1 : Int} {a2 : Int} (h0 : 0 ≤ a0) (h1 : a0 ≤ 60) (h2 : a0 < 60) (h3 : a1 = (0 + a0)) (h4 : a2 = (180 + a0)) : a2 < 300 := by omega
theorem mp_o3442 {a0 : Int} {a1 : Int} (h0 : 0 ≤ a0) (h1 : a0 ≤ 600) (h2 : a0 < 600) (h3 : a1 = (0 + a0)) : (-2147483648) ≤ (1800 + a0) := by omega
theorem mp_o3443 {a0 : Int} {a1 : Int} (h0 : 0 ≤ a0) (h1 : a0 ≤ 600) (h2 : a0 < 600) (h3 : a1 = (0 + a0)) : (1800 + a0) ≤ 2147483647 := by omega
theorem mp_o3444 {a0 : Int} {a1 : Int} {a2 : Int} (h0 : 0 ≤ a0) (h1 : a0 ≤ 600) (h2 : a0 < 600) (h3 : a1 = (0 + a0)) (h4 : a2 = (1800 + a0)) : ((0 ≤ a2 ∧ a2 < ((3000 : Nat) : Int))) := by omega
theorem mp_o3445 {a0 : Int} {a1 : Int} {a2 : Int} (h0 : 0 ≤ a0) (h1 : a0 ≤ 600) (h2 : a0 < 600) (h3 : a1 = (0 + a0)) (h4 : a2 = (1800 + a0)) : 0 ≤ a2 := by omega
theorem mp_o3446 {a0 : Int} {a1 : Int} {a2 : Int} (h0 : 0 ≤ a0) (h1 : a0 ≤ 600) (h2 : a0 < 600) (h3 : a1 = (0 + a0)) (h4 : a2 = (1800 + a0)) : a2 < ((3000 : Nat) : Int) := by omega
theorem mp_o3447 {a0 : Int} {a1 : Int} {a2 : Int} (h0 : 0 ≤ a0) (h1 : a0 ≤ 600) (h2 : a0 < 600) (h3 : a1 = (0 + a0)) (h4 : a2 = (1800 + a0)) : ((0 ≤ a1 ∧ a1 < ((3000 : Nat) : Int))) := by omega
theorem mp_o3448 {a0 : Int} {a1 : Int} {a2 : Int} (h0 : 0 ≤ a0) (h1 : a0 ≤ 600) (h2 : a0 < 600) (h3 : a1 = (0 + a0)) (h4 : a2 = (1800 + a0)) : (-2147483648) ≤ (a0 + 1) := by omega
theorem mp_o3449 {a0 : Int} {a1 : Int} {a2 : Int} (h0 : 0 ≤ a0) (h1 : a0 ≤ 600) (h2 : a0 < 600) (h3 : a1 = (0 + a0)) (h4 : a2 = (1800 + a0)) : (a0 + 1) ≤ 2147483647 := by omega
theorem mp_o3450 {a0 : Int} {a1 : Nat} {a2 : Int} {a3 : Int} {a4 : Int} (h0 : 0 ≤ a0) (h1 : a0 ≤ 600) (h2 : ((-a0) + 600) ≤ ((a1 : Nat) : Int)) (h3 : a0 < 600) (h4 : a2 = (0 + a0)) (h5 : a3 = (1800 + a0)) (h6 : a4 = (a0 + 1)) : (a1 - 1) < a1 := by omega
theorem mp_o3451 {a0 : Int} {a1 : Int} {a2 : Int} {a3 : Int} (h0 : 0 ≤ a0) (h1 : a0 ≤ 600) (h2 : a0 < 600) (h3 : a1 = (0 + a0)) (h4 : a2 = (1800 + a0)) (h5 : a3 = (a0 + 1)) : 0 ≤ a3 := by omega
theorem mp_o3452 {a0 : Int} {a1 : Int} {a2 : Int} {a3 : Int} (h0 : 0 ≤ a0) (h1 : a0 ≤ 600) (h2 : a0 < 600) (h3 : a1 = (0 + a0)) (h4 : a2 = (1800 + a0)) (h5 : a3 = (a0 + 1)) : a3 ≤ 600 := by omega
theorem mp_o3453 {a0 : Int} {a1 : Int} {a2 : Int} {a3 : Int} (h0 : 0 ≤ a0) (h1 : a0 ≤ 600) (h2 : a0 < 600) (h3 : a1 = (0 + a0)) (h4 : a2 = (1800 + a0)) (h5 : a3 = (a0 + 1)) : a1 = (((0 : Nat) : Int) + (((Int.toNat a0) : Nat) : Int)) := by omega
theorem mp_o3454 {a0 : Int} {a1 : Int} {a2 : Int} {a3 : Int} (h0 : 0 ≤ a0) (h1 : a0 ≤ 600) (h2 : a0 < 600) (h3 : a1 = (0 + a0)) (h4 : a2 = (1800 + a0)) (h5 : a3 = (a0 + 1)) : a2 = (((1800 : Nat) : Int) + (((Int.toNat a0) : Nat) : Int)) := by omega
theorem mp_o3455 : (((1800 + 600) ≤ 0 ∨ (0 + 600) ≤ 1800)) := by omega
theorem mp_o3456 {a0 : Int} {a1 : Int} {a2 : Int} {a3 : Int} (h0 : 0 ≤ a0) (h1 : a0 ≤ 600) (h2 : a0 < 600) (h3 : a1 = (0 + a0)) (h4 : a2 = (1800 + a0)) (h5 : a3 = (a0 + 1)) : (Int.toNat a0) < 600 := by omega
theorem mp_o3457 {a0 : Int} {a1 : Int} {a2 : Int} {a3 : Int} (h0 : 0 ≤ a0) (h1 : a0 ≤ 600) (h2 : a0 < 600) (h3 : a1 = (0 + a0)) (h4 : a2 = (1800 + a0)) (h5 : a3 = (a0 + 1)) : (Int.toNat a3) = ((Int.toNat a0) + 1) := by omega
theorem mp_o3458 {a0 : Int} {a1 : Nat} {a2 : Int} {a3 : Int} {a4 : Int} (h0 : 0 ≤ a0) (h1 : a0 ≤ 600) (h2 : ((-a0) + 600) ≤ ((a1 : Nat) : Int)) (h3 : a0 < 600) (h4 : a2 = (0 + a0)) (h5 : a3 = (1800 + a0)) (h6 : a4 = (a0 + 1)) : ((-a4) + 600) ≤ ((((a1 - 1)) : Nat) : Int) := by omega
theorem mp_o3459 {a0 : Int} {a1 : Int} {a2 : Int} (h0 : a0 = 0) (h1 : a1 = a2) (h2 : a1 ≠ 0) : ((0 ≤ a0 ∧ (a0 ≤ 2 ∧ a2 ≠ 0))) := by omega
theorem mp_o3460 {a0 : Int} {a1 : Int} {a2 : Int} (h0 : a0 = 0) (h1 : a1 = a2) (h2 : a1 = 0) : ((0 ≤ a0 ∧ (a0 ≤ 2 ∧ a2 = 0))) := by omega
theorem mp_o3461 {a0 : Int} {a1 : Int} {a2 : Int} (h0 : a0 = 1) (h1 : a1 = a2) (h2 : a1 ≠ 0) : ((0 ≤ a0 ∧ (a0 ≤ 2 ∧ a2 ≠ 0))) := by omega
theorem mp_o3462 {a0 : Int} {a1 : Int} {a2 : Int} (h0 : a0 = 1) (h1 : a1 = a2) (h2 : a1 = 0) : ((0 ≤ a0 ∧ (a0 ≤ 2 ∧ a2 = 0))) := by omega
theorem mp_o3463 {a0 : Int} {a1 : Int} {a2 : Int} (h0 : a0 = 2) (h1 : a1 = a2) (h2 : a1 ≠ 0) : ((0 ≤ a0 ∧ (a0 ≤ 2 ∧ a2 ≠ 0))) := by omega
theorem mp_o3464 {a0 : Int} {a1 : Int} {a2 : Int} (h0 : a0 = 2) (h1 : a1 = a2) (h2 : a1 = 0) : ((0 ≤ a0 ∧ (a0 ≤ 2 ∧ a2 = 0))) := by omega
theorem mp_o3465 {a0 : Nat} (h0 : a0 < 4) : ((a0 = 0 ∨ (a0 = 1 ∨ (a0 = 2 ∨ a0 = 3)))) := by omega
