-- counted: bits of longs, seas, harbours, slots
def mp_ct (P : Nat → Bool) : Nat → Int
  | 0 => 0
  | n + 1 => if P n then mp_ct P n + 1 else mp_ct P n
def mp_pos (f : Nat → Int32) : Nat → Bool := fun j => decide (0 < (f j).toInt)
def mp_non0 (f : Nat → Int32) : Nat → Bool := fun j => decide ((f j).toInt ≠ 0)
def mp_ne1 (f : Nat → Int32) : Nat → Bool := fun j => decide ((f j).toInt ≠ -1)
section MPCN
variable {P Q : Nat → Bool} {f : Nat → Int32} {a b k2 v : Int} {i z : Int32} {n m : Nat}
theorem mp_ct_s : mp_ct P (n + 1) = if P n then mp_ct P n + 1 else mp_ct P n := rfl
theorem mp_ct_cong : ∀ {n : Nat}, (∀ j : Nat, j < n → P j = Q j) → mp_ct P n = mp_ct Q n
  | 0, _ => rfl
  | n + 1, h => by rw [mp_ct_s, mp_ct_s, mp_ct_cong (fun j hj => h j (by omega)), h n (by omega)]
theorem mp_ct_b : ∀ {n : Nat}, 0 ≤ mp_ct P n ∧ mp_ct P n ≤ (n : Int)
  | 0 => ⟨Int.le_refl _, Int.le_refl _⟩
  | n + 1 => by
    have g := mp_ct_b (n := n)
    rw [mp_ct_s]
    by_cases q : P n = true
    · rw [if_pos q]; omega
    · rw [if_neg q]; omega
theorem mp_ct_le {k : Int} (p : a = mp_ct P k.toNat) (h : 0 ≤ k ∧ k ≤ (n : Int)) : 0 ≤ a ∧ a ≤ (n : Int) := by
  have g := mp_ct_b (P := P) (n := k.toNat)
  omega
theorem mp_ct_add : ∀ {n : Nat}, mp_ct P (m + n) = mp_ct P m + mp_ct (fun i => P (m + i)) n
  | 0 => by show mp_ct P m = mp_ct P m + 0; omega
  | n + 1 => by
    show mp_ct P (m + n + 1) = _
    have ih := mp_ct_add (n := n)
    rw [mp_ct_s, mp_ct_s, ih]
    by_cases q : P (m + n) = true
    · rw [if_pos q, if_pos q]; omega
    · rw [if_neg q, if_neg q]
theorem mp_ct_z : mp_ct P ((0 : Int32).toInt).toNat = 0 := rfl
theorem mp_ct_k (p : a = mp_ct P i.toInt.toNat) (h0 : 0 ≤ i.toInt) (hk : k2 = i.toInt + 1) (h : (P i.toInt.toNat = true ∧ b = a + 1) ∨ (P i.toInt.toNat = false ∧ b = a)) : b = mp_ct P k2.toNat := by
  rw [show k2.toNat = i.toInt.toNat + 1 by omega, mp_ct_s]
  rcases h with ⟨h, e⟩ | ⟨h, e⟩
  · rw [if_pos h, e, p]
  · rw [if_neg (by rw [h]; decide), e, p]
theorem mp_pos_t (hz : z = f i.toNatClampNeg) (q : 0 < z.toInt) : mp_pos f i.toInt.toNat = true := decide_eq_true (by rw [hz] at q; exact q)
theorem mp_pos_f (hz : z = f i.toNatClampNeg) (q : z.toInt ≤ 0) : mp_pos f i.toInt.toNat = false := decide_eq_false (by rw [hz] at q; exact Int.not_lt.mpr q)
theorem mp_non0_t (hz : z = f i.toNatClampNeg) (q : z.toInt ≠ 0) : mp_non0 f i.toInt.toNat = true := decide_eq_true (by rw [hz] at q; exact q)
theorem mp_non0_f (hz : z = f i.toNatClampNeg) (q : z.toInt = 0) : mp_non0 f i.toInt.toNat = false := decide_eq_false (by rw [hz] at q; exact fun h => h q)
theorem mp_ne1_t (hz : z = f i.toNatClampNeg) (q : z.toInt ≠ -1) : mp_ne1 f i.toInt.toNat = true := decide_eq_true (by rw [hz] at q; exact q)
theorem mp_ne1_f (hz : z = f i.toNatClampNeg) (q : z.toInt = -1) : mp_ne1 f i.toInt.toNat = false := decide_eq_false (by rw [hz] at q; exact fun h => h q)
theorem mp_ne1_a (q : (f i.toInt.toNat).toInt ≠ -1) : mp_ne1 f i.toInt.toNat = true := decide_eq_true q
theorem mp_ne1_b (q : (f i.toInt.toNat).toInt = -1) : mp_ne1 f i.toInt.toNat = false := decide_eq_false (fun h => h q)
theorem mp_ct_end {n2 : Nat} (p : a = mp_ct P i.toInt.toNat) (h : i.toInt = (n2 : Int)) : a = mp_ct P n2 := by
  rw [p, show i.toInt.toNat = n2 by omega]
end MPCN
-- a byte's bits, as the machine counts them
def mp_mk (c : Nat) : Nat → Nat
  | 0 => 0
  | n + 1 => 256 * mp_mk c n + c
def mp_ps1 (m x : Nat) : Nat := x - ((x / 2) &&& m)
def mp_ps2 (m x : Nat) : Nat := (x &&& m) + ((x / 4) &&& m)
def mp_ps3 (m x : Nat) : Nat := (x + x / 16) &&& m
def mp_pb (b : Nat) : Nat := mp_ps3 15 (mp_ps2 51 (mp_ps1 85 b))
theorem mp_by1 : ∀ r : Fin 2, ∀ t : Fin 128, (128 * r.1 + t.1) &&& 85 = t.1 &&& 85 := by decide +kernel
theorem mp_by2 : ∀ r : Fin 4, ∀ t : Fin 64, (64 * r.1 + t.1) &&& 51 = t.1 &&& 51 := by decide +kernel
theorem mp_by3 : ∀ r : Fin 5, ∀ t : Fin 69, (16 * r.1 + t.1 + t.1 / 16) &&& 15 = (t.1 + t.1 / 16) &&& 15 := by decide +kernel
theorem mp_by4 : ∀ b : Fin 256, mp_ps2 51 (mp_ps1 85 b.1) ≤ 68 ∧ mp_ps2 51 (mp_ps1 85 b.1) % 16 ≤ 4 ∧ mp_ps1 85 b.1 < 256 := by decide +kernel
theorem mp_by5 : ∀ b : Fin 256, mp_pb b.1 ≤ 8 ∧ (mp_pb b.1 : Int) = mp_ct (fun i => b.1.testBit i) 8 := by decide +kernel
theorem mp_landx {q m b d : Nat} (hb : b < 256) (hd : d < 256) : (256 * q + b) &&& (256 * m + d) = 256 * (q &&& m) + (b &&& d) := by
  apply Nat.eq_of_testBit_eq
  intro j
  have e : ∀ a r : Nat, r < 256 → (256 * a + r).testBit j = if j < 8 then r.testBit j else a.testBit (j - 8) := fun a r hr => Nat.testBit_two_pow_mul_add a (i := 8) hr j
  have hl : b &&& d < 256 := Nat.lt_of_le_of_lt Nat.and_le_left hb
  rw [Nat.testBit_and, e q b hb, e m d hd, e (q &&& m) (b &&& d) hl, Nat.testBit_and, Nat.testBit_and]
  by_cases c : j < 8
  · rw [if_pos c, if_pos c, if_pos c]
  · rw [if_neg c, if_neg c, if_neg c]
section MPCB
variable {x n q b : Nat}
theorem mp_ps1_s : mp_ps1 (mp_mk 85 (n + 1)) x = 256 * mp_ps1 (mp_mk 85 n) (x / 256) + mp_ps1 85 (x % 256) := by
  have e1 : x / 2 = 256 * (x / 256 / 2) + (128 * (x / 256 % 2) + x % 256 / 2) := by omega
  have e2 : (128 * (x / 256 % 2) + x % 256 / 2) &&& 85 = (x % 256 / 2) &&& 85 := mp_by1 ⟨x / 256 % 2, by omega⟩ ⟨x % 256 / 2, by omega⟩
  have e3 : (x / 2) &&& mp_mk 85 (n + 1) = 256 * ((x / 256 / 2) &&& mp_mk 85 n) + ((x % 256 / 2) &&& 85) := by
    rw [e1]
    show _ &&& (256 * mp_mk 85 n + 85) = _
    rw [mp_landx (by omega) (by omega), e2]
  have l1 : (x / 256 / 2) &&& mp_mk 85 n ≤ x / 256 / 2 := Nat.and_le_left
  have l2 : (x % 256 / 2) &&& 85 ≤ x % 256 / 2 := Nat.and_le_left
  unfold mp_ps1
  rw [e3]
  clear e1 e2 e3
  generalize (x / 256 / 2) &&& mp_mk 85 n = A at *
  generalize (x % 256 / 2) &&& 85 = B at *
  omega
theorem mp_ps2_s : mp_ps2 (mp_mk 51 (n + 1)) x = 256 * mp_ps2 (mp_mk 51 n) (x / 256) + mp_ps2 51 (x % 256) := by
  have e1 : x / 4 = 256 * (x / 256 / 4) + (64 * (x / 256 % 4) + x % 256 / 4) := by omega
  have e2 : (64 * (x / 256 % 4) + x % 256 / 4) &&& 51 = (x % 256 / 4) &&& 51 := mp_by2 ⟨x / 256 % 4, by omega⟩ ⟨x % 256 / 4, by omega⟩
  have e3 : (x / 4) &&& mp_mk 51 (n + 1) = 256 * ((x / 256 / 4) &&& mp_mk 51 n) + ((x % 256 / 4) &&& 51) := by
    rw [e1]
    show _ &&& (256 * mp_mk 51 n + 51) = _
    rw [mp_landx (by omega) (by omega), e2]
  have e0 : 256 * (x / 256) + x % 256 = x := by omega
  have e4 : x &&& mp_mk 51 (n + 1) = 256 * ((x / 256) &&& mp_mk 51 n) + ((x % 256) &&& 51) := by
    have g := mp_landx (q := x / 256) (m := mp_mk 51 n) (b := x % 256) (d := 51) (by omega) (by omega)
    rw [e0] at g
    exact g
  unfold mp_ps2
  rw [e3, e4]
  clear e1 e2 e3 e4 e0
  omega
theorem mp_ps3_s (hq : q % 16 ≤ 4) (hb : b ≤ 68) : mp_ps3 (mp_mk 15 (n + 1)) (256 * q + b) = 256 * mp_ps3 (mp_mk 15 n) q + mp_ps3 15 b := by
  have e1 : 256 * q + b + (256 * q + b) / 16 = 256 * (q + q / 16) + (16 * (q % 16) + b + b / 16) := by omega
  have e2 : (16 * (q % 16) + b + b / 16) &&& 15 = (b + b / 16) &&& 15 := mp_by3 ⟨q % 16, by omega⟩ ⟨b, by omega⟩
  unfold mp_ps3
  rw [e1]
  show _ &&& (256 * mp_mk 15 n + 15) = _
  rw [mp_landx (by omega) (by omega), e2]
theorem mp_s12_s : mp_ps2 (mp_mk 51 (n + 1)) (mp_ps1 (mp_mk 85 (n + 1)) x) = 256 * mp_ps2 (mp_mk 51 n) (mp_ps1 (mp_mk 85 n) (x / 256)) + mp_ps2 51 (mp_ps1 85 (x % 256)) := by
  have b : mp_ps1 85 (x % 256) < 256 := (mp_by4 ⟨x % 256, by omega⟩).2.2
  have e := mp_ps1_s (x := x) (n := n)
  rw [mp_ps2_s, show mp_ps1 (mp_mk 85 (n + 1)) x / 256 = mp_ps1 (mp_mk 85 n) (x / 256) by omega, show mp_ps1 (mp_mk 85 (n + 1)) x % 256 = mp_ps1 85 (x % 256) by omega]
theorem mp_s12_4 : ∀ {n x : Nat}, mp_ps2 (mp_mk 51 n) (mp_ps1 (mp_mk 85 n) x) % 16 ≤ 4
  | 0, x => by
    have e : mp_ps2 (mp_mk 51 0) (mp_ps1 (mp_mk 85 0) x) = 0 := by
      show ((mp_ps1 (mp_mk 85 0) x) &&& 0) + ((mp_ps1 (mp_mk 85 0) x / 4) &&& 0) = 0
      rw [Nat.and_zero, Nat.and_zero]
    rw [e]; decide
  | n + 1, x => by
    have b : mp_ps2 51 (mp_ps1 85 (x % 256)) % 16 ≤ 4 := (mp_by4 ⟨x % 256, by omega⟩).2.1
    rw [mp_s12_s]
    omega
def mp_psb : Nat → Nat → Nat
  | 0, _ => 0
  | n + 1, x => 256 * mp_psb n (x / 256) + mp_pb (x % 256)
theorem mp_s123 : ∀ {n x : Nat}, mp_ps3 (mp_mk 15 n) (mp_ps2 (mp_mk 51 n) (mp_ps1 (mp_mk 85 n) x)) = mp_psb n x
  | 0, x => by show (_ &&& 0) = 0; exact Nat.and_zero _
  | n + 1, x => by
    have b : mp_ps2 51 (mp_ps1 85 (x % 256)) ≤ 68 := (mp_by4 ⟨x % 256, by omega⟩).1
    rw [mp_s12_s, mp_ps3_s mp_s12_4 b, mp_s123]
    rfl
theorem mp_fold8 {c0 c1 c2 c3 c4 c5 c6 c7 y z4 z5 z6 : Nat} (h0 : c0 ≤ 8) (h1 : c1 ≤ 8) (h2 : c2 ≤ 8) (h3 : c3 ≤ 8) (h4 : c4 ≤ 8) (h5 : c5 ≤ 8) (h6 : c6 ≤ 8) (h7 : c7 ≤ 8) (hy : y = 256 * (256 * (256 * (256 * (256 * (256 * (256 * c7 + c6) + c5) + c4) + c3) + c2) + c1) + c0) (e4 : z4 = y + y / 256) (e5 : z5 = z4 + z4 / 65536) (e6 : z6 = z5 + z5 / 4294967296) : z6 % 128 = c0 + c1 + c2 + c3 + c4 + c5 + c6 + c7 ∧ y < 1152921504606846976 ∧ z4 < 2305843009213693952 ∧ z5 < 4611686018427387904 ∧ z6 < 9223372036854775808 := by
  have q1 : y / 256 = 256 * (256 * (256 * (256 * (256 * (256 * c7 + c6) + c5) + c4) + c3) + c2) + c1 := by omega
  have r4 : z4 = 256 * (256 * (256 * (256 * (256 * (256 * (256 * c7 + (c6 + c7)) + (c5 + c6)) + (c4 + c5)) + (c3 + c4)) + (c2 + c3)) + (c1 + c2)) + (c0 + c1) := by omega
  have q2 : z4 / 65536 = 256 * (256 * (256 * (256 * (256 * c7 + (c6 + c7)) + (c5 + c6)) + (c4 + c5)) + (c3 + c4)) + (c2 + c3) := by clear q1 e4 hy; omega
  have r5 : z5 = 256 * (256 * (256 * (256 * (256 * (256 * (256 * c7 + (c6 + c7)) + (c5 + c6 + c7)) + (c4 + c5 + c6 + c7)) + (c3 + c4 + c5 + c6)) + (c2 + c3 + c4 + c5)) + (c1 + c2 + c3 + c4)) + (c0 + c1 + c2 + c3) := by clear q1 e4 hy; omega
  have q3 : z5 / 4294967296 = 256 * (256 * (256 * c7 + (c6 + c7)) + (c5 + c6 + c7)) + (c4 + c5 + c6 + c7) := by clear q1 q2 r4 e5 e4 hy; omega
  refine ⟨?_, ?_, ?_, ?_, ?_⟩
  · clear q1 q2 r4 e4 e5 hy; omega
  · clear q1 q2 q3 r4 r5 e4 e5 e6; omega
  · clear q1 q2 q3 r5 e4 e5 e6 hy; omega
  · clear q1 q2 q3 r4 e4 e5 e6 hy; omega
  · clear q1 q2 r4 e4 e5 hy; omega
def mp_tot : Nat → Nat → Nat
  | 0, _ => 0
  | n + 1, x => mp_tot n (x / 256) + mp_pb (x % 256)
theorem mp_ct_x : mp_ct (fun i => x.testBit i) 8 = (mp_pb (x % 256) : Int) := by
  have h : (mp_pb (x % 256) : Int) = mp_ct (fun i => (x % 256).testBit i) 8 := (mp_by5 ⟨x % 256, by omega⟩).2
  rw [h]
  exact mp_ct_cong (fun j hj => by
    have g := Nat.testBit_mod_two_pow x 8 j
    show x.testBit j = (x % 2 ^ 8).testBit j
    rw [g, decide_eq_true hj, Bool.true_and])
theorem mp_ct_t : ∀ {n x : Nat}, mp_ct (fun i => x.testBit i) (8 * n) = (mp_tot n x : Int)
  | 0, _ => rfl
  | n + 1, x => by
    have g : mp_ct (fun i => (fun i => x.testBit i) (8 + i)) (8 * n) = mp_ct (fun i => (x / 256).testBit i) (8 * n) := mp_ct_cong (fun j _ => by
      have g := Nat.testBit_div_two_pow (n := 8) x j
      show x.testBit (8 + j) = (x / 2 ^ 8).testBit j
      rw [g, Nat.add_comm])
    rw [show 8 * (n + 1) = 8 + 8 * n by omega, mp_ct_add, mp_ct_x, g, mp_ct_t]
    show _ = ((mp_tot n (x / 256) + mp_pb (x % 256) : Nat) : Int)
    omega
theorem mp_psb_8 : mp_psb 8 x = 256 * (256 * (256 * (256 * (256 * (256 * (256 * mp_pb (x / 256 / 256 / 256 / 256 / 256 / 256 / 256 % 256) + mp_pb (x / 256 / 256 / 256 / 256 / 256 / 256 % 256)) + mp_pb (x / 256 / 256 / 256 / 256 / 256 % 256)) + mp_pb (x / 256 / 256 / 256 / 256 % 256)) + mp_pb (x / 256 / 256 / 256 % 256)) + mp_pb (x / 256 / 256 % 256)) + mp_pb (x / 256 % 256)) + mp_pb (x % 256) := by
  have h8 : mp_psb 8 (x) = 256 * mp_psb 7 (x / 256) + mp_pb (x % 256) := rfl
  have h7 : mp_psb 7 (x / 256) = 256 * mp_psb 6 (x / 256 / 256) + mp_pb (x / 256 % 256) := rfl
  have h6 : mp_psb 6 (x / 256 / 256) = 256 * mp_psb 5 (x / 256 / 256 / 256) + mp_pb (x / 256 / 256 % 256) := rfl
  have h5 : mp_psb 5 (x / 256 / 256 / 256) = 256 * mp_psb 4 (x / 256 / 256 / 256 / 256) + mp_pb (x / 256 / 256 / 256 % 256) := rfl
  have h4 : mp_psb 4 (x / 256 / 256 / 256 / 256) = 256 * mp_psb 3 (x / 256 / 256 / 256 / 256 / 256) + mp_pb (x / 256 / 256 / 256 / 256 % 256) := rfl
  have h3 : mp_psb 3 (x / 256 / 256 / 256 / 256 / 256) = 256 * mp_psb 2 (x / 256 / 256 / 256 / 256 / 256 / 256) + mp_pb (x / 256 / 256 / 256 / 256 / 256 % 256) := rfl
  have h2 : mp_psb 2 (x / 256 / 256 / 256 / 256 / 256 / 256) = 256 * mp_psb 1 (x / 256 / 256 / 256 / 256 / 256 / 256 / 256) + mp_pb (x / 256 / 256 / 256 / 256 / 256 / 256 % 256) := rfl
  have h1 : mp_psb 1 (x / 256 / 256 / 256 / 256 / 256 / 256 / 256) = 256 * mp_psb 0 (x / 256 / 256 / 256 / 256 / 256 / 256 / 256 / 256) + mp_pb (x / 256 / 256 / 256 / 256 / 256 / 256 / 256 % 256) := rfl
  have h0 : mp_psb 0 (x / 256 / 256 / 256 / 256 / 256 / 256 / 256 / 256) = 0 := rfl
  rw [h8, h7, h6, h5, h4, h3, h2, h1, h0, Nat.mul_zero, Nat.zero_add]
theorem mp_tot_8 : mp_tot 8 x = mp_pb (x % 256) + mp_pb (x / 256 % 256) + mp_pb (x / 256 / 256 % 256) + mp_pb (x / 256 / 256 / 256 % 256) + mp_pb (x / 256 / 256 / 256 / 256 % 256) + mp_pb (x / 256 / 256 / 256 / 256 / 256 % 256) + mp_pb (x / 256 / 256 / 256 / 256 / 256 / 256 % 256) + mp_pb (x / 256 / 256 / 256 / 256 / 256 / 256 / 256 % 256) := by
  have h8 : mp_tot 8 (x) = mp_tot 7 (x / 256) + mp_pb (x % 256) := rfl
  have h7 : mp_tot 7 (x / 256) = mp_tot 6 (x / 256 / 256) + mp_pb (x / 256 % 256) := rfl
  have h6 : mp_tot 6 (x / 256 / 256) = mp_tot 5 (x / 256 / 256 / 256) + mp_pb (x / 256 / 256 % 256) := rfl
  have h5 : mp_tot 5 (x / 256 / 256 / 256) = mp_tot 4 (x / 256 / 256 / 256 / 256) + mp_pb (x / 256 / 256 / 256 % 256) := rfl
  have h4 : mp_tot 4 (x / 256 / 256 / 256 / 256) = mp_tot 3 (x / 256 / 256 / 256 / 256 / 256) + mp_pb (x / 256 / 256 / 256 / 256 % 256) := rfl
  have h3 : mp_tot 3 (x / 256 / 256 / 256 / 256 / 256) = mp_tot 2 (x / 256 / 256 / 256 / 256 / 256 / 256) + mp_pb (x / 256 / 256 / 256 / 256 / 256 % 256) := rfl
  have h2 : mp_tot 2 (x / 256 / 256 / 256 / 256 / 256 / 256) = mp_tot 1 (x / 256 / 256 / 256 / 256 / 256 / 256 / 256) + mp_pb (x / 256 / 256 / 256 / 256 / 256 / 256 % 256) := rfl
  have h1 : mp_tot 1 (x / 256 / 256 / 256 / 256 / 256 / 256 / 256) = mp_tot 0 (x / 256 / 256 / 256 / 256 / 256 / 256 / 256 / 256) + mp_pb (x / 256 / 256 / 256 / 256 / 256 / 256 / 256 % 256) := rfl
  have h0 : mp_tot 0 (x / 256 / 256 / 256 / 256 / 256 / 256 / 256 / 256) = 0 := rfl
  rw [h8, h7, h6, h5, h4, h3, h2, h1, h0]
  omega
end MPCB
-- the machine's count of a long's bits
def mp_lus (x : Int64) (c : Int32) : Int64 := (x.toUInt64 >>> (c.toInt64.toUInt64 &&& Int64.toUInt64 63)).toInt64
def mp_bL1 (x : Int64) : Int64 := x - (mp_lus x 1 &&& 6148914691236517205)
def mp_bL2 (x : Int64) : Int64 := (x &&& 3689348814741910323) + (mp_lus x 2 &&& 3689348814741910323)
def mp_bL3 (x : Int64) : Int64 := (x + mp_lus x 4) &&& 1085102592571150095
def mp_bL4 (x : Int64) : Int64 := x + mp_lus x 8
def mp_bL5 (x : Int64) : Int64 := x + mp_lus x 16
def mp_bL6 (x : Int64) : Int64 := x + mp_lus x 32
def mp_bcL (x : Int64) : Int32 := (mp_bL6 (mp_bL5 (mp_bL4 (mp_bL3 (mp_bL2 (mp_bL1 x)))))).toInt32 &&& 127
def mp_Nl (x : Int64) : Nat := x.toBitVec.toNat
section MPCL
variable {x y : Int64}
theorem mp_N_us {c : Int32} {k : Nat} (h : (c.toInt64.toUInt64 &&& Int64.toUInt64 63).toNat % 64 = k) : mp_Nl (mp_lus x c) = mp_Nl x / 2 ^ k := by
  show (x.toUInt64 >>> (c.toInt64.toUInt64 &&& Int64.toUInt64 63)).toNat = _
  rw [UInt64.toNat_shiftRight, h, Nat.shiftRight_eq_div_pow]
  rfl
theorem mp_N_and {a : Int64} {m : Nat} (h : mp_Nl a = m) : mp_Nl (x &&& a) = mp_Nl x &&& m := by
  subst h
  show (x &&& a).toBitVec.toNat = _
  rw [Int64.toBitVec_and, BitVec.toNat_and]
  rfl
theorem mp_N_add (h : mp_Nl x + mp_Nl y < 18446744073709551616) : mp_Nl (x + y) = mp_Nl x + mp_Nl y := by
  show (x + y).toBitVec.toNat = _
  rw [Int64.toBitVec_add, BitVec.toNat_add]
  exact Nat.mod_eq_of_lt h
theorem mp_N_sub (h : mp_Nl y ≤ mp_Nl x) : mp_Nl (x - y) = mp_Nl x - mp_Nl y := by
  show (x - y).toBitVec.toNat = _
  rw [Int64.toBitVec_sub]
  exact BitVec.toNat_sub_of_le h
theorem mp_N_lt : mp_Nl x < 18446744073709551616 := x.toBitVec.isLt
theorem mp_N_end : (x.toInt32 &&& 127).toInt = ((mp_Nl x % 128 : Nat) : Int) := by
  have e : (x.toInt32 &&& 127).toBitVec.toNat = mp_Nl x % 128 := by
    rw [Int32.toBitVec_and, BitVec.toNat_and]
    show (x.toBitVec.signExtend 32).toNat &&& 127 = _
    rw [BitVec.signExtend_eq_setWidth_of_le _ (by decide), BitVec.toNat_setWidth]
    show (mp_Nl x % 2 ^ 32) &&& (2 ^ 7 - 1) = _
    rw [Nat.and_two_pow_sub_one_eq_mod]
    omega
  show (x.toInt32 &&& 127).toBitVec.toInt = _
  rw [BitVec.toInt_eq_toNat_of_lt (by rw [e]; omega), e]
theorem mp_bcL_ct (h : mp_Nl x < 1125899906842624) : (mp_bcL x).toInt = mp_ct (fun i => (mp_Nl x).testBit i) 50 := by
  have a1 : mp_Nl (mp_bL1 x) = mp_ps1 (mp_mk 85 8) (mp_Nl x) := by
    have e : mp_Nl (mp_lus x 1 &&& 6148914691236517205) = (mp_Nl x / 2) &&& mp_mk 85 8 := by
      rw [mp_N_and (m := mp_mk 85 8) (by decide +kernel), mp_N_us (k := 1) (by decide +kernel)]
    have l : (mp_Nl x / 2) &&& mp_mk 85 8 ≤ mp_Nl x / 2 := Nat.and_le_left
    unfold mp_bL1 mp_ps1
    rw [mp_N_sub (by rw [e]; omega), e]
  have b1 : mp_ps1 (mp_mk 85 8) (mp_Nl x) ≤ mp_Nl x := Nat.sub_le _ _
  generalize hx1 : mp_bL1 x = x1 at *
  have a2 : mp_Nl (mp_bL2 x1) = mp_ps2 (mp_mk 51 8) (mp_Nl x1) := by
    have e : mp_Nl (x1 &&& 3689348814741910323) = mp_Nl x1 &&& mp_mk 51 8 := mp_N_and (by decide +kernel)
    have e2 : mp_Nl (mp_lus x1 2 &&& 3689348814741910323) = (mp_Nl x1 / 4) &&& mp_mk 51 8 := by
      rw [mp_N_and (m := mp_mk 51 8) (by decide +kernel), mp_N_us (k := 2) (by decide +kernel)]
    have l : mp_Nl x1 &&& mp_mk 51 8 ≤ mp_Nl x1 := Nat.and_le_left
    have l2 : (mp_Nl x1 / 4) &&& mp_mk 51 8 ≤ mp_Nl x1 / 4 := Nat.and_le_left
    unfold mp_bL2 mp_ps2
    rw [mp_N_add (by rw [e, e2]; omega), e, e2]
  have b2 : mp_ps2 (mp_mk 51 8) (mp_Nl x1) ≤ 2 * mp_Nl x1 := by
    have l : mp_Nl x1 &&& mp_mk 51 8 ≤ mp_Nl x1 := Nat.and_le_left
    have l2 : (mp_Nl x1 / 4) &&& mp_mk 51 8 ≤ mp_Nl x1 / 4 := Nat.and_le_left
    unfold mp_ps2
    omega
  generalize hx2 : mp_bL2 x1 = x2 at *
  have a3 : mp_Nl (mp_bL3 x2) = mp_ps3 (mp_mk 15 8) (mp_Nl x2) := by
    have e : mp_Nl (mp_lus x2 4) = mp_Nl x2 / 16 := mp_N_us (k := 4) (by decide +kernel)
    unfold mp_bL3 mp_ps3
    rw [mp_N_and (m := mp_mk 15 8) (by decide +kernel), mp_N_add (by rw [e]; omega), e]
  have a3 : mp_Nl (mp_bL3 x2) = mp_psb 8 (mp_Nl x) := by rw [a3, a2, a1, mp_s123]
  generalize hx3 : mp_bL3 x2 = x3 at *
  have c : ∀ y : Nat, mp_pb (y % 256) ≤ 8 := fun y => (mp_by5 ⟨y % 256, by omega⟩).1
  have e4 : mp_Nl x3 + mp_Nl x3 / 256 < 18446744073709551616 → mp_Nl (mp_bL4 x3) = mp_Nl x3 + mp_Nl x3 / 256 := by
    intro g
    have e : mp_Nl (mp_lus x3 8) = mp_Nl x3 / 256 := mp_N_us (k := 8) (by decide +kernel)
    unfold mp_bL4
    rw [mp_N_add (by rw [e]; exact g), e]
  have e5 : ∀ x4 : Int64, mp_Nl x4 + mp_Nl x4 / 65536 < 18446744073709551616 → mp_Nl (mp_bL5 x4) = mp_Nl x4 + mp_Nl x4 / 65536 := by
    intro x4 g
    have e : mp_Nl (mp_lus x4 16) = mp_Nl x4 / 65536 := mp_N_us (k := 16) (by decide +kernel)
    unfold mp_bL5
    rw [mp_N_add (by rw [e]; exact g), e]
  have e6 : ∀ x5 : Int64, mp_Nl x5 + mp_Nl x5 / 4294967296 < 18446744073709551616 → mp_Nl (mp_bL6 x5) = mp_Nl x5 + mp_Nl x5 / 4294967296 := by
    intro x5 g
    have e : mp_Nl (mp_lus x5 32) = mp_Nl x5 / 4294967296 := mp_N_us (k := 32) (by decide +kernel)
    unfold mp_bL6
    rw [mp_N_add (by rw [e]; exact g), e]
  have hN := a3.trans mp_psb_8
  have F := mp_fold8 (c _) (c _) (c _) (c _) (c _) (c _) (c _) (c _) (hy := hN) rfl rfl rfl
  obtain ⟨f1, f2, f3, f4, f5⟩ := F
  have g4 := e4 (by omega)
  have g5 := e5 (mp_bL4 x3) (by rw [g4]; omega)
  have g6 := e6 (mp_bL5 (mp_bL4 x3)) (by rw [g5, g4]; omega)
  have ee : (mp_bcL x).toInt = ((mp_Nl (mp_bL6 (mp_bL5 (mp_bL4 x3))) % 128 : Nat) : Int) := by
    unfold mp_bcL
    rw [hx1, hx2, hx3]
    exact mp_N_end
  rw [ee, g6, g5, g4, f1]
  have t := mp_ct_t (n := 8) (x := mp_Nl x)
  have u : mp_ct (fun i => (mp_Nl x).testBit i) (8 * 8) = mp_ct (fun i => (mp_Nl x).testBit i) 50 := by
    show mp_ct _ (50 + 14) = _
    rw [mp_ct_add]
    have z : ∀ n : Nat, mp_ct (fun i => (fun i => (mp_Nl x).testBit i) (50 + i)) n = 0 := by
      intro n
      induction n with
      | zero => rfl
      | succ n ih =>
        rw [mp_ct_s, ih]
        have k : (mp_Nl x).testBit (50 + n) = false := Nat.testBit_lt_two_pow (Nat.lt_of_lt_of_le h (Nat.pow_le_pow_right (n := 2) (by decide) (show 50 ≤ 50 + n by omega)))
        show (if (mp_Nl x).testBit (50 + n) = true then _ else _) = _
        rw [k]; rfl
    rw [z]; omega
  rw [← u, t, mp_tot_8]
theorem mp_smod : ∀ k : Fin 64, ((Int64.ofNat k.1).toBitVec.smod 64).toNat = k.1 := by decide +kernel
/-- a bit, as the class asks for it -/
theorem mp_bit_N {k : Nat} (hk : k < 64) : decide ((x >>> Int64.ofNat k &&& 1) ≠ 0) = (mp_Nl x).testBit k := by
  have e : (x >>> Int64.ofNat k &&& 1).toBitVec = (BitVec.ofBool ((mp_Nl x).testBit k)).setWidth 64 := by
    rw [Int64.toBitVec_and, Int64.toBitVec_shiftRight]
    show (x.toBitVec.sshiftRight' ((Int64.ofNat k).toBitVec.smod 64)) &&& 1#64 = _
    rw [BitVec.and_one_eq_setWidth_ofBool_getLsbD, BitVec.getLsbD_sshiftRight']
    have g : ((Int64.ofNat k).toBitVec.smod 64).toNat = k := mp_smod ⟨k, hk⟩
    rw [g, if_pos (show k + 0 < 64 by omega)]
    rfl
  cases q : (mp_Nl x).testBit k with
  | true =>
    rw [q] at e
    exact decide_eq_true (fun h => by rw [h] at e; exact absurd e (by decide))
  | false =>
    rw [q] at e
    exact decide_eq_false (fun h => h (Int64.toBitVec_inj.mp (e.trans (by decide))))
end MPCL
-- harbours: none of a long's bits above the fiftieth
def mp_sh5 (f : Nat → Int64) : Prop := ∀ j : Nat, mp_Nl (f j) < 1125899906842624
section MPCS
variable {f f2 g : Nat → Int64} {a v2 : Int} {x b y v : Int64} {i z w : Int32} {j : Nat} {m : Int}
theorem mp_sh5_z : mp_sh5 (fun _ => 0) := fun _ => by show mp_Nl 0 < _; decide
theorem mp_sh5_ld (h : x = f i.toNatClampNeg) (p : mp_sh5 f) : mp_Nl x < 1125899906842624 := by rw [h]; exact p _
theorem mp_sh5_st (h : g = vp_updL f j v) (p : mp_sh5 f) (hv : mp_Nl v < 1125899906842624) : mp_sh5 g := by
  intro k
  rw [h]
  show mp_Nl (if k = j then v else f k) < _
  by_cases q : k = j
  · rw [if_pos q]; exact hv
  · rw [if_neg q]; exact p k
theorem mp_sh5_cpy {s d n : Nat} (h : f2 = va_cpy f g s d n) (p : mp_sh5 f) (p1 : mp_sh5 g) : mp_sh5 f2 := by
  intro k
  rw [h]
  simp only [va_cpy]
  split
  · exact p _
  · exact p1 _
theorem mp_1sh : ∀ q : Fin 50, mp_Nl ((1 : Int64) <<< Int64.ofNat q.1) < 1125899906842624 := by decide +kernel
theorem mp_sh5_or (h : v = x ||| b) (p : mp_Nl x < 1125899906842624) (hb : b = 1 <<< Int64.ofInt (m % 50)) : mp_Nl v < 1125899906842624 := by
  have e : mp_Nl v = mp_Nl x ||| mp_Nl b := by
    rw [h]; show (x ||| b).toBitVec.toNat = _
    rw [Int64.toBitVec_or, BitVec.toNat_or]; rfl
  have q : mp_Nl b < 1125899906842624 := by rw [hb, mp_ofi64 (by omega)]; exact mp_1sh ⟨(m % 50).toNat, by omega⟩
  rw [e]
  exact Nat.or_lt_two_pow (n := 50) p q
theorem mp_sh5_and (h : v = x &&& y) (p : mp_Nl x < 1125899906842624) : mp_Nl v < 1125899906842624 := by
  rw [h, mp_N_and rfl]
  exact Nat.lt_of_le_of_lt Nat.and_le_left p
/-- a long's harbours counted -/
theorem mp_csh (p : a = mp_ct (mp_shb f) (50 * i.toInt).toNat) (s : mp_sh5 f) (hz : x = f i.toNatClampNeg) (hw : w = mp_bcL x) (hv : v2 = a + w.toInt) (h0 : 0 ≤ i.toInt) {k2 : Int} (hk : k2 = i.toInt + 1) : v2 = mp_ct (mp_shb f) (50 * k2).toNat := by
  have e : w.toInt = mp_ct (fun r => mp_shb f ((50 * i.toInt).toNat + r)) 50 := by
    rw [hw, mp_bcL_ct (mp_sh5_ld hz s)]
    refine mp_ct_cong (fun r hr => ?_)
    rw [← mp_bit_N (by omega), hz]
    unfold mp_shb
    rw [show 2 * (((50 * i.toInt).toNat + r) / 100) + ((50 * i.toInt).toNat + r) % 100 / 50 = i.toNatClampNeg by simp only [Int32.toNatClampNeg]; omega, show ((50 * i.toInt).toNat + r) % 50 = r by omega]
  rw [show (50 * k2).toNat = (50 * i.toInt).toNat + 50 by omega, mp_ct_add, hv, p, e]
theorem mp_bcL_b (hw : w = mp_bcL x) (p : mp_Nl x < 1125899906842624) : 0 ≤ w.toInt ∧ w.toInt ≤ 50 := by
  rw [hw, mp_bcL_ct p]
  exact mp_ct_b
end MPCS
-- what is counted
def mp_cnF (a0 a1 a2 a3 a4 a5 a6 a7 a8 a9 what : Int) : Int := if what = 0 then a0 else if what = 1 then a1 else if what = 2 then a2 else if what = 3 then a3 else if what = 4 then a4 else if what = 5 then a5 else if what = 6 then a6 else if what = 7 then a7 else if what = 8 then a8 else if what = 9 then a9 else -1
section MPCF
variable {a0 a1 a2 a3 a4 a5 a6 a7 a8 a9 what r : Int}
theorem mp_cnF_0 (h : what = 0) (e : r = a0) : r = mp_cnF a0 a1 a2 a3 a4 a5 a6 a7 a8 a9 what := by subst h; exact e
theorem mp_cnF_1 (h : what = 1) (e : r = a1) : r = mp_cnF a0 a1 a2 a3 a4 a5 a6 a7 a8 a9 what := by subst h; exact e
theorem mp_cnF_2 (h : what = 2) (e : r = a2) : r = mp_cnF a0 a1 a2 a3 a4 a5 a6 a7 a8 a9 what := by subst h; exact e
theorem mp_cnF_3 (h : what = 3) (e : r = a3) : r = mp_cnF a0 a1 a2 a3 a4 a5 a6 a7 a8 a9 what := by subst h; exact e
theorem mp_cnF_4 (h : what = 4) (e : r = a4) : r = mp_cnF a0 a1 a2 a3 a4 a5 a6 a7 a8 a9 what := by subst h; exact e
theorem mp_cnF_5 (h : what = 5) (e : r = a5) : r = mp_cnF a0 a1 a2 a3 a4 a5 a6 a7 a8 a9 what := by subst h; exact e
theorem mp_cnF_6 (h : what = 6) (e : r = a6) : r = mp_cnF a0 a1 a2 a3 a4 a5 a6 a7 a8 a9 what := by subst h; exact e
theorem mp_cnF_7 (h : what = 7) (e : r = a7) : r = mp_cnF a0 a1 a2 a3 a4 a5 a6 a7 a8 a9 what := by subst h; exact e
theorem mp_cnF_8 (h : what = 8) (e : r = a8) : r = mp_cnF a0 a1 a2 a3 a4 a5 a6 a7 a8 a9 what := by subst h; exact e
theorem mp_cnF_9 (h : what = 9) (e : r = a9) : r = mp_cnF a0 a1 a2 a3 a4 a5 a6 a7 a8 a9 what := by subst h; exact e
theorem mp_cnF_n (h : what < 0 ∨ 9 < what) (e : r = -1) : r = mp_cnF a0 a1 a2 a3 a4 a5 a6 a7 a8 a9 what := by
  unfold mp_cnF
  rw [if_neg (by omega), if_neg (by omega), if_neg (by omega), if_neg (by omega), if_neg (by omega), if_neg (by omega), if_neg (by omega), if_neg (by omega), if_neg (by omega), if_neg (by omega)]
  exact e
end MPCF
