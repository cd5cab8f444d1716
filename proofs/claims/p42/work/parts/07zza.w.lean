-- weighings: what is left when halved so often; a slot's numbers two by two
def mp_P2 (n : Nat) : Int := ((2 ^ n : Nat) : Int)
theorem mp_P2_s {n : Nat} : mp_P2 (n + 1) = 2 * mp_P2 n := by
  unfold mp_P2; rw [Nat.pow_succ]; omega
theorem mp_P2_1 {n : Nat} : 1 ≤ mp_P2 n := by
  have := Nat.two_pow_pos n
  unfold mp_P2; omega
theorem mp_P2_20 {n : Nat} (h : 20 ≤ n) : 1000000 ≤ mp_P2 n := by
  have h1 : 2 ^ 20 ≤ 2 ^ n := Nat.pow_le_pow_right (by decide) h
  unfold mp_P2; omega
def mp_ce (W : Int) (n : Nat) : Int := (W + mp_P2 n - 1) / mp_P2 n
theorem mp_ce_1 {W : Int} {n : Nat} (h : 1 ≤ W) (hn : W ≤ mp_P2 n) : mp_ce W n = 1 := by
  unfold mp_ce
  have hp := mp_P2_1 (n := n)
  generalize mp_P2 n = P at *
  have e1 : (W - 1) / P = 0 := Int.ediv_eq_zero_of_lt (by omega) (by omega)
  have e2 : (W - 1 + 1 * P) / P = (W - 1) / P + 1 := Int.add_mul_ediv_right _ _ (by omega)
  rw [show W + P - 1 = W - 1 + 1 * P by omega, e2, e1]
  first | done | rfl
theorem mp_ce_b {W : Int} {n : Nat} (h : 1 ≤ W ∧ W ≤ 1000000) : 1 ≤ mp_ce W n ∧ mp_ce W n ≤ W := by
  unfold mp_ce
  have hp := mp_P2_1 (n := n)
  generalize mp_P2 n = P at *
  constructor
  · have := Int.le_ediv_of_mul_le (c := P) (a := 1) (b := W + P - 1) (by omega) (by omega)
    exact this
  · have : W + P - 1 < (W + 1) * P := by
      have h1 : (W + 1) * P = W * P + P := by rw [Int.add_mul, Int.one_mul]
      have h2 : W * 1 ≤ W * P := Int.mul_le_mul_of_nonneg_left hp (by omega)
      omega
    have := Int.ediv_lt_of_lt_mul (by omega) this
    omega
section MPWG
variable {z b n s w x y : Int32} {f : Nat → Int64}
theorem mp_shk : ∀ k : Fin 31, (((Int32.ofNat k.1) &&& 31).toBitVec.smod 32).toNat = k.1 := by decide +kernel
theorem mp_shr_i (h : z = b >>> (n &&& 31)) (h0 : 0 ≤ n.toInt ∧ n.toInt ≤ 30) : z.toInt = b.toInt / mp_P2 n.toInt.toNat := by
  have hs : ((n &&& 31).toBitVec.smod 32).toNat = n.toInt.toNat := by
    have g := mp_shk ⟨n.toInt.toNat, by omega⟩
    rw [mp_ofnat h0.1] at g
    exact g
  have e : (b >>> (n &&& 31)).toInt = b.toInt >>> n.toInt.toNat := by
    rw [← hs]; exact BitVec.toInt_sshiftRight ..
  rw [h, e, Int.shiftRight_eq_div_pow]
  rfl
theorem mp_shlk : ∀ k : Fin 30, ((1 : Int32) <<< ((Int32.ofNat k.1) &&& 31)).toInt = mp_P2 k.1 := by decide +kernel
theorem mp_shl_i (h : s = 1 <<< (n &&& 31)) (h0 : 0 ≤ n.toInt ∧ n.toInt ≤ 29) : s.toInt = mp_P2 n.toInt.toNat := by
  have g := mp_shlk ⟨n.toInt.toNat, by omega⟩
  rw [mp_ofnat h0.1] at g
  rw [h]; exact g
theorem mp_P2_le {k m : Nat} (h : k ≤ m) : mp_P2 k ≤ mp_P2 m := by
  have h1 : 2 ^ k ≤ 2 ^ m := Nat.pow_le_pow_right (by decide) h
  unfold mp_P2; omega
/-- the class's halving -/
theorem mp_hlC {a c : Int32} (hs : s = 1 <<< (n &&& 31)) (ha : a = w + s) (hc : c = a - 1) (hz : z = c >>> (n &&& 31)) (h0 : 0 ≤ n.toInt ∧ n.toInt ≤ 23) (hw : 0 ≤ w.toInt ∧ w.toInt ≤ 1000000) : z.toInt = mp_ce w.toInt n.toInt.toNat := by
  have e1 := mp_shl_i hs (by omega)
  have hp := mp_P2_1 (n := n.toInt.toNat)
  have hq : mp_P2 n.toInt.toNat ≤ mp_P2 23 := mp_P2_le (by omega)
  have h23 : mp_P2 23 = 8388608 := by decide
  have e2 : a.toInt = w.toInt + s.toInt := mp_add ha rfl rfl (by omega) (by omega)
  have e3 : c.toInt = a.toInt - 1 := mp_subi hc rfl (show (1 : Int32).toInt = 1 from rfl) (by omega) (by omega)
  rw [mp_shr_i hz (by omega), e3, e2, e1]
  rfl
theorem mp_hlC1 (hw : 1 ≤ w.toInt ∧ w.toInt ≤ 1000000) (h0 : 24 ≤ n.toInt) : (1 : Int32).toInt = mp_ce w.toInt n.toInt.toNat := by
  rw [mp_ce_1 hw.1 (Int.le_trans hw.2 (mp_P2_20 (by omega)))]
  rfl
theorem mp_shk64 : ∀ k : Fin 40, (((Int32.ofNat k.1).toInt64 &&& 63).toBitVec.smod 64).toNat = k.1 := by decide +kernel
theorem mp_shlk64 : ∀ k : Fin 40, ((1 : Int64) <<< ((Int32.ofNat k.1).toInt64 &&& 63)).toInt = mp_P2 k.1 := by decide +kernel
theorem mp_l_add {x y z : Int64} (h : z = x + y) (h1 : -9223372036854775808 ≤ x.toInt + y.toInt) (h2 : x.toInt + y.toInt ≤ 9223372036854775807) : z.toInt = x.toInt + y.toInt := by
  rw [h, Int64.toInt_add, Int.bmod_def]; omega
theorem mp_l_sub {x y z : Int64} (h : z = x - y) (h1 : -9223372036854775808 ≤ x.toInt - y.toInt) (h2 : x.toInt - y.toInt ≤ 9223372036854775807) : z.toInt = x.toInt - y.toInt := by
  rw [h, Int64.toInt_sub, Int.bmod_def]; omega
theorem mp_l_shr {x z : Int64} (h : z = x >>> (n.toInt64 &&& 63)) (h0 : 0 ≤ n.toInt ∧ n.toInt ≤ 39) : z.toInt = x.toInt / mp_P2 n.toInt.toNat := by
  have hs : ((n.toInt64 &&& 63).toBitVec.smod 64).toNat = n.toInt.toNat := by
    have g := mp_shk64 ⟨n.toInt.toNat, by omega⟩
    rw [mp_ofnat h0.1] at g
    exact g
  have e : (x >>> (n.toInt64 &&& 63)).toInt = x.toInt >>> n.toInt.toNat := by
    rw [← hs]; exact BitVec.toInt_sshiftRight ..
  rw [h, e, Int.shiftRight_eq_div_pow]
  rfl
theorem mp_l_shl1 {z : Int64} (h : z = 1 <<< (n.toInt64 &&& 63)) (h0 : 0 ≤ n.toInt ∧ n.toInt ≤ 39) : z.toInt = mp_P2 n.toInt.toNat := by
  have g := mp_shlk64 ⟨n.toInt.toNat, by omega⟩
  rw [mp_ofnat h0.1] at g
  rw [h]; exact g
theorem mp_l_shl {x z : Int64} (h : z = x <<< (n.toInt64 &&& 63)) (h0 : 0 ≤ n.toInt ∧ n.toInt ≤ 20) (hx : 0 ≤ x.toInt ∧ x.toInt ≤ 1000000) : z.toInt = x.toInt * mp_P2 n.toInt.toNat := by
  have hs : ((n.toInt64 &&& 63).toBitVec.smod 64).toNat = n.toInt.toNat := by
    have g := mp_shk64 ⟨n.toInt.toNat, by omega⟩
    rw [mp_ofnat h0.1] at g
    exact g
  have e : (x <<< (n.toInt64 &&& 63)).toBitVec.toNat = x.toBitVec.toNat * 2 ^ n.toInt.toNat % 2 ^ 64 := by
    rw [← hs]
    show (x.toBitVec <<< ((n.toInt64 &&& 63).toBitVec.smod 64)).toNat = _
    rw [BitVec.shiftLeft_eq', BitVec.toNat_shiftLeft, Nat.shiftLeft_eq]
  have en : (x.toBitVec.toNat : Int) = x.toInt := by
    have h1 : x.toInt = (x.toBitVec.toNat : Int).bmod (2 ^ 64) := BitVec.toInt_eq_toNat_bmod _
    have h2 := x.toBitVec.isLt
    rw [Int.bmod_def] at h1
    omega
  have hp := mp_P2_1 (n := n.toInt.toNat)
  have hq : mp_P2 n.toInt.toNat ≤ mp_P2 20 := mp_P2_le (by omega)
  have h20 : mp_P2 20 = 1048576 := by decide
  have hm : x.toInt * mp_P2 n.toInt.toNat ≤ 1000000 * 1048576 := Int.mul_le_mul hx.2 (by omega) (by omega) (by decide)
  have hm0 : 0 ≤ x.toInt * mp_P2 n.toInt.toNat := Int.mul_nonneg hx.1 (by omega)
  have ec : ((x.toBitVec.toNat * 2 ^ n.toInt.toNat : Nat) : Int) = x.toInt * mp_P2 n.toInt.toNat := by
    rw [Int.natCast_mul, en]; rfl
  have hz : z.toInt = (z.toBitVec.toNat : Int).bmod (2 ^ 64) := BitVec.toInt_eq_toNat_bmod _
  have c64 : ((2 ^ 64 : Nat) : Int) = 18446744073709551616 := by decide
  have lt : x.toBitVec.toNat * 2 ^ n.toInt.toNat < 2 ^ 64 := by
    apply Int.ofNat_lt.mp
    rw [ec, c64]; omega
  generalize x.toInt * mp_P2 n.toInt.toNat = V at *
  rw [hz, h, e, Nat.mod_eq_of_lt lt, ec, Int.bmod_def]
  have b : V % ((2 ^ 64 : Nat) : Int) = V := Int.emod_eq_of_lt hm0 (by rw [c64]; omega)
  rw [b, if_pos (by rw [c64]; omega)]
theorem mp_hvi (hw : 1 ≤ w.toInt ∧ w.toInt ≤ 1000000) (h0 : 0 ≤ n.toInt) : (mp_hv w n).toInt = mp_ce w.toInt n.toInt.toNat := by
  unfold mp_hv
  by_cases q : 20 < n.toInt
  · rw [if_pos q, mp_ce_1 hw.1 (Int.le_trans hw.2 (mp_P2_20 (by omega)))]; rfl
  · rw [if_neg q]
    have e0 : w.toInt64.toInt = w.toInt := Int32.toInt_toInt64 _
    have e1 := mp_l_shl1 (n := n) rfl (by omega)
    have hp := mp_P2_1 (n := n.toInt.toNat)
    have hq : mp_P2 n.toInt.toNat ≤ mp_P2 20 := mp_P2_le (by omega)
    have h20 : mp_P2 20 = 1048576 := by decide
    have e2 := mp_l_add (x := w.toInt64) (y := 1 <<< (n.toInt64 &&& 63)) rfl (by omega) (by omega)
    have i1 : (1 : Int64).toInt = 1 := rfl
    have e3 := mp_l_sub (x := w.toInt64 + 1 <<< (n.toInt64 &&& 63)) (y := 1) rfl (by omega) (by omega)
    have e4 := mp_l_shr (n := n) (x := w.toInt64 + 1 <<< (n.toInt64 &&& 63) - 1) rfl (by omega)
    have e5 : (w.toInt64 + 1 <<< (n.toInt64 &&& 63) - 1).toInt = w.toInt + mp_P2 n.toInt.toNat - 1 := by omega
    have hb := mp_ce_b (n := n.toInt.toNat) hw
    rw [e5] at e4
    have e6 : ((w.toInt64 + 1 <<< (n.toInt64 &&& 63) - 1) >>> (n.toInt64 &&& 63)).toInt = mp_ce w.toInt n.toInt.toNat := e4
    rw [Int64.toInt_toInt32, e6, Int.bmod_def]
    omega
end MPWG
-- pairs
abbrev mp_pt (f : Nat → Int64) (s : Int) (j : Nat) : Int := (f (60 * s.toNat + 2 * j)).toInt
abbrev mp_pw (f : Nat → Int64) (s : Int) (j : Nat) : Int := (f (60 * s.toNat + 2 * j + 1)).toInt
def mp_vd (f : Nat → Int64) (s : Int) (n : Nat) (S : Int) : Prop := ∀ j : Nat, j < n → (S ≤ mp_pt f s j ∧ mp_pt f s j ≤ S + 10) ∧ (1 ≤ mp_pw f s j ∧ mp_pw f s j ≤ 1000000)
def mp_clx (f : Nat → Int64) (s : Int) (n : Nat) : Prop := ∃ j k : Nat, j < n ∧ k < n ∧ mp_pt f s j = mp_pt f s k ∧ mp_pw f s j ≠ mp_pw f s k
def mp_LD (f : Nat → Int64) (s : Int) (n : Nat) (S : Int) (wt : Nat → Int32) (cl : Int) : Prop := mp_vd f s n S ∧ (∀ d : Nat, d ≤ 10 → (wt d).toInt ≠ 0 → ∃ j : Nat, j < n ∧ mp_pt f s j = S + d ∧ mp_pw f s j = (wt d).toInt) ∧ (∀ j : Nat, j < n → (wt (mp_pt f s j - S).toNat).toInt ≠ 0 ∧ (cl = 0 → (wt (mp_pt f s j - S).toNat).toInt = mp_pw f s j)) ∧ (cl ≠ 0 → mp_clx f s n)
section MPLD
variable {f : Nat → Int64} {s S S2 cl cl2 W D m : Int} {n n2 : Nat} {wt wt2 : Nat → Int32}
theorem mp_LD_0 (h : ∀ d : Nat, d ≤ 10 → (wt d).toInt = 0) (hc : cl = 0) (hn : n = 0) : mp_LD f s n S wt cl := by
  subst hn
  exact ⟨fun j hj => absurd hj (Nat.not_lt_zero j), fun d hd q => absurd (h d hd) q, fun j hj => absurd hj (Nat.not_lt_zero j), fun q => absurd hc q⟩
theorem mp_LD_s {z1 z2 : Int64} {a v : Int32} (p : mp_LD f s n S wt cl) (h1 : z1.toInt = mp_pt f s n) (h2 : z2.toInt = mp_pw f s n) (hv : (S ≤ z1.toInt ∧ z1.toInt ≤ S + 10) ∧ (1 ≤ z2.toInt ∧ z2.toInt ≤ 1000000)) (ha : a.toInt = z1.toInt - S) (hu : wt2 = upd wt a.toNatClampNeg v) (hvv : v.toInt = z2.toInt)
    (hc : (cl2 = 1 ∧ (cl ≠ 0 ∨ ((wt a.toInt.toNat).toInt ≠ 0 ∧ (wt a.toInt.toNat).toInt ≠ z2.toInt))) ∨ (cl2 = 0 ∧ cl = 0 ∧ ((wt a.toInt.toNat).toInt = 0 ∨ (wt a.toInt.toNat).toInt = z2.toInt))) (hn : n2 = n + 1) : mp_LD f s n2 S wt2 cl2 := by
  obtain ⟨p1, p2, p3, p4⟩ := p
  subst hn hu
  have ea : a.toNatClampNeg = a.toInt.toNat := rfl
  refine ⟨fun j hj => ?_, fun d hd q => ?_, fun j hj => ?_, fun q => ?_⟩
  · by_cases e : j = n
    · subst e; exact ⟨⟨by omega, by omega⟩, by omega, by omega⟩
    · exact p1 j (by omega)
  · by_cases e : d = a.toInt.toNat
    · refine ⟨n, by omega, by omega, ?_⟩
      show _ = (if d = a.toNatClampNeg then v else wt d).toInt
      rw [if_pos (by rw [ea]; exact e)]; omega
    · have e2 : upd wt a.toNatClampNeg v d = wt d := by show (if d = a.toNatClampNeg then v else wt d) = _; rw [ea, if_neg e]
      rw [e2] at q ⊢
      obtain ⟨j, hj, g⟩ := p2 d hd q
      exact ⟨j, by omega, g⟩
  · by_cases e : j = n
    · subst e
      have e2 : upd wt a.toNatClampNeg v (mp_pt f s j - S).toNat = v := by show (if _ = a.toNatClampNeg then v else _) = _; rw [ea, if_pos (by omega)]
      rw [e2]
      exact ⟨by omega, fun _ => by omega⟩
    · have g := p3 j (by omega)
      have g1 := p1 j (by omega)
      by_cases e3 : (mp_pt f s j - S).toNat = a.toInt.toNat
      · have e2 : upd wt a.toNatClampNeg v (mp_pt f s j - S).toNat = v := by show (if _ = a.toNatClampNeg then v else _) = _; rw [ea, if_pos e3]
        rw [e2]
        rw [e3] at g
        refine ⟨by omega, fun q => ?_⟩
        have := g.2 (by omega)
        omega
      · have e2 : upd wt a.toNatClampNeg v (mp_pt f s j - S).toNat = wt (mp_pt f s j - S).toNat := by show (if _ = a.toNatClampNeg then v else _) = _; rw [ea, if_neg e3]
        rw [e2]
        exact ⟨g.1, fun q => g.2 (by omega)⟩
  · by_cases e : cl ≠ 0
    · obtain ⟨j, k, a1, a2, a3, a4⟩ := p4 e
      exact ⟨j, k, by omega, by omega, a3, a4⟩
    · have g : (wt a.toInt.toNat).toInt ≠ 0 ∧ (wt a.toInt.toNat).toInt ≠ z2.toInt := by omega
      obtain ⟨j, hj, b1, b2⟩ := p2 a.toInt.toNat (by omega) g.1
      exact ⟨j, n, by omega, by omega, by omega, by omega⟩
-- when it can have been said first
def mp_FM (f : Nat → Int64) (s W D m : Int) : Nat → Bool
  | 0 => true
  | j + 1 => mp_FM f s W D m j && decide (m ≤ mp_pt f s j ∧ mp_ce W (mp_pt f s j - m + D).toNat = mp_pw f s j)
theorem mp_FM_i : ∀ {n : Nat}, mp_FM f s W D m n = true ↔ ∀ j : Nat, j < n → m ≤ mp_pt f s j ∧ mp_ce W (mp_pt f s j - m + D).toNat = mp_pw f s j
  | 0 => ⟨fun _ j hj => absurd hj (Nat.not_lt_zero j), fun _ => rfl⟩
  | n + 1 => by
    show (mp_FM f s W D m n && decide _) = true ↔ _
    rw [Bool.and_eq_true, decide_eq_true_eq, mp_FM_i]
    constructor
    · rintro ⟨h, h2⟩ j hj
      by_cases q : j = n
      · rw [q]; exact h2
      · exact h j (by omega)
    · intro h
      exact ⟨fun j hj => h j (by omega), h n (by omega)⟩
/-- of moon d, by the weights -/
abbrev mp_fd1 (wt : Nat → Int32) (S W D m : Int) (d : Nat) : Prop := (wt d).toInt ≠ 0 → m ≤ S + d ∧ (wt d).toInt = mp_ce W (S + d - m + D).toNat
theorem mp_FM_C1 (p : mp_LD f s n S wt cl) (hc : cl = 0) (h : ∀ d : Nat, d < 11 → mp_fd1 wt S W D m d) : mp_FM f s W D m n = true := by
  obtain ⟨p1, p2, p3, p4⟩ := p
  rw [mp_FM_i]
  intro j hj
  have a1 := p1 j hj
  have a3 := p3 j hj
  have g := h (mp_pt f s j - S).toNat (by omega) a3.1
  have e : S + ((mp_pt f s j - S).toNat : Int) = mp_pt f s j := by omega
  rw [e] at g
  exact ⟨g.1, by rw [← g.2]; exact a3.2 hc⟩
theorem mp_FM_C0 (p : mp_LD f s n S wt cl) {d : Nat} (hd : d < 11) (h : ¬ mp_fd1 wt S W D m d) : mp_FM f s W D m n = false := by
  obtain ⟨p1, p2, p3, p4⟩ := p
  rw [Bool.eq_false_iff]
  intro q
  rw [mp_FM_i] at q
  refine h (fun h0 => ?_)
  obtain ⟨j, hj, e1, e2⟩ := p2 d (by omega) h0
  have g := q j hj
  rw [e1, e2] at g
  exact ⟨g.1, g.2.symm⟩
theorem mp_FM_Cc (p : mp_LD f s n S wt cl) (hc : cl ≠ 0) : mp_FM f s W D m n = false := by
  obtain ⟨p1, p2, p3, p4⟩ := p
  rw [Bool.eq_false_iff]
  intro q
  rw [mp_FM_i] at q
  obtain ⟨j, k, a1, a2, a3, a4⟩ := p4 hc
  have g1 := q j a1
  have g2 := q k a2
  rw [a3] at g1
  exact a4 (g1.2.symm.trans g2.2)
-- what it can have been worth
abbrev mp_lo1 (f : Nat → Int64) (s S D : Int) (j : Nat) : Int := (mp_pw f s j - 1) * mp_P2 (mp_pt f s j - S + D).toNat + 1
abbrev mp_hi1 (f : Nat → Int64) (s S D : Int) (j : Nat) : Int := mp_pw f s j * mp_P2 (mp_pt f s j - S + D).toNat
def mp_spL (f : Nat → Int64) (s S D : Int) : Nat → Int
  | 0 => 1
  | j + 1 => if mp_spL f s S D j < mp_lo1 f s S D j then mp_lo1 f s S D j else mp_spL f s S D j
def mp_spH (f : Nat → Int64) (s S D : Int) : Nat → Int
  | 0 => 1000000
  | j + 1 => if mp_hi1 f s S D j < mp_spH f s S D j then mp_hi1 f s S D j else mp_spH f s S D j
theorem mp_spL_e : mp_spL f s S D (n + 1) = if mp_spL f s S D n < mp_lo1 f s S D n then mp_lo1 f s S D n else mp_spL f s S D n := rfl
theorem mp_spH_e : mp_spH f s S D (n + 1) = if mp_hi1 f s S D n < mp_spH f s S D n then mp_hi1 f s S D n else mp_spH f s S D n := rfl
theorem mp_spL_c : ∀ {n : Nat}, 1 ≤ mp_spL f s S D n ∧ (∀ j : Nat, j < n → mp_lo1 f s S D j ≤ mp_spL f s S D n) ∧ (mp_spL f s S D n = 1 ∨ ∃ j : Nat, j < n ∧ mp_spL f s S D n = mp_lo1 f s S D j)
  | 0 => ⟨Int.le_refl _, fun j hj => absurd hj (Nat.not_lt_zero j), Or.inl rfl⟩
  | n + 1 => by
    obtain ⟨a, b, c⟩ := mp_spL_c (n := n)
    rw [mp_spL_e]
    by_cases q : mp_spL f s S D n < mp_lo1 f s S D n
    · rw [if_pos q]
      refine ⟨by omega, fun j hj => ?_, Or.inr ⟨n, by omega, rfl⟩⟩
      by_cases e : j = n
      · rw [e]; exact Int.le_refl _
      · have := b j (by omega); omega
    · rw [if_neg q]
      refine ⟨a, fun j hj => ?_, ?_⟩
      · by_cases e : j = n
        · rw [e]; omega
        · exact b j (by omega)
      · rcases c with c | ⟨j, hj, c⟩
        · exact Or.inl c
        · exact Or.inr ⟨j, by omega, c⟩
theorem mp_spH_c : ∀ {n : Nat}, mp_spH f s S D n ≤ 1000000 ∧ (∀ j : Nat, j < n → mp_spH f s S D n ≤ mp_hi1 f s S D j) ∧ (mp_spH f s S D n = 1000000 ∨ ∃ j : Nat, j < n ∧ mp_spH f s S D n = mp_hi1 f s S D j)
  | 0 => ⟨Int.le_refl _, fun j hj => absurd hj (Nat.not_lt_zero j), Or.inl rfl⟩
  | n + 1 => by
    obtain ⟨a, b, c⟩ := mp_spH_c (n := n)
    rw [mp_spH_e]
    by_cases q : mp_hi1 f s S D n < mp_spH f s S D n
    · rw [if_pos q]
      refine ⟨by omega, fun j hj => ?_, Or.inr ⟨n, by omega, rfl⟩⟩
      by_cases e : j = n
      · rw [e]; exact Int.le_refl _
      · have := b j (by omega); omega
    · rw [if_neg q]
      refine ⟨a, fun j hj => ?_, ?_⟩
      · by_cases e : j = n
        · rw [e]; omega
        · exact b j (by omega)
      · rcases c with c | ⟨j, hj, c⟩
        · exact Or.inl c
        · exact Or.inr ⟨j, by omega, c⟩
/-- the class's bounds, by the weights of d moons -/
def mp_spC (wt : Nat → Int32) (D : Int) (d : Nat) (hi0 low high : Int) : Prop := (1 ≤ low ∧ (∀ k : Nat, k < d → (wt k).toInt ≠ 0 → ((wt k).toInt - 1) * mp_P2 ((k : Int) + D).toNat + 1 ≤ low) ∧ (low = 1 ∨ ∃ k : Nat, k < d ∧ (wt k).toInt ≠ 0 ∧ low = ((wt k).toInt - 1) * mp_P2 ((k : Int) + D).toNat + 1)) ∧ (high ≤ hi0 ∧ (∀ k : Nat, k < d → (wt k).toInt ≠ 0 → high ≤ (wt k).toInt * mp_P2 ((k : Int) + D).toNat) ∧ (high = hi0 ∨ ∃ k : Nat, k < d ∧ (wt k).toInt ≠ 0 ∧ high = (wt k).toInt * mp_P2 ((k : Int) + D).toNat))
theorem mp_spC_0 {hi0 : Int} : mp_spC wt D 0 hi0 1 hi0 := ⟨⟨Int.le_refl _, fun k hk => absurd hk (Nat.not_lt_zero k), Or.inl rfl⟩, Int.le_refl _, fun k hk => absurd hk (Nat.not_lt_zero k), Or.inl rfl⟩
theorem mp_spC_z {d d2 : Nat} {hi0 low high : Int} (p : mp_spC wt D d hi0 low high) (h : (wt d).toInt = 0) (hd : d2 = d + 1) : mp_spC wt D d2 hi0 low high := by
  subst hd
  obtain ⟨⟨a, b, c⟩, a2, b2, c2⟩ := p
  refine ⟨⟨a, fun k hk q => ?_, ?_⟩, a2, fun k hk q => ?_, ?_⟩
  · by_cases e : k = d
    · rw [e] at q; exact absurd h q
    · exact b k (by omega) q
  · rcases c with c | ⟨k, hk, c⟩
    · exact Or.inl c
    · exact Or.inr ⟨k, by omega, c⟩
  · by_cases e : k = d
    · rw [e] at q; exact absurd h q
    · exact b2 k (by omega) q
  · rcases c2 with c | ⟨k, hk, c⟩
    · exact Or.inl c
    · exact Or.inr ⟨k, by omega, c⟩
theorem mp_spC_s {d d2 : Nat} {hi0 low high low2 high2 A B : Int} (p : mp_spC wt D d hi0 low high) (h : (wt d).toInt ≠ 0) (eA : A = ((wt d).toInt - 1) * mp_P2 ((d : Int) + D).toNat + 1) (eB : B = (wt d).toInt * mp_P2 ((d : Int) + D).toNat) (hl : (low ≤ low2 ∧ A ≤ low2) ∧ (low2 = low ∨ low2 = A)) (hh : (high2 ≤ high ∧ high2 ≤ B) ∧ (high2 = high ∨ high2 = B)) (hd : d2 = d + 1) : mp_spC wt D d2 hi0 low2 high2 := by
  subst hd
  obtain ⟨⟨a, b, c⟩, a2, b2, c2⟩ := p
  refine ⟨⟨by omega, fun k hk q => ?_, ?_⟩, by omega, fun k hk q => ?_, ?_⟩
  · by_cases e : k = d
    · rw [e]; omega
    · have := b k (by omega) q; omega
  · rcases hl.2 with e | e
    · rcases c with c | ⟨k, hk, c1, c⟩
      · exact Or.inl (by omega)
      · exact Or.inr ⟨k, by omega, c1, by omega⟩
    · exact Or.inr ⟨d, by omega, h, by omega⟩
  · by_cases e : k = d
    · rw [e]; omega
    · have := b2 k (by omega) q; omega
  · rcases hh.2 with e | e
    · rcases c2 with c | ⟨k, hk, c1, c⟩
      · exact Or.inl (by omega)
      · exact Or.inr ⟨k, by omega, c1, by omega⟩
    · exact Or.inr ⟨d, by omega, h, by omega⟩
def mp_spA (f : Nat → Int64) (s S D : Int) (n : Nat) (what : Int) : Int := if mp_spH f s S D n < mp_spL f s S D n then -1 else if what = 0 then mp_spL f s S D n else mp_spH f s S D n
theorem mp_sp_eq {low high : Int} (p : mp_LD f s n S wt cl) (hc : cl = 0) (h : mp_spC wt D 11 1000000 low high) : low = mp_spL f s S D n ∧ high = mp_spH f s S D n := by
  obtain ⟨p1, p2, p3, p4⟩ := p
  obtain ⟨⟨a, b, c⟩, a2, b2, c2⟩ := h
  obtain ⟨e1, e2, e3⟩ := mp_spL_c (f := f) (s := s) (S := S) (D := D) (n := n)
  obtain ⟨g1, g2, g3⟩ := mp_spH_c (f := f) (s := s) (S := S) (D := D) (n := n)
  have up : ∀ j : Nat, j < n → mp_lo1 f s S D j ≤ low ∧ high ≤ mp_hi1 f s S D j := by
    intro j hj
    have q1 := p1 j hj
    have q3 := p3 j hj
    have w1 := q3.2 hc
    have k1 := b (mp_pt f s j - S).toNat (by omega) q3.1
    have k2 := b2 (mp_pt f s j - S).toNat (by omega) q3.1
    rw [w1, show ((mp_pt f s j - S).toNat : Int) = mp_pt f s j - S by omega] at k1 k2
    exact ⟨k1, k2⟩
  have dn : ∀ k : Nat, k < 11 → (wt k).toInt ≠ 0 → ((wt k).toInt - 1) * mp_P2 ((k : Int) + D).toNat + 1 ≤ mp_spL f s S D n ∧ mp_spH f s S D n ≤ (wt k).toInt * mp_P2 ((k : Int) + D).toNat := by
    intro k hk q
    obtain ⟨j, hj, t1, t2⟩ := p2 k (by omega) q
    have k1 := e2 j hj
    have k2 := g2 j hj
    have t3 : mp_pt f s j - S = (k : Int) := by omega
    unfold mp_lo1 at k1
    unfold mp_hi1 at k2
    rw [t3, t2] at k1 k2
    exact ⟨k1, k2⟩
  constructor
  · apply Int.le_antisymm
    · rcases c with c | ⟨k, hk, q, c⟩
      · omega
      · have := (dn k hk q).1; omega
    · rcases e3 with e3 | ⟨j, hj, e3⟩
      · omega
      · have := (up j hj).1; omega
  · apply Int.le_antisymm
    · rcases g3 with e3 | ⟨j, hj, e3⟩
      · omega
      · have := (up j hj).2; omega
    · rcases c2 with c | ⟨k, hk, q, c⟩
      · omega
      · have := (dn k hk q).2; omega
theorem mp_sp_cl (p : mp_LD f s n S wt cl) (hc : cl ≠ 0) {what : Int} : mp_spA f s S D n what = -1 := by
  obtain ⟨p1, p2, p3, p4⟩ := p
  obtain ⟨e1, e2, e3⟩ := mp_spL_c (f := f) (s := s) (S := S) (D := D) (n := n)
  obtain ⟨g1, g2, g3⟩ := mp_spH_c (f := f) (s := s) (S := S) (D := D) (n := n)
  obtain ⟨j, k, a1, a2, a3, a4⟩ := p4 hc
  have key : ∀ x y : Nat, x < n → y < n → mp_pt f s x = mp_pt f s y → mp_pw f s x < mp_pw f s y → mp_spH f s S D n < mp_spL f s S D n := by
    intro x y hx hy e lt
    have h1 := e2 y hy
    have h2 := g2 x hx
    unfold mp_lo1 at h1
    unfold mp_hi1 at h2
    rw [e] at h2
    have hp := mp_P2_1 (n := (mp_pt f s y - S + D).toNat)
    have h3 : mp_pw f s x * mp_P2 (mp_pt f s y - S + D).toNat ≤ (mp_pw f s y - 1) * mp_P2 (mp_pt f s y - S + D).toNat := Int.mul_le_mul_of_nonneg_right (by omega) (by omega)
    omega
  unfold mp_spA
  rw [if_pos]
  rcases Int.lt_or_gt_of_ne a4 with q | q
  · exact key j k a1 a2 a3 q
  · exact key k j a2 a1 a3.symm q
end MPLD
-- rows for the walks
section MPWR
variable {f : Nat → Int64} {s S W D m n i i' k : Int} {wt : Nat → Int32}
theorem mp_alls {F : Nat → Prop} (p : ∀ d : Nat, (d : Int) < i → F d) (h : F i.toNat) (h0 : 0 ≤ i) (hn : i' = i + 1) : ∀ d : Nat, (d : Int) < i' → F d := by
  intro d hd
  by_cases q : d = i.toNat
  · rw [q]; exact h
  · exact p d (by omega)
theorem mp_pt_at {z : Int64} {a : Nat} (h : z = f a) (ha : a = 60 * s.toNat + 2 * (k / 2).toNat) : z.toInt = mp_pt f s (k / 2).toNat := by rw [h, ha]
theorem mp_pw_at {z : Int64} {a : Nat} (h : z = f a) (ha : a = 60 * s.toNat + 2 * (k / 2).toNat + 1) : z.toInt = mp_pw f s (k / 2).toNat := by rw [h, ha]
theorem mp_vd_no {n0 n : Nat} {z1 z2 : Int} (h1 : z1 = mp_pt f s n0) (h2 : z2 = mp_pw f s n0) (hn : n0 < n) (hv : z1 < S ∨ S + 10 < z1 ∨ z2 < 1 ∨ 1000000 < z2) : ¬ mp_vd f s n S := by
  intro p
  have := p n0 hn
  omega
theorem mp_vd_no1 {n0 n : Nat} {z1 : Int} (h1 : z1 = mp_pt f s n0) (hn : n0 < n) (hv : z1 < S ∨ S + 10 < z1) : ¬ mp_vd f s n S := by
  intro p
  have := p n0 hn
  omega
theorem mp_vd_0 {n : Nat} (h : n = 0) : mp_vd f s n S := fun j hj => absurd hj (by omega)
theorem mp_vd_s {n n2 : Nat} {z1 z2 : Int} (p : mp_vd f s n S) (h1 : z1 = mp_pt f s n) (h2 : z2 = mp_pw f s n) (hv : (S ≤ z1 ∧ z1 ≤ S + 10) ∧ (1 ≤ z2 ∧ z2 ≤ 1000000)) (hn : n2 = n + 1) : mp_vd f s n2 S := by
  intro j hj
  by_cases e : j = n
  · rw [e, ← h1, ← h2]; exact hv
  · exact p j (by omega)
def mp_ffN (wt : Nat → Int32) (S W D cl m : Int) : Prop := cl ≠ 0 ∨ ∃ d : Nat, d < 11 ∧ ¬ mp_fd1 wt S W D m d
def mp_fbR (wt : Nat → Int32) (D cl what r : Int) : Prop := ∃ low high : Int, mp_spC wt D 11 (if cl = 0 then 1000000 else 0) low high ∧ ((high < low ∧ r = -1) ∨ (low ≤ high ∧ ((what = 0 ∧ r = low) ∨ (what ≠ 0 ∧ r = high))))
def mp_fmc (wt : Nat → Int32) (S W D cl : Int) (m : Nat) : Bool := decide (cl = 0 ∧ ∀ d : Nat, d < 11 → mp_fd1 wt S W D (m : Int) d)
theorem mp_fmc_t {cl : Int} (h0 : 0 ≤ m) (hc : cl = 0) (h : ∀ d : Nat, d < 11 → mp_fd1 wt S W D m d) : mp_fmc wt S W D cl m.toNat = true := by
  unfold mp_fmc
  rw [show ((m.toNat : Nat) : Int) = m by omega]
  exact decide_eq_true ⟨hc, h⟩
theorem mp_fmc_f {cl : Int} (h0 : 0 ≤ m) (h : mp_ffN wt S W D cl m) : mp_fmc wt S W D cl m.toNat = false := by
  unfold mp_fmc
  rw [show ((m.toNat : Nat) : Int) = m by omega]
  refine decide_eq_false (fun q => ?_)
  rcases h with h | ⟨d, hd, h⟩
  · exact h q.1
  · exact h (q.2 d hd)
theorem mp_fmc_FM {n : Nat} {cl : Int} {m : Nat} (p : mp_LD f s n S wt cl) : mp_fmc wt S W D cl m = mp_FM f s W D (m : Int) n := by
  unfold mp_fmc
  by_cases hc : cl = 0
  · by_cases h : ∀ d : Nat, d < 11 → mp_fd1 wt S W D (m : Int) d
    · rw [mp_FM_C1 p hc h]; exact decide_eq_true ⟨hc, h⟩
    · have h2 : ∃ d : Nat, d < 11 ∧ ¬ mp_fd1 wt S W D (m : Int) d := by
        refine Classical.byContradiction (fun q => h (fun d hd => Classical.byContradiction (fun q2 => q ⟨d, hd, q2⟩)))
      obtain ⟨d, hd, h3⟩ := h2
      rw [mp_FM_C0 p hd h3]; exact decide_eq_false (fun q => h q.2)
  · rw [mp_FM_Cc p hc]; exact decide_eq_false (fun q => hc q.1)
theorem mp_l_32 {x : Int64} {z : Int32} (h : z = x.toInt32) (h0 : -2147483648 ≤ x.toInt ∧ x.toInt ≤ 2147483647) : z.toInt = x.toInt := by
  rw [h, Int64.toInt_toInt32, Int.bmod_def]; omega
theorem mp_loA {x y sh t : Int64} {q : Int32} {v : Int} {j : Nat} (hx : x.toInt = v) (hy : y = x - 1) (hs : sh = y <<< (q.toInt64 &&& 63)) (ht : t = sh + 1) (hv : 1 ≤ v ∧ v ≤ 1000000) (hq : 0 ≤ q.toInt ∧ q.toInt ≤ 11) (hj : q.toInt.toNat = j) : t.toInt = (v - 1) * mp_P2 j + 1 := by
  have i1 : (1 : Int64).toInt = 1 := rfl
  have a1 := mp_l_sub hy (by omega) (by omega)
  have a2 := mp_l_shl hs (by omega) (by omega)
  have hp := mp_P2_1 (n := j)
  have hq2 : mp_P2 j ≤ mp_P2 20 := mp_P2_le (by omega)
  have h20 : mp_P2 20 = 1048576 := by decide
  rw [hj, a1, i1, hx] at a2
  have hm : (v - 1) * mp_P2 j ≤ 1000000 * 1048576 := Int.mul_le_mul (by omega) (by omega) (by omega) (by decide)
  have hm0 : 0 ≤ (v - 1) * mp_P2 j := Int.mul_nonneg (by omega) (by omega)
  have a3 := mp_l_add ht (by omega) (by omega)
  rw [a3, a2, i1]
theorem mp_hiA {x sh : Int64} {q : Int32} {v : Int} {j : Nat} (hx : x.toInt = v) (hs : sh = x <<< (q.toInt64 &&& 63)) (hv : 1 ≤ v ∧ v ≤ 1000000) (hq : 0 ≤ q.toInt ∧ q.toInt ≤ 11) (hj : q.toInt.toNat = j) : sh.toInt = v * mp_P2 j := by
  have a2 := mp_l_shl hs (by omega) (by omega)
  rw [hj, hx] at a2
  exact a2
theorem mp_LD_w {n : Nat} {cl : Int} (p : mp_LD f s n S wt cl) : ∀ d : Nat, d < 11 → 0 ≤ (wt d).toInt ∧ (wt d).toInt ≤ 1000000 := by
  intro d hd
  obtain ⟨p1, p2, p3, p4⟩ := p
  by_cases q : (wt d).toInt = 0
  · omega
  · obtain ⟨j, hj, e1, e2⟩ := p2 d (by omega) q
    have := p1 j hj
    omega
theorem mp_spn_C {n : Nat} {cl low high r what : Int} (p : mp_LD f s n S wt cl) (h : mp_spC wt D 11 (if cl = 0 then 1000000 else 0) low high) (hr : (high < low ∧ r = -1) ∨ (low ≤ high ∧ ((what = 0 ∧ r = low) ∨ (what ≠ 0 ∧ r = high)))) : r = mp_spA f s S D n what := by
  by_cases hc : cl = 0
  · rw [if_pos hc] at h
    obtain ⟨e1, e2⟩ := mp_sp_eq p hc h
    unfold mp_spA
    rw [← e1, ← e2]
    rcases hr with ⟨q, hr⟩ | ⟨q, hr⟩
    · rw [if_pos q]; exact hr
    · rw [if_neg (by omega)]
      rcases hr with ⟨q2, hr⟩ | ⟨q2, hr⟩
      · rw [if_pos q2]; exact hr
      · rw [if_neg q2]; exact hr
  · rw [if_neg hc] at h
    rw [mp_sp_cl p hc]
    have a := h.1.1
    have b := h.2.1
    omega
end MPWR
-- rows for the reference's walks
section MPWM
variable {f : Nat → Int64} {s S W D m i : Int} {n n2 : Nat}
theorem mp_FM_t {z1 z2 : Int} (p : mp_FM f s W D m n = true) (h1 : z1 = mp_pt f s n) (h2 : z2 = mp_pw f s n) (c : m ≤ z1) (e : mp_ce W (z1 - m + D).toNat = z2) (hn : n2 = n + 1) : mp_FM f s W D m n2 = true := by
  subst hn h1 h2
  show (mp_FM f s W D m n && decide _) = true
  rw [p, decide_eq_true ⟨c, e⟩]; rfl
theorem mp_FM_f {z1 z2 : Int} (h1 : z1 = mp_pt f s n) (h2 : z2 = mp_pw f s n) (c : z1 < m ∨ mp_ce W (z1 - m + D).toNat ≠ z2) (hn : n2 = n + 1) : mp_FM f s W D m n2 = false := by
  subst hn h1 h2
  show (mp_FM f s W D m n && decide _) = false
  rw [decide_eq_false (fun q => by rcases c with c | c; omega; exact c q.2), Bool.and_false]
theorem mp_FM_f1 {z1 : Int} (h1 : z1 = mp_pt f s n) (c : z1 < m) (hn : n2 = n + 1) : mp_FM f s W D m n2 = false := mp_FM_f h1 rfl (Or.inl c) hn
theorem mp_FM_f0 (p : mp_FM f s W D m n = false) (hn : n2 = n + 1) : mp_FM f s W D m n2 = false := by
  subst hn
  show (mp_FM f s W D m n && decide _) = false
  rw [p]; rfl
theorem mp_FM_n (h0 : 0 ≤ m) : mp_FM f s W D ((m.toNat : Nat) : Int) n = mp_FM f s W D m n := by rw [show ((m.toNat : Nat) : Int) = m by omega]
theorem mp_hv_ce {r a q : Int32} {k : Nat} (h : r = mp_hv a q) (ha : a.toInt = W) (hW : 1 ≤ W ∧ W ≤ 1000000) (hq : 0 ≤ q.toInt) (hk : q.toInt.toNat = k) : r.toInt = mp_ce W k := by
  rw [h, mp_hvi (by rw [ha]; exact hW) hq, ha, hk]
theorem mp_spL_t {l A : Int} (p : l = mp_spL f s S D n) (hA : A = mp_lo1 f s S D n) (c : l < A) (hn : n2 = n + 1) : A = mp_spL f s S D n2 := by
  subst hn
  rw [mp_spL_e, ← p, ← hA, if_pos c]
theorem mp_spL_f {l A : Int} (p : l = mp_spL f s S D n) (hA : A = mp_lo1 f s S D n) (c : A ≤ l) (hn : n2 = n + 1) : l = mp_spL f s S D n2 := by
  subst hn
  rw [mp_spL_e, ← p, ← hA, if_neg (by omega)]
theorem mp_spH_t {l A : Int} (p : l = mp_spH f s S D n) (hA : A = mp_hi1 f s S D n) (c : A < l) (hn : n2 = n + 1) : A = mp_spH f s S D n2 := by
  subst hn
  rw [mp_spH_e, ← p, ← hA, if_pos c]
theorem mp_spH_f {l A : Int} (p : l = mp_spH f s S D n) (hA : A = mp_hi1 f s S D n) (c : l ≤ A) (hn : n2 = n + 1) : l = mp_spH f s S D n2 := by
  subst hn
  rw [mp_spH_e, ← p, ← hA, if_neg (by omega)]
theorem mp_spA_i {l h r what : Int} (hl : l = mp_spL f s S D n) (hh : h = mp_spH f s S D n) (hr : (h < l ∧ r = -1) ∨ (l ≤ h ∧ ((what = 0 ∧ r = l) ∨ (what ≠ 0 ∧ r = h)))) : r = mp_spA f s S D n what := by
  unfold mp_spA
  rw [← hl, ← hh]
  rcases hr with ⟨q, hr⟩ | ⟨q, hr⟩
  · rw [if_pos q]; exact hr
  · rw [if_neg (by omega)]
    rcases hr with ⟨q2, hr⟩ | ⟨q2, hr⟩
    · rw [if_pos q2]; exact hr
    · rw [if_neg q2]; exact hr
theorem mp_spB {l h : Int} (hl : l = mp_spL f s S D n) (hh : h = mp_spH f s S D n) : 1 ≤ l ∧ h ≤ 1000000 := by
  rw [hl, hh]; exact ⟨mp_spL_c.1, mp_spH_c.1⟩
end MPWM
theorem mp_lmx_o {x y z : Int64} (h : z = if y < x then x else y) : (x.toInt ≤ z.toInt ∧ y.toInt ≤ z.toInt) ∧ (z.toInt = x.toInt ∨ z.toInt = y.toInt) := by
  by_cases q : y < x
  · rw [if_pos q] at h
    have := Int64.lt_iff_toInt_lt.mp q
    rw [h]; omega
  · rw [if_neg q] at h
    have : ¬ y.toInt < x.toInt := fun e => q (Int64.lt_iff_toInt_lt.mpr e)
    rw [h]; omega
theorem mp_lmn_o {x y z : Int64} (h : z = if y < x then y else x) : (z.toInt ≤ x.toInt ∧ z.toInt ≤ y.toInt) ∧ (z.toInt = x.toInt ∨ z.toInt = y.toInt) := by
  by_cases q : y < x
  · rw [if_pos q] at h
    have := Int64.lt_iff_toInt_lt.mp q
    rw [h]; omega
  · rw [if_neg q] at h
    have : ¬ y.toInt < x.toInt := fun e => q (Int64.lt_iff_toInt_lt.mpr e)
    rw [h]; omega
