-- ways: in which of ten moons it was said again; what is left of it by them
def mp_us (x y : Int32) : Int32 := (x.toUInt32 >>> (y.toUInt32 &&& Int32.toUInt32 31)).toInt32
section MPVU
variable {E : mp_E} {X : mp_X} {M : mp_M} {pc : Nat} {lv : List (Nat × Value)} {rest : List Value} {ws : va_W} {k n : Nat}
theorem mp_iushr2 (hF : mp_F E X M) {x y : Int32} (hdg : decode M.2.1 pc = .ok (.iushr, 1)) (kk : ∀ z : Int32, z = mp_us x y → mp_W E X M.2.2.1 (pc + 1) lv (.int z :: rest) ws k n) : mp_W E X M.2.2.1 pc lv (.int y :: .int x :: rest) ws k n := by
  intro H locs ls hP hD hS hl
  exact lv_iushr hF.1 hF.2.1 hdg rfl (kk _ rfl H locs ls hP hD hS hl)
end MPVU
def mp_bc1 (x : Int32) : Int32 := x - (mp_us x 1 &&& 1431655765)
def mp_bc2 (a : Int32) : Int32 := (a &&& 858993459) + (mp_us a 2 &&& 858993459)
def mp_bc3 (b : Int32) : Int32 := (b + mp_us b 4) &&& 252645135
def mp_bc4 (c : Int32) : Int32 := c + mp_us c 8
def mp_bc5 (d : Int32) : Int32 := d + mp_us d 16
def mp_bc (x : Int32) : Int32 := mp_bc5 (mp_bc4 (mp_bc3 (mp_bc2 (mp_bc1 x)))) &&& 63
/-- how many of the ten bits -/
def mp_sz (n : Nat) : Int := ((n % 2 + n / 2 % 2 + n / 4 % 2 + n / 8 % 2 + n / 16 % 2 + n / 32 % 2 + n / 64 % 2 + n / 128 % 2 + n / 256 % 2 + n / 512 % 2 : Nat) : Int)
theorem mp_bc_c : ∀ n : Fin 1024, (mp_bc (Int32.ofNat n.1)).toInt = mp_sz n.1 := by decide +kernel
theorem mp_bc_sz {r y : Int32} (h : r = mp_bc y) (h0 : 0 ≤ y.toInt ∧ y.toInt ≤ 1023) : r.toInt = mp_sz y.toInt.toNat := by
  have g := mp_bc_c ⟨y.toInt.toNat, by omega⟩
  rw [mp_ofnat h0.1] at g
  rw [h]; exact g
def mp_low (n : Nat) : Nat := ((Int32.ofNat n) &&& (Int32.ofNat n - 1)).toInt.toNat
theorem mp_low_c : ∀ n : Fin 1024, n.1 = 0 ∨ ((((Int32.ofNat n.1) &&& (Int32.ofNat n.1 - 1)).toInt = (mp_low n.1 : Int) ∧ mp_low n.1 < 1024) ∧ mp_sz (mp_low n.1) + 1 = mp_sz n.1) := by decide +kernel
theorem mp_sz_s {v y z : Int32} {a b t : Int} (hy : y = v - 1) (hz : z = v &&& y) (hv : 0 ≤ v.toInt ∧ v.toInt ≤ 1023) (hn : v.toInt ≠ 0) (h : a + mp_sz v.toInt.toNat = t) (hb : b = a + 1) : b + mp_sz z.toInt.toNat = t ∧ 0 ≤ z.toInt ∧ z.toInt ≤ 1023 := by
  have g := mp_low_c ⟨v.toInt.toNat, by omega⟩
  rw [mp_ofnat hv.1] at g
  subst hy hz
  rcases g with g | ⟨⟨g1, g2⟩, g3⟩
  · exfalso
    have g : v.toInt.toNat = 0 := g
    omega
  · have g3 : mp_sz (mp_low v.toInt.toNat) + 1 = mp_sz v.toInt.toNat := g3
    have g2 : mp_low v.toInt.toNat < 1024 := g2
    have g1 : (v &&& (v - 1)).toInt = (mp_low v.toInt.toNat : Int) := g1
    have e : (v &&& (v - 1)).toInt.toNat = mp_low v.toInt.toNat := by omega
    rw [e]
    omega
theorem mp_sz_0 : mp_sz 0 = 0 := rfl
theorem mp_sz_b : ∀ n : Fin 1024, 0 ≤ mp_sz n.1 ∧ mp_sz n.1 ≤ 10 := by decide +kernel
-- halvings by a way
def mp_hb (D : Int) (y : Int32) : Nat → Int
  | 0 => D
  | d + 1 => if mp_bitx y (Int32.ofNat d) then 0 else mp_hb D y d + 1
def mp_hs (y : Int32) (d b : Int) : Int := if d = 0 then b else if mp_bitx y (Int32.ofNat (d - 1).toNat) then 0 else b + 1
def mp_hq (D : Int) (y : Int32) (d : Int) : Int := if d = 0 then D else mp_hb D y (d - 1).toNat
section MPHB
variable {D d d' S W s cl m l l' T : Int} {y k z1 z2 z : Int32} {f : Nat → Int64} {wt : Nat → Int32} {n : Nat}
theorem mp_hs_0 (h : d = 0) {b r : Int} (hr : r = b) : r = mp_hs y d b := by unfold mp_hs; rw [if_pos h]; exact hr
theorem mp_bit_k (h1 : z1 = y >>> (k &&& 31)) (h2 : z2 = z1 &&& 1) : (z2.toInt ≠ 0 → mp_bitx y k) ∧ (z2.toInt = 0 → ¬ mp_bitx y k) := by
  subst h1 h2
  refine ⟨fun q => ?_, fun q e => ?_⟩
  · rcases mp_and1b (x := y >>> (k &&& 31)) with e | e
    · rw [e] at q; exact absurd rfl q
    · exact e
  · have e : (y >>> (k &&& 31)) &&& 1 = 1 := e
    rw [e] at q; exact absurd q (by decide)
theorem mp_hs_1 (h1 : z1 = y >>> (k &&& 31)) (h2 : z2 = z1 &&& 1) (hk : k.toInt = d - 1) (h0 : 1 ≤ d) (c : z2.toInt ≠ 0) {b r : Int} (hr : r = 0) : r = mp_hs y d b := by
  have e : Int32.ofNat (d - 1).toNat = k := by rw [show (d - 1).toNat = k.toInt.toNat by omega]; exact mp_ofnat (by omega)
  unfold mp_hs
  rw [if_neg (by omega), e, if_pos ((mp_bit_k h1 h2).1 c)]; exact hr
theorem mp_hs_2 (h1 : z1 = y >>> (k &&& 31)) (h2 : z2 = z1 &&& 1) (hk : k.toInt = d - 1) (h0 : 1 ≤ d) (c : z2.toInt = 0) {b r : Int} (hr : r = b + 1) : r = mp_hs y d b := by
  have e : Int32.ofNat (d - 1).toNat = k := by rw [show (d - 1).toNat = k.toInt.toNat by omega]; exact mp_ofnat (by omega)
  unfold mp_hs
  rw [if_neg (by omega), e, if_neg ((mp_bit_k h1 h2).2 c)]; exact hr
theorem mp_hq_0 : mp_hq D y 0 = D := rfl
theorem mp_hq_s (h0 : 0 ≤ d) {b r : Int} (hb : b = mp_hq D y d) (hr : r = mp_hs y d b) : r = mp_hb D y d.toNat := by
  subst hb
  rw [hr]
  unfold mp_hs mp_hq
  by_cases q : d = 0
  · rw [if_pos q, if_pos q, q]; rfl
  · rw [if_neg q, if_neg q, show d.toNat = (d - 1).toNat + 1 by omega]; rfl
theorem mp_hq_n (h0 : 0 ≤ d) {r : Int} (hr : r = mp_hb D y d.toNat) (hd : d' = d + 1) : r = mp_hq D y d' := by
  subst hd
  unfold mp_hq
  rw [if_neg (by omega), show d + 1 - 1 = d by omega]; exact hr
abbrev mp_ff1 (wt : Nat → Int32) (W D : Int) (y : Int32) (d : Nat) : Prop := (wt d).toInt ≠ 0 → (wt d).toInt = mp_ce W (mp_hb D y d).toNat
def mp_ftN (wt : Nat → Int32) (W D cl : Int) (y : Int32) : Prop := cl ≠ 0 ∨ ∃ d : Nat, d < 11 ∧ ¬ mp_ff1 wt W D y d
def mp_fcc (wt : Nat → Int32) (W D cl : Int) (m : Nat) : Bool := decide (cl = 0 ∧ ∀ d : Nat, d < 11 → mp_ff1 wt W D (Int32.ofNat m) d)
theorem mp_fcc_t (h0 : 0 ≤ y.toInt) (hc : cl = 0) (h : ∀ d : Nat, d < 11 → mp_ff1 wt W D y d) : mp_fcc wt W D cl y.toInt.toNat = true := by
  unfold mp_fcc
  rw [mp_ofnat h0]
  exact decide_eq_true ⟨hc, h⟩
theorem mp_fcc_f (h0 : 0 ≤ y.toInt) (h : mp_ftN wt W D cl y) : mp_fcc wt W D cl y.toInt.toNat = false := by
  unfold mp_fcc
  rw [mp_ofnat h0]
  refine decide_eq_false (fun q => ?_)
  rcases h with h | ⟨d, hd, h⟩
  · exact h q.1
  · exact h (q.2 d hd)
/-- a way by the pairs -/
def mp_ft (f : Nat → Int64) (s S W D : Int) (y : Int32) : Nat → Bool
  | 0 => true
  | j + 1 => mp_ft f s S W D y j && decide (mp_ce W (mp_hb D y (mp_pt f s j - S).toNat).toNat = mp_pw f s j)
theorem mp_ft_i : ∀ {n : Nat}, mp_ft f s S W D y n = true ↔ ∀ j : Nat, j < n → mp_ce W (mp_hb D y (mp_pt f s j - S).toNat).toNat = mp_pw f s j
  | 0 => ⟨fun _ j hj => absurd hj (Nat.not_lt_zero j), fun _ => rfl⟩
  | n + 1 => by
    show (mp_ft f s S W D y n && decide _) = true ↔ _
    rw [Bool.and_eq_true, decide_eq_true_eq, mp_ft_i]
    constructor
    · rintro ⟨h, h2⟩ j hj
      by_cases q : j = n
      · rw [q]; exact h2
      · exact h j (by omega)
    · intro h
      exact ⟨fun j hj => h j (by omega), h n (by omega)⟩
theorem mp_ft_t {n2 : Nat} {z1 z2 : Int} (p : mp_ft f s S W D y n = true) (h1 : z1 = mp_pt f s n) (h2 : z2 = mp_pw f s n) (e : mp_ce W (mp_hb D y (z1 - S).toNat).toNat = z2) (hn : n2 = n + 1) : mp_ft f s S W D y n2 = true := by
  subst hn h1 h2
  show (mp_ft f s S W D y n && decide _) = true
  rw [p, decide_eq_true e]; rfl
theorem mp_ft_f {n0 : Nat} {z1 z2 : Int} (h1 : z1 = mp_pt f s n0) (h2 : z2 = mp_pw f s n0) (e : mp_ce W (mp_hb D y (z1 - S).toNat).toNat ≠ z2) (hn : n0 < n) : mp_ft f s S W D y n = false := by
  rw [Bool.eq_false_iff]
  intro q
  rw [mp_ft_i] at q
  subst h1 h2
  exact e (q n0 hn)
theorem mp_fcc_ft {m : Nat} (p : mp_LD f s n S wt cl) : mp_fcc wt W D cl m = mp_ft f s S W D (Int32.ofNat m) n := by
  obtain ⟨p1, p2, p3, p4⟩ := p
  unfold mp_fcc
  by_cases hc : cl = 0
  · by_cases h : ∀ d : Nat, d < 11 → mp_ff1 wt W D (Int32.ofNat m) d
    · rw [decide_eq_true ⟨hc, h⟩]
      refine (mp_ft_i.mpr (fun j hj => ?_)).symm
      have a1 := p1 j hj
      have a3 := p3 j hj
      have g := h (mp_pt f s j - S).toNat (by omega) a3.1
      rw [← g]; exact a3.2 hc
    · rw [decide_eq_false (fun q => h q.2)]
      symm
      rw [Bool.eq_false_iff]
      intro q
      rw [mp_ft_i] at q
      refine h (fun d hd h0 => ?_)
      obtain ⟨j, hj, e1, e2⟩ := p2 d (by omega) h0
      have g := q j hj
      rw [show (mp_pt f s j - S).toNat = d by omega, e2] at g
      exact g.symm
  · rw [decide_eq_false (fun q => hc q.1)]
    symm
    rw [Bool.eq_false_iff]
    intro q
    rw [mp_ft_i] at q
    obtain ⟨j, k, a1, a2, a3, a4⟩ := p4 hc
    have g1 := q j a1
    have g2 := q k a2
    rw [a3] at g1
    exact a4 (g1.symm.trans g2)
/-- the reference looks back for the last moon -/
theorem mp_hb_dn (h : mp_hb D y d.toNat = mp_hb D y l.toNat + (d - l)) (hz : z.toInt = l - 1) (h0 : 1 ≤ l) (nb : ¬ mp_bitx y z) (hn : l' = l - 1) : mp_hb D y d.toNat = mp_hb D y l'.toNat + (d - l') := by
  subst hn
  have e : mp_hb D y l.toNat = mp_hb D y (l - 1).toNat + 1 := by
    have e2 : Int32.ofNat (l - 1).toNat = z := by rw [show (l - 1).toNat = z.toInt.toNat by omega]; exact mp_ofnat (by omega)
    rw [show l.toNat = (l - 1).toNat + 1 by omega]
    show (if mp_bitx y (Int32.ofNat (l - 1).toNat) then 0 else mp_hb D y (l - 1).toNat + 1) = _
    rw [e2, if_neg nb]
  omega
theorem mp_hb_e0 (h : mp_hb D y d.toNat = mp_hb D y l.toNat + (d - l)) (h0 : l = 0) : mp_hb D y d.toNat = d - l + D := by
  subst h0
  rw [h]
  show D + (d - 0) = d - 0 + D
  omega
theorem mp_hb_e1 (h : mp_hb D y d.toNat = mp_hb D y l.toNat + (d - l)) (hz : z.toInt = l - 1) (h0 : 1 ≤ l) (b : mp_bitx y z) : mp_hb D y d.toNat = d - l := by
  have e : mp_hb D y l.toNat = 0 := by
    have e2 : Int32.ofNat (l - 1).toNat = z := by rw [show (l - 1).toNat = z.toInt.toNat by omega]; exact mp_ofnat (by omega)
    rw [show l.toNat = (l - 1).toNat + 1 by omega]
    show (if mp_bitx y (Int32.ofNat (l - 1).toNat) then 0 else mp_hb D y (l - 1).toNat + 1) = _
    rw [e2, if_pos b]
  omega
end MPHB
-- counted, cut, joined, the fewest
def mp_wN (P : Nat → Bool) : Nat → Int
  | 0 => 0
  | n + 1 => if P n then mp_wN P n + 1 else mp_wN P n
def mp_wA (P : Nat → Bool) : Nat → Int32
  | 0 => 1023
  | n + 1 => if P n then mp_wA P n &&& Int32.ofNat n else mp_wA P n
def mp_wO (P : Nat → Bool) : Nat → Int32
  | 0 => 0
  | n + 1 => if P n then mp_wO P n ||| Int32.ofNat n else mp_wO P n
def mp_wF (P : Nat → Bool) : Nat → Int
  | 0 => 1000000
  | n + 1 => if P n ∧ mp_sz n < mp_wF P n then mp_sz n else mp_wF P n
def mp_cA (P : Nat → Bool) : Nat → Int32
  | 0 => 0
  | n + 1 => if P n then (if mp_wN P n = 0 then Int32.ofNat n else mp_cA P n &&& Int32.ofNat n) else mp_cA P n
def mp_cF (P : Nat → Bool) : Nat → Int
  | 0 => -1
  | n + 1 => if P n then (if mp_cF P n = -1 then mp_sz n else if mp_sz n < mp_cF P n then mp_sz n else mp_cF P n) else mp_cF P n
section MPWN
variable {P Q : Nat → Bool} {k z v : Int32} {a b r : Int} {x : Int32} {k' : Int}
theorem mp_wN_f (h : a = mp_wN P k.toInt.toNat) (hp : P k.toInt.toNat = false) (h0 : 0 ≤ k.toInt ∧ k' = k.toInt + 1) : a = mp_wN P k'.toNat := by
  rw [show k'.toNat = k.toInt.toNat + 1 by omega]
  show a = if P k.toInt.toNat then _ else _
  rw [hp]; exact h
theorem mp_wN_t (h : a = mp_wN P k.toInt.toNat) (hp : P k.toInt.toNat = true) (h0 : 0 ≤ k.toInt ∧ k' = k.toInt + 1) (hb : b = a + 1) : b = mp_wN P k'.toNat := by
  rw [show k'.toNat = k.toInt.toNat + 1 by omega]
  show b = if P k.toInt.toNat then mp_wN P k.toInt.toNat + 1 else _
  rw [if_pos hp, hb, h]
theorem mp_wA_f (h : x = mp_wA P k.toInt.toNat) (hp : P k.toInt.toNat = false) (h0 : 0 ≤ k.toInt ∧ k' = k.toInt + 1) : x = mp_wA P k'.toNat := by
  rw [show k'.toNat = k.toInt.toNat + 1 by omega]
  show x = if P k.toInt.toNat then _ else mp_wA P k.toInt.toNat
  rw [hp]; exact h
theorem mp_wA_t (h : x = mp_wA P k.toInt.toNat) (hp : P k.toInt.toNat = true) (h0 : 0 ≤ k.toInt ∧ k' = k.toInt + 1) (hz : z = x &&& k) : z = mp_wA P k'.toNat := by
  rw [show k'.toNat = k.toInt.toNat + 1 by omega]
  show z = if P k.toInt.toNat then mp_wA P k.toInt.toNat &&& Int32.ofNat k.toInt.toNat else _
  rw [if_pos hp, hz, h, mp_ofnat h0.1]
theorem mp_wO_f (h : x = mp_wO P k.toInt.toNat) (hp : P k.toInt.toNat = false) (h0 : 0 ≤ k.toInt ∧ k' = k.toInt + 1) : x = mp_wO P k'.toNat := by
  rw [show k'.toNat = k.toInt.toNat + 1 by omega]
  show x = if P k.toInt.toNat then _ else mp_wO P k.toInt.toNat
  rw [hp]; exact h
theorem mp_wO_t (h : x = mp_wO P k.toInt.toNat) (hp : P k.toInt.toNat = true) (h0 : 0 ≤ k.toInt ∧ k' = k.toInt + 1) (hz : z = x ||| k) : z = mp_wO P k'.toNat := by
  rw [show k'.toNat = k.toInt.toNat + 1 by omega]
  show z = if P k.toInt.toNat then mp_wO P k.toInt.toNat ||| Int32.ofNat k.toInt.toNat else _
  rw [if_pos hp, hz, h, mp_ofnat h0.1]
theorem mp_wF_f (h : a = mp_wF P k.toInt.toNat) (hp : P k.toInt.toNat = false) (h0 : 0 ≤ k.toInt ∧ k' = k.toInt + 1) : a = mp_wF P k'.toNat := by
  rw [show k'.toNat = k.toInt.toNat + 1 by omega]
  show a = if P k.toInt.toNat ∧ mp_sz k.toInt.toNat < mp_wF P k.toInt.toNat then _ else _
  rw [if_neg (fun q => by rw [hp] at q; exact absurd q.1 (by decide))]; exact h
theorem mp_wF_t (h : a = mp_wF P k.toInt.toNat) (hp : P k.toInt.toNat = true) (h0 : 0 ≤ k.toInt ∧ k' = k.toInt + 1) (c : mp_sz k.toInt.toNat < a) : mp_sz k.toInt.toNat = mp_wF P k'.toNat := by
  rw [show k'.toNat = k.toInt.toNat + 1 by omega]
  show _ = if P k.toInt.toNat ∧ mp_sz k.toInt.toNat < mp_wF P k.toInt.toNat then mp_sz k.toInt.toNat else _
  rw [if_pos ⟨hp, by omega⟩]
theorem mp_wF_n (h : a = mp_wF P k.toInt.toNat) (h0 : 0 ≤ k.toInt ∧ k' = k.toInt + 1) (c : a ≤ mp_sz k.toInt.toNat) : a = mp_wF P k'.toNat := by
  rw [show k'.toNat = k.toInt.toNat + 1 by omega]
  show a = if P k.toInt.toNat ∧ mp_sz k.toInt.toNat < mp_wF P k.toInt.toNat then _ else mp_wF P k.toInt.toNat
  rw [if_neg (fun q => by have := q.2; omega)]; exact h
theorem mp_cA_f (h : x = mp_cA P k.toInt.toNat) (hp : P k.toInt.toNat = false) (h0 : 0 ≤ k.toInt ∧ k' = k.toInt + 1) : x = mp_cA P k'.toNat := by
  rw [show k'.toNat = k.toInt.toNat + 1 by omega]
  show x = if P k.toInt.toNat then _ else mp_cA P k.toInt.toNat
  rw [hp]; exact h
theorem mp_cA_t (h : x = mp_cA P k.toInt.toNat) (hp : P k.toInt.toNat = true) (h0 : 0 ≤ k.toInt ∧ k' = k.toInt + 1) (hN : a = mp_wN P k.toInt.toNat) (hz : (a = 0 ∧ z = k) ∨ (a ≠ 0 ∧ z = x &&& k)) : z = mp_cA P k'.toNat := by
  rw [show k'.toNat = k.toInt.toNat + 1 by omega]
  show z = if P k.toInt.toNat then (if mp_wN P k.toInt.toNat = 0 then Int32.ofNat k.toInt.toNat else mp_cA P k.toInt.toNat &&& Int32.ofNat k.toInt.toNat) else _
  rw [if_pos hp, mp_ofnat h0.1, ← h, ← hN]
  rcases hz with ⟨q, hz⟩ | ⟨q, hz⟩
  · rw [if_pos q]; exact hz
  · rw [if_neg q]; exact hz
theorem mp_cF_f (h : a = mp_cF P k.toInt.toNat) (hp : P k.toInt.toNat = false) (h0 : 0 ≤ k.toInt ∧ k' = k.toInt + 1) : a = mp_cF P k'.toNat := by
  rw [show k'.toNat = k.toInt.toNat + 1 by omega]
  show a = if P k.toInt.toNat then _ else mp_cF P k.toInt.toNat
  rw [hp]; exact h
theorem mp_cF_t (h : a = mp_cF P k.toInt.toNat) (hp : P k.toInt.toNat = true) (h0 : 0 ≤ k.toInt ∧ k' = k.toInt + 1) (hz : (a = -1 ∧ b = mp_sz k.toInt.toNat) ∨ (a ≠ -1 ∧ (b ≤ a ∧ b ≤ mp_sz k.toInt.toNat) ∧ (b = a ∨ b = mp_sz k.toInt.toNat))) : b = mp_cF P k'.toNat := by
  rw [show k'.toNat = k.toInt.toNat + 1 by omega]
  show b = if P k.toInt.toNat then (if mp_cF P k.toInt.toNat = -1 then mp_sz k.toInt.toNat else if mp_sz k.toInt.toNat < mp_cF P k.toInt.toNat then mp_sz k.toInt.toNat else mp_cF P k.toInt.toNat) else _
  rw [if_pos hp, ← h]
  rcases hz with ⟨q, hz⟩ | ⟨q, hz, hz2⟩
  · rw [if_pos q]; exact hz
  · rw [if_neg q]
    by_cases q2 : mp_sz k.toInt.toNat < a
    · rw [if_pos q2]; omega
    · rw [if_neg q2]; omega
theorem mp_wN_0 : ∀ {n : Nat}, 0 ≤ mp_wN P n
  | 0 => Int.le_refl _
  | n + 1 => by
    have g := mp_wN_0 (n := n)
    show 0 ≤ if P n then mp_wN P n + 1 else mp_wN P n
    by_cases q : P n
    · rw [if_pos q]; omega
    · rw [if_neg q]; exact g
theorem mp_and1023 : ∀ n : Fin 1024, (1023 : Int32) &&& Int32.ofNat n.1 = Int32.ofNat n.1 := by decide +kernel
theorem mp_way_eq : ∀ {n : Nat}, n ≤ 1024 → (mp_wN P n = 0 → mp_wA P n = 1023 ∧ mp_cA P n = 0 ∧ mp_wO P n = 0 ∧ mp_wF P n = 1000000 ∧ mp_cF P n = -1) ∧ (mp_wN P n ≠ 0 → mp_cA P n = mp_wA P n ∧ mp_cF P n = mp_wF P n ∧ 0 ≤ mp_wF P n ∧ mp_wF P n ≤ 10)
  | 0, _ => ⟨fun _ => ⟨rfl, rfl, rfl, rfl, rfl⟩, fun q => absurd rfl q⟩
  | n + 1, hn => by
    obtain ⟨g0, g1⟩ := mp_way_eq (n := n) (by omega)
    have gn := mp_wN_0 (P := P) (n := n)
    have gs := mp_sz_b ⟨n, by omega⟩
    have gs : 0 ≤ mp_sz n ∧ mp_sz n ≤ 10 := gs
    have ga := mp_and1023 ⟨n, by omega⟩
    have ga : (1023 : Int32) &&& Int32.ofNat n = Int32.ofNat n := ga
    have eN : mp_wN P (n + 1) = if P n then mp_wN P n + 1 else mp_wN P n := rfl
    have eA : mp_wA P (n + 1) = if P n then mp_wA P n &&& Int32.ofNat n else mp_wA P n := rfl
    have eO : mp_wO P (n + 1) = if P n then mp_wO P n ||| Int32.ofNat n else mp_wO P n := rfl
    have eF : mp_wF P (n + 1) = if P n ∧ mp_sz n < mp_wF P n then mp_sz n else mp_wF P n := rfl
    have eC : mp_cA P (n + 1) = if P n then (if mp_wN P n = 0 then Int32.ofNat n else mp_cA P n &&& Int32.ofNat n) else mp_cA P n := rfl
    have eG : mp_cF P (n + 1) = if P n then (if mp_cF P n = -1 then mp_sz n else if mp_sz n < mp_cF P n then mp_sz n else mp_cF P n) else mp_cF P n := rfl
    by_cases q : P n
    · rw [if_pos q] at eN eA eO eC eG
      refine ⟨fun e => absurd e (by omega), fun _ => ?_⟩
      by_cases q0 : mp_wN P n = 0
      · obtain ⟨a1, a2, a3, a4, a5⟩ := g0 q0
        rw [if_pos q0] at eC
        rw [if_pos a5] at eG
        rw [if_pos ⟨q, by omega⟩] at eF
        rw [eC, eA, a1, ga, eG, eF]
        exact ⟨rfl, rfl, gs⟩
      · obtain ⟨a1, a2, a3, a4⟩ := g1 q0
        rw [if_neg q0] at eC
        rw [if_neg (by omega)] at eG
        rw [eC, eA, a1, eG, a2, eF]
        by_cases q2 : mp_sz n < mp_wF P n
        · rw [if_pos q2, if_pos ⟨q, q2⟩]; exact ⟨rfl, rfl, gs⟩
        · rw [if_neg q2, if_neg (fun z => q2 z.2)]; exact ⟨rfl, rfl, a3, a4⟩
    · rw [if_neg q] at eN eA eO eC eG
      rw [if_neg (fun z => q z.1)] at eF
      rw [eN, eA, eO, eF, eC, eG]
      exact ⟨g0, g1⟩
theorem mp_wN_cong : ∀ {n : Nat}, (∀ j : Nat, j < n → P j = Q j) → mp_wN P n = mp_wN Q n ∧ mp_wO P n = mp_wO Q n ∧ mp_cF P n = mp_cF Q n ∧ mp_cA P n = mp_cA Q n
  | 0, _ => ⟨rfl, rfl, rfl, rfl⟩
  | n + 1, h => by
    obtain ⟨a, b, c, d⟩ := mp_wN_cong (n := n) (fun j hj => h j (by omega))
    have e := h n (by omega)
    refine ⟨?_, ?_, ?_, ?_⟩
    · show (if P n then mp_wN P n + 1 else mp_wN P n) = (if Q n then mp_wN Q n + 1 else mp_wN Q n)
      rw [e, a]
    · show (if P n then mp_wO P n ||| Int32.ofNat n else mp_wO P n) = (if Q n then mp_wO Q n ||| Int32.ofNat n else mp_wO Q n)
      rw [e, b]
    · show (if P n then (if mp_cF P n = -1 then mp_sz n else if mp_sz n < mp_cF P n then mp_sz n else mp_cF P n) else mp_cF P n) = (if Q n then (if mp_cF Q n = -1 then mp_sz n else if mp_sz n < mp_cF Q n then mp_sz n else mp_cF Q n) else mp_cF Q n)
      rw [e, c]
    · show (if P n then (if mp_wN P n = 0 then Int32.ofNat n else mp_cA P n &&& Int32.ofNat n) else mp_cA P n) = (if Q n then (if mp_wN Q n = 0 then Int32.ofNat n else mp_cA Q n &&& Int32.ofNat n) else mp_cA Q n)
      rw [e, a, d]
end MPWN
theorem mp_inc {v a : Int32} (h : v = a + 1) (b : 0 ≤ a.toInt ∧ a.toInt ≤ 1024) : v.toInt = a.toInt + 1 := mp_add h rfl (show (1 : Int32).toInt = 1 from rfl) (by omega) (by omega)
theorem mp_wN_le {P : Nat → Bool} : ∀ {n : Nat}, mp_wN P n ≤ (n : Int)
  | 0 => Int.le_refl _
  | n + 1 => by
    have g := mp_wN_le (P := P) (n := n)
    show (if P n then mp_wN P n + 1 else mp_wN P n) ≤ _
    by_cases q : P n
    · rw [if_pos q]; omega
    · rw [if_neg q]; omega
theorem mp_wN_bd {P : Nat → Bool} {k : Int32} {a : Int} (h : a = mp_wN P k.toInt.toNat) (hk : 0 ≤ k.toInt ∧ k.toInt ≤ 1024) : 0 ≤ a ∧ a ≤ 1024 := by
  have g := mp_wN_le (P := P) (n := k.toInt.toNat)
  rw [h]
  exact ⟨mp_wN_0, by omega⟩
theorem mp_sz_nn {v : Int} (h : 0 ≤ v ∧ v ≤ 1023) : 0 ≤ mp_sz v.toNat ∧ mp_sz v.toNat ≤ 10 := mp_sz_b ⟨v.toNat, by omega⟩
theorem mp_incm {v a : Int32} (h : v = a + 1) (b : -1024 ≤ a.toInt ∧ a.toInt ≤ 1024) : v.toInt = a.toInt + 1 := mp_add h rfl (show (1 : Int32).toInt = 1 from rfl) (by omega) (by omega)
