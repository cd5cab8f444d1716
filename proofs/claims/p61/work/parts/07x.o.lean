-- rows of the reference: kept, copied
abbrev mp_RA : Type := (Nat → Int32) × (Nat → Int32) × (Nat → Int32) × (Nat → Int32) × (Nat → Int32) × (Nat → Int32) × (Nat → Int32)
def mp_rA (r : Nat) (A : mp_RA) : mp_TD := mp_tR r A.1 A.2.1 A.2.2.1 A.2.2.2.1 A.2.2.2.2.1 A.2.2.2.2.2.1 A.2.2.2.2.2.2
def mp_bd (t : mp_TD) : Prop := t.1.2.2.1 ≤ 6 ∧ t.1.2.2.2.1 ≤ 10 ∧ t.2.2.1 ≤ 60
theorem mp_rA_of {r r' : Nat} {A B : mp_RA} (hb : mp_bd (mp_rA r A)) (e1 : B.1 r' = A.1 r) (e2 : ∀ j : Nat, j < 5 → B.2.1 (5 * r' + j) = A.2.1 (5 * r + j)) (e3 : ∀ j : Nat, j < 36 → B.2.2.1 (36 * r' + j) = A.2.2.1 (36 * r + j)) (e4 : ∀ j : Nat, j < 600 → B.2.2.2.1 (600 * r' + j) = A.2.2.2.1 (600 * r + j)) (e5 : ∀ j : Nat, j < 18 → B.2.2.2.2.1 (18 * r' + j) = A.2.2.2.2.1 (18 * r + j)) (e6 : ∀ j : Nat, j < 60 → B.2.2.2.2.2.1 (60 * r' + j) = A.2.2.2.2.2.1 (60 * r + j)) (e7 : ∀ j : Nat, j < 60 → B.2.2.2.2.2.2 (60 * r' + j) = A.2.2.2.2.2.2 (60 * r + j)) : mp_RT (mp_rA r A) (mp_rA r' B) := by
  obtain ⟨b1, b2, b3⟩ := hb
  refine ⟨?_, ⟨fun j hj => (e3 j hj).symm, fun j hj => ?_, fun j hj => (e5 j (by omega)).symm, fun j hj => (e6 j (by omega)).symm⟩, ?_, fun j hj => (e7 j (by omega)).symm⟩
  · show ((A.2.1 (5 * r)).toInt, (A.2.1 (5 * r + 1)).toInt, (A.2.1 (5 * r + 2)).toInt, (A.2.1 (5 * r + 3)).toInt, (A.1 r).toInt) = ((B.2.1 (5 * r')).toInt, (B.2.1 (5 * r' + 1)).toInt, (B.2.1 (5 * r' + 2)).toInt, (B.2.1 (5 * r' + 3)).toInt, (B.1 r').toInt)
    rw [show B.2.1 (5 * r') = A.2.1 (5 * r) from e2 0 (by decide), e2 1 (by decide), e2 2 (by decide), e2 3 (by decide), e1]
  · show decide ((A.2.2.2.1 (600 * r + j)).toInt ≠ 0) = decide ((B.2.2.2.1 (600 * r' + j)).toInt ≠ 0)
    rw [e4 j hj]
  · show (A.2.1 (5 * r + 4)).toInt = (B.2.1 (5 * r' + 4)).toInt
    rw [e2 4 (by decide)]
def mp_K7 (B A : mp_RA) : Prop := (∀ j : Nat, j < 4 → B.1 j = A.1 j) ∧ (∀ j : Nat, j < 20 → B.2.1 j = A.2.1 j) ∧ (∀ j : Nat, j < 144 → B.2.2.1 j = A.2.2.1 j) ∧ (∀ j : Nat, j < 2400 → B.2.2.2.1 j = A.2.2.2.1 j) ∧ (∀ j : Nat, j < 72 → B.2.2.2.2.1 j = A.2.2.2.2.1 j) ∧ (∀ j : Nat, j < 240 → B.2.2.2.2.2.1 j = A.2.2.2.2.2.1 j) ∧ (∀ j : Nat, j < 240 → B.2.2.2.2.2.2 j = A.2.2.2.2.2.2 j)
theorem mp_rA_keep {r : Nat} {A B : mp_RA} (h : mp_K7 B A) (hr : r < 4) (hb : mp_bd (mp_rA r A)) : mp_RT (mp_rA r A) (mp_rA r B) :=
  mp_rA_of hb (h.1 r hr) (fun j hj => h.2.1 _ (by omega)) (fun j hj => h.2.2.1 _ (by omega)) (fun j hj => h.2.2.2.1 _ (by omega)) (fun j hj => h.2.2.2.2.1 _ (by omega)) (fun j hj => h.2.2.2.2.2.1 _ (by omega)) (fun j hj => h.2.2.2.2.2.2 _ (by omega))
/-- what stands behind row 0 -/
def mp_L7 (B A : mp_RA) : Prop := (∀ j : Nat, 1 ≤ j → B.1 j = A.1 j) ∧ (∀ j : Nat, 5 ≤ j → B.2.1 j = A.2.1 j) ∧ (∀ j : Nat, 36 ≤ j → B.2.2.1 j = A.2.2.1 j) ∧ (∀ j : Nat, 600 ≤ j → B.2.2.2.1 j = A.2.2.2.1 j) ∧ (∀ j : Nat, 18 ≤ j → B.2.2.2.2.1 j = A.2.2.2.2.1 j) ∧ (∀ j : Nat, 60 ≤ j → B.2.2.2.2.2.1 j = A.2.2.2.2.2.1 j) ∧ (∀ j : Nat, 60 ≤ j → B.2.2.2.2.2.2 j = A.2.2.2.2.2.2 j)
theorem mp_rA_keept {r : Nat} {A B : mp_RA} (h : mp_L7 B A) (hr : 1 ≤ r) (hb : mp_bd (mp_rA r A)) : mp_RT (mp_rA r A) (mp_rA r B) :=
  mp_rA_of hb (h.1 r hr) (fun j hj => h.2.1 _ (by omega)) (fun j hj => h.2.2.1 _ (by omega)) (fun j hj => h.2.2.2.1 _ (by omega)) (fun j hj => h.2.2.2.2.1 _ (by omega)) (fun j hj => h.2.2.2.2.2.1 _ (by omega)) (fun j hj => h.2.2.2.2.2.2 _ (by omega))
def mp_C7 (a b : Nat) (A B : mp_RA) : Prop := B.1 = mp_cpr A.1 (1 * a) (1 * b) 1 ∧ B.2.1 = mp_cpr A.2.1 (5 * a) (5 * b) 5 ∧ B.2.2.1 = mp_cpr A.2.2.1 (36 * a) (36 * b) 36 ∧ B.2.2.2.1 = mp_cpr A.2.2.2.1 (600 * a) (600 * b) 600 ∧ B.2.2.2.2.1 = mp_cpr A.2.2.2.2.1 (18 * a) (18 * b) 18 ∧ B.2.2.2.2.2.1 = mp_cpr A.2.2.2.2.2.1 (60 * a) (60 * b) 60 ∧ B.2.2.2.2.2.2 = mp_cpr A.2.2.2.2.2.2 (60 * a) (60 * b) 60
theorem mp_cp_in {f g : Nat → Int32} {sa sb k j j' : Nat} (e : g = mp_cpr f sa sb k) (h : sb ≤ j ∧ j < sb + k) (hj : j' + sb = sa + j) : g j = f j' := by
  rw [e]
  exact (if_pos h).trans (congrArg f (by omega))
theorem mp_cp_out {f g : Nat → Int32} {sa sb k j : Nat} (e : g = mp_cpr f sa sb k) (h : j < sb ∨ sb + k ≤ j) : g j = f j := by
  rw [e]
  exact if_neg (by omega)
theorem mp_rA_cp {a b : Nat} {A B : mp_RA} (h : mp_C7 a b A B) (hb : mp_bd (mp_rA a A)) : mp_RT (mp_rA a A) (mp_rA b B) := by
  obtain ⟨h1, h2, h3, h4, h5, h6, h7⟩ := h
  exact mp_rA_of hb (mp_cp_in h1 (by omega) (by omega)) (fun j hj => mp_cp_in h2 (by omega) (by omega)) (fun j hj => mp_cp_in h3 (by omega) (by omega)) (fun j hj => mp_cp_in h4 (by omega) (by omega)) (fun j hj => mp_cp_in h5 (by omega) (by omega)) (fun j hj => mp_cp_in h6 (by omega) (by omega)) (fun j hj => mp_cp_in h7 (by omega) (by omega))
theorem mp_rA_ne {a b r : Nat} {A B : mp_RA} (h : mp_C7 a b A B) (hr : r ≠ b) (hb : mp_bd (mp_rA r A)) : mp_RT (mp_rA r A) (mp_rA r B) := by
  obtain ⟨h1, h2, h3, h4, h5, h6, h7⟩ := h
  exact mp_rA_of hb (mp_cp_out h1 (by omega)) (fun j hj => mp_cp_out h2 (by omega)) (fun j hj => mp_cp_out h3 (by omega)) (fun j hj => mp_cp_out h4 (by omega)) (fun j hj => mp_cp_out h5 (by omega)) (fun j hj => mp_cp_out h6 (by omega)) (fun j hj => mp_cp_out h7 (by omega))
-- the class's arrays: copied
abbrev mp_CA : Type := (Nat → Int32) × (Nat → Int64) × (Nat → Int32) × (Nat → Int32) × (Nat → Int32) × (Nat → Int32) × (Nat → Int32) × (Nat → Int32) × (Nat → Int32) × (Nat → Int32) × (Nat → Int32) × (Nat → Int32)
def mp_cD (A : mp_CA) : mp_AD := mp_dC A.1 A.2.1 A.2.2.1 A.2.2.2.1 A.2.2.2.2.1 A.2.2.2.2.2.1 A.2.2.2.2.2.2.1 A.2.2.2.2.2.2.2.1 A.2.2.2.2.2.2.2.2.1 A.2.2.2.2.2.2.2.2.2.1 A.2.2.2.2.2.2.2.2.2.2.1
def mp_tC (c : mp_Sc) (k : Int) (A : mp_CA) : mp_TD := (c, mp_cD A, k, A.2.2.2.2.2.2.2.2.2.2.2)
def mp_Y12 (B A : mp_CA) : Prop := (∀ j : Nat, j < 36 → B.1 j = A.1 j) ∧ (∀ j : Nat, j < 12 → B.2.1 j = A.2.1 j) ∧ (∀ j : Nat, j < 6 → B.2.2.1 j = A.2.2.1 j) ∧ (∀ j : Nat, j < 6 → B.2.2.2.1 j = A.2.2.2.1 j) ∧ (∀ j : Nat, j < 6 → B.2.2.2.2.1 j = A.2.2.2.2.1 j) ∧ (∀ j : Nat, j < 10 → B.2.2.2.2.2.1 j = A.2.2.2.2.2.1 j) ∧ (∀ j : Nat, j < 10 → B.2.2.2.2.2.2.1 j = A.2.2.2.2.2.2.1 j) ∧ (∀ j : Nat, j < 10 → B.2.2.2.2.2.2.2.1 j = A.2.2.2.2.2.2.2.1 j) ∧ (∀ j : Nat, j < 10 → B.2.2.2.2.2.2.2.2.1 j = A.2.2.2.2.2.2.2.2.1 j) ∧ (∀ j : Nat, j < 10 → B.2.2.2.2.2.2.2.2.2.1 j = A.2.2.2.2.2.2.2.2.2.1 j) ∧ (∀ j : Nat, j < 10 → B.2.2.2.2.2.2.2.2.2.2.1 j = A.2.2.2.2.2.2.2.2.2.2.1 j) ∧ (∀ j : Nat, j < 60 → B.2.2.2.2.2.2.2.2.2.2.2 j = A.2.2.2.2.2.2.2.2.2.2.2 j)
theorem mp_cpy_in {α : Type} {f g g' : Nat → α} {sp dp m n : Nat} (h : g' = va_cpy f g sp dp m) (h0 : sp = 0) (h1 : dp = 0) (h2 : m = n) : ∀ j : Nat, j < n → g' j = f j := by
  subst h0 h1 h2
  intro j hj
  rw [h]
  simp only [va_cpy]
  rw [if_pos (by omega)]
  congr 1
  omega
theorem mp_tC_cp {c c' : mp_Sc} {k k' : Int} {A B : mp_CA} (h : mp_Y12 B A) (hb : c.2.2.1 ≤ 6 ∧ c.2.2.2.1 ≤ 10 ∧ k ≤ 60) (hc : c' = c) (hk : k' = k) : mp_RT (mp_tC c k A) (mp_tC c' k' B) := by
  obtain rfl := hc.symm
  obtain rfl := hk.symm
  obtain ⟨h1, h2, h3, h4, h5, h6, h7, h8, h9, h10, h11, h12⟩ := h
  obtain ⟨b1, b2, b3⟩ := hb
  refine ⟨rfl, ⟨fun j hj => (h1 j hj).symm, fun j hj => ?_, fun j hj => ?_, fun j hj => ?_⟩, rfl, fun j hj => (h12 j (by have : (j : Int) < k := hj; omega)).symm⟩
  · show decide (((A.2.1 (2 * (j / 100) + j % 100 / 50)) >>> (Int64.ofNat (j % 50)) &&& 1) ≠ 0) = decide (((B.2.1 (2 * (j / 100) + j % 100 / 50)) >>> (Int64.ofNat (j % 50)) &&& 1) ≠ 0)
    rw [h2 _ (by omega)]
  · have q : (j : Int) < 3 * c.2.2.1 := hj
    show mp_pc A.2.2.1 A.2.2.2.1 A.2.2.2.2.1 j = mp_pc B.2.2.1 B.2.2.2.1 B.2.2.2.2.1 j
    simp only [mp_pc]
    rw [h3 _ (by omega), h4 _ (by omega), h5 _ (by omega)]
  · have q : (j : Int) < 6 * c.2.2.2.1 := hj
    show mp_qc A.2.2.2.2.2.1 A.2.2.2.2.2.2.1 A.2.2.2.2.2.2.2.1 A.2.2.2.2.2.2.2.2.1 A.2.2.2.2.2.2.2.2.2.1 A.2.2.2.2.2.2.2.2.2.2.1 j = mp_qc B.2.2.2.2.2.1 B.2.2.2.2.2.2.1 B.2.2.2.2.2.2.2.1 B.2.2.2.2.2.2.2.2.1 B.2.2.2.2.2.2.2.2.2.1 B.2.2.2.2.2.2.2.2.2.2.1 j
    simp only [mp_qc]
    rw [h6 _ (by omega), h7 _ (by omega), h8 _ (by omega), h9 _ (by omega), h10 _ (by omega), h11 _ (by omega)]
/-- what a text tells -/
def mp_islD (f : Nat → Int32) (n : Int) (t : mp_TD) : Prop := ∃ (fu : Nat) (R : mp_Rs mp_AD) (d0 : mp_AD), mp_Z d0 ∧ mp_gText mp_gop f n.toNat fu (mp_TS f n.toNat 0) (0, 0, 0, 0, 0) d0 = some R ∧ R.1 = 0 ∧ R.2.2.1 = t.1 ∧ R.2.2.2 = t.2.1 ∧ t.2.2.1 = 0
