-- what is answered of what is told, what becomes of it: in one data for both sides
def mp_moX (t : mp_TD) : Int := t.1.2.1 + mp_k200 t.2.2.2 t.2.2.1
def mp_csX (t : mp_TD) (p : Nat) : Int32 × Int32 × Int32 := mp_cs t.2.1.1 (fun q => t.2.1.2.2.1 (3 * q)) t.2.2.2 t.1.2.1 p t.2.2.1.toNat
def mp_WF (t : mp_TD) : Prop := (0 ≤ t.1.1 ∧ t.1.1 ≤ 6) ∧ (0 ≤ t.1.2.2.1 ∧ t.1.2.2.1 ≤ 6) ∧ (0 ≤ t.1.2.2.2.1 ∧ t.1.2.2.2.1 ≤ 10) ∧ (0 ≤ t.2.2.1 ∧ t.2.2.1 ≤ 60) ∧ (0 ≤ t.1.2.1 ∧ mp_moX t ≤ 99 ∧ 0 ≤ t.1.2.2.2.2) ∧ (∀ p : Nat, (p : Int) < t.1.2.2.1 → 0 ≤ (t.2.1.2.2.1 (3 * p)).toInt ∧ (t.2.1.2.2.1 (3 * p)).toInt ≤ 5) ∧ (∀ j : Nat, (j : Int) < t.1.2.2.2.1 → (0 ≤ (t.2.1.2.2.2 (6 * j)).toInt ∧ (t.2.1.2.2.2 (6 * j)).toInt < t.1.2.2.1) ∧ (0 ≤ (t.2.1.2.2.2 (6 * j + 1)).toInt ∧ (t.2.1.2.2.2 (6 * j + 1)).toInt < t.1.2.2.1) ∧ (-1 ≤ (t.2.1.2.2.2 (6 * j + 5)).toInt ∧ (t.2.1.2.2.2 (6 * j + 5)).toInt < (j : Int))) ∧ (∀ j : Nat, (j : Int) < t.2.2.1 → (t.2.2.2 j).toInt < 100 → 0 ≤ (t.2.2.2 j).toInt ∧ (t.2.2.2 j).toInt % 10 ≤ 5)
/-- the reference's first row -/
def mp_r0 (B : mp_RA) : mp_TD := (((B.2.1 0).toInt, (B.2.1 1).toInt, (B.2.1 2).toInt, (B.2.1 3).toInt, (B.1 0).toInt), (B.2.2.1, (fun j => decide ((B.2.2.2.1 j).toInt ≠ 0)), B.2.2.2.2.1, B.2.2.2.2.2.1), (B.2.1 4).toInt, B.2.2.2.2.2.2)
theorem mp_rA_0 {B : mp_RA} : mp_rA 0 B = mp_r0 B := by
  unfold mp_rA mp_tR mp_dR mp_r0
  simp only [Nat.mul_zero, Nat.zero_add]
theorem mp_pw_0 {a b c : Nat → Int32} {j p : Nat} (h : j = 3 * p) : mp_pc a b c j = a p := by
  simp only [mp_pc]; rw [if_pos (by omega)]; congr 1; omega
theorem mp_pw_1 {a b c : Nat → Int32} {j p : Nat} (h : j = 3 * p + 1) : mp_pc a b c j = b p := by
  simp only [mp_pc]; rw [if_neg (by omega), if_pos (by omega)]; congr 1; omega
theorem mp_pw_2 {a b c : Nat → Int32} {j p : Nat} (h : j = 3 * p + 2) : mp_pc a b c j = c p := by
  simp only [mp_pc]; rw [if_neg (by omega), if_neg (by omega)]; congr 1; omega
section MPQC
variable {a b c d e f : Nat → Int32} {j p : Nat}
theorem mp_qw_0 (h : j = 6 * p) : mp_qc a b c d e f j = a p := by
  simp only [mp_qc]; rw [if_pos (by omega)]; congr 1; omega
theorem mp_qw_1 (h : j = 6 * p + 1) : mp_qc a b c d e f j = b p := by
  simp only [mp_qc]; rw [if_neg (by omega), if_pos (by omega)]; congr 1; omega
theorem mp_qw_2 (h : j = 6 * p + 2) : mp_qc a b c d e f j = c p := by
  simp only [mp_qc]; rw [if_neg (by omega), if_neg (by omega), if_pos (by omega)]; congr 1; omega
theorem mp_qw_3 (h : j = 6 * p + 3) : mp_qc a b c d e f j = d p := by
  simp only [mp_qc]; rw [if_neg (by omega), if_neg (by omega), if_neg (by omega), if_pos (by omega)]; congr 1; omega
theorem mp_qw_4 (h : j = 6 * p + 4) : mp_qc a b c d e f j = e p := by
  simp only [mp_qc]; rw [if_neg (by omega), if_neg (by omega), if_neg (by omega), if_neg (by omega), if_pos (by omega)]; congr 1; omega
theorem mp_qw_5 (h : j = 6 * p + 5) : mp_qc a b c d e f j = f p := by
  simp only [mp_qc]; rw [if_neg (by omega), if_neg (by omega), if_neg (by omega), if_neg (by omega), if_neg (by omega)]; congr 1; omega
end MPQC
section MPU
variable {t t2 : mp_TD} {c : mp_Sc} {k : Int} {A : mp_CA} {B : mp_RA} {r p w o a b i m n s : Int}
theorem mp_RT_N (h : mp_RT t t2) {j : Nat} (hj : (j : Int) < 3 * t.1.2.2.1) : t.2.1.2.2.1 j = t2.2.1.2.2.1 j := h.2.1.2.2.1 j hj
theorem mp_RT_U (h : mp_RT t t2) {j : Nat} (hj : (j : Int) < 6 * t.1.2.2.2.1) : t.2.1.2.2.2 j = t2.2.1.2.2.2 j := h.2.1.2.2.2 j hj
theorem mp_RT_S (h : mp_RT t t2) {j : Nat} (hj : j < 36) : t.2.1.1 j = t2.2.1.1 j := h.2.1.1 j hj
theorem mp_RT_H (h : mp_RT t t2) {j : Nat} (hj : j < 600) : t.2.1.2.1 j = t2.2.1.2.1 j := h.2.1.2.1 j hj
theorem mp_bd_of (h : mp_RT t t2) (w : mp_WF t) : mp_bd t2 := by
  obtain ⟨-, w2, w3, w4, -⟩ := w
  refine ⟨?_, ?_, ?_⟩
  · rw [← h.1]; omega
  · rw [← h.1]; omega
  · rw [← h.2.2.1]; omega
-- a person
def mp_perG (t : mp_TD) (p w : Int) : Int := if 0 ≤ p ∧ p < t.1.2.2.1 ∧ 0 ≤ w ∧ w ≤ 2 then (t.2.1.2.2.1 (3 * p + w).toNat).toInt else -2
theorem mp_per_C (h0 : mp_RT t (mp_tC c k A)) (h : ((p < 0 ∨ c.2.2.1 ≤ p ∨ w < 0 ∨ 2 < w) ∧ r = -2) ∨ ((0 ≤ p ∧ p < c.2.2.1) ∧ ((w = 0 ∧ r = (A.2.2.1 p.toNat).toInt) ∨ (w = 1 ∧ r = (A.2.2.2.1 p.toNat).toInt) ∨ (w = 2 ∧ r = (A.2.2.2.2.1 p.toNat).toInt)))) : r = mp_perG t p w := by
  have eP : t.1.2.2.1 = c.2.2.1 := by rw [h0.1]; rfl
  unfold mp_perG
  rcases h with ⟨q, rfl⟩ | ⟨q, ⟨rfl, rfl⟩ | ⟨rfl, rfl⟩ | ⟨rfl, rfl⟩⟩
  · rw [if_neg (by omega)]
  · rw [if_pos (by omega), mp_RT_N h0 (by omega)]
    exact congrArg Int32.toInt (mp_pw_0 (p := p.toNat) (by omega)).symm
  · rw [if_pos (by omega), mp_RT_N h0 (by omega)]
    exact congrArg Int32.toInt (mp_pw_1 (p := p.toNat) (by omega)).symm
  · rw [if_pos (by omega), mp_RT_N h0 (by omega)]
    exact congrArg Int32.toInt (mp_pw_2 (p := p.toNat) (by omega)).symm
theorem mp_per_M (h0 : mp_RT t (mp_r0 B)) (h : ((p < 0 ∨ (B.2.1 2).toInt ≤ p ∨ w < 0 ∨ 2 < w) ∧ r = -2) ∨ ((0 ≤ p ∧ p < (B.2.1 2).toInt ∧ 0 ≤ w ∧ w ≤ 2) ∧ r = (B.2.2.2.2.1 (3 * p + w).toNat).toInt)) : r = mp_perG t p w := by
  have eP : t.1.2.2.1 = (B.2.1 2).toInt := by rw [h0.1]; rfl
  unfold mp_perG
  rcases h with ⟨q, rfl⟩ | ⟨q, rfl⟩
  · rw [if_neg (by omega)]
  · rw [if_pos (by omega), mp_RT_N h0 (by omega)]; rfl
-- a promise
def mp_proG (t : mp_TD) (p w : Int) : Int := if 0 ≤ p ∧ p < t.1.2.2.2.1 ∧ 0 ≤ w ∧ w ≤ 5 then (t.2.1.2.2.2 (6 * p + w).toNat).toInt else -2
theorem mp_pro_C (h0 : mp_RT t (mp_tC c k A)) (h : ((p < 0 ∨ c.2.2.2.1 ≤ p ∨ w < 0 ∨ 5 < w) ∧ r = -2) ∨ ((0 ≤ p ∧ p < c.2.2.2.1) ∧ ((w = 0 ∧ r = (A.2.2.2.2.2.1 p.toNat).toInt) ∨ (w = 1 ∧ r = (A.2.2.2.2.2.2.1 p.toNat).toInt) ∨ (w = 2 ∧ r = (A.2.2.2.2.2.2.2.1 p.toNat).toInt) ∨ (w = 3 ∧ r = (A.2.2.2.2.2.2.2.2.1 p.toNat).toInt) ∨ (w = 4 ∧ r = (A.2.2.2.2.2.2.2.2.2.1 p.toNat).toInt) ∨ (w = 5 ∧ r = (A.2.2.2.2.2.2.2.2.2.2.1 p.toNat).toInt)))) : r = mp_proG t p w := by
  have eP : t.1.2.2.2.1 = c.2.2.2.1 := by rw [h0.1]; rfl
  unfold mp_proG
  rcases h with ⟨q, rfl⟩ | ⟨q, ⟨rfl, rfl⟩ | ⟨rfl, rfl⟩ | ⟨rfl, rfl⟩ | ⟨rfl, rfl⟩ | ⟨rfl, rfl⟩ | ⟨rfl, rfl⟩⟩
  · rw [if_neg (by omega)]
  · rw [if_pos (by omega), mp_RT_U h0 (by omega)]
    exact congrArg Int32.toInt (mp_qw_0 (p := p.toNat) (by omega)).symm
  · rw [if_pos (by omega), mp_RT_U h0 (by omega)]
    exact congrArg Int32.toInt (mp_qw_1 (p := p.toNat) (by omega)).symm
  · rw [if_pos (by omega), mp_RT_U h0 (by omega)]
    exact congrArg Int32.toInt (mp_qw_2 (p := p.toNat) (by omega)).symm
  · rw [if_pos (by omega), mp_RT_U h0 (by omega)]
    exact congrArg Int32.toInt (mp_qw_3 (p := p.toNat) (by omega)).symm
  · rw [if_pos (by omega), mp_RT_U h0 (by omega)]
    exact congrArg Int32.toInt (mp_qw_4 (p := p.toNat) (by omega)).symm
  · rw [if_pos (by omega), mp_RT_U h0 (by omega)]
    exact congrArg Int32.toInt (mp_qw_5 (p := p.toNat) (by omega)).symm
theorem mp_pro_M (h0 : mp_RT t (mp_r0 B)) (h : ((p < 0 ∨ (B.2.1 3).toInt ≤ p ∨ w < 0 ∨ 5 < w) ∧ r = -2) ∨ ((0 ≤ p ∧ p < (B.2.1 3).toInt ∧ 0 ≤ w ∧ w ≤ 5) ∧ r = (B.2.2.2.2.2.1 (6 * p + w).toNat).toInt)) : r = mp_proG t p w := by
  have eP : t.1.2.2.2.1 = (B.2.1 3).toInt := by rw [h0.1]; rfl
  unfold mp_proG
  rcases h with ⟨q, rfl⟩ | ⟨q, rfl⟩
  · rw [if_neg (by omega)]
  · rw [if_pos (by omega), mp_RT_U h0 (by omega)]; rfl
-- a sea
def mp_seaG (t : mp_TD) (a b : Int) : Int := if 0 ≤ a ∧ a < t.1.1 ∧ 0 ≤ b ∧ b < t.1.1 ∧ a ≠ b then (t.2.1.1 (6 * a + b).toNat).toInt else -2
theorem mp_sea_X (h0 : mp_RT t t2) (w : mp_WF t) (h : ((a < 0 ∨ t2.1.1 ≤ a ∨ b < 0 ∨ t2.1.1 ≤ b ∨ a = b) ∧ r = -2) ∨ ((0 ≤ a ∧ a < t2.1.1 ∧ 0 ≤ b ∧ b < t2.1.1 ∧ a ≠ b) ∧ r = (t2.2.1.1 (6 * a + b).toNat).toInt)) : r = mp_seaG t a b := by
  have eP : t.1.1 = t2.1.1 := by rw [h0.1]
  have w1 := w.1
  unfold mp_seaG
  rcases h with ⟨q, rfl⟩ | ⟨q, rfl⟩
  · rw [if_neg (by omega)]
  · rw [if_pos (by omega), mp_RT_S h0 (by omega)]
-- a harbour
def mp_opnG (t : mp_TD) (i m : Int) : Int := if 0 ≤ i ∧ i < t.1.1 ∧ 0 ≤ m ∧ m ≤ 99 then (if t.2.1.2.1 (100 * i + m).toNat = true then 0 else 1) else -2
theorem mp_opn_X (h0 : mp_RT t t2) (w : mp_WF t) (h : ((i < 0 ∨ t2.1.1 ≤ i ∨ m < 0 ∨ 99 < m) ∧ r = -2) ∨ ((0 ≤ i ∧ i < t2.1.1 ∧ 0 ≤ m ∧ m ≤ 99) ∧ ((t2.2.1.2.1 (100 * i + m).toNat = true ∧ r = 0) ∨ (t2.2.1.2.1 (100 * i + m).toNat = false ∧ r = 1)))) : r = mp_opnG t i m := by
  have eP : t.1.1 = t2.1.1 := by rw [h0.1]
  have w1 := w.1
  unfold mp_opnG
  rcases h with ⟨q, rfl⟩ | ⟨q, ⟨e, rfl⟩ | ⟨e, rfl⟩⟩
  · rw [if_neg (by omega)]
  · rw [if_pos (by omega), mp_RT_H h0 (by omega), if_pos e]
  · rw [if_pos (by omega), mp_RT_H h0 (by omega), if_neg (by rw [e]; decide)]
theorem mp_opn_M (h0 : mp_RT t (mp_r0 B)) (w : mp_WF t) (h : ((i < 0 ∨ (B.2.1 0).toInt ≤ i ∨ m < 0 ∨ 99 < m) ∧ r = -2) ∨ ((0 ≤ i ∧ i < (B.2.1 0).toInt ∧ 0 ≤ m ∧ m ≤ 99) ∧ (((B.2.2.2.1 (100 * i + m).toNat).toInt ≠ 0 ∧ r = 0) ∨ ((B.2.2.2.1 (100 * i + m).toNat).toInt = 0 ∧ r = 1)))) : r = mp_opnG t i m := by
  refine mp_opn_X h0 w ?_
  rcases h with h | ⟨q, ⟨e, h⟩ | ⟨e, h⟩⟩
  · exact Or.inl h
  · exact Or.inr ⟨q, Or.inl ⟨decide_eq_true e, h⟩⟩
  · exact Or.inr ⟨q, Or.inr ⟨decide_eq_false (fun z => z e), h⟩⟩
-- tends
abbrev mp_tenK (t : mp_TD) (p n : Int) : Prop := 0 ≤ p ∧ p < t.1.2.2.1 ∧ 0 ≤ n ∧ n ≤ 100
def mp_tenG (t : mp_TD) (p n : Int) : Int := if mp_tenK t p n then (t.2.1.2.2.1 (3 * p + 2).toNat).toInt else -2
def mp_tenF (t : mp_TD) (p : Int) (n : Int32) : mp_TD := if mp_tenK t p n.toInt then (t.1, (t.2.1.1, t.2.1.2.1, upd t.2.1.2.2.1 (3 * p + 2).toNat n, t.2.1.2.2.2), t.2.2) else t
theorem mp_ten_b {n : Int32} (h0 : mp_RT t t2) (h : p < 0 ∨ t2.1.2.2.1 ≤ p ∨ n.toInt < 0 ∨ 100 < n.toInt) (hr : r = -2) : r = mp_tenG t p n.toInt ∧ mp_RT (mp_tenF t p n) t2 := by
  have eP : t.1.2.2.1 = t2.1.2.2.1 := by rw [h0.1]
  have e : ¬ mp_tenK t p n.toInt := by unfold mp_tenK; omega
  exact ⟨by unfold mp_tenG; rw [if_neg e]; exact hr, by unfold mp_tenF; rw [if_neg e]; exact h0⟩
theorem mp_ten_M {n : Int32} {f : Nat → Int32} (h0 : mp_RT t (mp_r0 B)) (h : 0 ≤ p ∧ p < (B.2.1 2).toInt ∧ 0 ≤ n.toInt ∧ n.toInt ≤ 100) (hr : r = (B.2.2.2.2.1 (3 * p + 2).toNat).toInt) (hf : f = upd B.2.2.2.2.1 (3 * p + 2).toNat n) : r = mp_tenG t p n.toInt ∧ mp_RT (mp_tenF t p n) (mp_r0 (B.1, B.2.1, B.2.2.1, B.2.2.2.1, f, B.2.2.2.2.2.1, B.2.2.2.2.2.2)) := by
  have eP : t.1.2.2.1 = (B.2.1 2).toInt := by rw [h0.1]; rfl
  have e : mp_tenK t p n.toInt := by unfold mp_tenK; omega
  obtain ⟨e1, e2, e3, e4⟩ := h0
  refine ⟨by unfold mp_tenG; rw [if_pos e, e2.2.2.1 _ (by omega)]; exact hr, ?_⟩
  unfold mp_tenF
  rw [if_pos e, hf]
  exact ⟨e1, ⟨e2.1, e2.2.1, mp_upd_R (P := fun j => (j : Int) < 3 * t.1.2.2.1) e2.2.2.1 _ _, e2.2.2.2⟩, e3, e4⟩
theorem mp_ten_C {n : Int32} {f : Nat → Int32} (h0 : mp_RT t (mp_tC c k A)) (h : 0 ≤ p ∧ p < c.2.2.1 ∧ 0 ≤ n.toInt ∧ n.toInt ≤ 100) (hr : r = (A.2.2.2.2.1 p.toNat).toInt) (hf : f = upd A.2.2.2.2.1 p.toNat n) : r = mp_tenG t p n.toInt ∧ mp_RT (mp_tenF t p n) (mp_tC c k (A.1, A.2.1, A.2.2.1, A.2.2.2.1, f, A.2.2.2.2.2.1, A.2.2.2.2.2.2.1, A.2.2.2.2.2.2.2.1, A.2.2.2.2.2.2.2.2.1, A.2.2.2.2.2.2.2.2.2.1, A.2.2.2.2.2.2.2.2.2.2.1, A.2.2.2.2.2.2.2.2.2.2.2)) := by
  have eP : t.1.2.2.1 = c.2.2.1 := by rw [h0.1]; rfl
  have e : mp_tenK t p n.toInt := by unfold mp_tenK; omega
  obtain ⟨e1, e2, e3, e4⟩ := h0
  refine ⟨by unfold mp_tenG; rw [if_pos e, e2.2.2.1 _ (by omega)]; exact hr.trans (congrArg Int32.toInt (mp_pw_2 (p := p.toNat) (by omega)).symm), ?_⟩
  unfold mp_tenF
  rw [if_pos e, hf]
  refine ⟨e1, ⟨e2.1, e2.2.1, fun j hj => ?_, e2.2.2.2⟩, e3, e4⟩
  have g := e2.2.2.1 j hj
  show upd t.2.1.2.2.1 (3 * p + 2).toNat n j = mp_pc A.2.2.1 A.2.2.2.1 (upd A.2.2.2.2.1 p.toNat n) j
  by_cases q : j = (3 * p + 2).toNat
  · rw [mp_pw_2 (p := p.toNat) (by omega), q]; simp only [upd, if_pos]
  · have g2 : t.2.1.2.2.1 j = mp_pc A.2.2.1 A.2.2.2.1 A.2.2.2.2.1 j := g
    simp only [upd, if_neg q]
    rw [g2]
    simp only [mp_pc, upd]
    by_cases q0 : j % 3 = 0
    · rw [if_pos q0, if_pos q0]
    · by_cases q1 : j % 3 = 1
      · rw [if_neg q0, if_neg q0, if_pos q1, if_pos q1]
      · rw [if_neg q0, if_neg q0, if_neg q1, if_neg q1, if_neg (by omega)]
-- a harbour shut or opened
abbrev mp_shuK (t : mp_TD) (i m s : Int) : Prop := 0 ≤ i ∧ i < t.1.1 ∧ 0 ≤ m ∧ m ≤ 99 ∧ 0 ≤ s ∧ s ≤ 1
def mp_shuG (t : mp_TD) (i m s : Int) : Int := if mp_shuK t i m s then (if 0 < t.2.2.1 then -5 else if t.2.1.2.1 (100 * i + m).toNat = true then 1 else 0) else -2
def mp_shuF (t : mp_TD) (i m s : Int) : mp_TD := if mp_shuK t i m s ∧ ¬ 0 < t.2.2.1 then (t.1, (t.2.1.1, (fun j => if j = (100 * i + m).toNat then decide (s = 1) else t.2.1.2.1 j), t.2.1.2.2.1, t.2.1.2.2.2), t.2.2) else t
theorem mp_shu_b (h0 : mp_RT t t2) (h : i < 0 ∨ t2.1.1 ≤ i ∨ m < 0 ∨ 99 < m ∨ s < 0 ∨ 1 < s) (hr : r = -2) : r = mp_shuG t i m s ∧ mp_RT (mp_shuF t i m s) t2 := by
  have eP : t.1.1 = t2.1.1 := by rw [h0.1]
  have e : ¬ mp_shuK t i m s := by unfold mp_shuK; omega
  exact ⟨by unfold mp_shuG; rw [if_neg e]; exact hr, by unfold mp_shuF; rw [if_neg (fun z => e z.1)]; exact h0⟩
theorem mp_shu_5 (h0 : mp_RT t t2) (h : 0 ≤ i ∧ i < t2.1.1 ∧ 0 ≤ m ∧ m ≤ 99 ∧ 0 ≤ s ∧ s ≤ 1) (h5 : 0 < t2.2.2.1) (hr : r = -5) : r = mp_shuG t i m s ∧ mp_RT (mp_shuF t i m s) t2 := by
  have eP : t.1.1 = t2.1.1 := by rw [h0.1]
  have e : mp_shuK t i m s := by unfold mp_shuK; omega
  have e5 : 0 < t.2.2.1 := by rw [h0.2.2.1]; exact h5
  exact ⟨by unfold mp_shuG; rw [if_pos e, if_pos e5]; exact hr, by unfold mp_shuF; rw [if_neg (fun z => z.2 e5)]; exact h0⟩
theorem mp_shu_X {t3 : mp_TD} (h0 : mp_RT t t2) (w : mp_WF t) (h : 0 ≤ i ∧ i < t2.1.1 ∧ 0 ≤ m ∧ m ≤ 99 ∧ 0 ≤ s ∧ s ≤ 1) (h5 : t2.2.2.1 ≤ 0) (hr : (t2.2.1.2.1 (100 * i + m).toNat = true ∧ r = 1) ∨ (t2.2.1.2.1 (100 * i + m).toNat = false ∧ r = 0)) (h3 : t3.1 = t2.1 ∧ t3.2.1.1 = t2.2.1.1 ∧ t3.2.1.2.2.1 = t2.2.1.2.2.1 ∧ t3.2.1.2.2.2 = t2.2.1.2.2.2 ∧ t3.2.2 = t2.2.2) (hf : ∀ j : Nat, t3.2.1.2.1 j = if j = (100 * i + m).toNat then decide (s = 1) else t2.2.1.2.1 j) : r = mp_shuG t i m s ∧ mp_RT (mp_shuF t i m s) t3 := by
  have eP : t.1.1 = t2.1.1 := by rw [h0.1]
  have e : mp_shuK t i m s := by unfold mp_shuK; omega
  have e5 : ¬ 0 < t.2.2.1 := by rw [h0.2.2.1]; omega
  have w1 := w.1
  obtain ⟨e1, e2, e3, e4⟩ := h0
  obtain ⟨g1, g2, g3, g4, g5⟩ := h3
  constructor
  · unfold mp_shuG
    rw [if_pos e, if_neg e5, e2.2.1 _ (by omega)]
    rcases hr with ⟨z, hr⟩ | ⟨z, hr⟩
    · rw [if_pos z]; exact hr
    · rw [if_neg (by rw [z]; decide)]; exact hr
  · unfold mp_shuF
    rw [if_pos ⟨e, e5⟩]
    refine ⟨e1.trans g1.symm, ⟨fun j hj => ?_, fun j hj => ?_, fun j hj => ?_, fun j hj => ?_⟩, ?_, fun j hj => ?_⟩
    · rw [g2]; exact e2.1 j hj
    · rw [hf j]
      show (if j = (100 * i + m).toNat then decide (s = 1) else t.2.1.2.1 j) = _
      rw [e2.2.1 j hj]
    · rw [g3]; exact e2.2.2.1 j hj
    · rw [g4]; exact e2.2.2.2 j hj
    · rw [g5]; exact e3
    · rw [g5]; exact e4 j hj
theorem mp_cD_x : mp_cD A = mp_dC A.1 A.2.1 A.2.2.1 A.2.2.2.1 A.2.2.2.2.1 A.2.2.2.2.2.1 A.2.2.2.2.2.2.1 A.2.2.2.2.2.2.2.1 A.2.2.2.2.2.2.2.2.1 A.2.2.2.2.2.2.2.2.2.1 A.2.2.2.2.2.2.2.2.2.2.1 := rfl
theorem mp_tC_1 : (mp_tC c k A).1 = c := rfl
theorem mp_tC_D : (mp_tC c k A).2.1 = mp_cD A := rfl
theorem mp_tC_S : (mp_tC c k A).2.1.1 = A.1 := rfl
theorem mp_tC_N : (mp_tC c k A).2.1.2.2.1 = mp_pc A.2.2.1 A.2.2.2.1 A.2.2.2.2.1 := rfl
theorem mp_tC_U : (mp_tC c k A).2.1.2.2.2 = mp_qc A.2.2.2.2.2.1 A.2.2.2.2.2.2.1 A.2.2.2.2.2.2.2.1 A.2.2.2.2.2.2.2.2.1 A.2.2.2.2.2.2.2.2.2.1 A.2.2.2.2.2.2.2.2.2.2.1 := rfl
theorem mp_tC_2 : (mp_tC c k A).2.2 = (k, A.2.2.2.2.2.2.2.2.2.2.2) := rfl
theorem mp_r0_1 : (mp_r0 B).1 = ((B.2.1 0).toInt, (B.2.1 1).toInt, (B.2.1 2).toInt, (B.2.1 3).toInt, (B.1 0).toInt) := rfl
theorem mp_r0_S : (mp_r0 B).2.1.1 = B.2.2.1 := rfl
theorem mp_r0_N : (mp_r0 B).2.1.2.2.1 = B.2.2.2.2.1 := rfl
theorem mp_r0_U : (mp_r0 B).2.1.2.2.2 = B.2.2.2.2.2.1 := rfl
theorem mp_r0_2 : (mp_r0 B).2.2 = ((B.2.1 4).toInt, B.2.2.2.2.2.2) := rfl
theorem mp_H_C : (mp_tC c k A).2.1.2.1 = mp_shb A.2.1 := rfl
theorem mp_H_M : (mp_r0 B).2.1.2.1 = fun j => decide ((B.2.2.2.1 j).toInt ≠ 0) := rfl
theorem mp_shu_C {f : Nat → Int64} (h0 : mp_RT t (mp_tC c k A)) (w : mp_WF t) (h : 0 ≤ i ∧ i < c.1 ∧ 0 ≤ m ∧ m ≤ 99 ∧ 0 ≤ s ∧ s ≤ 1) (h5 : k ≤ 0) (hr : (mp_shb A.2.1 (100 * i + m).toNat = true ∧ r = 1) ∨ (mp_shb A.2.1 (100 * i + m).toNat = false ∧ r = 0)) (hf : mp_shb f = fun j => if j = (100 * i + m).toNat then decide (s = 1) else mp_shb A.2.1 j) : r = mp_shuG t i m s ∧ mp_RT (mp_shuF t i m s) (mp_tC c k (A.1, f, A.2.2.1, A.2.2.2.1, A.2.2.2.2.1, A.2.2.2.2.2.1, A.2.2.2.2.2.2.1, A.2.2.2.2.2.2.2.1, A.2.2.2.2.2.2.2.2.1, A.2.2.2.2.2.2.2.2.2.1, A.2.2.2.2.2.2.2.2.2.2.1, A.2.2.2.2.2.2.2.2.2.2.2)) := by
  refine mp_shu_X h0 w h h5 ?_ ⟨by rw [mp_tC_1, mp_tC_1], by rw [mp_tC_S, mp_tC_S], by rw [mp_tC_N, mp_tC_N], by rw [mp_tC_U, mp_tC_U], by rw [mp_tC_2, mp_tC_2]⟩ ?_
  · rw [mp_H_C]; exact hr
  · intro j
    rw [mp_H_C, mp_H_C, hf]
theorem mp_shu_M {f : Nat → Int32} (h0 : mp_RT t (mp_r0 B)) (w : mp_WF t) (h : 0 ≤ i ∧ i < (B.2.1 0).toInt ∧ 0 ≤ m ∧ m ≤ 99 ∧ 0 ≤ s ∧ s ≤ 1) (h5 : (B.2.1 4).toInt ≤ 0) (hr : ((B.2.2.2.1 (100 * i + m).toNat).toInt ≠ 0 ∧ r = 1) ∨ ((B.2.2.2.1 (100 * i + m).toNat).toInt = 0 ∧ r = 0)) (hf : (s = 1 ∧ f = upd B.2.2.2.1 (100 * i + m).toNat 1) ∨ (s ≠ 1 ∧ f = upd B.2.2.2.1 (100 * i + m).toNat 0)) : r = mp_shuG t i m s ∧ mp_RT (mp_shuF t i m s) (mp_r0 (B.1, B.2.1, B.2.2.1, f, B.2.2.2.2.1, B.2.2.2.2.2.1, B.2.2.2.2.2.2)) := by
  refine mp_shu_X h0 w h h5 ?_ ⟨by rw [mp_r0_1, mp_r0_1], by rw [mp_r0_S, mp_r0_S], by rw [mp_r0_N, mp_r0_N], by rw [mp_r0_U, mp_r0_U], by rw [mp_r0_2, mp_r0_2]⟩ ?_
  · rw [mp_H_M]
    rcases hr with ⟨e, hr⟩ | ⟨e, hr⟩
    · exact Or.inl ⟨decide_eq_true e, hr⟩
    · exact Or.inr ⟨decide_eq_false (fun z => z e), hr⟩
  · intro j
    rw [mp_H_M, mp_H_M]
    by_cases q : j = (100 * i + m).toNat
    · rw [if_pos q]
      rcases hf with ⟨z, hf⟩ | ⟨z, hf⟩
      · rw [hf, z]; simp only [upd, if_pos q]; decide
      · rw [hf, decide_eq_false z]; simp only [upd, if_pos q]; decide
    · rw [if_neg q]
      rcases hf with ⟨z, hf⟩ | ⟨z, hf⟩
      · rw [hf]; simp only [upd, if_neg q]
      · rw [hf]; simp only [upd, if_neg q]
theorem mp_opn_C (h0 : mp_RT t (mp_tC c k A)) (w : mp_WF t) (h : ((i < 0 ∨ c.1 ≤ i ∨ m < 0 ∨ 99 < m) ∧ r = -2) ∨ ((0 ≤ i ∧ i < c.1 ∧ 0 ≤ m ∧ m ≤ 99) ∧ ((mp_shb A.2.1 (100 * i + m).toNat = true ∧ r = 0) ∨ (mp_shb A.2.1 (100 * i + m).toNat = false ∧ r = 1)))) : r = mp_opnG t i m := mp_opn_X h0 w (by rw [mp_H_C]; exact h)
-- a promise comes
abbrev mp_prsK (t : mp_TD) (p o w : Int) : Prop := 0 ≤ p ∧ p < t.1.2.2.1 ∧ 0 ≤ o ∧ o < t.1.2.2.1 ∧ p ≠ o ∧ 1 ≤ w ∧ w ≤ 1000000
def mp_prsG (t : mp_TD) (p o w : Int) : Int := if mp_prsK t p o w then (if 0 < t.2.2.1 then -5 else if 10 ≤ t.1.2.2.2.1 then -3 else t.1.2.2.2.1) else -2
def mp_prsF (t : mp_TD) (p o w : Int) : mp_TD := if mp_prsK t p o w ∧ ¬ 0 < t.2.2.1 ∧ ¬ 10 ≤ t.1.2.2.2.1 then ((t.1.1, t.1.2.1, t.1.2.2.1, t.1.2.2.2.1 + 1, t.1.2.2.2.2), mp_gop t.2.1 5 t.1.2.2.2.1 p o w t.1.2.1, t.2.2) else t
theorem mp_prs_b (h0 : mp_RT t t2) (h : p < 0 ∨ t2.1.2.2.1 ≤ p ∨ o < 0 ∨ t2.1.2.2.1 ≤ o ∨ p = o ∨ w < 1 ∨ 1000000 < w) (hr : r = -2) : r = mp_prsG t p o w ∧ mp_RT (mp_prsF t p o w) t2 := by
  have eP : t.1.2.2.1 = t2.1.2.2.1 := by rw [h0.1]
  have e : ¬ mp_prsK t p o w := by unfold mp_prsK; omega
  exact ⟨by unfold mp_prsG; rw [if_neg e]; exact hr, by unfold mp_prsF; rw [if_neg (fun z => e z.1)]; exact h0⟩
theorem mp_prs_5 (h0 : mp_RT t t2) (h : 0 ≤ p ∧ p < t2.1.2.2.1 ∧ 0 ≤ o ∧ o < t2.1.2.2.1 ∧ p ≠ o ∧ 1 ≤ w ∧ w ≤ 1000000) (h5 : 0 < t2.2.2.1) (hr : r = -5) : r = mp_prsG t p o w ∧ mp_RT (mp_prsF t p o w) t2 := by
  have eP : t.1.2.2.1 = t2.1.2.2.1 := by rw [h0.1]
  have e : mp_prsK t p o w := by unfold mp_prsK; omega
  have e5 : 0 < t.2.2.1 := by rw [h0.2.2.1]; exact h5
  exact ⟨by unfold mp_prsG; rw [if_pos e, if_pos e5]; exact hr, by unfold mp_prsF; rw [if_neg (fun z => z.2.1 e5)]; exact h0⟩
theorem mp_prs_3 (h0 : mp_RT t t2) (h : 0 ≤ p ∧ p < t2.1.2.2.1 ∧ 0 ≤ o ∧ o < t2.1.2.2.1 ∧ p ≠ o ∧ 1 ≤ w ∧ w ≤ 1000000) (h5 : t2.2.2.1 ≤ 0) (h3 : 10 ≤ t2.1.2.2.2.1) (hr : r = -3) : r = mp_prsG t p o w ∧ mp_RT (mp_prsF t p o w) t2 := by
  have eP : t.1.2.2.1 = t2.1.2.2.1 := by rw [h0.1]
  have eQ : t.1.2.2.2.1 = t2.1.2.2.2.1 := by rw [h0.1]
  have e : mp_prsK t p o w := by unfold mp_prsK; omega
  have e5 : ¬ 0 < t.2.2.1 := by rw [h0.2.2.1]; omega
  have e3 : 10 ≤ t.1.2.2.2.1 := by omega
  exact ⟨by unfold mp_prsG; rw [if_pos e, if_neg e5, if_pos e3]; exact hr, by unfold mp_prsF; rw [if_neg (fun z => z.2.2 e3)]; exact h0⟩
theorem mp_prs_X {t3 : mp_TD} (h0 : mp_RT t t2) (h : 0 ≤ p ∧ p < t2.1.2.2.1 ∧ 0 ≤ o ∧ o < t2.1.2.2.1 ∧ p ≠ o ∧ 1 ≤ w ∧ w ≤ 1000000) (h5 : t2.2.2.1 ≤ 0) (h3 : t2.1.2.2.2.1 < 10) (hr : r = t2.1.2.2.2.1) (g : t3 = ((t2.1.1, t2.1.2.1, t2.1.2.2.1, t2.1.2.2.2.1 + 1, t2.1.2.2.2.2), mp_gop t2.2.1 5 t2.1.2.2.2.1 p o w t2.1.2.1, t2.2.2)) : r = mp_prsG t p o w ∧ mp_RT (mp_prsF t p o w) t3 := by
  have eP : t.1.2.2.1 = t2.1.2.2.1 := by rw [h0.1]
  have eQ : t.1.2.2.2.1 = t2.1.2.2.2.1 := by rw [h0.1]
  have e : mp_prsK t p o w := by unfold mp_prsK; omega
  have e5 : ¬ 0 < t.2.2.1 := by rw [h0.2.2.1]; omega
  have e3 : ¬ 10 ≤ t.1.2.2.2.1 := by omega
  obtain ⟨e1, e2, f3, f4⟩ := h0
  refine ⟨by unfold mp_prsG; rw [if_pos e, if_neg e5, if_neg e3]; omega, ?_⟩
  unfold mp_prsF
  rw [if_pos ⟨e, e5, e3⟩, g, ← e1]
  exact ⟨rfl, mp_op5_R p o w t.1.2.1 e2 rfl rfl, f3, f4⟩
theorem mp_gop5_C {D : mp_AD} {kk : Int} {x0 x1 x2 x3 : Int32} {f1 f2 f3 f4 f5 f6 : Nat → Int32} (hD : D = mp_cD A) (hk : 0 ≤ kk) (e1 : f1 = upd A.2.2.2.2.2.1 kk.toNat x0) (e2 : f2 = upd A.2.2.2.2.2.2.1 kk.toNat x1) (e3 : f3 = upd A.2.2.2.2.2.2.2.1 kk.toNat x2) (e4 : f4 = upd A.2.2.2.2.2.2.2.2.1 kk.toNat x3) (e5 : f5 = upd A.2.2.2.2.2.2.2.2.2.1 kk.toNat 0) (e6 : f6 = upd A.2.2.2.2.2.2.2.2.2.2.1 kk.toNat (-1)) : mp_gop D 5 kk x0.toInt x1.toInt x2.toInt x3.toInt = mp_cD (A.1, A.2.1, A.2.2.1, A.2.2.2.1, A.2.2.2.2.1, f1, f2, f3, f4, f5, f6, A.2.2.2.2.2.2.2.2.2.2.2) := by
  subst hD e1 e2 e3 e4 e5 e6
  show (A.1, mp_shb A.2.1, mp_pc A.2.2.1 A.2.2.2.1 A.2.2.2.2.1, upd (upd (upd (upd (upd (upd (mp_qc A.2.2.2.2.2.1 A.2.2.2.2.2.2.1 A.2.2.2.2.2.2.2.1 A.2.2.2.2.2.2.2.2.1 A.2.2.2.2.2.2.2.2.2.1 A.2.2.2.2.2.2.2.2.2.2.1) (6 * kk).toNat (Int32.ofInt x0.toInt)) (6 * kk + 1).toNat (Int32.ofInt x1.toInt)) (6 * kk + 2).toNat (Int32.ofInt x2.toInt)) (6 * kk + 3).toNat (Int32.ofInt x3.toInt)) (6 * kk + 4).toNat 0) (6 * kk + 5).toNat (-1)) = (A.1, mp_shb A.2.1, mp_pc A.2.2.1 A.2.2.2.1 A.2.2.2.2.1, mp_qc (upd A.2.2.2.2.2.1 kk.toNat x0) (upd A.2.2.2.2.2.2.1 kk.toNat x1) (upd A.2.2.2.2.2.2.2.1 kk.toNat x2) (upd A.2.2.2.2.2.2.2.2.1 kk.toNat x3) (upd A.2.2.2.2.2.2.2.2.2.1 kk.toNat 0) (upd A.2.2.2.2.2.2.2.2.2.2.1 kk.toNat (-1)))
  simp only [Int32.ofInt_toInt]
  refine congrArg (fun z => (A.1, mp_shb A.2.1, mp_pc A.2.2.1 A.2.2.2.1 A.2.2.2.2.1, z)) (funext fun j => ?_)
  have hm : j % 6 = 0 ∨ j % 6 = 1 ∨ j % 6 = 2 ∨ j % 6 = 3 ∨ j % 6 = 4 ∨ j % 6 = 5 := by omega
  by_cases hq : j / 6 = kk.toNat
  · rcases hm with q | q | q | q | q | q
    · rw [mp_qw_0 (p := j / 6) (by omega)]
      simp only [upd]
      rw [if_neg (by omega), if_neg (by omega), if_neg (by omega), if_neg (by omega), if_neg (by omega), if_pos (by omega), if_pos hq]
    · rw [mp_qw_1 (p := j / 6) (by omega)]
      simp only [upd]
      rw [if_neg (by omega), if_neg (by omega), if_neg (by omega), if_neg (by omega), if_pos (by omega), if_pos hq]
    · rw [mp_qw_2 (p := j / 6) (by omega)]
      simp only [upd]
      rw [if_neg (by omega), if_neg (by omega), if_neg (by omega), if_pos (by omega), if_pos hq]
    · rw [mp_qw_3 (p := j / 6) (by omega)]
      simp only [upd]
      rw [if_neg (by omega), if_neg (by omega), if_pos (by omega), if_pos hq]
    · rw [mp_qw_4 (p := j / 6) (by omega)]
      simp only [upd]
      rw [if_neg (by omega), if_pos (by omega), if_pos hq]
    · rw [mp_qw_5 (p := j / 6) (by omega)]
      simp only [upd]
      rw [if_pos (by omega), if_pos hq]
  · simp only [upd]
    rw [if_neg (by omega), if_neg (by omega), if_neg (by omega), if_neg (by omega), if_neg (by omega), if_neg (by omega)]
    simp only [mp_qc, upd, if_neg hq]
theorem mp_prs_C {x0 x1 x2 x3 : Int32} {k2 : Int} {c2 : mp_Sc} {f1 f2 f3 f4 f5 f6 : Nat → Int32} (h0 : mp_RT t (mp_tC c k A)) (hc : 0 ≤ c.2.2.2.1) (h : 0 ≤ x0.toInt ∧ x0.toInt < c.2.2.1 ∧ 0 ≤ x1.toInt ∧ x1.toInt < c.2.2.1 ∧ x0.toInt ≠ x1.toInt ∧ 1 ≤ x2.toInt ∧ x2.toInt ≤ 1000000) (h5 : k ≤ 0) (h3 : c.2.2.2.1 < 10) (hr : r = c.2.2.2.1) (e0 : c2 = (c.1, c.2.1, c.2.2.1, c.2.2.2.1 + 1, c.2.2.2.2)) (ek : k2 = k) (e1 : f1 = upd A.2.2.2.2.2.1 c.2.2.2.1.toNat x0) (e2 : f2 = upd A.2.2.2.2.2.2.1 c.2.2.2.1.toNat x1) (e3 : f3 = upd A.2.2.2.2.2.2.2.1 c.2.2.2.1.toNat x2) (e4 : f4 = upd A.2.2.2.2.2.2.2.2.1 c.2.2.2.1.toNat x3) (e5 : f5 = upd A.2.2.2.2.2.2.2.2.2.1 c.2.2.2.1.toNat 0) (e6 : f6 = upd A.2.2.2.2.2.2.2.2.2.2.1 c.2.2.2.1.toNat (-1)) (e7 : x3.toInt = c.2.1) : r = mp_prsG t x0.toInt x1.toInt x2.toInt ∧ mp_RT (mp_prsF t x0.toInt x1.toInt x2.toInt) (mp_tC c2 k2 (A.1, A.2.1, A.2.2.1, A.2.2.2.1, A.2.2.2.2.1, f1, f2, f3, f4, f5, f6, A.2.2.2.2.2.2.2.2.2.2.2)) := by
  refine mp_prs_X h0 h h5 h3 hr ?_
  have g := mp_gop5_C (A := A) (D := mp_cD A) (kk := c.2.2.2.1) rfl hc e1 e2 e3 e4 e5 e6
  rw [e7] at g
  subst e0
  obtain rfl := ek.symm
  show ((c.1, c.2.1, c.2.2.1, c.2.2.2.1 + 1, c.2.2.2.2), mp_cD _, k, A.2.2.2.2.2.2.2.2.2.2.2) = ((c.1, c.2.1, c.2.2.1, c.2.2.2.1 + 1, c.2.2.2.2), mp_gop (mp_cD A) 5 c.2.2.2.1 x0.toInt x1.toInt x2.toInt c.2.1, k, A.2.2.2.2.2.2.2.2.2.2.2)
  rw [g]
theorem mp_prs_M {x0 x1 x2 : Int32} {f g : Nat → Int32} (h0 : mp_RT t (mp_r0 B)) (h : 0 ≤ x0.toInt ∧ x0.toInt < (B.2.1 2).toInt ∧ 0 ≤ x1.toInt ∧ x1.toInt < (B.2.1 2).toInt ∧ x0.toInt ≠ x1.toInt ∧ 1 ≤ x2.toInt ∧ x2.toInt ≤ 1000000) (h5 : (B.2.1 4).toInt ≤ 0) (h3 : (B.2.1 3).toInt < 10) (hr : r = (B.2.1 3).toInt) (g3 : (g 3).toInt = (B.2.1 3).toInt + 1) (g0 : (g 0).toInt = (B.2.1 0).toInt) (g1 : (g 1).toInt = (B.2.1 1).toInt) (g2 : (g 2).toInt = (B.2.1 2).toInt) (g4 : (g 4).toInt = (B.2.1 4).toInt) (e : f = upd (upd (upd (upd (upd (upd B.2.2.2.2.2.1 (6 * (B.2.1 3).toInt).toNat x0) (6 * (B.2.1 3).toInt + 1).toNat x1) (6 * (B.2.1 3).toInt + 2).toNat x2) (6 * (B.2.1 3).toInt + 3).toNat (B.2.1 1)) (6 * (B.2.1 3).toInt + 4).toNat 0) (6 * (B.2.1 3).toInt + 5).toNat (-1)) : r = mp_prsG t x0.toInt x1.toInt x2.toInt ∧ mp_RT (mp_prsF t x0.toInt x1.toInt x2.toInt) (mp_r0 (B.1, g, B.2.2.1, B.2.2.2.1, B.2.2.2.2.1, f, B.2.2.2.2.2.2)) := by
  refine mp_prs_X h0 h h5 h3 hr ?_
  unfold mp_r0
  show (((g 0).toInt, (g 1).toInt, (g 2).toInt, (g 3).toInt, (B.1 0).toInt), (B.2.2.1, (fun j => decide ((B.2.2.2.1 j).toInt ≠ 0)), B.2.2.2.2.1, f), (g 4).toInt, B.2.2.2.2.2.2) = (((B.2.1 0).toInt, (B.2.1 1).toInt, (B.2.1 2).toInt, (B.2.1 3).toInt + 1, (B.1 0).toInt), (B.2.2.1, (fun j => decide ((B.2.2.2.1 j).toInt ≠ 0)), B.2.2.2.2.1, upd (upd (upd (upd (upd (upd B.2.2.2.2.2.1 (6 * (B.2.1 3).toInt).toNat (Int32.ofInt x0.toInt)) (6 * (B.2.1 3).toInt + 1).toNat (Int32.ofInt x1.toInt)) (6 * (B.2.1 3).toInt + 2).toNat (Int32.ofInt x2.toInt)) (6 * (B.2.1 3).toInt + 3).toNat (Int32.ofInt (B.2.1 1).toInt)) (6 * (B.2.1 3).toInt + 4).toNat 0) (6 * (B.2.1 3).toInt + 5).toNat (-1)), (B.2.1 4).toInt, B.2.2.2.2.2.2)
  rw [e, g0, g1, g2, g3, g4]
  simp only [Int32.ofInt_toInt]
end MPU
