-- the course, said of what is told
section MPV
variable {t t2 : mp_TD} {c : mp_Sc} {k : Int} {A : mp_CA} {B : mp_RA} {r p i n : Int}
theorem mp_moX_eq (h : mp_RT t t2) : mp_moX t = mp_moX t2 := by
  unfold mp_moX
  rw [← h.1, ← h.2.2.1]
  show t.1.2.1 + mp_c200 t.2.2.2 t.2.2.1.toNat = t.1.2.1 + mp_c200 t2.2.2.2 t.2.2.1.toNat
  rw [mp_c200_cong (f := t.2.2.2) (g := t2.2.2.2) (fun j hj => h.2.2.2 j (by omega))]
theorem mp_WF_mo (w : mp_WF t) : 0 ≤ mp_moX t ∧ mp_moX t ≤ 99 := by
  obtain ⟨-, -, -, w4, w5, -⟩ := w
  refine ⟨?_, w5.2.1⟩
  have g := mp_k200_mono (f := t.2.2.2) (a := 0) (b := t.2.2.1) w4.1
  rw [mp_k200_0] at g
  unfold mp_moX
  omega
theorem mp_csX_eq (h : mp_RT t t2) (w : mp_WF t) {p : Nat} (hp : (p : Int) < t.1.2.2.1) : mp_csX t p = mp_csX t2 p ∧ 0 ≤ (mp_csX t p).1.toInt ∧ (mp_csX t p).1.toInt ≤ 5 := by
  obtain ⟨-, -, -, w4, -, w6, -, w8⟩ := w
  obtain ⟨e1, e2, e3, e4⟩ := h
  unfold mp_csX
  rw [← e1, ← e3]
  exact mp_cs_eq (home := fun q => t.2.1.2.2.1 (3 * q)) (home' := fun q => t2.2.1.2.2.1 (3 * q)) e2.1 (e2.2.2.1 _ (by omega)) (w6 p hp) (fun j hj => ⟨e4 j (by omega), fun q => w8 j (by omega) q⟩)
theorem mp_csX_C {p : Nat} : mp_csX (mp_tC c k A) p = mp_cs A.1 A.2.2.1 A.2.2.2.2.2.2.2.2.2.2.2 c.2.1 p k.toNat := by
  have e : (fun q => (mp_tC c k A).2.1.2.2.1 (3 * q)) = A.2.2.1 := funext fun q => mp_pw_0 rfl
  unfold mp_csX
  rw [e]
  rfl
theorem mp_N_C1 {q : Nat} : (mp_tC c k A).2.1.2.2.1 (3 * q + 1) = A.2.2.2.1 q := mp_pw_1 rfl
theorem mp_U_C0 {q : Nat} : (mp_tC c k A).2.1.2.2.2 (6 * q) = A.2.2.2.2.2.1 q := mp_qw_0 rfl
theorem mp_U_C1 {q : Nat} : (mp_tC c k A).2.1.2.2.2 (6 * q + 1) = A.2.2.2.2.2.2.1 q := mp_qw_1 rfl
theorem mp_U_C5 {q : Nat} : (mp_tC c k A).2.1.2.2.2 (6 * q + 5) = A.2.2.2.2.2.2.2.2.2.2.1 q := mp_qw_5 rfl
/-- p may row to i -/
abbrev mp_crT (t : mp_TD) (p i : Int) : Prop := mp_crx (mp_csX t p.toNat).2.2.toInt (mp_moX t) i (mp_csX t p.toNat).1.toInt (t.2.1.1 (6 * (mp_csX t p.toNat).1.toInt + i).toNat).toInt (t.2.1.2.2.1 (3 * p.toNat + 1)).toInt (t.2.1.2.1 (100 * (mp_csX t p.toNat).1.toInt + mp_moX t).toNat) (t.2.1.2.1 (100 * i + mp_moX t).toNat)
theorem mp_crT_eq (h : mp_RT t t2) (w : mp_WF t) (hp : 0 ≤ p ∧ p < t.1.2.2.1) (hi : 0 ≤ i ∧ i < t.1.1) : mp_crT t p i ↔ mp_crT t2 p i := by
  obtain ⟨e, g0, g5⟩ := mp_csX_eq h w (p := p.toNat) (by omega)
  have m := mp_moX_eq h
  have m9 := mp_WF_mo w
  have w1 := w.1
  unfold mp_crT
  rw [← e, ← m, mp_RT_S h (j := (6 * (mp_csX t p.toNat).1.toInt + i).toNat) (by omega), mp_RT_N h (j := 3 * p.toNat + 1) (by omega), mp_RT_H h (j := (100 * (mp_csX t p.toNat).1.toInt + mp_moX t).toNat) (by omega), mp_RT_H h (j := (100 * i + mp_moX t).toNat) (by omega)]
theorem mp_crT_C : mp_crT (mp_tC c k A) p i ↔ mp_crx (mp_cs A.1 A.2.2.1 A.2.2.2.2.2.2.2.2.2.2.2 c.2.1 p.toNat k.toNat).2.2.toInt (c.2.1 + mp_k200 A.2.2.2.2.2.2.2.2.2.2.2 k) i (mp_cs A.1 A.2.2.1 A.2.2.2.2.2.2.2.2.2.2.2 c.2.1 p.toNat k.toNat).1.toInt (A.1 (6 * (mp_cs A.1 A.2.2.1 A.2.2.2.2.2.2.2.2.2.2.2 c.2.1 p.toNat k.toNat).1.toInt + i).toNat).toInt (A.2.2.2.1 p.toNat).toInt (mp_shb A.2.1 (100 * (mp_cs A.1 A.2.2.1 A.2.2.2.2.2.2.2.2.2.2.2 c.2.1 p.toNat k.toNat).1.toInt + (c.2.1 + mp_k200 A.2.2.2.2.2.2.2.2.2.2.2 k)).toNat) (mp_shb A.2.1 (100 * i + (c.2.1 + mp_k200 A.2.2.2.2.2.2.2.2.2.2.2 k)).toNat) := by
  unfold mp_crT
  rw [mp_csX_C, mp_N_C1, mp_H_C]
  exact Iff.rfl
theorem mp_crT_M : mp_crT (mp_r0 B) p i ↔ mp_crx (mp_cs B.2.2.1 (fun p => B.2.2.2.2.1 (3 * p)) B.2.2.2.2.2.2 (B.2.1 1).toInt p.toNat (B.2.1 4).toInt.toNat).2.2.toInt ((B.2.1 1).toInt + mp_k200 B.2.2.2.2.2.2 (B.2.1 4).toInt) i (mp_cs B.2.2.1 (fun p => B.2.2.2.2.1 (3 * p)) B.2.2.2.2.2.2 (B.2.1 1).toInt p.toNat (B.2.1 4).toInt.toNat).1.toInt (B.2.2.1 (6 * (mp_cs B.2.2.1 (fun p => B.2.2.2.2.1 (3 * p)) B.2.2.2.2.2.2 (B.2.1 1).toInt p.toNat (B.2.1 4).toInt.toNat).1.toInt + i).toNat).toInt (B.2.2.2.2.1 (3 * p.toNat + 1)).toInt (decide ((B.2.2.2.1 (100 * (mp_cs B.2.2.1 (fun p => B.2.2.2.2.1 (3 * p)) B.2.2.2.2.2.2 (B.2.1 1).toInt p.toNat (B.2.1 4).toInt.toNat).1.toInt + ((B.2.1 1).toInt + mp_k200 B.2.2.2.2.2.2 (B.2.1 4).toInt)).toNat).toInt ≠ 0)) (decide ((B.2.2.2.1 (100 * i + ((B.2.1 1).toInt + mp_k200 B.2.2.2.2.2.2 (B.2.1 4).toInt)).toNat).toInt ≠ 0)) := Iff.rfl
/-- promise j may be said -/
abbrev mp_cnB (t : mp_TD) (j : Nat) : Prop := (mp_csX t (t.2.1.2.2.2 (6 * j)).toInt.toNat).1.toInt = (mp_csX t (t.2.1.2.2.2 (6 * j + 1)).toInt.toNat).1.toInt ∧ ¬ mp_deadx (t.2.1.2.2.1 (3 * (t.2.1.2.2.2 (6 * j)).toInt.toNat + 1)).toInt (mp_moX t) ∧ ¬ mp_deadx (t.2.1.2.2.1 (3 * (t.2.1.2.2.2 (6 * j + 1)).toInt.toNat + 1)).toInt (mp_moX t)
theorem mp_cnB_eq (h : mp_RT t t2) (w : mp_WF t) {j : Nat} (hj : (j : Int) < t.1.2.2.2.1) : mp_cnB t j ↔ mp_cnB t2 j := by
  have w7 := w.2.2.2.2.2.2.1 j hj
  have e1 := (mp_csX_eq h w (p := (t.2.1.2.2.2 (6 * j)).toInt.toNat) (by omega)).1
  have e2 := (mp_csX_eq h w (p := (t.2.1.2.2.2 (6 * j + 1)).toInt.toNat) (by omega)).1
  have n1 := mp_RT_N h (j := 3 * (t.2.1.2.2.2 (6 * j)).toInt.toNat + 1) (by omega)
  have n2 := mp_RT_N h (j := 3 * (t.2.1.2.2.2 (6 * j + 1)).toInt.toNat + 1) (by omega)
  unfold mp_cnB
  rw [e1, e2, n1, n2, mp_moX_eq h, mp_RT_U h (j := 6 * j) (by omega), mp_RT_U h (j := 6 * j + 1) (by omega)]
theorem mp_cnB_C {j : Nat} : mp_cnB (mp_tC c k A) j ↔ ((mp_cs A.1 A.2.2.1 A.2.2.2.2.2.2.2.2.2.2.2 c.2.1 (A.2.2.2.2.2.1 j).toInt.toNat k.toNat).1.toInt = (mp_cs A.1 A.2.2.1 A.2.2.2.2.2.2.2.2.2.2.2 c.2.1 (A.2.2.2.2.2.2.1 j).toInt.toNat k.toNat).1.toInt ∧ ¬ mp_deadx (A.2.2.2.1 (A.2.2.2.2.2.1 j).toInt.toNat).toInt (c.2.1 + mp_k200 A.2.2.2.2.2.2.2.2.2.2.2 k) ∧ ¬ mp_deadx (A.2.2.2.1 (A.2.2.2.2.2.2.1 j).toInt.toNat).toInt (c.2.1 + mp_k200 A.2.2.2.2.2.2.2.2.2.2.2 k)) := by
  unfold mp_cnB
  rw [mp_U_C0, mp_U_C1, mp_csX_C, mp_csX_C, mp_N_C1, mp_N_C1]
  exact Iff.rfl
theorem mp_cnB_M {j : Nat} : mp_cnB (mp_r0 B) j ↔ ((mp_cs B.2.2.1 (fun p => B.2.2.2.2.1 (3 * p)) B.2.2.2.2.2.2 (B.2.1 1).toInt (B.2.2.2.2.2.1 (6 * j + 0)).toInt.toNat (B.2.1 4).toInt.toNat).1.toInt = (mp_cs B.2.2.1 (fun p => B.2.2.2.2.1 (3 * p)) B.2.2.2.2.2.2 (B.2.1 1).toInt (B.2.2.2.2.2.1 (6 * j + 1)).toInt.toNat (B.2.1 4).toInt.toNat).1.toInt ∧ ¬ mp_deadx (B.2.2.2.2.1 (3 * (B.2.2.2.2.2.1 (6 * j + 0)).toInt.toNat + 1)).toInt ((B.2.1 1).toInt + mp_k200 B.2.2.2.2.2.2 (B.2.1 4).toInt) ∧ ¬ mp_deadx (B.2.2.2.2.1 (3 * (B.2.2.2.2.2.1 (6 * j + 1)).toInt.toNat + 1)).toInt ((B.2.1 1).toInt + mp_k200 B.2.2.2.2.2.2 (B.2.1 4).toInt)) := Iff.rfl
-- who owes, to whom: told, of each side
theorem mp_wfC_of (h : mp_RT t (mp_tC c k A)) (w : mp_WF t) : mp_wfC A.2.2.2.2.2.1 A.2.2.2.2.2.2.1 c.2.2.2.1 c.2.2.1 := by
  have eP : t.1.2.2.1 = c.2.2.1 := by rw [h.1]; rfl
  have eQ : t.1.2.2.2.1 = c.2.2.2.1 := by rw [h.1]; rfl
  intro j hj
  have w7 := w.2.2.2.2.2.2.1 j (by omega)
  have u0 : t.2.1.2.2.2 (6 * j) = A.2.2.2.2.2.1 j := (mp_RT_U h (by omega)).trans mp_U_C0
  have u1 : t.2.1.2.2.2 (6 * j + 1) = A.2.2.2.2.2.2.1 j := (mp_RT_U h (by omega)).trans mp_U_C1
  rw [← u0, ← u1]
  omega
theorem mp_wfM_of (h : mp_RT t (mp_r0 B)) (w : mp_WF t) : mp_wfM B.2.2.2.2.2.1 (B.2.1 3).toInt (B.2.1 2).toInt := by
  have eP : t.1.2.2.1 = (B.2.1 2).toInt := by rw [h.1]; rfl
  have eQ : t.1.2.2.2.1 = (B.2.1 3).toInt := by rw [h.1]; rfl
  intro j hj
  have w7 := w.2.2.2.2.2.2.1 j (by omega)
  have u0 : t.2.1.2.2.2 (6 * j) = B.2.2.2.2.2.1 (6 * j + 0) := mp_RT_U h (by omega)
  have u1 : t.2.1.2.2.2 (6 * j + 1) = B.2.2.2.2.2.1 (6 * j + 1) := mp_RT_U h (by omega)
  rw [← u0, ← u1]
  omega
-- questions
def mp_nowG (t : mp_TD) : Int := if t.1.2.2.2.2 ≤ 0 then -2 else mp_moX t
theorem mp_now_X {m : Int} (h0 : mp_RT t t2) (hm : m = mp_moX t2) (h : (t2.1.2.2.2.2 ≤ 0 ∧ r = -2) ∨ (0 < t2.1.2.2.2.2 ∧ r = m)) : r = mp_nowG t := by
  have e : t.1.2.2.2.2 = t2.1.2.2.2.2 := by rw [h0.1]
  unfold mp_nowG
  rw [mp_moX_eq h0]
  rcases h with ⟨q, rfl⟩ | ⟨q, rfl⟩
  · rw [if_pos (by omega)]
  · rw [if_neg (by omega)]; exact hm
def mp_whrG (t : mp_TD) (p : Int) : Int := if 0 ≤ p ∧ p < t.1.2.2.1 then (mp_csX t p.toNat).1.toInt else -2
theorem mp_whr_X (h0 : mp_RT t t2) (w : mp_WF t) (h : ((p < 0 ∨ t2.1.2.2.1 ≤ p) ∧ r = -2) ∨ ((0 ≤ p ∧ p < t2.1.2.2.1) ∧ r = (mp_csX t2 p.toNat).1.toInt)) : r = mp_whrG t p := by
  have e : t.1.2.2.1 = t2.1.2.2.1 := by rw [h0.1]
  unfold mp_whrG
  rcases h with ⟨q, rfl⟩ | ⟨q, rfl⟩
  · rw [if_neg (by omega)]
  · rw [if_pos (by omega), (mp_csX_eq h0 w (by omega)).1]
theorem mp_whr_C (h0 : mp_RT t (mp_tC c k A)) (w : mp_WF t) (h : ((p < 0 ∨ c.2.2.1 ≤ p) ∧ r = -2) ∨ ((0 ≤ p ∧ p < c.2.2.1) ∧ r = (mp_cs A.1 A.2.2.1 A.2.2.2.2.2.2.2.2.2.2.2 c.2.1 p.toNat k.toNat).1.toInt)) : r = mp_whrG t p := mp_whr_X h0 w (by rw [mp_csX_C]; exact h)
def mp_rwdG (t : mp_TD) (p : Int) : Int := if 0 ≤ p ∧ p < t.1.2.2.1 then (mp_csX t p.toNat).2.1.toInt else -2
theorem mp_rwd_X (h0 : mp_RT t t2) (w : mp_WF t) (h : ((p < 0 ∨ t2.1.2.2.1 ≤ p) ∧ r = -2) ∨ ((0 ≤ p ∧ p < t2.1.2.2.1) ∧ r = (mp_csX t2 p.toNat).2.1.toInt)) : r = mp_rwdG t p := by
  have e : t.1.2.2.1 = t2.1.2.2.1 := by rw [h0.1]
  unfold mp_rwdG
  rcases h with ⟨q, rfl⟩ | ⟨q, rfl⟩
  · rw [if_neg (by omega)]
  · rw [if_pos (by omega), (mp_csX_eq h0 w (by omega)).1]
theorem mp_rwd_C (h0 : mp_RT t (mp_tC c k A)) (w : mp_WF t) (h : ((p < 0 ∨ c.2.2.1 ≤ p) ∧ r = -2) ∨ ((0 ≤ p ∧ p < c.2.2.1) ∧ r = (mp_cs A.1 A.2.2.1 A.2.2.2.2.2.2.2.2.2.2.2 c.2.1 p.toNat k.toNat).2.1.toInt)) : r = mp_rwdG t p := mp_rwd_X h0 w (by rw [mp_csX_C]; exact h)
def mp_actG (t : mp_TD) (i : Int) : Int := if t.1.2.2.2.2 ≤ 0 then -2 else if 0 ≤ i ∧ i < t.2.2.1 then (t.2.2.2 i.toNat).toInt else -1
theorem mp_act_X (h0 : mp_RT t t2) (h : (t2.1.2.2.2.2 ≤ 0 ∧ r = -2) ∨ (0 < t2.1.2.2.2.2 ∧ (i < 0 ∨ t2.2.2.1 ≤ i) ∧ r = -1) ∨ (0 < t2.1.2.2.2.2 ∧ (0 ≤ i ∧ i < t2.2.2.1) ∧ r = (t2.2.2.2 i.toNat).toInt)) : r = mp_actG t i := by
  have e : t.1.2.2.2.2 = t2.1.2.2.2.2 := by rw [h0.1]
  have f := h0.2.2.1
  unfold mp_actG
  rcases h with ⟨q, rfl⟩ | ⟨q, z, rfl⟩ | ⟨q, z, rfl⟩
  · rw [if_pos (by omega)]
  · rw [if_neg (by omega), if_neg (by omega)]
  · rw [if_neg (by omega), if_pos (by omega), h0.2.2.2 i.toNat (by omega)]
def mp_canG (t : mp_TD) : Int := if t.1.2.2.2.2 ≤ 0 then -2 else (mp_bf (fun j => decide (mp_cnB t j)) t.1.2.2.2.1.toNat).toInt
theorem mp_can_X {P : Nat → Bool} (h0 : mp_RT t t2) (w : mp_WF t) (hP : ∀ j : Nat, P j = decide (mp_cnB t2 j)) (h : (t2.1.2.2.2.2 ≤ 0 ∧ r = -2) ∨ (0 < t2.1.2.2.2.2 ∧ r = (mp_bf P t2.1.2.2.2.1.toNat).toInt)) : r = mp_canG t := by
  have e : t.1.2.2.2.2 = t2.1.2.2.2.2 := by rw [h0.1]
  have f : t.1.2.2.2.1 = t2.1.2.2.2.1 := by rw [h0.1]
  unfold mp_canG
  rcases h with ⟨q, rfl⟩ | ⟨q, rfl⟩
  · rw [if_pos (by omega)]
  · rw [if_neg (by omega), f]
    exact congrArg Int32.toInt (mp_bf_cong fun j hj => (hP j).trans (decide_eq_decide.mpr (mp_cnB_eq h0 w (by omega)).symm))
def mp_saiG (t : mp_TD) (p : Int) : Int := if 0 ≤ p ∧ p < t.1.2.2.1 then (mp_bf (fun j => decide (mp_crT t p (j : Int))) t.1.1.toNat).toInt else -2
theorem mp_sai_X {P : Nat → Bool} (h0 : mp_RT t t2) (w : mp_WF t) (hP : ∀ j : Nat, P j = decide (mp_crT t2 p (j : Int))) (h : ((p < 0 ∨ t2.1.2.2.1 ≤ p) ∧ r = -2) ∨ ((0 ≤ p ∧ p < t2.1.2.2.1) ∧ r = (mp_bf P t2.1.1.toNat).toInt)) : r = mp_saiG t p := by
  have e : t.1.2.2.1 = t2.1.2.2.1 := by rw [h0.1]
  have f : t.1.1 = t2.1.1 := by rw [h0.1]
  unfold mp_saiG
  rcases h with ⟨q, rfl⟩ | ⟨q, rfl⟩
  · rw [if_neg (by omega)]
  · rw [if_pos (by omega), f]
    exact congrArg Int32.toInt (mp_bf_cong fun j hj => (hP j).trans (decide_eq_decide.mpr (mp_crT_eq h0 w (by omega) (by omega)).symm))
def mp_rotG (t : mp_TD) (p : Int) : Int := if 0 ≤ p ∧ p < t.1.2.2.2.1 then mp_it (fun j => t.2.1.2.2.2 (6 * j + 5)) p 10 else -2
theorem mp_rot_X {ba : Nat → Int32} (h0 : mp_RT t t2) (w : mp_WF t) (hb : ∀ j : Nat, ba j = t2.2.1.2.2.2 (6 * j + 5)) (h : ((p < 0 ∨ t2.1.2.2.2.1 ≤ p) ∧ r = -2) ∨ ((0 ≤ p ∧ p < t2.1.2.2.2.1) ∧ r = mp_it ba p 10)) : r = mp_rotG t p := by
  have e : t.1.2.2.2.1 = t2.1.2.2.2.1 := by rw [h0.1]
  unfold mp_rotG
  rcases h with ⟨q, rfl⟩ | ⟨q, rfl⟩
  · rw [if_neg (by omega)]
  · rw [if_pos (by omega)]
    refine (mp_it_cong (n := t.1.2.2.2.1) (fun j hj => ?_) (fun j hj => (w.2.2.2.2.2.2.1 j hj).2.2) (by omega)).1.symm
    show t.2.1.2.2.2 (6 * j + 5) = ba j
    rw [hb j]; exact mp_RT_U h0 (by omega)
def mp_upnG (t : mp_TD) (p : Int32) : Int := if 0 ≤ p.toInt ∧ p.toInt < t.1.2.2.2.1 then (mp_up (fun j => t.2.1.2.2.2 (6 * j + 5)) p.toInt.toNat (t.1.2.2.2.1 - p.toInt - 1).toNat &&& ((1 <<< (p &&& 31)) ^^^ (-1))).toInt else -2
theorem mp_upn_X {ba : Nat → Int32} {p : Int32} (h0 : mp_RT t t2) (hb : ∀ j : Nat, ba j = t2.2.1.2.2.2 (6 * j + 5)) (h : ((p.toInt < 0 ∨ t2.1.2.2.2.1 ≤ p.toInt) ∧ r = -2) ∨ ((0 ≤ p.toInt ∧ p.toInt < t2.1.2.2.2.1) ∧ r = (mp_up ba p.toInt.toNat (t2.1.2.2.2.1 - p.toInt - 1).toNat &&& ((1 <<< (p &&& 31)) ^^^ (-1))).toInt)) : r = mp_upnG t p := by
  have e : t.1.2.2.2.1 = t2.1.2.2.2.1 := by rw [h0.1]
  unfold mp_upnG
  rcases h with ⟨q, rfl⟩ | ⟨q, rfl⟩
  · rw [if_neg (by omega)]
  · rw [if_pos (by omega), e]
    rw [mp_up_cong (ba := ba) (ba' := fun j => t.2.1.2.2.2 (6 * j + 5)) (fun j hj => (hb j).trans (mp_RT_U h0 (by omega)).symm)]
-- acts
def mp_addA (t : mp_TD) (code : Int) : mp_TD := (t.1, t.2.1, t.2.2.1 + 1, upd t.2.2.2 t.2.2.1.toNat (Int32.ofInt code))
theorem mp_add_RT {t3 : mp_TD} {code : Int} (h : mp_RT t t2) (g1 : t3.1 = t2.1) (g2 : t3.2.1 = t2.2.1) (g3 : t3.2.2.1 = t2.2.2.1 + 1) (g4 : t3.2.2.2 = upd t2.2.2.2 t2.2.2.1.toNat (Int32.ofInt code)) (hk : 0 ≤ t.2.2.1) : mp_RT (mp_addA t code) t3 := by
  obtain ⟨e1, e2, e3, e4⟩ := h
  refine ⟨e1.trans g1.symm, by rw [g2]; exact e2, by rw [g3, ← e3]; rfl, fun j hj => ?_⟩
  have q : (j : Int) < t.2.2.1 + 1 := hj
  show upd t.2.2.2 t.2.2.1.toNat (Int32.ofInt code) j = t3.2.2.2 j
  rw [g4, ← e3]
  simp only [upd]
  by_cases z : j = t.2.2.1.toNat
  · rw [if_pos z, if_pos z]
  · rw [if_neg z, if_neg z]; exact e4 j (by omega)
abbrev mp_rwsK (t : mp_TD) (p i : Int) : Prop := (0 ≤ p ∧ p < t.1.2.2.1) ∧ (0 ≤ i ∧ i < t.1.1)
def mp_rwsG (t : mp_TD) (p i : Int) : Int := if mp_rwsK t p i then (if mp_crT t p i ∧ t.2.2.1 ≤ 59 then (t.2.1.1 (6 * (mp_csX t p.toNat).1.toInt + i).toNat).toInt else -5) else -2
def mp_rwsF (t : mp_TD) (p i : Int) : mp_TD := if mp_rwsK t p i ∧ mp_crT t p i ∧ t.2.2.1 ≤ 59 then mp_addA t (10 * p + i) else t
theorem mp_rws_b (h0 : mp_RT t t2) (h : p < 0 ∨ t2.1.2.2.1 ≤ p ∨ i < 0 ∨ t2.1.1 ≤ i) (hr : r = -2) : r = mp_rwsG t p i ∧ mp_RT (mp_rwsF t p i) t2 := by
  have eP : t.1.2.2.1 = t2.1.2.2.1 := by rw [h0.1]
  have eI : t.1.1 = t2.1.1 := by rw [h0.1]
  have e : ¬ mp_rwsK t p i := by unfold mp_rwsK; omega
  exact ⟨by unfold mp_rwsG; rw [if_neg e]; exact hr, by unfold mp_rwsF; rw [if_neg (fun z => e z.1)]; exact h0⟩
theorem mp_rws_5 (h0 : mp_RT t t2) (w : mp_WF t) (h : (0 ≤ p ∧ p < t2.1.2.2.1) ∧ (0 ≤ i ∧ i < t2.1.1)) (h5 : ¬ mp_crT t2 p i ∨ 60 ≤ t2.2.2.1) (hr : r = -5) : r = mp_rwsG t p i ∧ mp_RT (mp_rwsF t p i) t2 := by
  have eP : t.1.2.2.1 = t2.1.2.2.1 := by rw [h0.1]
  have eI : t.1.1 = t2.1.1 := by rw [h0.1]
  have eK := h0.2.2.1
  have e : mp_rwsK t p i := by unfold mp_rwsK; omega
  have g := mp_crT_eq h0 w (p := p) (i := i) (by omega) (by omega)
  have n : ¬ (mp_crT t p i ∧ t.2.2.1 ≤ 59) := by
    rintro ⟨z, z2⟩
    rcases h5 with q | q
    · exact q (g.mp z)
    · omega
  exact ⟨by unfold mp_rwsG; rw [if_pos e, if_neg n]; exact hr, by unfold mp_rwsF; rw [if_neg (fun z => n z.2)]; exact h0⟩
theorem mp_rws_X {t3 : mp_TD} (h0 : mp_RT t t2) (w : mp_WF t) (h : (0 ≤ p ∧ p < t2.1.2.2.1) ∧ (0 ≤ i ∧ i < t2.1.1)) (hc : mp_crT t2 p i) (hr : r = (t2.2.1.1 (6 * (mp_csX t2 p.toNat).1.toInt + i).toNat).toInt) (hk : t2.2.2.1 ≤ 59) (g1 : t3.1 = t2.1) (g2 : t3.2.1 = t2.2.1) (g3 : t3.2.2.1 = t2.2.2.1 + 1) (g4 : t3.2.2.2 = upd t2.2.2.2 t2.2.2.1.toNat (Int32.ofInt (10 * p + i))) : r = mp_rwsG t p i ∧ mp_RT (mp_rwsF t p i) t3 := by
  have eP : t.1.2.2.1 = t2.1.2.2.1 := by rw [h0.1]
  have eI : t.1.1 = t2.1.1 := by rw [h0.1]
  have eK := h0.2.2.1
  have w1 := w.1
  have w4 := w.2.2.2.1
  have e : mp_rwsK t p i := by unfold mp_rwsK; omega
  have g := mp_crT_eq h0 w (p := p) (i := i) (by omega) (by omega)
  obtain ⟨s1, s2, s3⟩ := mp_csX_eq h0 w (p := p.toNat) (by omega)
  have y : mp_crT t p i ∧ t.2.2.1 ≤ 59 := ⟨g.mpr hc, by omega⟩
  refine ⟨?_, by unfold mp_rwsF; rw [if_pos ⟨e, y⟩]; exact mp_add_RT h0 g1 g2 g3 g4 w4.1⟩
  unfold mp_rwsG
  rw [if_pos e, if_pos y, hr, ← s1, mp_RT_S h0 (by omega)]
abbrev mp_sayG (t : mp_TD) (p : Int) : Prop := (0 ≤ p ∧ p < t.1.2.2.2.1) ∧ mp_cnB t p.toNat ∧ t.2.2.1 ≤ 59
def mp_sayF (t : mp_TD) (p : Int) : mp_TD := if mp_sayG t p then mp_addA t (100 + p) else t
theorem mp_say_b (h0 : mp_RT t t2) (h : p < 0 ∨ t2.1.2.2.2.1 ≤ p) : mp_RT (mp_sayF t p) t2 := by
  have eP : t.1.2.2.2.1 = t2.1.2.2.2.1 := by rw [h0.1]
  unfold mp_sayF
  rw [if_neg (fun z => by have := z.1; omega)]; exact h0
theorem mp_say_5 (h0 : mp_RT t t2) (w : mp_WF t) (h : 0 ≤ p ∧ p < t2.1.2.2.2.1) (h5 : ¬ mp_cnB t2 p.toNat ∨ 60 ≤ t2.2.2.1) : mp_RT (mp_sayF t p) t2 := by
  have eP : t.1.2.2.2.1 = t2.1.2.2.2.1 := by rw [h0.1]
  have eK := h0.2.2.1
  have g := mp_cnB_eq h0 w (j := p.toNat) (by omega)
  unfold mp_sayF
  rw [if_neg (fun z => by
    obtain ⟨-, z, z2⟩ := z
    rcases h5 with q | q
    · exact q (g.mp z)
    · omega)]
  exact h0
theorem mp_say_X {t3 : mp_TD} (h0 : mp_RT t t2) (w : mp_WF t) (h : 0 ≤ p ∧ p < t2.1.2.2.2.1) (hc : mp_cnB t2 p.toNat) (hk : t2.2.2.1 ≤ 59) (g1 : t3.1 = t2.1) (g2 : t3.2.1 = t2.2.1) (g3 : t3.2.2.1 = t2.2.2.1 + 1) (g4 : t3.2.2.2 = upd t2.2.2.2 t2.2.2.1.toNat (Int32.ofInt (100 + p))) : mp_RT (mp_sayF t p) t3 := by
  have eP : t.1.2.2.2.1 = t2.1.2.2.2.1 := by rw [h0.1]
  have eK := h0.2.2.1
  have w4 := w.2.2.2.1
  have g := mp_cnB_eq h0 w (j := p.toNat) (by omega)
  unfold mp_sayF
  rw [if_pos ⟨by omega, g.mpr hc, by omega⟩]
  exact mp_add_RT h0 g1 g2 g3 g4 w4.1
def mp_pasG (t : mp_TD) : Int := if t.1.2.2.2.2 ≤ 0 then -2 else if mp_moX t ≤ 98 ∧ t.2.2.1 ≤ 59 then mp_moX t + 1 else -5
def mp_pasF (t : mp_TD) : mp_TD := if 0 < t.1.2.2.2.2 ∧ mp_moX t ≤ 98 ∧ t.2.2.1 ≤ 59 then mp_addA t 200 else t
theorem mp_pas_b (h0 : mp_RT t t2) (h : t2.1.2.2.2.2 ≤ 0) (hr : r = -2) : r = mp_pasG t ∧ mp_RT (mp_pasF t) t2 := by
  have eP : t.1.2.2.2.2 = t2.1.2.2.2.2 := by rw [h0.1]
  exact ⟨by unfold mp_pasG; rw [if_pos (by omega)]; exact hr, by unfold mp_pasF; rw [if_neg (fun z => by have := z.1; omega)]; exact h0⟩
theorem mp_pas_5 (h0 : mp_RT t t2) (h : 0 < t2.1.2.2.2.2) (h5 : 99 ≤ mp_moX t2 ∨ 60 ≤ t2.2.2.1) (hr : r = -5) : r = mp_pasG t ∧ mp_RT (mp_pasF t) t2 := by
  have eP : t.1.2.2.2.2 = t2.1.2.2.2.2 := by rw [h0.1]
  have eK := h0.2.2.1
  have m := mp_moX_eq h0
  exact ⟨by unfold mp_pasG; rw [if_neg (by omega), if_neg (by omega)]; exact hr, by unfold mp_pasF; rw [if_neg (fun z => by have := z.2; omega)]; exact h0⟩
theorem mp_pas_X {t3 : mp_TD} (h0 : mp_RT t t2) (w : mp_WF t) (h : 0 < t2.1.2.2.2.2) (h9 : mp_moX t2 ≤ 98) (hk : t2.2.2.1 ≤ 59) (hr : r = mp_moX t2 + 1) (g1 : t3.1 = t2.1) (g2 : t3.2.1 = t2.2.1) (g3 : t3.2.2.1 = t2.2.2.1 + 1) (g4 : t3.2.2.2 = upd t2.2.2.2 t2.2.2.1.toNat (Int32.ofInt 200)) : r = mp_pasG t ∧ mp_RT (mp_pasF t) t3 := by
  have eP : t.1.2.2.2.2 = t2.1.2.2.2.2 := by rw [h0.1]
  have eK := h0.2.2.1
  have m := mp_moX_eq h0
  have w4 := w.2.2.2.1
  exact ⟨by unfold mp_pasG; rw [if_neg (by omega), if_pos (by omega)]; omega, by unfold mp_pasF; rw [if_pos (by omega)]; exact mp_add_RT h0 g1 g2 g3 g4 w4.1⟩
def mp_cut (t : mp_TD) (n : Int) : mp_TD := (t.1, t.2.1, n, t.2.2.2)
theorem mp_cut_RT {t3 : mp_TD} (h : mp_RT t t2) (g1 : t3.1 = t2.1) (g2 : t3.2.1 = t2.2.1) (g3 : t3.2.2.1 = n) (g4 : t3.2.2.2 = t2.2.2.2) (hn : n ≤ t.2.2.1) : mp_RT (mp_cut t n) t3 := by
  obtain ⟨e1, e2, e3, e4⟩ := h
  refine ⟨e1.trans g1.symm, by rw [g2]; exact e2, by rw [g3]; rfl, fun j hj => ?_⟩
  have q : (j : Int) < n := hj
  rw [g4]
  exact e4 j (by omega)
def mp_undG (t : mp_TD) : Int := if t.1.2.2.2.2 ≤ 0 then -2 else if t.2.2.1 ≤ 0 then -5 else t.2.2.1 - 1
def mp_undF (t : mp_TD) : mp_TD := if 0 < t.1.2.2.2.2 ∧ 0 < t.2.2.1 then mp_cut t (t.2.2.1 - 1) else t
theorem mp_und_b (h0 : mp_RT t t2) (h : t2.1.2.2.2.2 ≤ 0) (hr : r = -2) : r = mp_undG t ∧ mp_RT (mp_undF t) t2 := by
  have eP : t.1.2.2.2.2 = t2.1.2.2.2.2 := by rw [h0.1]
  exact ⟨by unfold mp_undG; rw [if_pos (by omega)]; exact hr, by unfold mp_undF; rw [if_neg (fun z => by have := z.1; omega)]; exact h0⟩
theorem mp_und_5 (h0 : mp_RT t t2) (h : 0 < t2.1.2.2.2.2) (h5 : t2.2.2.1 ≤ 0) (hr : r = -5) : r = mp_undG t ∧ mp_RT (mp_undF t) t2 := by
  have eP : t.1.2.2.2.2 = t2.1.2.2.2.2 := by rw [h0.1]
  have eK := h0.2.2.1
  exact ⟨by unfold mp_undG; rw [if_neg (by omega), if_pos (by omega)]; exact hr, by unfold mp_undF; rw [if_neg (fun z => by have := z.2; omega)]; exact h0⟩
theorem mp_und_X {t3 : mp_TD} (h0 : mp_RT t t2) (h : 0 < t2.1.2.2.2.2) (h5 : 0 < t2.2.2.1) (g3 : t3.2.2.1 = t2.2.2.1 - 1) (hr : r = t3.2.2.1) (g1 : t3.1 = t2.1) (g2 : t3.2.1 = t2.2.1) (g4 : t3.2.2.2 = t2.2.2.2) : r = mp_undG t ∧ mp_RT (mp_undF t) t3 := by
  have eP : t.1.2.2.2.2 = t2.1.2.2.2.2 := by rw [h0.1]
  have eK := h0.2.2.1
  exact ⟨by unfold mp_undG; rw [if_neg (by omega), if_neg (by omega)]; omega, by unfold mp_undF; rw [if_pos (by omega)]; exact mp_cut_RT h0 g1 g2 (by omega) g4 (by omega)⟩
def mp_aneG (t : mp_TD) : Int := if t.1.2.2.2.2 ≤ 0 then -2 else t.2.2.1
def mp_aneF (t : mp_TD) : mp_TD := if 0 < t.1.2.2.2.2 then mp_cut t 0 else t
theorem mp_ane_b (h0 : mp_RT t t2) (h : t2.1.2.2.2.2 ≤ 0) (hr : r = -2) : r = mp_aneG t ∧ mp_RT (mp_aneF t) t2 := by
  have eP : t.1.2.2.2.2 = t2.1.2.2.2.2 := by rw [h0.1]
  exact ⟨by unfold mp_aneG; rw [if_pos (by omega)]; exact hr, by unfold mp_aneF; rw [if_neg (by omega)]; exact h0⟩
theorem mp_ane_X {t3 : mp_TD} (h0 : mp_RT t t2) (w : mp_WF t) (h : 0 < t2.1.2.2.2.2) (g3 : t3.2.2.1 = 0) (hr : r = t2.2.2.1) (g1 : t3.1 = t2.1) (g2 : t3.2.1 = t2.2.1) (g4 : t3.2.2.2 = t2.2.2.2) : r = mp_aneG t ∧ mp_RT (mp_aneF t) t3 := by
  have eP : t.1.2.2.2.2 = t2.1.2.2.2.2 := by rw [h0.1]
  have eK := h0.2.2.1
  have w4 := w.2.2.2.1
  exact ⟨by unfold mp_aneG; rw [if_neg (by omega)]; omega, by unfold mp_aneF; rw [if_pos (by omega)]; exact mp_cut_RT h0 g1 g2 g3 g4 (by omega)⟩
-- images
def mp_itF (it : Nat → mp_TD) (t : mp_TD) (k : Int) : Nat → mp_TD := fun j => if 0 ≤ k ∧ k ≤ 2 ∧ j = k.toNat then t else it j
def mp_kpF (kp : Nat → Bool) (k : Int) : Nat → Bool := fun j => if 0 ≤ k ∧ k ≤ 2 ∧ j = k.toNat then true else kp j
def mp_imgG (k : Int) : Int := if 0 ≤ k ∧ k ≤ 2 then 0 else -2
def mp_bckG (kp : Nat → Bool) (k : Int) : Int := if 0 ≤ k ∧ k ≤ 2 then (if kp k.toNat = true then 0 else -6) else -2
def mp_bckF (t : mp_TD) (it : Nat → mp_TD) (kp : Nat → Bool) (k : Int) : mp_TD := if (0 ≤ k ∧ k ≤ 2) ∧ kp k.toNat = true then it k.toNat else t
end MPV
