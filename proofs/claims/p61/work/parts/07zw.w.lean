-- what a text tells, what comes of it: well formed
def mp_GW (c : mp_Sc) (d : mp_AD) : Prop := (0 ≤ c.1 ∧ c.1 ≤ 6) ∧ (0 ≤ c.2.1 ∧ c.2.1 ≤ 99 ∧ 0 ≤ c.2.2.2.2) ∧ (0 ≤ c.2.2.1 ∧ c.2.2.1 ≤ 6) ∧ (0 ≤ c.2.2.2.1 ∧ c.2.2.2.1 ≤ 10) ∧ (∀ p : Nat, (p : Int) < c.2.2.1 → 0 ≤ (d.2.2.1 (3 * p)).toInt ∧ (d.2.2.1 (3 * p)).toInt ≤ 5) ∧ (∀ j : Nat, (j : Int) < c.2.2.2.1 → (0 ≤ (d.2.2.2 (6 * j)).toInt ∧ (d.2.2.2 (6 * j)).toInt < c.2.2.1) ∧ (0 ≤ (d.2.2.2 (6 * j + 1)).toInt ∧ (d.2.2.2 (6 * j + 1)).toInt < c.2.2.1) ∧ (-1 ≤ (d.2.2.2 (6 * j + 5)).toInt ∧ (d.2.2.2 (6 * j + 5)).toInt < (j : Int)))
def mp_PWd (R : mp_Rs mp_AD) : Prop := R.1 = 0 → mp_GW R.2.2.1 R.2.2.2
theorem mp_upd_y {f : Nat → Int32} {i j : Nat} {v : Int32} (h : j = i) : upd f i v j = v := if_pos h
theorem mp_upd_n {f : Nat → Int32} {i j : Nat} {v : Int32} (h : j ≠ i) : upd f i v j = f j := if_neg h
section MPW
variable {f : Nat → Int32} {n s : Nat} {lo hi bar w : Int} {c : mp_Sc} {d : mp_AD}
theorem mp_PW_1 {k : Int} (h : k ≠ 0) : mp_PWd (k, s, c, d) := fun e => absurd e h
theorem mp_kn_W {ok : Int → Nat → mp_Rs mp_AD} (hk : ∀ v s, lo ≤ v → v ≤ hi → v ≠ bar → mp_PWd (ok v s)) : mp_PWd (mp_kn f n s lo hi bar c d ok) := by
  unfold mp_kn
  split
  · exact mp_PW_1 (by decide)
  · split
    · exact mp_PW_1 (by decide)
    · rename_i h
      exact hk _ _ (by omega) (by omega) (by omega)
theorem mp_kw_W {ok : Nat → mp_Rs mp_AD} (hk : ∀ s, mp_PWd (ok s)) : mp_PWd (mp_kw f n s w c d ok) := by
  unfold mp_kw
  split
  · exact hk _
  · exact mp_PW_1 (by decide)
theorem mp_GW_N {N : Nat → Int32} (h : mp_GW c d) (e : ∀ p : Nat, N (3 * p) = d.2.2.1 (3 * p)) : mp_GW c (d.1, d.2.1, N, d.2.2.2) := by
  obtain ⟨h1, h2, h3, h4, h5, h6⟩ := h
  refine ⟨h1, h2, h3, h4, fun p hp => ?_, h6⟩
  show 0 ≤ (N (3 * p)).toInt ∧ (N (3 * p)).toInt ≤ 5
  rw [e p]; exact h5 p hp
theorem mp_GW_op3 {a b : Int} (h : mp_GW c d) (ha : 0 ≤ a) : mp_GW c (mp_gop d 3 a b 0 0 0) := mp_GW_N h fun p => mp_upd_n (by omega)
theorem mp_GW_op4 {a b : Int} (h : mp_GW c d) (ha : 0 ≤ a) : mp_GW c (mp_gop d 4 a b 0 0 0) := mp_GW_N h fun p => mp_upd_n (by omega)
theorem mp_GW_op2 {v : Int} (h : mp_GW c d) (hv : 0 ≤ v ∧ v ≤ 5) (hc : c.2.2.1 < 6) : mp_GW (c.1, c.2.1, c.2.2.1 + 1, c.2.2.2.1, c.2.2.2.2) (mp_gop d 2 c.2.2.1 v 0 0 0) := by
  obtain ⟨h1, h2, h3, h4, h5, h6⟩ := h
  have h3' : 0 ≤ c.2.2.1 + 1 ∧ c.2.2.1 + 1 ≤ 6 := by omega
  refine ⟨h1, h2, h3', h4, fun p hp => ?_, fun j hj => ?_⟩
  · have hp2 : (p : Int) < c.2.2.1 + 1 := hp
    show 0 ≤ (upd (upd (upd d.2.2.1 (3 * c.2.2.1).toNat (Int32.ofInt v)) (3 * c.2.2.1 + 1).toNat (-1)) (3 * c.2.2.1 + 2).toNat 0 (3 * p)).toInt ∧ (upd (upd (upd d.2.2.1 (3 * c.2.2.1).toNat (Int32.ofInt v)) (3 * c.2.2.1 + 1).toNat (-1)) (3 * c.2.2.1 + 2).toNat 0 (3 * p)).toInt ≤ 5
    rw [mp_upd_n (by omega), mp_upd_n (by omega)]
    by_cases q : (p : Int) = c.2.2.1
    · rw [mp_upd_y (by omega), Int32.toInt_ofInt_of_le (by omega) (by omega)]; exact hv
    · rw [mp_upd_n (by omega)]; exact h5 p (by omega)
  · have g := h6 j hj
    exact ⟨⟨g.1.1, Int.lt_trans g.1.2 (show c.2.2.1 < c.2.2.1 + 1 by omega)⟩, ⟨g.2.1.1, Int.lt_trans g.2.1.2 (show c.2.2.1 < c.2.2.1 + 1 by omega)⟩, g.2.2⟩
/-- a promise more -/
def mp_UW (U : Nat → Int32) (P Q : Int) : Prop := ∀ j : Nat, (j : Int) < Q → (0 ≤ (U (6 * j)).toInt ∧ (U (6 * j)).toInt < P) ∧ (0 ≤ (U (6 * j + 1)).toInt ∧ (U (6 * j + 1)).toInt < P) ∧ (-1 ≤ (U (6 * j + 5)).toInt ∧ (U (6 * j + 5)).toInt < (j : Int))
theorem mp_UW_op5 {U : Nat → Int32} {P Q a b w m : Int} (h : mp_UW U P Q) (hQ : 0 ≤ Q) (hP : P ≤ 6) (ha : 0 ≤ a ∧ a < P) (hb : 0 ≤ b ∧ b < P) : mp_UW (upd (upd (upd (upd (upd (upd U (6 * Q).toNat (Int32.ofInt a)) (6 * Q + 1).toNat (Int32.ofInt b)) (6 * Q + 2).toNat (Int32.ofInt w)) (6 * Q + 3).toNat (Int32.ofInt m)) (6 * Q + 4).toNat 0) (6 * Q + 5).toNat (-1)) P (Q + 1) := by
  intro j hj
  by_cases q : (j : Int) = Q
  · rw [mp_upd_n (j := 6 * j) (by omega), mp_upd_n (j := 6 * j) (by omega), mp_upd_n (j := 6 * j) (by omega), mp_upd_n (j := 6 * j) (by omega), mp_upd_n (j := 6 * j) (by omega), mp_upd_y (j := 6 * j) (by omega), mp_upd_n (j := 6 * j + 1) (by omega), mp_upd_n (j := 6 * j + 1) (by omega), mp_upd_n (j := 6 * j + 1) (by omega), mp_upd_n (j := 6 * j + 1) (by omega), mp_upd_y (j := 6 * j + 1) (by omega), mp_upd_y (j := 6 * j + 5) (by omega), Int32.toInt_ofInt_of_le (n := a) (by omega) (by omega), Int32.toInt_ofInt_of_le (n := b) (by omega) (by omega)]
    have i1 : (-1 : Int32).toInt = -1 := rfl
    rw [i1]
    omega
  · rw [mp_upd_n (j := 6 * j) (by omega), mp_upd_n (j := 6 * j) (by omega), mp_upd_n (j := 6 * j) (by omega), mp_upd_n (j := 6 * j) (by omega), mp_upd_n (j := 6 * j) (by omega), mp_upd_n (j := 6 * j) (by omega), mp_upd_n (j := 6 * j + 1) (by omega), mp_upd_n (j := 6 * j + 1) (by omega), mp_upd_n (j := 6 * j + 1) (by omega), mp_upd_n (j := 6 * j + 1) (by omega), mp_upd_n (j := 6 * j + 1) (by omega), mp_upd_n (j := 6 * j + 1) (by omega), mp_upd_n (j := 6 * j + 5) (by omega), mp_upd_n (j := 6 * j + 5) (by omega), mp_upd_n (j := 6 * j + 5) (by omega), mp_upd_n (j := 6 * j + 5) (by omega), mp_upd_n (j := 6 * j + 5) (by omega), mp_upd_n (j := 6 * j + 5) (by omega)]
    exact h j (by omega)
theorem mp_GW_op5 {a b w m : Int} (h : mp_GW c d) (hc : c.2.2.2.1 < 10) (ha : 0 ≤ a ∧ a < c.2.2.1) (hb : 0 ≤ b ∧ b < c.2.2.1) : mp_GW (c.1, c.2.1, c.2.2.1, c.2.2.2.1 + 1, c.2.2.2.2) (mp_gop d 5 c.2.2.2.1 a b w m) := by
  obtain ⟨h1, h2, h3, h4, h5, h6⟩ := h
  have h4' : 0 ≤ c.2.2.2.1 + 1 ∧ c.2.2.2.1 + 1 ≤ 10 := by omega
  exact ⟨h1, h2, h3, h4', h5, mp_UW_op5 (U := d.2.2.2) h6 h4.1 h3.2 ha hb⟩
theorem mp_GW_U {U : Nat → Int32} (h : mp_GW c d) (hU : ∀ j : Nat, (j : Int) < c.2.2.2.1 → U (6 * j) = d.2.2.2 (6 * j) ∧ U (6 * j + 1) = d.2.2.2 (6 * j + 1) ∧ (-1 ≤ (U (6 * j + 5)).toInt ∧ (U (6 * j + 5)).toInt < (j : Int))) : mp_GW c (d.1, d.2.1, d.2.2.1, U) := by
  obtain ⟨h1, h2, h3, h4, h5, h6⟩ := h
  refine ⟨h1, h2, h3, h4, h5, fun j hj => ?_⟩
  obtain ⟨u0, u1, u5⟩ := hU j hj
  have g := h6 j hj
  show (0 ≤ (U (6 * j)).toInt ∧ (U (6 * j)).toInt < c.2.2.1) ∧ (0 ≤ (U (6 * j + 1)).toInt ∧ (U (6 * j + 1)).toInt < c.2.2.1) ∧ (-1 ≤ (U (6 * j + 5)).toInt ∧ (U (6 * j + 5)).toInt < (j : Int))
  rw [u0, u1]
  exact ⟨g.1, g.2.1, u5⟩
theorem mp_GW_op6 {a : Int} (h : mp_GW c d) (ha : 0 ≤ a) : mp_GW c (mp_gop d 6 a 0 0 0 0) :=
  mp_GW_U h fun j hj => ⟨mp_upd_n (by omega), mp_upd_n (by omega), by rw [mp_upd_n (by omega)]; exact (h.2.2.2.2.2 j hj).2.2⟩
theorem mp_GW_op7 {a b : Int} (h : mp_GW c d) (ha : 0 ≤ a ∧ a < 10) (hb : 0 ≤ b ∧ b < a) : mp_GW c (mp_gop d 7 a b 0 0 0) :=
  mp_GW_U h fun j hj => ⟨mp_upd_n (by omega), mp_upd_n (by omega), by
    by_cases q : (j : Int) = a
    · rw [mp_upd_y (by omega), Int32.toInt_ofInt_of_le (by omega) (by omega)]; omega
    · rw [mp_upd_n (by omega)]; exact (h.2.2.2.2.2 j hj).2.2⟩
theorem mp_gIsles_W (h : mp_GW c d) : mp_PWd (mp_gIsles f n s c d) := by
  unfold mp_gIsles
  obtain ⟨h1, h2, h3, h4, h5, h6⟩ := h
  exact mp_kw_W fun _ => mp_kn_W fun a _ a1 a2 _ => mp_kw_W fun _ => mp_kn_W fun b _ b1 b2 _ => fun _ => ⟨⟨by show 0 ≤ a; omega, a2⟩, ⟨b1, b2, h2.2.2⟩, h3, h4, h5, h6⟩
theorem mp_gSea_W (h : mp_GW c d) : mp_PWd (mp_gSea mp_gop f n s c d) := by
  unfold mp_gSea
  exact mp_kn_W fun _ _ _ _ _ => mp_kn_W fun _ _ _ _ _ => mp_kw_W fun _ => mp_kn_W fun _ _ _ _ _ => fun _ => h
theorem mp_gShut_W (h : mp_GW c d) : mp_PWd (mp_gShut mp_gop f n s c d) := by
  unfold mp_gShut
  exact mp_kw_W fun _ => mp_kn_W fun _ _ _ _ _ => mp_kn_W fun _ _ _ _ _ => fun _ => h
theorem mp_gPm_W {k : Int} (hk : 0 ≤ k) : ∀ {r : Nat} {a b : Bool} {s : Nat} {d : mp_AD}, mp_GW c d → mp_PWd (mp_gPm mp_gop f n c k r a b s d) := by
  intro r
  induction r with
  | zero => intro a b s d h; exact fun _ => h
  | succ r ih =>
    intro a b s d h
    unfold mp_gPm
    split
    · exact fun _ => h
    · split
      · exact mp_kn_W fun _ _ _ _ _ => ih (mp_GW_op3 h hk)
      · split
        · exact mp_kn_W fun _ _ _ _ _ => ih (mp_GW_op4 h hk)
        · exact mp_PW_1 (by decide)
theorem mp_gPerson_W (h : mp_GW c d) : mp_PWd (mp_gPerson mp_gop f n s c d) := by
  unfold mp_gPerson
  split
  · exact mp_PW_1 (by decide)
  · rename_i q
    exact mp_kw_W fun _ => mp_kn_W fun v _ v1 v2 _ => mp_gPm_W h.2.2.1.1 (mp_GW_op2 h ⟨v1, by have := h.1; omega⟩ (by omega))
theorem mp_gQm_W {k : Int} (hk : 0 ≤ k ∧ k < 10) : ∀ {r : Nat} {a b : Bool} {s : Nat} {d : mp_AD}, mp_GW c d → mp_PWd (mp_gQm mp_gop f n c k r a b s d) := by
  intro r
  induction r with
  | zero => intro a b s d h; exact fun _ => h
  | succ r ih =>
    intro a b s d h
    unfold mp_gQm
    split
    · exact fun _ => h
    · split
      · exact ih (mp_GW_op6 h hk.1)
      · split
        · exact mp_kn_W fun v _ v1 v2 _ => ih (mp_GW_op7 h hk ⟨v1, by omega⟩)
        · exact mp_PW_1 (by decide)
theorem mp_gPromise_W (h : mp_GW c d) : mp_PWd (mp_gPromise mp_gop f n s c d) := by
  unfold mp_gPromise mp_gProm
  split
  · exact mp_PW_1 (by decide)
  · rename_i q
    exact mp_kn_W fun a _ a1 a2 _ => mp_kw_W fun _ => mp_kn_W fun b _ b1 b2 _ => mp_kw_W fun _ => mp_kn_W fun _ _ _ _ _ => mp_kw_W fun _ => mp_kn_W fun _ _ _ _ _ => mp_gQm_W ⟨h.2.2.2.1.1, by omega⟩ (mp_GW_op5 h (by omega) ⟨a1, by omega⟩ ⟨b1, by omega⟩)
theorem mp_gLine_W (h : mp_GW c d) : mp_PWd (mp_gLine mp_gop f n s c d) := by
  unfold mp_gLine
  split
  · exact mp_gIsles_W h
  · split
    · exact mp_gSea_W h
    · split
      · exact mp_gPerson_W h
      · split
        · exact mp_gPromise_W h
        · exact mp_gShut_W h
theorem mp_aft_W {r : mp_Rs mp_AD} (h : mp_PWd r) : mp_PWd (mp_aft f n r) := by
  unfold mp_aft
  split
  · exact h
  · rename_i q
    split
    · exact mp_PW_1 (by decide)
    · intro _
      obtain ⟨h1, h2, h3, h4, h5, h6⟩ := h (by omega)
      exact ⟨h1, ⟨h2.1, h2.2.1, by show 0 ≤ r.2.2.1.2.2.2.2 + 1; omega⟩, h3, h4, h5, h6⟩
theorem mp_gT_W : ∀ {fu s : Nat} {c : mp_Sc} {d : mp_AD} {R : mp_Rs mp_AD}, mp_GW c d → mp_gText mp_gop f n fu s c d = some R → mp_PWd R := by
  intro fu
  induction fu with
  | zero => intro s c d R _ e; exact absurd e (by intro q; cases q)
  | succ fu ih =>
    intro s c d R h e
    have g := mp_aft_W (f := f) (n := n) (mp_gLine_W (f := f) (n := n) (s := s) h)
    replace e : (if mp_TK f n s = 0 then some (0, s, c, d) else if (mp_aft f n (mp_gLine mp_gop f n s c d)).1 ≠ 0 then some (mp_aft f n (mp_gLine mp_gop f n s c d)) else mp_gText mp_gop f n fu (mp_aft f n (mp_gLine mp_gop f n s c d)).2.1 (mp_aft f n (mp_gLine mp_gop f n s c d)).2.2.1 (mp_aft f n (mp_gLine mp_gop f n s c d)).2.2.2) = some R := e
    by_cases h0 : mp_TK f n s = 0
    · rw [if_pos h0] at e
      cases e
      exact fun _ => h
    · rw [if_neg h0] at e
      by_cases h1 : (mp_aft f n (mp_gLine mp_gop f n s c d)).1 ≠ 0
      · rw [if_pos h1] at e
        cases e
        exact g
      · rw [if_neg h1] at e
        exact ih (g (by omega)) e
end MPW
-- isles
def mp_z0 : mp_AD := (fun _ => 0, fun _ => false, fun _ => 0, fun _ => 0)
theorem mp_Z_z0 : mp_Z mp_z0 := ⟨fun _ _ => rfl, fun _ _ => rfl⟩
theorem mp_Rd_Z {d d' : mp_AD} (z : mp_Z d) (z' : mp_Z d') : mp_Rd (0, 0, 0, 0, 0) d d' := ⟨fun j hj => by rw [z.1 j hj, z'.1 j hj], fun j hj => by rw [z.2 j hj, z'.2 j hj], fun j hj => absurd hj (by show ¬ (j : Int) < 3 * 0; omega), fun j hj => absurd hj (by show ¬ (j : Int) < 6 * 0; omega)⟩
def mp_islX (f : Nat → Int32) (n : Int) (t : mp_TD) (r ft fp : Int) (t2 : mp_TD) : Prop := ∃ (fu : Nat) (R : mp_Rs mp_AD), mp_gText mp_gop f n.toNat fu (mp_TS f n.toNat 0) (0, 0, 0, 0, 0) mp_z0 = some R ∧ ((R.1 ≠ 0 ∧ r = -4 ∧ ft = R.1 ∧ fp = ((R.2.1 : Nat) : Int) ∧ t2 = t) ∨ (R.1 = 0 ∧ r = R.2.2.1.2.2.2.2 ∧ ft = 0 ∧ fp = -1 ∧ t2 = (R.2.2.1, R.2.2.2, 0, fun _ => 0)))
section MPI
variable {f : Nat → Int32} {n r ft fp r' ft' fp' : Int} {t t2 t3 t9 : mp_TD}
theorem mp_isl_z (h : mp_islR f n r ft fp) : ∃ (fu : Nat) (R : mp_Rs mp_AD), mp_gText mp_gop f n.toNat fu (mp_TS f n.toNat 0) (0, 0, 0, 0, 0) mp_z0 = some R ∧ ((R.1 ≠ 0 ∧ r = -4 ∧ ft = R.1 ∧ fp = ((R.2.1 : Nat) : Int)) ∨ (R.1 = 0 ∧ r = R.2.2.1.2.2.2.2 ∧ ft = 0 ∧ fp = -1)) := by
  obtain ⟨fu, R, d0, z, e, h⟩ := h
  obtain ⟨R', e', g1, g2, g3, -⟩ := mp_gT_R (mp_Rd_Z z mp_Z_z0) e
  exact ⟨fu, R', e', by rw [← g1, ← g2, ← g3]; exact h⟩
theorem mp_isl_b (h : mp_islR f n r ft fp) (hf : ft ≠ 0) : mp_islX f n t r ft fp t := by
  obtain ⟨fu, R, e, h⟩ := mp_isl_z h
  refine ⟨fu, R, e, ?_⟩
  rcases h with ⟨a1, a2, a3, a4⟩ | ⟨a1, a2, a3, a4⟩
  · exact Or.inl ⟨a1, a2, a3, a4, rfl⟩
  · exact absurd a3 hf
theorem mp_isl_o (h : mp_islR f n r ft fp) (hf : ft = 0) (h9 : mp_islD f n t9) (hr : mp_RT t9 t2) : ∃ td2 : mp_TD, mp_islX f n t r ft fp td2 ∧ mp_RT td2 t2 := by
  obtain ⟨fu, R, e, h⟩ := mp_isl_z h
  obtain ⟨fu9, R9, d9, z9, e9, a1, a2, a3, a4⟩ := h9
  obtain ⟨g1, g2, g3, g4⟩ := mp_gT_eq (mp_Rd_Z mp_Z_z0 z9) e e9
  rw [a3] at g4
  refine ⟨(R.2.2.1, R.2.2.2, 0, fun _ => 0), ⟨fu, R, e, ?_⟩, mp_RT_tr (t' := t9) ⟨g3.trans a2, g4, a4.symm, fun j hj => absurd hj (by show ¬ (j : Int) < 0; omega)⟩ hr⟩
  rcases h with ⟨b1, b2, b3, b4⟩ | ⟨b1, b2, b3, b4⟩
  · exact absurd (g1.trans a1) b1
  · exact Or.inr ⟨b1, b2, b3, b4, rfl⟩
theorem mp_islX_det (h : mp_islX f n t r ft fp t2) (h' : mp_islX f n t r' ft' fp' t3) : r = r' ∧ ft = ft' ∧ fp = fp' ∧ t2 = t3 := by
  obtain ⟨fu, R, e, h⟩ := h
  obtain ⟨fu', R', e', h'⟩ := h'
  have e2 := mp_gT_mono fu' e
  have e3 := mp_gT_mono fu e'
  rw [Nat.add_comm] at e3
  rw [e3] at e2
  cases e2
  rcases h with ⟨a1, a2, a3, a4, rfl⟩ | ⟨a1, a2, a3, a4, rfl⟩ <;> rcases h' with ⟨b1, b2, b3, b4, rfl⟩ | ⟨b1, b2, b3, b4, rfl⟩
  · exact ⟨a2.trans b2.symm, a3.trans b3.symm, a4.trans b4.symm, rfl⟩
  · exact absurd b1 a1
  · exact absurd a1 b1
  · exact ⟨a2.trans b2.symm, a3.trans b3.symm, a4.trans b4.symm, rfl⟩
theorem mp_islX_W (w : mp_WF t) (h : mp_islX f n t r ft fp t2) : mp_WF t2 := by
  obtain ⟨fu, R, e, h⟩ := h
  rcases h with ⟨a1, a2, a3, a4, rfl⟩ | ⟨a1, a2, a3, a4, rfl⟩
  · exact w
  · have g0 : mp_GW (0, 0, 0, 0, 0) mp_z0 := ⟨by decide, by decide, by decide, by decide, fun p hp => absurd hp (by show ¬ (p : Int) < 0; omega), fun p hp => absurd hp (by show ¬ (p : Int) < 0; omega)⟩
    obtain ⟨h1, h2, h3, h4, h5, h6⟩ := mp_gT_W g0 e a1
    refine ⟨h1, h3, h4, by show (0 : Int) ≤ 0 ∧ (0 : Int) ≤ 60; decide, ⟨h2.1, ?_, h2.2.2⟩, h5, h6, fun j hj => absurd hj (by show ¬ (j : Int) < 0; omega)⟩
    show R.2.2.1.2.1 + mp_k200 (fun _ => 0) 0 ≤ 99
    rw [mp_k200_0]; omega
-- what comes of it stays well formed
theorem mp_ten_W {p : Int} {v : Int32} (w : mp_WF t) : mp_WF (mp_tenF t p v) := by
  unfold mp_tenF
  split
  · rename_i q
    have q1 : 0 ≤ p := q.1
    obtain ⟨w1, w2, w3, w4, w5, w6, w7, w8⟩ := w
    refine ⟨w1, w2, w3, w4, w5, fun j hj => ?_, w7, w8⟩
    show 0 ≤ (upd t.2.1.2.2.1 (3 * p + 2).toNat v (3 * j)).toInt ∧ (upd t.2.1.2.2.1 (3 * p + 2).toNat v (3 * j)).toInt ≤ 5
    rw [mp_upd_n (by omega)]; exact w6 j hj
  · exact w
theorem mp_shu_W {i m s : Int} (w : mp_WF t) : mp_WF (mp_shuF t i m s) := by
  unfold mp_shuF
  split
  · exact w
  · exact w
theorem mp_prs_W {p o x : Int} (w : mp_WF t) : mp_WF (mp_prsF t p o x) := by
  unfold mp_prsF
  split
  · rename_i q
    obtain ⟨⟨q1, q2, q3, q4, q5, q6, q7⟩, q8, q9⟩ := q
    obtain ⟨w1, w2, w3, w4, w5, w6, w7, w8⟩ := w
    have w3' : 0 ≤ t.1.2.2.2.1 + 1 ∧ t.1.2.2.2.1 + 1 ≤ 10 := by omega
    exact ⟨w1, w2, w3', w4, w5, w6, mp_UW_op5 (U := t.2.1.2.2.2) w7 w3.1 w2.2 ⟨q1, q2⟩ ⟨q3, q4⟩, w8⟩
  · exact w
theorem mp_c200_add {g : Nat → Int32} {m : Nat} {v : Int32} : mp_c200 (upd g m v) (m + 1) = mp_c200 g m + (if v.toInt = 200 then 1 else 0) := by
  show mp_c200 (upd g m v) m + (if (upd g m v m).toInt = 200 then 1 else 0) = _
  rw [mp_c200_cong (f := upd g m v) (g := g) (fun j hj => mp_upd_n (by omega)), mp_upd_y rfl]
theorem mp_add_W {code : Int} (w : mp_WF t) (hk : t.2.2.1 ≤ 59) (hc : 0 ≤ code ∧ code ≤ 200) (h1 : code < 100 → code % 10 ≤ 5) (h2 : code = 200 → mp_moX t ≤ 98) : mp_WF (mp_addA t code) := by
  obtain ⟨w1, w2, w3, w4, w5, w6, w7, w8⟩ := w
  have e : (Int32.ofInt code).toInt = code := Int32.toInt_ofInt_of_le (by omega) (by omega)
  have w4' : 0 ≤ t.2.2.1 + 1 ∧ t.2.2.1 + 1 ≤ 60 := by omega
  refine ⟨w1, w2, w3, w4', ⟨w5.1, ?_, w5.2.2⟩, w6, w7, fun j hj => ?_⟩
  · show t.1.2.1 + mp_c200 (upd t.2.2.2 t.2.2.1.toNat (Int32.ofInt code)) (t.2.2.1 + 1).toNat ≤ 99
    rw [show (t.2.2.1 + 1).toNat = t.2.2.1.toNat + 1 by omega, mp_c200_add, e]
    have g : t.1.2.1 + mp_c200 t.2.2.2 t.2.2.1.toNat ≤ 99 := w5.2.1
    by_cases q : code = 200
    · have g2 : t.1.2.1 + mp_c200 t.2.2.2 t.2.2.1.toNat ≤ 98 := h2 q
      rw [if_pos q]; omega
    · rw [if_neg q]; omega
  · have hj2 : (j : Int) < t.2.2.1 + 1 := hj
    show (upd t.2.2.2 t.2.2.1.toNat (Int32.ofInt code) j).toInt < 100 → 0 ≤ (upd t.2.2.2 t.2.2.1.toNat (Int32.ofInt code) j).toInt ∧ (upd t.2.2.2 t.2.2.1.toNat (Int32.ofInt code) j).toInt % 10 ≤ 5
    by_cases q : j = t.2.2.1.toNat
    · rw [mp_upd_y q, e]; exact fun z => ⟨hc.1, h1 z⟩
    · rw [mp_upd_n q]; exact w8 j (by omega)
theorem mp_cut_W {m : Int} (w : mp_WF t) (hm : 0 ≤ m ∧ m ≤ t.2.2.1) : mp_WF (mp_cut t m) := by
  obtain ⟨w1, w2, w3, w4, w5, w6, w7, w8⟩ := w
  have w4' : 0 ≤ m ∧ m ≤ 60 := by omega
  refine ⟨w1, w2, w3, w4', ⟨w5.1, ?_, w5.2.2⟩, w6, w7, fun j hj => w8 j (by have : (j : Int) < m := hj; omega)⟩
  have g := mp_k200_mono (f := t.2.2.2) (a := m) (b := t.2.2.1) hm.2
  have g2 : t.1.2.1 + mp_k200 t.2.2.2 t.2.2.1 ≤ 99 := w5.2.1
  show t.1.2.1 + mp_k200 t.2.2.2 m ≤ 99
  omega
theorem mp_rws_W {p i : Int} (w : mp_WF t) : mp_WF (mp_rwsF t p i) := by
  unfold mp_rwsF
  split
  · rename_i q
    obtain ⟨⟨⟨q1, q2⟩, q3, q4⟩, -, q5⟩ := q
    have w1 := w.1
    have w2 := w.2.1
    exact mp_add_W w q5 (by omega) (by omega) (by omega)
  · exact w
theorem mp_say_W {p : Int} (w : mp_WF t) : mp_WF (mp_sayF t p) := by
  unfold mp_sayF
  split
  · rename_i q
    obtain ⟨⟨q1, q2⟩, -, q5⟩ := q
    have w3 := w.2.2.1
    exact mp_add_W w q5 (by omega) (by omega) (by omega)
  · exact w
theorem mp_pas_W (w : mp_WF t) : mp_WF (mp_pasF t) := by
  unfold mp_pasF
  split
  · rename_i q
    exact mp_add_W w q.2.2 (by decide) (by decide) (fun _ => q.2.1)
  · exact w
theorem mp_und_W (w : mp_WF t) : mp_WF (mp_undF t) := by
  unfold mp_undF
  split
  · rename_i q
    exact mp_cut_W w (by omega)
  · exact w
theorem mp_ane_W (w : mp_WF t) : mp_WF (mp_aneF t) := by
  unfold mp_aneF
  split
  · exact mp_cut_W w (by have := w.2.2.2.1; omega)
  · exact w
theorem mp_it_W {it : Nat → mp_TD} {k : Int} (h : ∀ j : Nat, mp_WF (it j)) (w : mp_WF t) : ∀ j : Nat, mp_WF (mp_itF it t k j) := by
  intro j
  unfold mp_itF
  split
  · exact w
  · exact h j
theorem mp_bck_W {it : Nat → mp_TD} {kp : Nat → Bool} {k : Int} (h : ∀ j : Nat, mp_WF (it j)) (w : mp_WF t) : mp_WF (mp_bckF t it kp k) := by
  unfold mp_bckF
  split
  · exact h _
  · exact w
/-- nothing told -/
def mp_tn0 : mp_TD := ((0, 0, 0, 0, 0), mp_z0, 0, fun _ => 0)
theorem mp_tn0_W : mp_WF mp_tn0 := by
  refine ⟨by decide, by decide, by decide, by decide, ⟨by decide, ?_, by decide⟩, fun p hp => absurd hp (by show ¬ (p : Int) < 0; omega), fun p hp => absurd hp (by show ¬ (p : Int) < 0; omega), fun p hp => absurd hp (by show ¬ (p : Int) < 0; omega)⟩
  show (0 : Int) + mp_k200 (fun _ => 0) 0 ≤ 99
  rw [mp_k200_0]; decide
end MPI
