-- full worths that are told: from 1 to a million
def mp_GG (c : mp_Sc) (d : mp_AD) : Prop := (0 ≤ c.2.2.2.1 ∧ c.2.2.2.1 ≤ 10) ∧ ∀ j : Nat, (j : Int) < c.2.2.2.1 → 1 ≤ (d.2.2.2 (6 * j + 2)).toInt ∧ (d.2.2.2 (6 * j + 2)).toInt ≤ 1000000
def mp_PGd (R : mp_Rs mp_AD) : Prop := R.1 = 0 → mp_GG R.2.2.1 R.2.2.2
def mp_WG (t : mp_TD) : Prop := mp_GG t.1 t.2.1
section MPGG
variable {f : Nat → Int32} {n s : Nat} {lo hi bar w : Int} {c : mp_Sc} {d : mp_AD}
theorem mp_PG_1 {k : Int} (h : k ≠ 0) : mp_PGd (k, s, c, d) := fun e => absurd e h
theorem mp_kn_G {ok : Int → Nat → mp_Rs mp_AD} (hk : ∀ v s, lo ≤ v → v ≤ hi → v ≠ bar → mp_PGd (ok v s)) : mp_PGd (mp_kn f n s lo hi bar c d ok) := by
  unfold mp_kn
  split
  · exact mp_PG_1 (by decide)
  · split
    · exact mp_PG_1 (by decide)
    · rename_i h
      exact hk _ _ (by omega) (by omega) (by omega)
theorem mp_kw_G {ok : Nat → mp_Rs mp_AD} (hk : ∀ s, mp_PGd (ok s)) : mp_PGd (mp_kw f n s w c d ok) := by
  unfold mp_kw
  split
  · exact hk _
  · exact mp_PG_1 (by decide)
theorem mp_GG_op5 {a b m : Int} (h : mp_GG c d) (hc : c.2.2.2.1 < 10) (hw : 1 ≤ w ∧ w ≤ 1000000) : mp_GG (c.1, c.2.1, c.2.2.1, c.2.2.2.1 + 1, c.2.2.2.2) (mp_gop d 5 c.2.2.2.1 a b w m) := by
  have hq := h.1
  refine ⟨by show 0 ≤ c.2.2.2.1 + 1 ∧ c.2.2.2.1 + 1 ≤ 10; omega, fun j hj => ?_⟩
  have hj2 : (j : Int) < c.2.2.2.1 + 1 := hj
  have key : 1 ≤ (upd (upd (upd (upd (upd (upd d.2.2.2 (6 * c.2.2.2.1).toNat (Int32.ofInt a)) (6 * c.2.2.2.1 + 1).toNat (Int32.ofInt b)) (6 * c.2.2.2.1 + 2).toNat (Int32.ofInt w)) (6 * c.2.2.2.1 + 3).toNat (Int32.ofInt m)) (6 * c.2.2.2.1 + 4).toNat 0) (6 * c.2.2.2.1 + 5).toNat (-1) (6 * j + 2)).toInt ∧ (upd (upd (upd (upd (upd (upd d.2.2.2 (6 * c.2.2.2.1).toNat (Int32.ofInt a)) (6 * c.2.2.2.1 + 1).toNat (Int32.ofInt b)) (6 * c.2.2.2.1 + 2).toNat (Int32.ofInt w)) (6 * c.2.2.2.1 + 3).toNat (Int32.ofInt m)) (6 * c.2.2.2.1 + 4).toNat 0) (6 * c.2.2.2.1 + 5).toNat (-1) (6 * j + 2)).toInt ≤ 1000000 := by
    rw [mp_upd_n (by omega), mp_upd_n (by omega), mp_upd_n (by omega)]
    by_cases q : (j : Int) = c.2.2.2.1
    · rw [mp_upd_y (by omega), Int32.toInt_ofInt_of_le (by omega) (by omega)]; exact hw
    · rw [mp_upd_n (by omega), mp_upd_n (by omega), mp_upd_n (by omega)]; exact h.2 j (by omega)
  exact key
theorem mp_GG_op6 {a : Int} (h : mp_GG c d) (ha : 0 ≤ a) : mp_GG c (mp_gop d 6 a 0 0 0 0) := by
  refine ⟨h.1, fun j hj => ?_⟩
  have key : 1 ≤ (upd d.2.2.2 (6 * a + 4).toNat 1 (6 * j + 2)).toInt ∧ (upd d.2.2.2 (6 * a + 4).toNat 1 (6 * j + 2)).toInt ≤ 1000000 := by
    rw [mp_upd_n (by omega)]; exact h.2 j hj
  exact key
theorem mp_GG_op7 {a b : Int} (h : mp_GG c d) (ha : 0 ≤ a) : mp_GG c (mp_gop d 7 a b 0 0 0) := by
  refine ⟨h.1, fun j hj => ?_⟩
  have key : 1 ≤ (upd d.2.2.2 (6 * a + 5).toNat (Int32.ofInt b) (6 * j + 2)).toInt ∧ (upd d.2.2.2 (6 * a + 5).toNat (Int32.ofInt b) (6 * j + 2)).toInt ≤ 1000000 := by
    rw [mp_upd_n (by omega)]; exact h.2 j hj
  exact key
theorem mp_gIsles_G (h : mp_GG c d) : mp_PGd (mp_gIsles f n s c d) := by
  unfold mp_gIsles
  exact mp_kw_G fun _ => mp_kn_G fun a _ a1 a2 _ => mp_kw_G fun _ => mp_kn_G fun b _ b1 b2 _ => fun _ => h
theorem mp_gSea_G (h : mp_GG c d) : mp_PGd (mp_gSea mp_gop f n s c d) := by
  unfold mp_gSea
  exact mp_kn_G fun _ _ _ _ _ => mp_kn_G fun _ _ _ _ _ => mp_kw_G fun _ => mp_kn_G fun _ _ _ _ _ => fun _ => h
theorem mp_gShut_G (h : mp_GG c d) : mp_PGd (mp_gShut mp_gop f n s c d) := by
  unfold mp_gShut
  exact mp_kw_G fun _ => mp_kn_G fun _ _ _ _ _ => mp_kn_G fun _ _ _ _ _ => fun _ => h
theorem mp_gPm_G {k : Int} : ∀ {r : Nat} {a b : Bool} {s : Nat} {d : mp_AD}, mp_GG c d → mp_PGd (mp_gPm mp_gop f n c k r a b s d) := by
  intro r
  induction r with
  | zero => intro a b s d h; exact fun _ => h
  | succ r ih =>
    intro a b s d h
    unfold mp_gPm
    split
    · exact fun _ => h
    · split
      · exact mp_kn_G fun _ _ _ _ _ => ih h
      · split
        · exact mp_kn_G fun _ _ _ _ _ => ih h
        · exact mp_PG_1 (by decide)
theorem mp_gPerson_G (h : mp_GG c d) : mp_PGd (mp_gPerson mp_gop f n s c d) := by
  unfold mp_gPerson
  split
  · exact mp_PG_1 (by decide)
  · rename_i q
    exact mp_kw_G fun _ => mp_kn_G fun v _ v1 v2 _ => mp_gPm_G h
theorem mp_gQm_G {k : Int} (hk : 0 ≤ k) : ∀ {r : Nat} {a b : Bool} {s : Nat} {d : mp_AD}, mp_GG c d → mp_PGd (mp_gQm mp_gop f n c k r a b s d) := by
  intro r
  induction r with
  | zero => intro a b s d h; exact fun _ => h
  | succ r ih =>
    intro a b s d h
    unfold mp_gQm
    split
    · exact fun _ => h
    · split
      · exact ih (mp_GG_op6 h hk)
      · split
        · exact mp_kn_G fun v _ v1 v2 _ => ih (mp_GG_op7 h hk)
        · exact mp_PG_1 (by decide)
theorem mp_gPromise_G (h : mp_GG c d) : mp_PGd (mp_gPromise mp_gop f n s c d) := by
  unfold mp_gPromise mp_gProm
  split
  · exact mp_PG_1 (by decide)
  · rename_i q
    exact mp_kn_G fun a _ a1 a2 _ => mp_kw_G fun _ => mp_kn_G fun b _ b1 b2 _ => mp_kw_G fun _ => mp_kn_G fun _ _ w1 w2 _ => mp_kw_G fun _ => mp_kn_G fun _ _ _ _ _ => mp_gQm_G h.1.1 (mp_GG_op5 h (by omega) ⟨w1, w2⟩)
theorem mp_gLine_G (h : mp_GG c d) : mp_PGd (mp_gLine mp_gop f n s c d) := by
  unfold mp_gLine
  split
  · exact mp_gIsles_G h
  · split
    · exact mp_gSea_G h
    · split
      · exact mp_gPerson_G h
      · split
        · exact mp_gPromise_G h
        · exact mp_gShut_G h
theorem mp_aft_G {r : mp_Rs mp_AD} (h : mp_PGd r) : mp_PGd (mp_aft f n r) := by
  unfold mp_aft
  split
  · exact h
  · rename_i q
    split
    · exact mp_PG_1 (by decide)
    · intro _
      exact h (by omega)
theorem mp_gT_G : ∀ {fu s : Nat} {c : mp_Sc} {d : mp_AD} {R : mp_Rs mp_AD}, mp_GG c d → mp_gText mp_gop f n fu s c d = some R → mp_PGd R := by
  intro fu
  induction fu with
  | zero => intro s c d R _ e; exact absurd e (by intro q; cases q)
  | succ fu ih =>
    intro s c d R h e
    have g := mp_aft_G (f := f) (n := n) (mp_gLine_G (f := f) (n := n) (s := s) h)
    replace e : (if mp_TK f n s = 0 then some (0, s, c, d) else if (mp_aft f n (mp_gLine mp_gop f n s c d)).1 ≠ 0 then some (mp_aft f n (mp_gLine mp_gop f n s c d)) else mp_gText mp_gop f n fu (mp_aft f n (mp_gLine mp_gop f n s c d)).2.1 (mp_aft f n (mp_gLine mp_gop f n s c d)).2.2.1 (mp_aft f n (mp_gLine mp_gop f n s c d)).2.2.2) = some R := e
    by_cases h0 : mp_TK f n s = 0
    · rw [if_pos h0] at e
      cases e
      exact fun _ => h
    · rw [if_neg h0] at e
      by_cases h1 : (mp_aft f n (mp_gLine mp_gop f n s c d)).1 ≠ 0
      · rw [if_pos h1] at e
        cases e
        exact g
      · rw [if_neg h1] at e
        exact ih (g (by omega)) e
end MPGG
-- both: well formed, worths
def mp_WH (t : mp_TD) : Prop := mp_WF t ∧ mp_WG t
section MPWH
variable {t t2 : mp_TD} {it : Nat → mp_TD} {kp : Nat → Bool} {f : Nat → Int32} {n r ft fp p o w i m k : Int} {v : Int32}
theorem mp_islX_H (h : mp_WH t) (x : mp_islX f n t r ft fp t2) : mp_WH t2 := by
  refine ⟨mp_islX_W h.1 x, ?_⟩
  obtain ⟨fu, R, e, x⟩ := x
  rcases x with ⟨a1, a2, a3, a4, rfl⟩ | ⟨a1, a2, a3, a4, rfl⟩
  · exact h.2
  · have g0 : mp_GG (0, 0, 0, 0, 0) mp_z0 := ⟨by decide, fun p hp => absurd hp (by show ¬ (p : Int) < 0; omega)⟩
    exact mp_gT_G g0 e a1
theorem mp_tn0_H : mp_WH mp_tn0 := ⟨mp_tn0_W, by decide, fun p hp => absurd hp (by show ¬ (p : Int) < 0; omega)⟩
theorem mp_ten_H (h : mp_WH t) : mp_WH (mp_tenF t p v) := by
  refine ⟨mp_ten_W h.1, ?_⟩
  unfold mp_tenF
  split
  · exact h.2
  · exact h.2
theorem mp_shu_H (h : mp_WH t) : mp_WH (mp_shuF t i m p) := by
  refine ⟨mp_shu_W h.1, ?_⟩
  unfold mp_shuF
  split
  · exact h.2
  · exact h.2
theorem mp_prs_H (h : mp_WH t) : mp_WH (mp_prsF t p o w) := by
  refine ⟨mp_prs_W h.1, ?_⟩
  unfold mp_prsF
  split
  · rename_i q
    exact mp_GG_op5 (c := t.1) (d := t.2.1) h.2 (by have := q.2.2; omega) ⟨q.1.2.2.2.2.2.1, q.1.2.2.2.2.2.2⟩
  · exact h.2
theorem mp_rws_H (h : mp_WH t) : mp_WH (mp_rwsF t p i) := by
  refine ⟨mp_rws_W h.1, ?_⟩
  unfold mp_rwsF
  split
  · exact h.2
  · exact h.2
theorem mp_say_H (h : mp_WH t) : mp_WH (mp_sayF t p) := by
  refine ⟨mp_say_W h.1, ?_⟩
  unfold mp_sayF
  split
  · exact h.2
  · exact h.2
theorem mp_pas_H (h : mp_WH t) : mp_WH (mp_pasF t) := by
  refine ⟨mp_pas_W h.1, ?_⟩
  unfold mp_pasF
  split
  · exact h.2
  · exact h.2
theorem mp_und_H (h : mp_WH t) : mp_WH (mp_undF t) := by
  refine ⟨mp_und_W h.1, ?_⟩
  unfold mp_undF
  split
  · exact h.2
  · exact h.2
theorem mp_ane_H (h : mp_WH t) : mp_WH (mp_aneF t) := by
  refine ⟨mp_ane_W h.1, ?_⟩
  unfold mp_aneF
  split
  · exact h.2
  · exact h.2
theorem mp_it_H (hI : ∀ j : Nat, mp_WH (it j)) (h : mp_WH t) : ∀ j : Nat, mp_WH (mp_itF it t k j) := by
  intro j
  unfold mp_itF
  split
  · exact h
  · exact hI j
theorem mp_bck_H (hI : ∀ j : Nat, mp_WH (it j)) (h : mp_WH t) : mp_WH (mp_bckF t it kp k) := by
  unfold mp_bckF
  split
  · exact hI _
  · exact h
end MPWH
