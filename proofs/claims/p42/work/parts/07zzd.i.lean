-- the weighing that leaves fewest of the ways at worst
def mp_hm (D : Int) (m d : Nat) : Int := mp_hb D (Int32.ofNat m) d
def mp_U (P : Nat → Bool) (W D : Int) (d : Nat) (v : Int) : Nat → Int := mp_wN (fun m => P m && decide (mp_ce W (mp_hm D m d).toNat = v))
def mp_WR (P : Nat → Bool) (W D : Int) (d : Nat) (w : Int) : Prop := (∀ v : Int, mp_U P W D d v 1024 ≤ w) ∧ (w = 0 ∨ ∃ v : Int, mp_U P W D d v 1024 = w)
def mp_bm (w : Nat → Int) (S N : Int) : Nat → Int × Int
  | 0 => (-1, N)
  | d + 1 => if w (d + 1) < (mp_bm w S N d).2 then (S + (d + 1 : Nat), w (d + 1)) else mp_bm w S N d
def mp_BM (P : Nat → Bool) (W D S N : Int) (d : Nat) (best least : Int) : Prop := ∃ w : Nat → Int, (∀ e : Nat, 1 ≤ e → e ≤ d → mp_WR P W D e (w e)) ∧ (best, least) = mp_bm w S N d
section MPWI
variable {P Q : Nat → Bool} {W D S N a b a2 b2 v : Int} {d n : Nat}
theorem mp_U_0 : 0 ≤ mp_U P W D d v n := mp_wN_0
theorem mp_WR_det (h : mp_WR P W D d a) (h2 : mp_WR P W D d b) : a = b := by
  obtain ⟨h, e⟩ := h
  obtain ⟨h2, e2⟩ := h2
  have p0 := Int.le_trans (mp_U_0 (P := P) (W := W) (D := D) (d := d) (v := 0) (n := 1024)) (h 0)
  have q0 := Int.le_trans (mp_U_0 (P := P) (W := W) (D := D) (d := d) (v := 0) (n := 1024)) (h2 0)
  apply Int.le_antisymm
  · rcases e with e | ⟨v, e⟩
    · rw [e]; exact q0
    · rw [← e]; exact h2 v
  · rcases e2 with e2 | ⟨v, e2⟩
    · rw [e2]; exact p0
    · rw [← e2]; exact h v
theorem mp_U_cong (h : ∀ j : Nat, j < 1024 → P j = Q j) : mp_U P W D d v 1024 = mp_U Q W D d v 1024 :=
  (mp_wN_cong (n := 1024) (fun j hj => by show (P j && _) = (Q j && _); rw [h j hj])).1
theorem mp_WR_cong (h : ∀ j : Nat, j < 1024 → P j = Q j) (p : mp_WR P W D d a) : mp_WR Q W D d a := by
  obtain ⟨p1, p2⟩ := p
  refine ⟨fun v => by rw [← mp_U_cong h]; exact p1 v, ?_⟩
  rcases p2 with p2 | ⟨v, p2⟩
  · exact Or.inl p2
  · exact Or.inr ⟨v, by rw [← mp_U_cong h]; exact p2⟩
theorem mp_bm_cong {w w2 : Nat → Int} : ∀ {d : Nat}, (∀ e : Nat, 1 ≤ e → e ≤ d → w e = w2 e) → mp_bm w S N d = mp_bm w2 S N d
  | 0, _ => rfl
  | d + 1, h => by
    show (if w (d + 1) < (mp_bm w S N d).2 then _ else mp_bm w S N d) = (if w2 (d + 1) < (mp_bm w2 S N d).2 then _ else mp_bm w2 S N d)
    rw [mp_bm_cong (fun e h1 h2 => h e h1 (by omega)), h (d + 1) (by omega) (Nat.le_refl _)]
theorem mp_BM_det (h : mp_BM P W D S N d a b) (h2 : mp_BM P W D S N d a2 b2) : a = a2 ∧ b = b2 := by
  obtain ⟨w, p, e⟩ := h
  obtain ⟨w2, p2, e2⟩ := h2
  have g : mp_bm w S N d = mp_bm w2 S N d := mp_bm_cong (fun e h1 h2 => mp_WR_det (p e h1 h2) (p2 e h1 h2))
  rw [← e, ← e2] at g
  exact ⟨congrArg Prod.fst g, congrArg Prod.snd g⟩
theorem mp_BM_cong (h : ∀ j : Nat, j < 1024 → P j = Q j) (p : mp_BM P W D S N d a b) : mp_BM Q W D S N d a b := by
  obtain ⟨w, p1, p2⟩ := p
  exact ⟨w, fun e h1 h2 => mp_WR_cong h (p1 e h1 h2), p2⟩
theorem mp_BM_0 : mp_BM P W D S N 0 (-1) N := ⟨fun _ => 0, fun e h1 h2 => absurd h1 (by omega), rfl⟩
theorem mp_BM_s {w : Int} {d2 : Nat} (p : mp_BM P W D S N d a b) (q : mp_WR P W D (d + 1) w) (h : (w < b ∧ a2 = S + (d + 1 : Nat) ∧ b2 = w) ∨ (b ≤ w ∧ a2 = a ∧ b2 = b)) (hd : d2 = d + 1) : mp_BM P W D S N d2 a2 b2 := by
  subst hd
  obtain ⟨w0, p1, p2⟩ := p
  refine ⟨fun e => if e = d + 1 then w else w0 e, fun e h1 h2 => ?_, ?_⟩
  · show mp_WR P W D e (if e = d + 1 then w else w0 e)
    by_cases c : e = d + 1
    · rw [if_pos c, c]; exact q
    · rw [if_neg c]; exact p1 e h1 (by omega)
  · have g : mp_bm (fun e => if e = d + 1 then w else w0 e) S N d = (a, b) := by
      rw [p2]
      exact mp_bm_cong (fun e h1 h2 => if_neg (by omega))
    show (a2, b2) = if (if d + 1 = d + 1 then w else w0 (d + 1)) < (mp_bm (fun e => if e = d + 1 then w else w0 e) S N d).2 then (S + (d + 1 : Nat), if d + 1 = d + 1 then w else w0 (d + 1)) else mp_bm (fun e => if e = d + 1 then w else w0 e) S N d
    rw [g, if_pos rfl]
    rcases h with ⟨c, e1, e2⟩ | ⟨c, e1, e2⟩
    · rw [if_pos c, e1, e2]
    · rw [if_neg (by omega), e1, e2]
/-- the class's groups: halvings of like worth, side by side -/
def mp_gr (T c : Nat → Int) : Nat → Int
  | 0 => T 0
  | h + 1 => (if c (h + 1) = c h then mp_gr T c h else 0) + T (h + 1)
def mp_cG (P : Nat → Bool) (W D : Int) (d h : Nat) : Nat → Int := mp_wN (fun m => P m && decide ((mp_hm D m d).toNat ≤ h ∧ mp_ce W (mp_hm D m d).toNat = mp_ce W h))
def mp_cT (P : Nat → Bool) (D : Int) (d h : Nat) : Nat → Int := mp_wN (fun m => P m && decide ((mp_hm D m d).toNat = h))
theorem mp_ce_mono {W : Int} {h k : Nat} (hW : 1 ≤ W) (hk : h ≤ k) : mp_ce W k ≤ mp_ce W h := by
  unfold mp_ce
  have h1 := mp_P2_1 (n := h)
  have h2 := mp_P2_le hk
  have e : ∀ p : Int, 1 ≤ p → (W + p - 1) / p = (W - 1) / p + 1 := by
    intro p hp
    rw [show W + p - 1 = W - 1 + 1 * p by omega]
    exact Int.add_mul_ediv_right _ _ (by omega)
  rw [e _ (by omega), e _ h1]
  have g : (W - 1) / mp_P2 k ≤ (W - 1) / mp_P2 h := by
    apply Int.le_ediv_of_mul_le (by omega)
    have g1 : (W - 1) / mp_P2 k * mp_P2 k ≤ W - 1 := Int.ediv_mul_le _ (by omega)
    have g2 : 0 ≤ (W - 1) / mp_P2 k := Int.ediv_nonneg (by omega) (by omega)
    have g3 : (W - 1) / mp_P2 k * mp_P2 h ≤ (W - 1) / mp_P2 k * mp_P2 k := Int.mul_le_mul_of_nonneg_left h2 g2
    omega
  omega
theorem mp_wN_add {R1 R2 R3 : Nat → Bool} : ∀ {n : Nat}, (∀ j : Nat, j < n → ((R1 j = true ↔ (R2 j = true ∨ R3 j = true)) ∧ ¬ (R2 j = true ∧ R3 j = true))) → mp_wN R1 n = mp_wN R2 n + mp_wN R3 n
  | 0, _ => rfl
  | n + 1, h => by
    have ih := mp_wN_add (n := n) (fun j hj => h j (by omega))
    obtain ⟨g1, g2⟩ := h n (by omega)
    show (if R1 n then mp_wN R1 n + 1 else mp_wN R1 n) = (if R2 n then mp_wN R2 n + 1 else mp_wN R2 n) + (if R3 n then mp_wN R3 n + 1 else mp_wN R3 n)
    by_cases c2 : R2 n = true
    · have c3 : ¬ R3 n = true := fun q => g2 ⟨c2, q⟩
      rw [if_pos (g1.mpr (Or.inl c2)), if_pos c2, if_neg c3]; omega
    · by_cases c3 : R3 n = true
      · rw [if_pos (g1.mpr (Or.inr c3)), if_neg c2, if_pos c3]; omega
      · rw [if_neg (fun q => (g1.mp q).elim c2 c3), if_neg c2, if_neg c3]; omega
theorem mp_cG_gr {T : Nat → Int} (hW : 1 ≤ W) : ∀ {h : Nat}, (∀ i : Nat, i ≤ h → T i = mp_cT P D d i n) → mp_gr T (mp_ce W) h = mp_cG P W D d h n
  | 0, hT => by
    show T 0 = _
    rw [hT 0 (Nat.le_refl _)]
    refine (mp_wN_cong (n := n) (fun j _ => ?_)).1
    show (P j && decide _) = (P j && decide _)
    congr 1
    apply decide_eq_decide.mpr
    constructor
    · intro q; rw [q]; exact ⟨Nat.le_refl _, rfl⟩
    · intro q; omega
  | h + 1, hT => by
    have ih := mp_cG_gr (h := h) hW (fun i hi => hT i (by omega))
    show (if mp_ce W (h + 1) = mp_ce W h then mp_gr T (mp_ce W) h else 0) + T (h + 1) = _
    rw [ih, hT (h + 1) (Nat.le_refl _)]
    symm
    by_cases c : mp_ce W (h + 1) = mp_ce W h
    · rw [if_pos c]
      refine mp_wN_add (fun j _ => ?_)
      simp only [Bool.and_eq_true, decide_eq_true_eq]
      constructor
      · constructor
        · rintro ⟨p, q1, q2⟩
          by_cases e : (mp_hm D j d).toNat = h + 1
          · exact Or.inr ⟨p, e⟩
          · exact Or.inl ⟨p, by omega, q2.trans c⟩
        · rintro (⟨p, q1, q2⟩ | ⟨p, e⟩)
          · exact ⟨p, by omega, q2.trans c.symm⟩
          · exact ⟨p, by omega, by rw [e]⟩
      · rintro ⟨⟨_, q1, _⟩, _, e⟩
        omega
    · rw [if_neg c, Int.zero_add]
      refine (mp_wN_cong (n := n) (fun j _ => ?_)).1
      show (P j && decide _) = (P j && decide _)
      congr 1
      apply decide_eq_decide.mpr
      constructor
      · rintro ⟨q1, q2⟩
        by_cases e : (mp_hm D j d).toNat = h + 1
        · exact e
        · exfalso
          have m1 := mp_ce_mono (W := W) (h := (mp_hm D j d).toNat) (k := h) hW (by omega)
          have m2 := mp_ce_mono (W := W) (h := h) (k := h + 1) hW (by omega)
          exact c (by omega)
      · intro e; rw [e]; exact ⟨Nat.le_refl _, rfl⟩
/-- the class's worst is the worst -/
theorem mp_WR_C {T : Nat → Int} {w : Int} (hW : 1 ≤ W) (hT : ∀ i : Nat, i < 12 → T i = mp_cT P D d i 1024) (hb : ∀ m : Nat, m < 1024 → (mp_hm D m d).toNat ≤ 11) (h1 : ∀ h : Nat, h < 12 → mp_gr T (mp_ce W) h ≤ w) (h2 : w = 0 ∨ ∃ h : Nat, h < 12 ∧ mp_gr T (mp_ce W) h = w) : mp_WR P W D d w := by
  have gT : ∀ h : Nat, h < 12 → mp_gr T (mp_ce W) h = mp_cG P W D d h 1024 := fun h hh => mp_cG_gr hW (fun i hi => hT i (by omega))
  have mono : ∀ {R1 R2 : Nat → Bool} {n : Nat}, (∀ j : Nat, j < n → R1 j = true → R2 j = true) → mp_wN R1 n ≤ mp_wN R2 n := by
    intro R1 R2 n
    induction n with
    | zero => intro _; exact Int.le_refl _
    | succ n ih =>
      intro hh
      have g := ih (fun j hj => hh j (by omega))
      show (if R1 n then mp_wN R1 n + 1 else mp_wN R1 n) ≤ (if R2 n then mp_wN R2 n + 1 else mp_wN R2 n)
      by_cases c : R1 n = true
      · rw [if_pos c, if_pos (hh n (by omega) c)]; omega
      · rw [if_neg c]
        by_cases c2 : R2 n = true
        · rw [if_pos c2]; omega
        · rw [if_neg c2]; exact g
  have up : ∀ v : Int, mp_U P W D d v 1024 ≤ w := by
    intro v
    by_cases q : ∃ h : Nat, h < 12 ∧ mp_ce W h = v
    · have key : ∀ k : Nat, k < 12 → (∀ i : Nat, k < i → i < 12 → mp_ce W i ≠ v) → mp_ce W k = v → mp_U P W D d v 1024 ≤ w := by
        intro k hk hl e
        refine Int.le_trans ?_ (h1 k hk)
        rw [gT k hk]
        refine mono (fun j hj p => ?_)
        simp only [Bool.and_eq_true, decide_eq_true_eq] at p ⊢
        have b := hb j hj
        refine ⟨p.1, ?_, by rw [e]; exact p.2⟩
        apply Classical.byContradiction
        intro c
        exact hl (mp_hm D j d).toNat (by omega) (by omega) p.2
      obtain ⟨h, hh, e⟩ := q
      have : ∀ r k : Nat, k + r = 11 → (∀ i : Nat, k < i → i < 12 → mp_ce W i ≠ v) ∨ mp_U P W D d v 1024 ≤ w := by
        intro r
        induction r with
        | zero => intro k hk; exact Or.inl (fun i h1 h2 => by omega)
        | succ r ih =>
          intro k hk
          rcases ih (k + 1) (by omega) with g | g
          · by_cases c : mp_ce W (k + 1) = v
            · exact Or.inr (key (k + 1) (by omega) g c)
            · refine Or.inl (fun i h1 h2 => ?_)
              by_cases c2 : i = k + 1
              · rw [c2]; exact c
              · exact g i (by omega) h2
          · exact Or.inr g
      rcases this (11 - h) h (by omega) with g | g
      · exact key h hh g e
      · exact g
    · have z : mp_U P W D d v 1024 ≤ 0 := by
        have g : mp_U P W D d v 1024 ≤ mp_wN (fun _ => false) 1024 := by
          refine mono (fun j hj p => ?_)
          simp only [Bool.and_eq_true, decide_eq_true_eq] at p
          have b := hb j hj
          exact absurd ⟨(mp_hm D j d).toNat, by omega, p.2⟩ q
        have z2 : ∀ n : Nat, mp_wN (fun _ => false) n = 0 := by
          intro n
          induction n with
          | zero => rfl
          | succ n ih => exact ih
        rw [z2] at g; exact g
      refine Int.le_trans z ?_
      have g := h1 0 (by omega)
      rw [gT 0 (by omega)] at g
      exact Int.le_trans mp_wN_0 g
  refine ⟨up, ?_⟩
  rcases h2 with h2 | ⟨h, hh, h2⟩
  · exact Or.inl h2
  · refine Or.inr ⟨mp_ce W h, Int.le_antisymm (up _) ?_⟩
    rw [← h2, gT h hh]
    refine mono (fun j hj p => ?_)
    simp only [Bool.and_eq_true, decide_eq_true_eq] at p ⊢
    exact ⟨p.1, p.2.2⟩
end MPWI
