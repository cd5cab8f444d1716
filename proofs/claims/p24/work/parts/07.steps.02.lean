def mp_tabJ6 : mp_T := ([], [(265, 1431655765), (266, 858993459), (267, 252645135)], [])
set_option maxRecDepth 100000 in
theorem mp_tabJ6_ok : mp_Tok RJ6 mp_tabJ6 := ⟨mp_lks_ok (js := []) (by decide +kernel), mp_cks_ok (js := [4167, 4168, 4169]) (by decide +kernel), mp_cls_ok (js := []) (by decide +kernel)⟩
def mp_tabJ13 : mp_T := ([], [], [(314, 6148914691236517205), (316, 3689348814741910323), (318, 1085102592571150095)])
set_option maxRecDepth 100000 in
theorem mp_tabJ13_ok : mp_Tok RJ13 mp_tabJ13 := ⟨mp_lks_ok (js := []) (by decide +kernel), mp_cks_ok (js := []) (by decide +kernel), mp_cls_ok (js := [5196, 5197, 5198]) (by decide +kernel)⟩
set_option maxRecDepth 100000 in
theorem mp_lkX3_164 : mp_LVS RX3 164 yJ0_length_8abf5 cJ0_length_8abf5 1 (some FieldType.int) 0 := mp_lvs_ok (j1 := 2230) (j2 := 2231) (j3 := 2232) (j4 := 1014) (j5 := 2233) (by decide +kernel)
set_option maxRecDepth 100000 in
theorem mp_lkJ0_335 : mp_LVS RJ0 335 yJ0_coder_7d493 cJ0_coder_7d493 1 (some FieldType.byte) 0 := mp_lvs_ok (j1 := 2234) (j2 := 2235) (j3 := 2236) (j4 := 1014) (j5 := 2237) (by decide +kernel)
set_option maxRecDepth 100000 in
theorem mp_lkX3_169 : mp_LVS RX3 169 yJ0_charAt_5068e cJ0_charAt_5068e 2 (some FieldType.char) 1 := mp_lvs_ok (j1 := 3000) (j2 := 3001) (j3 := 3002) (j4 := 1014) (j5 := 3003) (by decide +kernel)
set_option maxRecDepth 100000 in
theorem mp_lkJ0_492 : mp_LVS RJ0 492 yJ0_isLatin1_aae02 cJ0_isLatin1_aae02 1 (some FieldType.boolean) 0 := mp_lvs_ok (j1 := 3004) (j2 := 3005) (j3 := 3006) (j4 := 1014) (j5 := 3007) (by decide +kernel)
set_option maxRecDepth 100000 in
theorem mp_lkJ0_495 : mp_LS RJ0 495 yJ1_charAt_3b067 cJ1_charAt_3b067 2 (some FieldType.char) 2 := mp_ls_ok (j1 := 3008) (j2 := 3009) (j4 := 1015) (j5 := 3010) (by decide +kernel)
set_option maxRecDepth 100000 in
theorem mp_lkJ1_9 : mp_LS RJ1 9 yJ0_checkIndex_df160 cJ0_checkIndex_df160 2 none 2 := mp_ls_ok (j1 := 3011) (j2 := 3012) (j4 := 1014) (j5 := 3013) (by decide +kernel)
set_option maxRecDepth 100000 in
theorem mp_lkJ0_1059 : mp_LS RJ0 1059 yJ3_checkIndex_8e157 cJ3_checkIndex_8e157 3 (some FieldType.int) 3 := mp_ls_ok (j1 := 3016) (j2 := 3017) (j4 := 1016) (j5 := 3018) (by decide +kernel)
-- the text: its tokens
def mp_scan (P : Int → Bool) (f : Nat → Int32) : Nat → Nat → Nat
  | 0, p => p
  | k + 1, p => if P (f p).toInt then mp_scan P f k (p + 1) else p
def mp_end (P : Int → Bool) (f : Nat → Int32) (n p : Nat) : Nat := mp_scan P f (n - p) p
theorem mp_scan_eq {P : Int → Bool} {f : Nat → Int32} : ∀ {k p c : Nat}, p ≤ c → c ≤ p + k → (∀ j : Nat, p ≤ j → j < c → P (f j).toInt = true) → (c = p + k ∨ P (f c).toInt = false) → mp_scan P f k p = c := by
  intro k
  induction k with
  | zero => intro p c h1 h2 _ _; show p = c; omega
  | succ k ih =>
    intro p c h1 h2 h hx
    show (if P (f p).toInt then mp_scan P f k (p + 1) else p) = c
    by_cases e : c = p
    · subst e
      rcases hx with hx | hx
      · omega
      · rw [hx]; rfl
    · rw [h p (Nat.le_refl _) (by omega)]
      exact ih (by omega) (by omega) (fun j hj hc => h j (by omega) hc) (hx.imp (fun q => by omega) (fun q => q))
/-- where a run from p ends, of a scan that stands at i (numbers as Int) -/
theorem mp_end_i {P : Int → Bool} {f : Nat → Int32} {n p i : Int} (h1 : p ≤ i) (hp : 0 ≤ p) (h2 : i ≤ n ∨ i = p) (h : ∀ j : Nat, p.toNat ≤ j → (j : Int) < i → P (f j).toInt = true) (hx : n ≤ i ∨ P (f i.toNat).toInt = false) : mp_end P f n.toNat p.toNat = i.toNat := by
  refine mp_scan_eq (by omega) (by omega) (fun j hj hc => h j hj (by omega)) ?_
  rcases hx with hx | hx
  · exact Or.inl (by omega)
  · exact Or.inr hx
theorem mp_all_0 {P : Int → Bool} {f : Nat → Int32} {p i : Int} (hi : i ≤ p) : ∀ j : Nat, p.toNat ≤ j → (j : Int) < i → P (f j).toInt = true := fun j h1 h2 => by omega
theorem mp_all_s {P : Int → Bool} {f : Nat → Int32} {p i i' : Int} (h : ∀ j : Nat, p.toNat ≤ j → (j : Int) < i → P (f j).toInt = true) (hi : P (f i.toNat).toInt = true) (h0 : 0 ≤ i ∧ i' = i + 1) : ∀ j : Nat, p.toNat ≤ j → (j : Int) < i' → P (f j).toInt = true := by
  intro j h1 h2
  by_cases e : (j : Int) < i
  · exact h j h1 e
  · have : j = i.toNat := by omega
    rw [this]; exact hi
def mp_isSp (b : Int) : Bool := decide (b = 32 ∨ b = 10)
def mp_isLe (b : Int) : Bool := decide (97 ≤ b ∧ b ≤ 122)
def mp_isDi (b : Int) : Bool := decide (48 ≤ b ∧ b ≤ 57)
theorem mp_spt {b : Int} (h : b = 32 ∨ b = 10) : mp_isSp b = true := decide_eq_true h
theorem mp_spf {b : Int} (h : b ≠ 32 ∧ b ≠ 10) : mp_isSp b = false := decide_eq_false (by omega)
theorem mp_let {b : Int} (h : 97 ≤ b ∧ b ≤ 122) : mp_isLe b = true := decide_eq_true h
theorem mp_lef {b : Int} (h : b < 97 ∨ 122 < b) : mp_isLe b = false := decide_eq_false (by omega)
theorem mp_dit {b : Int} (h : 48 ≤ b ∧ b ≤ 57) : mp_isDi b = true := decide_eq_true h
theorem mp_dif {b : Int} (h : b < 48 ∨ 57 < b) : mp_isDi b = false := decide_eq_false (by omega)
/-- of the token behind p: where it starts, its kind, where it ends, its number -/
def mp_TS (f : Nat → Int32) (n p : Nat) : Nat := mp_end mp_isSp f n p
def mp_TK (f : Nat → Int32) (n p : Nat) : Int := if n ≤ mp_TS f n p then 0 else if mp_isLe (f (mp_TS f n p)).toInt then 1 else if mp_isDi (f (mp_TS f n p)).toInt then 2 else if (f (mp_TS f n p)).toInt = 59 then 3 else 4
def mp_TE (f : Nat → Int32) (n p : Nat) : Nat := if n ≤ mp_TS f n p then mp_TS f n p else if mp_isLe (f (mp_TS f n p)).toInt then mp_end mp_isLe f n (mp_TS f n p) else if mp_isDi (f (mp_TS f n p)).toInt then mp_end mp_isDi f n (mp_TS f n p) else mp_TS f n p + 1
def mp_VV (f : Nat → Int32) (s : Nat) : Nat → Int
  | 0 => 0
  | m + 1 => 10 * mp_VV f s m + ((f (s + m)).toInt - 48)
def mp_TV (f : Nat → Int32) (n p : Nat) : Int := mp_VV f (mp_TS f n p) (mp_TE f n p - mp_TS f n p)
theorem mp_tok0 {f : Nat → Int32} {n p s : Int} (hs : mp_TS f n.toNat p.toNat = s.toNat) (h : n ≤ s) : mp_TK f n.toNat p.toNat = 0 ∧ mp_TE f n.toNat p.toNat = s.toNat := by
  unfold mp_TK mp_TE
  rw [hs]
  refine ⟨?_, ?_⟩
  · rw [if_pos (by omega)]
  · rw [if_pos (by omega)]
theorem mp_tok1 {f : Nat → Int32} {n p s c : Int} (hs : mp_TS f n.toNat p.toNat = s.toNat) (h : 0 ≤ s ∧ s < n) (hl : mp_isLe (f s.toNat).toInt = true) (hc : mp_end mp_isLe f n.toNat s.toNat = c.toNat) : mp_TK f n.toNat p.toNat = 1 ∧ mp_TE f n.toNat p.toNat = c.toNat := by
  unfold mp_TK mp_TE
  rw [hs]
  refine ⟨?_, ?_⟩
  · rw [if_neg (by omega), if_pos hl]
  · rw [if_neg (by omega), if_pos hl]; exact hc
theorem mp_tok2 {f : Nat → Int32} {n p s c : Int} (hs : mp_TS f n.toNat p.toNat = s.toNat) (h : 0 ≤ s ∧ s < n) (hl : mp_isLe (f s.toNat).toInt = false) (hd : mp_isDi (f s.toNat).toInt = true) (hc : mp_end mp_isDi f n.toNat s.toNat = c.toNat) : mp_TK f n.toNat p.toNat = 2 ∧ mp_TE f n.toNat p.toNat = c.toNat := by
  have hl2 : ¬ mp_isLe (f s.toNat).toInt = true := by rw [hl]; decide
  unfold mp_TK mp_TE
  rw [hs]
  refine ⟨?_, ?_⟩
  · rw [if_neg (by omega), if_neg hl2, if_pos hd]
  · rw [if_neg (by omega), if_neg hl2, if_pos hd]; exact hc
theorem mp_tok3 {f : Nat → Int32} {n p s k : Int} (hs : mp_TS f n.toNat p.toNat = s.toNat) (h : 0 ≤ s ∧ s < n) (hl : mp_isLe (f s.toNat).toInt = false) (hd : mp_isDi (f s.toNat).toInt = false) (hk : ((f s.toNat).toInt = 59 ∧ k = 3) ∨ ((f s.toNat).toInt ≠ 59 ∧ k = 4)) : mp_TK f n.toNat p.toNat = k ∧ mp_TE f n.toNat p.toNat = (s + 1).toNat := by
  have hl2 : ¬ mp_isLe (f s.toNat).toInt = true := by rw [hl]; decide
  have hd2 : ¬ mp_isDi (f s.toNat).toInt = true := by rw [hd]; decide
  unfold mp_TK mp_TE
  rw [hs]
  refine ⟨?_, ?_⟩
  · rw [if_neg (by omega), if_neg hl2, if_neg hd2]
    rcases hk with ⟨h1, h2⟩ | ⟨h1, h2⟩
    · rw [if_pos h1, h2]
    · rw [if_neg h1, h2]
  · rw [if_neg (by omega), if_neg hl2, if_neg hd2]
    omega
/-- a number that is cut at c -/
def mp_cap (c v : Int) : Int := if v ≤ c then v else c
theorem mp_cap_s {c v w d : Int} (h : v = mp_cap c w) (hc : 0 ≤ c) (hd : 0 ≤ d) (hw : 0 ≤ w) {z : Int} (hz : (z = c ∧ c ≤ 10 * v + d) ∨ (z = 10 * v + d ∧ 10 * v + d ≤ c)) : z = mp_cap c (10 * w + d) := by
  unfold mp_cap at h ⊢
  split at h <;> split <;> omega
theorem mp_VV_nn {f : Nat → Int32} {s : Nat} : ∀ {m : Nat}, (∀ j : Nat, s ≤ j → j < s + m → 48 ≤ (f j).toInt) → 0 ≤ mp_VV f s m := by
  intro m
  induction m with
  | zero => intro _; exact Int.le_refl _
  | succ m ih =>
    intro h
    have h1 := ih (fun j h1 h2 => h j h1 (by omega))
    have h2 := h (s + m) (by omega) (by omega)
    show 0 ≤ 10 * mp_VV f s m + ((f (s + m)).toInt - 48)
    omega
theorem mp_VV_s {f : Nat → Int32} {s c c' : Int} (hs : 0 ≤ s ∧ s ≤ c ∧ c' = c + 1) : mp_VV f s.toNat (c' - s).toNat = 10 * mp_VV f s.toNat (c - s).toNat + ((f c.toNat).toInt - 48) := by
  have e : (c' - s).toNat = (c - s).toNat + 1 := by omega
  rw [e]
  show 10 * mp_VV f s.toNat (c - s).toNat + ((f (s.toNat + (c - s).toNat)).toInt - 48) = _
  rw [show s.toNat + (c - s).toNat = c.toNat by omega]
theorem mp_VV_i {f : Nat → Int32} {s c : Int} (hs : 0 ≤ s ∧ s ≤ c) (h : ∀ j : Nat, s.toNat ≤ j → (j : Int) < c → mp_isDi (f j).toInt = true) : 0 ≤ mp_VV f s.toNat (c - s).toNat :=
  mp_VV_nn (fun j h1 h2 => (of_decide_eq_true (h j h1 (by omega)) : 48 ≤ (f j).toInt ∧ (f j).toInt ≤ 57).1)
theorem mp_TV_eq {f : Nat → Int32} {n p s c : Int} (hs : mp_TS f n.toNat p.toNat = s.toNat) (he : mp_TE f n.toNat p.toNat = c.toNat) (h : 0 ≤ s ∧ s ≤ c) : mp_TV f n.toNat p.toNat = mp_VV f s.toNat (c - s).toNat := by
  unfold mp_TV
  rw [hs, he, show c.toNat - s.toNat = (c - s).toNat by omega]
theorem mp_lmul {z x y : Int64} {a b : Int} (h : z = x * y) (hx : x.toInt = a) (hy : y.toInt = b) (h1 : -9223372036854775808 ≤ a * b) (h2 : a * b ≤ 9223372036854775807) : z.toInt = a * b := by
  rw [h, Int64.toInt_mul, hx, hy, Int.bmod_def]
  generalize a * b = c at *
  omega
/-- letters packed as the reference packs them -/
def mp_PK (f : Nat → Int32) (s : Nat) : Nat → Int
  | 0 => 0
  | m + 1 => 27 * mp_PK f s m + ((f (s + m)).toInt - 96)
theorem mp_PK_s {f : Nat → Int32} {s c c' : Int} (hs : 0 ≤ s ∧ s ≤ c ∧ c' = c + 1) : mp_PK f s.toNat (c' - s).toNat = 27 * mp_PK f s.toNat (c - s).toNat + ((f c.toNat).toInt - 96) := by
  have e : (c' - s).toNat = (c - s).toNat + 1 := by omega
  rw [e]
  show 27 * mp_PK f s.toNat (c - s).toNat + ((f (s.toNat + (c - s).toNat)).toInt - 96) = _
  rw [show s.toNat + (c - s).toNat = c.toNat by omega]
theorem mp_PK_b {f : Nat → Int32} {s : Nat} : ∀ {m : Nat}, (∀ j : Nat, s ≤ j → j < s + m → 97 ≤ (f j).toInt ∧ (f j).toInt ≤ 122) → 0 ≤ mp_PK f s m ∧ mp_PK f s m < 27 ^ m := by
  intro m
  induction m with
  | zero => intro _; exact ⟨Int.le_refl _, by show (0 : Int) < 27 ^ 0; decide⟩
  | succ m ih =>
    intro h
    have h1 := ih (fun j h1 h2 => h j h1 (by omega))
    have h2 := h (s + m) (by omega) (by omega)
    show 0 ≤ 27 * mp_PK f s m + ((f (s + m)).toInt - 96) ∧ 27 * mp_PK f s m + ((f (s + m)).toInt - 96) < 27 ^ (m + 1)
    rw [Int.pow_succ]
    omega
/-- the packed word stays within bounds for twelve letters -/
theorem mp_PK_i {f : Nat → Int32} {s c : Int} (hs : 0 ≤ s ∧ s ≤ c ∧ c - s ≤ 12) (h : ∀ j : Nat, s.toNat ≤ j → (j : Int) < c → mp_isLe (f j).toInt = true) : 0 ≤ mp_PK f s.toNat (c - s).toNat ∧ mp_PK f s.toNat (c - s).toNat < 150094635296999121 := by
  have h1 := mp_PK_b (f := f) (s := s.toNat) (m := (c - s).toNat) (fun j h1 h2 => (of_decide_eq_true (h j h1 (by omega)) : 97 ≤ (f j).toInt ∧ (f j).toInt ≤ 122))
  refine ⟨h1.1, Int.lt_of_lt_of_le h1.2 ?_⟩
  have h2 : (27 : Int) ^ (c - s).toNat ≤ 27 ^ 12 := by
    have : ∀ m : Nat, m ≤ 12 → (27 : Int) ^ m ≤ 27 ^ 12 := by decide
    exact this _ (by omega)
  exact Int.le_trans h2 (by decide)
def mp_WD (f : Nat → Int32) (n p : Nat) : Int := if mp_TE f n p - mp_TS f n p ≤ 12 then mp_PK f (mp_TS f n p) (mp_TE f n p - mp_TS f n p) else -1
theorem mp_WD_eq {f : Nat → Int32} {n p s c w : Int} (hs : mp_TS f n.toNat p.toNat = s.toNat) (he : mp_TE f n.toNat p.toNat = c.toNat) (h : 0 ≤ s ∧ s ≤ c) (hw : (c - s ≤ 12 ∧ w = mp_PK f s.toNat (c - s).toNat) ∨ (12 < c - s ∧ w = -1)) : w = mp_WD f n.toNat p.toNat := by
  unfold mp_WD
  rw [hs, he, show c.toNat - s.toNat = (c - s).toNat by omega]
  rcases hw with ⟨h1, h2⟩ | ⟨h1, h2⟩
  · rw [if_pos (by omega)]; exact h2
  · rw [if_neg (by omega)]; exact h2
/-- a number as the reference cuts it -/
def mp_capR (v w : Int) : Prop := (v = w ∧ w ≤ 10000009) ∨ (v = 10000000 ∧ 1000000 < w)
theorem mp_capR_s {v w d z : Int} (h : mp_capR v w) (hd : 0 ≤ d ∧ d ≤ 9) (hw : 0 ≤ w) (hz : (1000000 < v ∧ z = 10000000) ∨ (v ≤ 1000000 ∧ z = 10 * v + d)) : mp_capR z (10 * w + d) := by
  unfold mp_capR at h ⊢
  omega
theorem mp_PK_1 {f : Nat → Int32} {s c : Int} (hs : 0 ≤ s ∧ c = s + 1) : mp_PK f s.toNat (c - s).toNat = (f s.toNat).toInt - 96 := by
  rw [show (c - s).toNat = 0 + 1 by omega]
  show 27 * 0 + ((f (s.toNat + 0)).toInt - 96) = _
  rw [Nat.add_zero]
  omega
theorem mp_VV_1 {f : Nat → Int32} {s c : Int} (hs : 0 ≤ s ∧ c = s + 1) : mp_VV f s.toNat (c - s).toNat = (f s.toNat).toInt - 48 := by
  rw [show (c - s).toNat = 0 + 1 by omega]
  show 10 * 0 + ((f (s.toNat + 0)).toInt - 48) = _
  rw [Nat.add_zero]
  omega
theorem mp_scan_all {P : Int → Bool} {f : Nat → Int32} : ∀ {k p j : Nat}, p ≤ j → j < mp_scan P f k p → P (f j).toInt = true := by
  intro k
  induction k with
  | zero => intro p j h1 h2; exact absurd (show j < p from h2) (by omega)
  | succ k ih =>
    intro p j h1 h2
    replace h2 : j < (if P (f p).toInt then mp_scan P f k (p + 1) else p) := h2
    by_cases e : P (f p).toInt = true
    · rw [if_pos e] at h2
      by_cases q : j = p
      · rw [q]; exact e
      · exact ih (by omega) h2
    · rw [if_neg e] at h2
      omega
theorem mp_scan_ge {P : Int → Bool} {f : Nat → Int32} : ∀ {k p : Nat}, p ≤ mp_scan P f k p := by
  intro k
  induction k with
  | zero => intro p; exact Nat.le_refl _
  | succ k ih =>
    intro p
    show p ≤ (if P (f p).toInt then mp_scan P f k (p + 1) else p)
    split
    · exact Nat.le_trans (Nat.le_succ p) ih
    · exact Nat.le_refl _
/-- a token that starts where it is sought -/
theorem mp_TS_self {f : Nat → Int32} {n s : Int} (h0 : 0 ≤ s) (h : n ≤ s ∨ mp_isSp (f s.toNat).toInt = false) : mp_TS f n.toNat s.toNat = s.toNat :=
  mp_end_i (Int.le_refl _) h0 (Or.inr rfl) (mp_all_0 (Int.le_refl _)) h
theorem mp_TS_TS {f : Nat → Int32} {n p : Nat} : mp_TS f n (mp_TS f n p) = mp_TS f n p := by
  have h0 : ∀ {k q : Nat}, mp_scan mp_isSp f k q = q + k ∨ mp_isSp (f (mp_scan mp_isSp f k q)).toInt = false := by
    intro k
    induction k with
    | zero => intro q; exact Or.inl rfl
    | succ k ih =>
      intro q
      show (if mp_isSp (f q).toInt then mp_scan mp_isSp f k (q + 1) else q) = q + (k + 1) ∨ mp_isSp (f (if mp_isSp (f q).toInt then mp_scan mp_isSp f k (q + 1) else q)).toInt = false
      by_cases e : mp_isSp (f q).toInt = true
      · rw [if_pos e]
        exact (ih (q := q + 1)).imp (fun h => by omega) (fun h => h)
      · rw [if_neg e]
        exact Or.inr (by cases h : mp_isSp (f q).toInt with | true => exact absurd h e | false => rfl)
  have h1 := h0 (k := n - p) (q := p)
  have h2 : p ≤ mp_TS f n p := mp_scan_ge
  have h3 := mp_TS_self (f := f) (n := (n : Int)) (s := (mp_TS f n p : Int)) (Int.natCast_nonneg _) (by
    rcases h1 with h1 | h1
    · left
      have h4 : mp_TS f n p = p + (n - p) := h1
      omega
    · right; exact h1)
  simpa only [Int.toNat_natCast] using h3
def mp_pg (g : Nat → Int) : Nat → Int
  | 0 => 0
  | m + 1 => 27 * mp_pg g m + g m
theorem mp_pg_pos {g : Nat → Int} : ∀ {m : Nat}, (∀ j : Nat, j < m → 1 ≤ g j ∧ g j ≤ 26) → 0 ≤ mp_pg g m ∧ (0 < m → 1 ≤ mp_pg g m) := by
  intro m
  induction m with
  | zero => intro _; exact ⟨Int.le_refl _, fun h => absurd h (by omega)⟩
  | succ m ih =>
    intro h
    have h1 := ih (fun j hj => h j (by omega))
    have h2 := h m (by omega)
    show 0 ≤ 27 * mp_pg g m + g m ∧ (0 < m + 1 → 1 ≤ 27 * mp_pg g m + g m)
    exact ⟨by omega, fun _ => by omega⟩
theorem mp_pg_inj {g g' : Nat → Int} : ∀ {m m' : Nat}, (∀ j : Nat, j < m → 1 ≤ g j ∧ g j ≤ 26) → (∀ j : Nat, j < m' → 1 ≤ g' j ∧ g' j ≤ 26) → mp_pg g m = mp_pg g' m' → m = m' ∧ ∀ j : Nat, j < m → g j = g' j := by
  intro m
  induction m with
  | zero =>
    intro m' _ h' e
    cases m' with
    | zero => exact ⟨rfl, fun j hj => absurd hj (by omega)⟩
    | succ m' =>
      have h1 := (mp_pg_pos (m := m' + 1) h').2 (by omega)
      have e2 : (0 : Int) = mp_pg g' (m' + 1) := e
      omega
  | succ m ih =>
    intro m' h h' e
    cases m' with
    | zero =>
      have h1 := (mp_pg_pos (m := m + 1) h).2 (by omega)
      have e2 : mp_pg g (m + 1) = (0 : Int) := e
      omega
    | succ m' =>
      have h1 := h m (by omega)
      have h2 := h' m' (by omega)
      have e2 : 27 * mp_pg g m + g m = 27 * mp_pg g' m' + g' m' := e
      have e3 : mp_pg g m = mp_pg g' m' := by omega
      have e4 : g m = g' m' := by omega
      obtain ⟨k1, k2⟩ := ih (fun j hj => h j (by omega)) (fun j hj => h' j (by omega)) e3
      subst k1
      refine ⟨rfl, fun j hj => ?_⟩
      by_cases q : j = m
      · rw [q]; exact e4
      · exact k2 j (by omega)
theorem mp_pg_congr {g g' : Nat → Int} : ∀ {m : Nat}, (∀ j : Nat, j < m → g j = g' j) → mp_pg g m = mp_pg g' m := by
  intro m
  induction m with
  | zero => intro _; rfl
  | succ m ih =>
    intro h
    show 27 * mp_pg g m + g m = 27 * mp_pg g' m + g' m
    rw [ih (fun j hj => h j (by omega)), h m (by omega)]
theorem mp_PK_pg {f : Nat → Int32} {s : Nat} : ∀ {m : Nat}, mp_PK f s m = mp_pg (fun j => (f (s + j)).toInt - 96) m := by
  intro m
  induction m with
  | zero => rfl
  | succ m ih =>
    show 27 * mp_PK f s m + _ = 27 * mp_pg _ m + _
    rw [ih]
/-- the words of the pool, packed -/
def mp_wk : List Int := [5165848, 47, 13987, 296479, 232608281, 419, 85447, 10737568, 6465242723, 555, 12532058, 374953, 2495756, 380396]
def mp_dg (si j : Nat) : Int := ((mp_sb.getD si []).getD j 0).toInt - 96
theorem mp_wk_ok : ∀ si : Nat, si < 14 → mp_pg (mp_dg si) (mp_sl.getD si 0) = mp_wk.getD si 0 ∧ mp_sl.getD si 0 ≤ 12 ∧ 0 < mp_wk.getD si 0 := by decide +kernel
theorem mp_dg_ok : ∀ si : Nat, si < 14 → ∀ j : Nat, j < mp_sl.getD si 0 → 1 ≤ mp_dg si j ∧ mp_dg si j ≤ 26 := by decide +kernel
theorem mp_TK1 {f : Nat → Int32} {n p : Nat} (h : mp_TK f n p = 1) : ∀ j : Nat, mp_TS f n p ≤ j → j < mp_TE f n p → 97 ≤ (f j).toInt ∧ (f j).toInt ≤ 122 := by
  intro j h1 h2
  unfold mp_TK at h
  unfold mp_TE at h2
  by_cases e : n ≤ mp_TS f n p
  · rw [if_pos e] at h; exact absurd h (by decide)
  · rw [if_neg e] at h h2
    by_cases e2 : mp_isLe (f (mp_TS f n p)).toInt = true
    · rw [if_pos e2] at h2
      exact of_decide_eq_true (mp_scan_all (P := mp_isLe) h1 h2)
    · rw [if_neg e2] at h
      split at h
      · exact absurd h (by decide)
      · split at h <;> exact absurd h (by decide)
theorem mp_word_iff {f : Nat → Int32} {n p si : Nat} (hsi : si < 14) (hk : mp_TK f n p = 1) : (mp_TE f n p - mp_TS f n p = mp_sl.getD si 0 ∧ ∀ j : Nat, j < mp_sl.getD si 0 → (f (mp_TS f n p + j)).toInt = ((mp_sb.getD si []).getD j 0).toInt) ↔ mp_WD f n p = mp_wk.getD si 0 := by
  obtain ⟨w1, w2, w3⟩ := mp_wk_ok si hsi
  have hl := mp_TK1 hk
  unfold mp_WD
  constructor
  · rintro ⟨h1, h2⟩
    rw [if_pos (by omega), mp_PK_pg, h1, ← w1]
    exact mp_pg_congr (fun j hj => by rw [h2 j hj]; rfl)
  · intro h
    by_cases e : mp_TE f n p - mp_TS f n p ≤ 12
    · rw [if_pos e, mp_PK_pg, ← w1] at h
      obtain ⟨k1, k2⟩ := mp_pg_inj (fun j hj => by have := hl (mp_TS f n p + j) (by omega) (by omega); omega) (mp_dg_ok si hsi) h
      refine ⟨k1, fun j hj => ?_⟩
      have h3 : (f (mp_TS f n p + j)).toInt - 96 = ((mp_sb.getD si []).getD j 0).toInt - 96 := k2 j (by omega)
      omega
    · rw [if_neg e] at h
      omega
/-- the class's token at hand: kind, start, stop, value -/
def mp_CT (f : Nat → Int32) (n k s e v : Int) : Prop := mp_TS f n.toNat s.toNat = s.toNat ∧ k = mp_TK f n.toNat s.toNat ∧ e = ((mp_TE f n.toNat s.toNat : Nat) : Int) ∧ (k ≠ 2 ∨ v = mp_cap 100000000 (mp_TV f n.toNat s.toNat))
/-- the reference's: token, place, at, value, word -/
def mp_MT (f : Nat → Int32) (n k s e v w : Int) : Prop := mp_TS f n.toNat s.toNat = s.toNat ∧ k = mp_TK f n.toNat s.toNat ∧ e = ((mp_TE f n.toNat s.toNat : Nat) : Int) ∧ (k ≠ 2 ∨ mp_capR v (mp_TV f n.toNat s.toNat)) ∧ (k ≠ 1 ∨ w = mp_WD f n.toNat s.toNat)
theorem mp_cap_i {v w : Int} (h : v = mp_cap 100000000 w) : (v = w ∧ w ≤ 100000000) ∨ (v = 100000000 ∧ 100000000 < w) := by
  unfold mp_cap at h
  split at h <;> omega
theorem mp_isw_t {f : Nat → Int32} {n s e k v i : Int} {si : Nat} (h : mp_CT f n k s e v) (hsi : si < 14) (hk : k = 1) (h0 : 0 ≤ s) (hl : e - s = (mp_sl.getD si 0 : Int)) (ha : ∀ j : Nat, (j : Int) < i → (f (s.toNat + j)).toInt = ((mp_sb.getD si []).getD j 0).toInt) (hi : (mp_sl.getD si 0 : Int) ≤ i) : mp_TK f n.toNat s.toNat = 1 ∧ mp_WD f n.toNat s.toNat = mp_wk.getD si 0 := by
  obtain ⟨h1, h2, h3, -⟩ := h
  have hk1 : mp_TK f n.toNat s.toNat = 1 := by omega
  refine ⟨hk1, (mp_word_iff hsi hk1).mp ⟨by omega, fun j hj => ?_⟩⟩
  rw [h1]
  exact ha j (by omega)
theorem mp_isw_1 {f : Nat → Int32} {n s e k v : Int} {w : Int} (h : mp_CT f n k s e v) (hk : k ≠ 1) : ¬ (mp_TK f n.toNat s.toNat = 1 ∧ mp_WD f n.toNat s.toNat = w) := by
  obtain ⟨-, h2, -, -⟩ := h
  rintro ⟨q, -⟩
  omega
theorem mp_isw_2 {f : Nat → Int32} {n s e k v : Int} {si : Nat} (h : mp_CT f n k s e v) (hsi : si < 14) (h0 : 0 ≤ s) (hl : e - s ≠ (mp_sl.getD si 0 : Int)) (he : s ≤ e) : ¬ (mp_TK f n.toNat s.toNat = 1 ∧ mp_WD f n.toNat s.toNat = mp_wk.getD si 0) := by
  obtain ⟨h1, h2, h3, -⟩ := h
  rintro ⟨q1, q2⟩
  have := ((mp_word_iff hsi q1).mpr q2).1
  omega
theorem mp_isw_3 {f : Nat → Int32} {n s e k v : Int} {si j : Nat} (h : mp_CT f n k s e v) (hsi : si < 14) (hj : (j : Int) < (mp_sl.getD si 0 : Int)) (hx : (f (s.toNat + j)).toInt ≠ ((mp_sb.getD si []).getD j 0).toInt) : ¬ (mp_TK f n.toNat s.toNat = 1 ∧ mp_WD f n.toNat s.toNat = mp_wk.getD si 0) := by
  obtain ⟨h1, -, -, -⟩ := h
  rintro ⟨q1, q2⟩
  have h4 := ((mp_word_iff hsi q1).mpr q2).2 j (by omega)
  rw [h1] at h4
  exact hx h4
theorem mp_TE_ge {f : Nat → Int32} {n p : Nat} : mp_TS f n p ≤ mp_TE f n p := by
  unfold mp_TE
  split
  · exact Nat.le_refl _
  · split
    · exact mp_scan_ge
    · split
      · exact mp_scan_ge
      · omega
theorem mp_CT_le {f : Nat → Int32} {n k s e v : Int} (h : mp_CT f n k s e v) (h0 : 0 ≤ s) : s ≤ e := by
  obtain ⟨h1, -, h3, -⟩ := h
  have := mp_TE_ge (f := f) (n := n.toNat) (p := s.toNat)
  omega
theorem mp_sw_0 {f : Nat → Int32} {s : Nat} {si : Nat} {i : Int} (h : i ≤ 0) : ∀ j : Nat, (j : Int) < i → (f (s + j)).toInt = ((mp_sb.getD si []).getD j 0).toInt := fun j hj => by omega
theorem mp_sw_s {f : Nat → Int32} {s : Nat} {si : Nat} {i i' : Int} (p : ∀ j : Nat, (j : Int) < i → (f (s + j)).toInt = ((mp_sb.getD si []).getD j 0).toInt) (h : (f (s + i.toNat)).toInt = ((mp_sb.getD si []).getD i.toNat 0).toInt) (hi : 0 ≤ i ∧ i' = i + 1) : ∀ j : Nat, (j : Int) < i' → (f (s + j)).toInt = ((mp_sb.getD si []).getD j 0).toInt := by
  intro j hj
  by_cases e : (j : Int) < i
  · exact p j e
  · have : j = i.toNat := by omega
    rw [this]; exact h
theorem mp_sw_ld {f : Nat → Int32} {z x i s : Int32} (h : z = f x.toNatClampNeg) (hx : x.toInt = s.toInt + i.toInt) (h0 : 0 ≤ s.toInt ∧ 0 ≤ i.toInt) : z.toInt = (f (s.toInt.toNat + i.toInt.toNat)).toInt := by
  rw [h, show x.toNatClampNeg = s.toInt.toNat + i.toInt.toNat by simp only [Int32.toNatClampNeg]; omega]
-- the text: its lines, over any data with operations (0 a sea, 1 a shut harbour, 2 a person, 3 dies, 4 tends, 5 a promise, 6 drunk, 7 on)
abbrev mp_Sc : Type := Int × Int × Int × Int × Int
abbrev mp_Rs (α : Type) : Type := Int × Nat × mp_Sc × α
abbrev mp_Op (α : Type) : Type := α → Nat → Int → Int → Int → Int → Int → α
def mp_NX (f : Nat → Int32) (n s : Nat) : Nat := mp_TS f n (mp_TE f n s)
section MPG
variable {α : Type}
def mp_kn (f : Nat → Int32) (n s : Nat) (lo hi bar : Int) (c : mp_Sc) (d : α) (ok : Int → Nat → mp_Rs α) : mp_Rs α :=
  if mp_TK f n s ≠ 2 then (1, s, c, d) else if mp_TV f n s < lo ∨ hi < mp_TV f n s ∨ mp_TV f n s = bar then (2, s, c, d) else ok (mp_TV f n s) (mp_NX f n s)
def mp_kw (f : Nat → Int32) (n s : Nat) (w : Int) (c : mp_Sc) (d : α) (ok : Nat → mp_Rs α) : mp_Rs α :=
  if mp_TK f n s = 1 ∧ mp_WD f n s = w then ok (mp_NX f n s) else (1, s, c, d)
variable {f : Nat → Int32} {n s : Nat} {lo hi bar w : Int} {c : mp_Sc} {d : α}
theorem mp_kn_ok {ok : Int → Nat → mp_Rs α} (h : mp_TK f n s = 2) (hv : lo ≤ mp_TV f n s ∧ mp_TV f n s ≤ hi ∧ mp_TV f n s ≠ bar) : mp_kn f n s lo hi bar c d ok = ok (mp_TV f n s) (mp_NX f n s) := by
  unfold mp_kn; rw [if_neg (fun q => q h), if_neg (by omega)]
theorem mp_kn_1 {ok : Int → Nat → mp_Rs α} (h : mp_TK f n s ≠ 2) : mp_kn f n s lo hi bar c d ok = (1, s, c, d) := by
  unfold mp_kn; rw [if_pos h]
theorem mp_kn_2 {ok : Int → Nat → mp_Rs α} (h : mp_TK f n s = 2) (hv : mp_TV f n s < lo ∨ hi < mp_TV f n s ∨ mp_TV f n s = bar) : mp_kn f n s lo hi bar c d ok = (2, s, c, d) := by
  unfold mp_kn; rw [if_neg (fun q => q h), if_pos hv]
theorem mp_kw_ok {ok : Nat → mp_Rs α} (h : mp_TK f n s = 1 ∧ mp_WD f n s = w) : mp_kw f n s w c d ok = ok (mp_NX f n s) := by
  unfold mp_kw; rw [if_pos h]
theorem mp_kw_1 {ok : Nat → mp_Rs α} (h : ¬ (mp_TK f n s = 1 ∧ mp_WD f n s = w)) : mp_kw f n s w c d ok = (1, s, c, d) := by
  unfold mp_kw; rw [if_neg h]
variable (op : mp_Op α) (f : Nat → Int32) (n : Nat)
def mp_gIsles (s : Nat) (c : mp_Sc) (d : α) : mp_Rs α :=
  mp_kw f n s 5165848 c d fun s => mp_kn f n s 1 6 (-1) c d fun v s => mp_kw f n s 47 c d fun s => mp_kn f n s 0 99 (-1) c d fun m s => (0, s, (v, m, c.2.2.1, c.2.2.2.1, c.2.2.2.2), d)
def mp_gSea (s : Nat) (c : mp_Sc) (d : α) : mp_Rs α :=
  mp_kn f n s 0 (c.1 - 1) (-1) c d fun a s => mp_kn f n s 0 (c.1 - 1) a c d fun b s => mp_kw f n s 296479 c d fun s => mp_kn f n s 1 20 (-1) c d fun v s => (0, s, c, op d 0 a b v 0 0)
def mp_gShut (s : Nat) (c : mp_Sc) (d : α) : mp_Rs α :=
  mp_kw f n s 380396 c d fun s => mp_kn f n s 0 (c.1 - 1) (-1) c d fun i s => mp_kn f n s 0 99 (-1) c d fun m s => (0, s, c, op d 1 i m 0 0 0)
/-- the marks of a person: at most two, each once -/
def mp_gPm (c : mp_Sc) (k : Int) : Nat → Bool → Bool → Nat → α → mp_Rs α
  | 0, _, _, s, d => (0, s, c, d)
  | r + 1, dy, te, s, d => if mp_TK f n s ≠ 1 then (0, s, c, d)
    else if dy = false ∧ mp_WD f n s = 85447 then mp_kn f n (mp_NX f n s) 0 99 (-1) c d fun v s => mp_gPm c k r true te s (op d 3 k v 0 0 0)
    else if te = false ∧ mp_WD f n s = 10737568 then mp_kn f n (mp_NX f n s) 0 100 (-1) c d fun v s => mp_gPm c k r dy true s (op d 4 k v 0 0 0)
    else (1, s, c, d)
def mp_gPerson (s : Nat) (c : mp_Sc) (d : α) : mp_Rs α :=
  if 6 ≤ c.2.2.1 then (3, s, c, d) else mp_kw f n (mp_NX f n s) 419 c d fun s => mp_kn f n s 0 (c.1 - 1) (-1) c d fun v s => mp_gPm op f n (c.1, c.2.1, c.2.2.1 + 1, c.2.2.2.1, c.2.2.2.2) c.2.2.1 2 false false s (op d 2 c.2.2.1 v 0 0 0)
/-- the marks of a promise -/
def mp_gQm (c : mp_Sc) (k : Int) : Nat → Bool → Bool → Nat → α → mp_Rs α
  | 0, _, _, s, d => (0, s, c, d)
  | r + 1, dr, on, s, d => if mp_TK f n s ≠ 1 then (0, s, c, d)
    else if dr = false ∧ mp_WD f n s = 2495756 then mp_gQm c k r true on (mp_NX f n s) (op d 6 k 0 0 0 0)
    else if on = false ∧ mp_WD f n s = 419 then mp_kn f n (mp_NX f n s) 0 (k - 1) (-1) c d fun v s => mp_gQm c k r dr true s (op d 7 k v 0 0 0)
    else (1, s, c, d)
def mp_gProm (s : Nat) (c : mp_Sc) (d : α) (ok : Nat → mp_Sc → α → mp_Rs α) : mp_Rs α :=
  if 10 ≤ c.2.2.2.1 then (3, s, c, d) else mp_kn f n (mp_NX f n s) 0 (c.2.2.1 - 1) (-1) c d fun a s => mp_kw f n s 555 c d fun s => mp_kn f n s 0 (c.2.2.1 - 1) a c d fun b s => mp_kw f n s 12532058 c d fun s => mp_kn f n s 1 1000000 (-1) c d fun w s => mp_kw f n s 374953 c d fun s => mp_kn f n s 0 c.2.1 (-1) c d fun m s => ok s (c.1, c.2.1, c.2.2.1, c.2.2.2.1 + 1, c.2.2.2.2) (op d 5 c.2.2.2.1 a b w m)
def mp_gPromise (s : Nat) (c : mp_Sc) (d : α) : mp_Rs α := mp_gProm op f n s c d fun s c2 d => mp_gQm op f n c2 c.2.2.2.1 2 false false s d
def mp_gLine (s : Nat) (c : mp_Sc) (d : α) : mp_Rs α :=
  if c.2.2.2.2 = 0 then mp_gIsles f n s c d
  else if mp_TK f n s = 1 ∧ mp_WD f n s = 13987 then mp_gSea op f n (mp_NX f n s) c d
  else if mp_TK f n s = 1 ∧ mp_WD f n s = 232608281 then mp_gPerson op f n s c d
  else if mp_TK f n s = 1 ∧ mp_WD f n s = 6465242723 then mp_gPromise op f n s c d
  else mp_gShut op f n s c d
/-- behind a line: its sign -/
def mp_aft (r : mp_Rs α) : mp_Rs α := if r.1 ≠ 0 then r else if mp_TK f n r.2.1 ≠ 3 then (1, r.2.1, r.2.2) else (0, mp_NX f n r.2.1, (r.2.2.1.1, r.2.2.1.2.1, r.2.2.1.2.2.1, r.2.2.1.2.2.2.1, r.2.2.1.2.2.2.2 + 1), r.2.2.2)
def mp_gText : Nat → Nat → mp_Sc → α → Option (mp_Rs α)
  | 0, _, _, _ => none
  | k + 1, s, c, d => if mp_TK f n s = 0 then some (0, s, c, d)
    else if (mp_aft f n (mp_gLine op f n s c d)).1 ≠ 0 then some (mp_aft f n (mp_gLine op f n s c d))
    else mp_gText k (mp_aft f n (mp_gLine op f n s c d)).2.1 (mp_aft f n (mp_gLine op f n s c d)).2.2.1 (mp_aft f n (mp_gLine op f n s c d)).2.2.2
end MPG
-- the data of a text: seas, shut harbours (100 for each isle), people (3 for each), promises (6 for each)
abbrev mp_AD : Type := (Nat → Int32) × (Nat → Bool) × (Nat → Int32) × (Nat → Int32)
def mp_gop : mp_Op mp_AD := fun d k a b v w m => match k with
  | 0 => (upd (upd d.1 (6 * a + b).toNat (Int32.ofInt v)) (6 * b + a).toNat (Int32.ofInt v), d.2)
  | 1 => (d.1, (fun j => if j = (100 * a + b).toNat then true else d.2.1 j), d.2.2)
  | 2 => (d.1, d.2.1, upd (upd (upd d.2.2.1 (3 * a).toNat (Int32.ofInt b)) (3 * a + 1).toNat (-1)) (3 * a + 2).toNat 0, d.2.2.2)
  | 3 => (d.1, d.2.1, upd d.2.2.1 (3 * a + 1).toNat (Int32.ofInt b), d.2.2.2)
  | 4 => (d.1, d.2.1, upd d.2.2.1 (3 * a + 2).toNat (Int32.ofInt b), d.2.2.2)
  | 5 => (d.1, d.2.1, d.2.2.1, upd (upd (upd (upd (upd (upd d.2.2.2 (6 * a).toNat (Int32.ofInt b)) (6 * a + 1).toNat (Int32.ofInt v)) (6 * a + 2).toNat (Int32.ofInt w)) (6 * a + 3).toNat (Int32.ofInt m)) (6 * a + 4).toNat 0) (6 * a + 5).toNat (-1))
  | 6 => (d.1, d.2.1, d.2.2.1, upd d.2.2.2 (6 * a + 4).toNat 1)
  | _ => (d.1, d.2.1, d.2.2.1, upd d.2.2.2 (6 * a + 5).toNat (Int32.ofInt b))
/-- the class's arrays as such data -/
def mp_pc (home death tending : Nat → Int32) : Nat → Int32 := fun j => if j % 3 = 0 then home (j / 3) else if j % 3 = 1 then death (j / 3) else tending (j / 3)
def mp_qc (ower owee full first drunk base : Nat → Int32) : Nat → Int32 := fun j => if j % 6 = 0 then ower (j / 6) else if j % 6 = 1 then owee (j / 6) else if j % 6 = 2 then full (j / 6) else if j % 6 = 3 then first (j / 6) else if j % 6 = 4 then drunk (j / 6) else base (j / 6)
def mp_shb (s : Nat → Int64) : Nat → Bool := fun j => decide (((s (2 * (j / 100) + j % 100 / 50)) >>> (Int64.ofNat (j % 50)) &&& 1) ≠ 0)
def mp_dC (seas : Nat → Int32) (shut : Nat → Int64) (home death tending ower owee full first drunk base : Nat → Int32) : mp_AD := (seas, mp_shb shut, mp_pc home death tending, mp_qc ower owee full first drunk base)
theorem mp_pc_0 {home death tending : Nat → Int32} {k : Nat} {v : Int32} : mp_pc (upd home k v) death tending = upd (mp_pc home death tending) (3 * k) v := by
  funext j
  show (if j % 3 = 0 then (if j / 3 = k then v else home (j / 3)) else if j % 3 = 1 then death (j / 3) else tending (j / 3)) = (if j = 3 * k then v else if j % 3 = 0 then home (j / 3) else if j % 3 = 1 then death (j / 3) else tending (j / 3))
  by_cases h : j = 3 * k
  · rw [if_pos h, if_pos (by omega), if_pos (by omega)]
  · rw [if_neg h]
    by_cases h0 : j % 3 = 0
    · rw [if_pos h0, if_pos h0, if_neg (by omega)]
    · rw [if_neg h0, if_neg h0]
theorem mp_pc_1 {home death tending : Nat → Int32} {k : Nat} {v : Int32} : mp_pc home (upd death k v) tending = upd (mp_pc home death tending) (3 * k + 1) v := by
  funext j
  show (if j % 3 = 0 then home (j / 3) else if j % 3 = 1 then (if j / 3 = k then v else death (j / 3)) else tending (j / 3)) = (if j = 3 * k + 1 then v else if j % 3 = 0 then home (j / 3) else if j % 3 = 1 then death (j / 3) else tending (j / 3))
  by_cases h : j = 3 * k + 1
  · rw [if_pos h, if_neg (by omega), if_pos (by omega), if_pos (by omega)]
  · rw [if_neg h]
    by_cases h0 : j % 3 = 0
    · rw [if_pos h0, if_pos h0]
    · rw [if_neg h0, if_neg h0]
      by_cases h1 : j % 3 = 1
      · rw [if_pos h1, if_pos h1, if_neg (by omega)]
      · rw [if_neg h1, if_neg h1]
theorem mp_pc_2 {home death tending : Nat → Int32} {k : Nat} {v : Int32} : mp_pc home death (upd tending k v) = upd (mp_pc home death tending) (3 * k + 2) v := by
  funext j
  show (if j % 3 = 0 then home (j / 3) else if j % 3 = 1 then death (j / 3) else (if j / 3 = k then v else tending (j / 3))) = (if j = 3 * k + 2 then v else if j % 3 = 0 then home (j / 3) else if j % 3 = 1 then death (j / 3) else tending (j / 3))
  by_cases h : j = 3 * k + 2
  · rw [if_pos h, if_neg (by omega), if_neg (by omega), if_pos (by omega)]
  · rw [if_neg h]
    by_cases h0 : j % 3 = 0
    · rw [if_pos h0, if_pos h0]
    · rw [if_neg h0, if_neg h0]
      by_cases h1 : j % 3 = 1
      · rw [if_pos h1, if_pos h1]
      · rw [if_neg h1, if_neg h1, if_neg (by omega)]
theorem mp_qc_0 {ower owee full first drunk base : Nat → Int32} {k : Nat} {v : Int32} : mp_qc (upd ower k v) owee full first drunk base = upd (mp_qc ower owee full first drunk base) (6 * k) v := by
  funext j
  show (if j % 6 = 0 then (if j / 6 = k then v else ower (j / 6)) else if j % 6 = 1 then owee (j / 6) else if j % 6 = 2 then full (j / 6) else if j % 6 = 3 then first (j / 6) else if j % 6 = 4 then drunk (j / 6) else base (j / 6)) = (if j = 6 * k then v else if j % 6 = 0 then ower (j / 6) else if j % 6 = 1 then owee (j / 6) else if j % 6 = 2 then full (j / 6) else if j % 6 = 3 then first (j / 6) else if j % 6 = 4 then drunk (j / 6) else base (j / 6))
  by_cases h : j = 6 * k
  · rw [if_pos h, if_pos (by omega), if_pos (by omega)]
  · rw [if_neg h]
    by_cases h0 : j % 6 = 0
    · rw [if_pos h0, if_pos h0, if_neg (by omega)]
    · rw [if_neg h0, if_neg h0]
theorem mp_qc_1 {ower owee full first drunk base : Nat → Int32} {k : Nat} {v : Int32} : mp_qc ower (upd owee k v) full first drunk base = upd (mp_qc ower owee full first drunk base) (6 * k + 1) v := by
  funext j
  show (if j % 6 = 0 then ower (j / 6) else if j % 6 = 1 then (if j / 6 = k then v else owee (j / 6)) else if j % 6 = 2 then full (j / 6) else if j % 6 = 3 then first (j / 6) else if j % 6 = 4 then drunk (j / 6) else base (j / 6)) = (if j = 6 * k + 1 then v else if j % 6 = 0 then ower (j / 6) else if j % 6 = 1 then owee (j / 6) else if j % 6 = 2 then full (j / 6) else if j % 6 = 3 then first (j / 6) else if j % 6 = 4 then drunk (j / 6) else base (j / 6))
  by_cases h : j = 6 * k + 1
  · rw [if_pos h, if_neg (by omega), if_pos (by omega), if_pos (by omega)]
  · rw [if_neg h]
    by_cases h0 : j % 6 = 0
    · rw [if_pos h0, if_pos h0]
    · rw [if_neg h0, if_neg h0]
      by_cases h1 : j % 6 = 1
      · rw [if_pos h1, if_pos h1, if_neg (by omega)]
      · rw [if_neg h1, if_neg h1]
