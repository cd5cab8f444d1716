-- the tally of the class; its worst; the reference's table
def mp_ta (f g : Nat → Int32) (D : Int) (y : Int32) (d : Int) : Prop := ∀ j : Nat, j < 132 → (g j).toInt = (f j).toInt + (if ((j / 12 : Nat) : Int) < d ∧ mp_hb D y (j / 12) = ((j % 12 : Nat) : Int) then 1 else 0)
def mp_tl (t : Nat → Int32) (P : Nat → Bool) (D : Int) (n : Nat) : Prop := ∀ j : Nat, j < 132 → (t j).toInt = mp_cT P D (j / 12) (j % 12) n
def mp_tb4 (t : Nat → Int32) : Prop := ∀ j : Nat, j < 132 → 0 ≤ (t j).toInt ∧ (t j).toInt ≤ 1024
section MPWJ
variable {f g g2 t t2 : Nat → Int32} {P : Nat → Bool} {D W d d2 h : Int} {y i v z : Int32} {n : Nat}
theorem mp_hb_b (hD : 0 ≤ D ∧ D ≤ 1) : ∀ {d : Nat}, 0 ≤ mp_hb D y d ∧ mp_hb D y d ≤ (d : Int) + 1
  | 0 => by show 0 ≤ D ∧ D ≤ _; omega
  | d + 1 => by
    have g := mp_hb_b hD (d := d)
    show 0 ≤ (if mp_bitx y (Int32.ofNat d) then 0 else mp_hb D y d + 1) ∧ (if mp_bitx y (Int32.ofNat d) then 0 else mp_hb D y d + 1) ≤ _
    by_cases q : mp_bitx y (Int32.ofNat d)
    · rw [if_pos q]; omega
    · rw [if_neg q]; omega
theorem mp_ta_0 (h : d ≤ 0) : mp_ta f f D y d := by
  intro j hj
  rw [if_neg (by omega)]; omega
theorem mp_ta_s (b : mp_tb4 f) (p : mp_ta f g D y d) (hh : h = mp_hb D y d.toNat) (hi : i.toInt = 12 * d + h) (h0 : 0 ≤ d ∧ d ≤ 10 ∧ 0 ≤ h ∧ h ≤ 11) (hz : z = g i.toNatClampNeg) (hv : v = z + 1) (hu : g2 = upd g i.toNatClampNeg v) (hd : d2 = d + 1) : mp_ta f g2 D y d2 := by
  subst hd
  intro j hj
  have ei : i.toNatClampNeg = (12 * d + h).toNat := by simp only [Int32.toNatClampNeg]; omega
  have pj := p j hj
  have bj := b j hj
  rw [hu]
  simp only [upd]
  by_cases q : j = i.toNatClampNeg
  · rw [if_pos q]
    have e1 : j / 12 = d.toNat := by omega
    have e2 : ((j % 12 : Nat) : Int) = h := by omega
    have ez : z.toInt = (f j).toInt := by
      rw [hz, ← q, pj, if_neg (by omega)]; omega
    have ev : v.toInt = z.toInt + 1 := mp_add hv rfl (show (1 : Int32).toInt = 1 from rfl) (by omega) (by omega)
    rw [ev, ez, if_pos ⟨by omega, by rw [e1, e2, hh]⟩]
  · rw [if_neg q, pj]
    by_cases c : ((j / 12 : Nat) : Int) < d
    · by_cases c2 : mp_hb D y (j / 12) = ((j % 12 : Nat) : Int)
      · rw [if_pos ⟨c, c2⟩, if_pos ⟨by omega, c2⟩]
      · rw [if_neg (fun x => c2 x.2), if_neg (fun x => c2 x.2)]
    · rw [if_neg (fun x => c x.1)]
      by_cases c3 : ((j / 12 : Nat) : Int) = d
      · have e1 : j / 12 = d.toNat := by omega
        have c4 : ¬ mp_hb D y (j / 12) = ((j % 12 : Nat) : Int) := by
          rw [e1, ← hh]
          omega
        rw [if_neg (fun x => c4 x.2)]
      · rw [if_neg (fun x => by omega)]
theorem mp_cT_b {d h : Nat} : ∀ {n : Nat}, 0 ≤ mp_cT P D d h n ∧ mp_cT P D d h n ≤ (n : Int)
  | 0 => ⟨Int.le_refl _, Int.le_refl _⟩
  | n + 1 => by
    have g := mp_cT_b (d := d) (h := h) (n := n)
    have e : mp_cT P D d h (n + 1) = if (P n && decide ((mp_hm D n d).toNat = h)) then mp_cT P D d h n + 1 else mp_cT P D d h n := rfl
    rw [e]
    by_cases q : (P n && decide ((mp_hm D n d).toNat = h)) = true
    · rw [if_pos q]; omega
    · rw [if_neg q]; omega
theorem mp_tl_b (p : mp_tl t P D n) (hn : n ≤ 1024) : mp_tb4 t := by
  intro j hj
  have b := mp_cT_b (P := P) (D := D) (d := j / 12) (h := j % 12) (n := n)
  rw [p j hj]; omega
theorem mp_tl_0 (h : ∀ j : Nat, (j : Int) < 132 → t j = 0) : mp_tl t P D 0 := by
  intro j hj
  rw [h j (by omega)]; rfl
theorem mp_tl_f {k : Int32} {k' : Int} (p : mp_tl t P D k.toInt.toNat) (hp : P k.toInt.toNat = false) (h0 : 0 ≤ k.toInt ∧ k' = k.toInt + 1) : mp_tl t P D k'.toNat := by
  rw [show k'.toNat = k.toInt.toNat + 1 by omega]
  intro j hj
  have e : mp_cT P D (j / 12) (j % 12) (k.toInt.toNat + 1) = if (P k.toInt.toNat && decide ((mp_hm D k.toInt.toNat (j / 12)).toNat = j % 12)) then mp_cT P D (j / 12) (j % 12) k.toInt.toNat + 1 else mp_cT P D (j / 12) (j % 12) k.toInt.toNat := rfl
  rw [e, hp, Bool.false_and]
  exact p j hj
theorem mp_tl_t {k : Int32} {k' : Int} (p : mp_tl t P D k.toInt.toNat) (hp : P k.toInt.toNat = true) (h0 : 0 ≤ k.toInt ∧ k' = k.toInt + 1) (hD : 0 ≤ D ∧ D ≤ 1) (a : mp_ta t t2 D k 11) : mp_tl t2 P D k'.toNat := by
  rw [show k'.toNat = k.toInt.toNat + 1 by omega]
  intro j hj
  have e : mp_cT P D (j / 12) (j % 12) (k.toInt.toNat + 1) = if (P k.toInt.toNat && decide ((mp_hm D k.toInt.toNat (j / 12)).toNat = j % 12)) then mp_cT P D (j / 12) (j % 12) k.toInt.toNat + 1 else mp_cT P D (j / 12) (j % 12) k.toInt.toNat := rfl
  have ek : mp_hm D k.toInt.toNat (j / 12) = mp_hb D k (j / 12) := by unfold mp_hm; rw [mp_ofnat h0.1]
  have hb := mp_hb_b (y := k) hD (d := j / 12)
  rw [e, a j hj, hp, Bool.true_and, ek, p j hj]
  by_cases c : mp_hb D k (j / 12) = ((j % 12 : Nat) : Int)
  · rw [if_pos ⟨by omega, c⟩, if_pos (decide_eq_true (by omega))]
  · rw [if_neg (fun x => c x.2), if_neg (fun x => by have := of_decide_eq_true x; omega)]; omega
/-- the class's worst of moon d -/
def mp_tT (t : Nat → Int32) (d : Int) : Nat → Int := fun h => (t (12 * d.toNat + h)).toInt
def mp_gq (T c : Nat → Int) (h : Int) : Int := if h = 0 then 0 else mp_gr T c (h - 1).toNat
def mp_wqx (T c : Nat → Int) (h : Int) (w : Int) : Prop := (∀ i : Nat, (i : Int) < h → mp_gr T c i ≤ w) ∧ (w = 0 ∨ ∃ i : Nat, (i : Int) < h ∧ mp_gr T c i = w)
theorem mp_gr_b {T c : Nat → Int} (b : ∀ i : Nat, i < 12 → 0 ≤ T i ∧ T i ≤ 1024) : ∀ {h : Nat}, h < 12 → 0 ≤ mp_gr T c h ∧ mp_gr T c h ≤ 1024 * ((h : Int) + 1)
  | 0, hh => by have := b 0 hh; show 0 ≤ T 0 ∧ T 0 ≤ _; omega
  | h + 1, hh => by
    have g := mp_gr_b b (c := c) (h := h) (by omega)
    have e := b (h + 1) hh
    show 0 ≤ (if c (h + 1) = c h then mp_gr T c h else 0) + T (h + 1) ∧ (if c (h + 1) = c h then mp_gr T c h else 0) + T (h + 1) ≤ _
    by_cases q : c (h + 1) = c h
    · rw [if_pos q]; omega
    · rw [if_neg q]; omega
theorem mp_gq_0 {T c : Nat → Int} : mp_gq T c 0 = 0 := rfl
/-- a group goes on, or begins anew -/
theorem mp_gq_s {T c : Nat → Int} {h' : Int} {a v z : Int32} (b : ∀ i : Nat, i < 12 → 0 ≤ T i ∧ T i ≤ 1024) (h0 : 0 ≤ h ∧ h ≤ 11) (hc : (h = 0 ∧ a.toInt = 0) ∨ (1 ≤ h ∧ c h.toNat ≠ c (h - 1).toNat ∧ a.toInt = 0) ∨ (1 ≤ h ∧ c h.toNat = c (h - 1).toNat ∧ a.toInt = mp_gq T c h)) (hz : z.toInt = T h.toNat) (hv : v = a + z) (hh : h' = h + 1) : v.toInt = mp_gq T c h' ∧ v.toInt = mp_gr T c h.toNat := by
  subst hh
  have bz := b h.toNat (by omega)
  have e : mp_gq T c (h + 1) = mp_gr T c h.toNat := by unfold mp_gq; rw [if_neg (by omega), show h + 1 - 1 = h by omega]
  rw [e]
  have key : v.toInt = mp_gr T c h.toNat := by
    rcases hc with ⟨q, ha⟩ | ⟨q, q2, ha⟩ | ⟨q, q2, ha⟩
    · have ev : v.toInt = 0 + T h.toNat := mp_add hv ha hz (by omega) (by omega)
      rw [ev, q]; show 0 + T 0 = T 0; omega
    · have ev : v.toInt = 0 + T h.toNat := mp_add hv ha hz (by omega) (by omega)
      rw [ev, show h.toNat = (h - 1).toNat + 1 by omega]
      show _ = (if c ((h - 1).toNat + 1) = c (h - 1).toNat then _ else 0) + T ((h - 1).toNat + 1)
      rw [← show h.toNat = (h - 1).toNat + 1 by omega, if_neg q2]
    · have eg : mp_gq T c h = mp_gr T c (h - 1).toNat := by unfold mp_gq; rw [if_neg (by omega)]
      have gb := mp_gr_b b (c := c) (h := (h - 1).toNat) (by omega)
      have ev : v.toInt = mp_gq T c h + T h.toNat := mp_add hv ha hz (by omega) (by omega)
      rw [ev, eg, show h.toNat = (h - 1).toNat + 1 by omega]
      show _ = (if c ((h - 1).toNat + 1) = c (h - 1).toNat then mp_gr T c (h - 1).toNat else 0) + T ((h - 1).toNat + 1)
      rw [← show h.toNat = (h - 1).toNat + 1 by omega, if_pos q2]
  exact ⟨key, key⟩
theorem mp_wqx_0 {T c : Nat → Int} (h : d ≤ 0) : mp_wqx T c d 0 := ⟨fun i hi => absurd hi (by omega), Or.inl rfl⟩
theorem mp_wqx_s {T c : Nat → Int} {h' w w2 : Int} (p : mp_wqx T c h w) (h0 : 0 ≤ h) (hw : (w ≤ w2 ∧ mp_gr T c h.toNat ≤ w2) ∧ (w2 = w ∨ w2 = mp_gr T c h.toNat)) (hh : h' = h + 1) : mp_wqx T c h' w2 := by
  subst hh
  obtain ⟨p1, p2⟩ := p
  refine ⟨fun i hi => ?_, ?_⟩
  · by_cases q : i = h.toNat
    · rw [q]; exact hw.1.2
    · exact Int.le_trans (p1 i (by omega)) hw.1.1
  · rcases hw.2 with e | e
    · rcases p2 with p2 | ⟨i, hi, p2⟩
      · exact Or.inl (e.trans p2)
      · exact Or.inr ⟨i, by omega, p2.trans e.symm⟩
    · exact Or.inr ⟨h.toNat, by omega, e.symm⟩
theorem mp_wqx_WR {w : Int} (hW : 1 ≤ W) (hD : 0 ≤ D ∧ D ≤ 1) (hd : 0 ≤ d ∧ d ≤ 10) (p : mp_tl t P D 1024) (q : mp_wqx (mp_tT t d) (mp_ce W) 12 w) : mp_WR P W D d.toNat w := by
  refine mp_WR_C (T := mp_tT t d) hW (fun i hi => ?_) (fun m hm => ?_) (fun h hh => q.1 h (by omega)) ?_
  · show (t (12 * d.toNat + i)).toInt = _
    rw [p _ (by omega), show (12 * d.toNat + i) / 12 = d.toNat by omega, show (12 * d.toNat + i) % 12 = i by omega]
  · have b := mp_hb_b (y := Int32.ofNat m) hD (d := d.toNat)
    show (mp_hb D (Int32.ofNat m) d.toNat).toNat ≤ 11
    omega
  · rcases q.2 with e | ⟨i, hi, e⟩
    · exact Or.inl e
    · exact Or.inr ⟨i, by omega, e⟩
end MPWJ
-- the reference's table of worths
def mp_tbx (bw wi : Nat → Int32) (P : Nat → Bool) (W D : Int) (d n : Nat) (k worst : Int) : Prop := (∀ i : Nat, (i : Int) < k → (bw i).toInt = mp_U P W D d (wi i).toInt n) ∧ (∀ m : Nat, m < n → P m = true → ∃ i : Nat, (i : Int) < k ∧ (wi i).toInt = mp_ce W (mp_hm D m d).toNat) ∧ (∀ i : Nat, (i : Int) < k → (bw i).toInt ≤ worst) ∧ (worst = 0 ∨ ∃ i : Nat, (i : Int) < k ∧ (bw i).toInt = worst)
section MPWK
variable {bw bw1 bw2 wi wi2 : Nat → Int32} {P : Nat → Bool} {W D k k2 worst w2 : Int} {d n : Nat} {y i is v z : Int32} {y' : Int}
theorem mp_U_s {v : Int} : mp_U P W D d v (n + 1) = if (P n && decide (mp_ce W (mp_hm D n d).toNat = v)) then mp_U P W D d v n + 1 else mp_U P W D d v n := rfl
theorem mp_U_le {v : Int} : ∀ {n : Nat}, mp_U P W D d v n ≤ (n : Int)
  | 0 => Int.le_refl _
  | n + 1 => by
    have g := mp_U_le (v := v) (n := n)
    rw [mp_U_s]
    by_cases q : (P n && decide (mp_ce W (mp_hm D n d).toNat = v)) = true
    · rw [if_pos q]; omega
    · rw [if_neg q]; omega
theorem mp_tbx_0 (h : k ≤ 0) : mp_tbx bw wi P W D d 0 k 0 := ⟨fun i hi => absurd hi (by omega), fun m hm => absurd hm (Nat.not_lt_zero m), fun i hi => absurd hi (by omega), Or.inl rfl⟩
theorem mp_tbx_f (p : mp_tbx bw wi P W D d y.toInt.toNat k worst) (hp : P y.toInt.toNat = false) (h0 : 0 ≤ y.toInt ∧ y' = y.toInt + 1) : mp_tbx bw wi P W D d y'.toNat k worst := by
  rw [show y'.toNat = y.toInt.toNat + 1 by omega]
  obtain ⟨p1, p2, p3, p4⟩ := p
  refine ⟨fun i hi => ?_, fun m hm q => ?_, p3, p4⟩
  · rw [mp_U_s, hp, Bool.false_and]; exact p1 i hi
  · by_cases e : m = y.toInt.toNat
    · rw [e, hp] at q; cases q
    · exact p2 m (by omega) q
/-- found at i -/
theorem mp_tbx_t (p : mp_tbx bw wi P W D d y.toInt.toNat k worst) (hp : P y.toInt.toNat = true) (h0 : 0 ≤ y.toInt ∧ y.toInt ≤ 1023 ∧ y' = y.toInt + 1) (dw : ∀ a b : Nat, a < b → (b : Int) < k → wi a ≠ wi b) (hi : 0 ≤ i.toInt ∧ i.toInt < k) (hw : wi i.toInt.toNat = is) (his : is.toInt = mp_ce W (mp_hb D y d).toNat) (hz : z = bw i.toNatClampNeg) (hv : v = z + 1) (hu : bw2 = upd bw i.toNatClampNeg v) (hm : (worst ≤ w2 ∧ v.toInt ≤ w2) ∧ (w2 = worst ∨ w2 = v.toInt)) : mp_tbx bw2 wi P W D d y'.toNat k w2 := by
  rw [show y'.toNat = y.toInt.toNat + 1 by omega]
  obtain ⟨p1, p2, p3, p4⟩ := p
  have ei : i.toNatClampNeg = i.toInt.toNat := rfl
  have ey : mp_hm D y.toInt.toNat d = mp_hb D y d := by unfold mp_hm; rw [mp_ofnat h0.1]
  have bi := p1 i.toInt.toNat (by omega)
  have ub := mp_U_le (P := P) (W := W) (D := D) (d := d) (v := (wi i.toInt.toNat).toInt) (n := y.toInt.toNat)
  have un := mp_U_0 (P := P) (W := W) (D := D) (d := d) (v := (wi i.toInt.toNat).toInt) (n := y.toInt.toNat)
  have ez : z.toInt = (bw i.toInt.toNat).toInt := by rw [hz, ei]
  have ev : v.toInt = z.toInt + 1 := mp_add hv rfl (show (1 : Int32).toInt = 1 from rfl) (by omega) (by omega)
  have b2 : ∀ j : Nat, bw2 j = if j = i.toInt.toNat then v else bw j := fun j => by rw [hu, ei]; rfl
  have ne : ∀ j : Nat, (j : Int) < k → j ≠ i.toInt.toNat → (wi j).toInt ≠ is.toInt := by
    intro j hj hne q
    have q2 : wi j = wi i.toInt.toNat := by rw [hw]; exact Int32.toInt_inj.mp q
    rcases Nat.lt_or_gt_of_ne hne with c | c
    · exact dw j _ c (by omega) q2
    · exact dw _ j c hj q2.symm
  refine ⟨fun j hj => ?_, fun m hm q => ?_, fun j hj => ?_, ?_⟩
  · rw [mp_U_s, hp, Bool.true_and, ey, b2 j]
    by_cases c : j = i.toInt.toNat
    · rw [if_pos c, c, hw, if_pos (decide_eq_true his.symm), ev, ez, bi, hw]
    · rw [if_neg c, if_neg (fun x => ne j hj c ((of_decide_eq_true x).symm.trans his.symm))]
      exact p1 j hj
  · by_cases e : m = y.toInt.toNat
    · exact ⟨i.toInt.toNat, by omega, by rw [hw, e, ey]; exact his⟩
    · exact p2 m (by omega) q
  · rw [b2 j]
    by_cases c : j = i.toInt.toNat
    · rw [if_pos c]; exact hm.1.2
    · rw [if_neg c]; exact Int.le_trans (p3 j hj) hm.1.1
  · rcases hm.2 with e | e
    · rcases p4 with p4 | ⟨j, hj, p4⟩
      · exact Or.inl (e.trans p4)
      · by_cases c : j = i.toInt.toNat
        · exfalso
          rw [c] at p4
          omega
        · exact Or.inr ⟨j, hj, by rw [b2 j, if_neg c]; exact p4.trans e.symm⟩
    · exact Or.inr ⟨i.toInt.toNat, by omega, by rw [b2, if_pos rfl]; exact e.symm⟩
/-- a new one, at k -/
theorem mp_tbx_n (p : mp_tbx bw wi P W D d y.toInt.toNat k worst) (hp : P y.toInt.toNat = true) (h0 : 0 ≤ y.toInt ∧ y.toInt ≤ 1023 ∧ y' = y.toInt + 1) (hk : i.toInt = k ∧ 0 ≤ k) (nf : ∀ a : Nat, (a : Int) < k → wi a ≠ is) (his : is.toInt = mp_ce W (mp_hb D y d).toNat) (hwi : wi2 = upd wi i.toNatClampNeg is) (hb1 : bw1 = upd bw i.toNatClampNeg 0) (hz : z = bw1 i.toNatClampNeg) (hv : v = z + 1) (hu : bw2 = upd bw1 i.toNatClampNeg v) (hm : (worst ≤ w2 ∧ v.toInt ≤ w2) ∧ (w2 = worst ∨ w2 = v.toInt)) (hk2 : k2 = k + 1) : mp_tbx bw2 wi2 P W D d y'.toNat k2 w2 := by
  rw [show y'.toNat = y.toInt.toNat + 1 by omega]
  subst hk2
  obtain ⟨p1, p2, p3, p4⟩ := p
  have ei : i.toNatClampNeg = i.toInt.toNat := rfl
  have ey : mp_hm D y.toInt.toNat d = mp_hb D y d := by unfold mp_hm; rw [mp_ofnat h0.1]
  have ez : z = 0 := by rw [hz, hb1, ei]; exact if_pos rfl
  have ev : v.toInt = 1 := by rw [hv, ez]; rfl
  have b2 : ∀ j : Nat, bw2 j = if j = i.toInt.toNat then v else bw j := by
    intro j
    rw [hu, hb1, ei]
    show (if j = i.toInt.toNat then v else (if j = i.toInt.toNat then 0 else bw j)) = _
    by_cases c : j = i.toInt.toNat
    · rw [if_pos c, if_pos c]
    · rw [if_neg c, if_neg c, if_neg c]
  have w2e : ∀ j : Nat, wi2 j = if j = i.toInt.toNat then is else wi j := fun j => by rw [hwi, ei]; rfl
  have z0 : mp_U P W D d is.toInt y.toInt.toNat = 0 := by
    have key : ∀ n : Nat, n ≤ y.toInt.toNat → mp_U P W D d is.toInt n = 0 := by
      intro n
      induction n with
      | zero => intro _; rfl
      | succ n ih =>
        intro hn
        rw [mp_U_s, ih (by omega)]
        by_cases q : (P n && decide (mp_ce W (mp_hm D n d).toNat = is.toInt)) = true
        · exfalso
          rw [Bool.and_eq_true, decide_eq_true_eq] at q
          obtain ⟨a, ha, e⟩ := p2 n (by omega) q.1
          exact nf a ha (Int32.toInt_inj.mp (e.trans q.2))
        · rw [if_neg q]
    exact key _ (Nat.le_refl _)
  refine ⟨fun j hj => ?_, fun m hm q => ?_, fun j hj => ?_, ?_⟩
  · rw [mp_U_s, hp, Bool.true_and, ey, b2 j, w2e j]
    by_cases c : j = i.toInt.toNat
    · rw [if_pos c, if_pos c, if_pos (decide_eq_true his.symm), z0, ev]; rfl
    · rw [if_neg c, if_neg c, if_neg (fun x => nf j (by omega) (Int32.toInt_inj.mp ((of_decide_eq_true x).symm.trans his.symm)))]
      exact p1 j (by omega)
  · by_cases e : m = y.toInt.toNat
    · exact ⟨i.toInt.toNat, by omega, by rw [w2e, if_pos rfl, e, ey]; exact his⟩
    · obtain ⟨a, ha, g⟩ := p2 m (by omega) q
      exact ⟨a, by omega, by rw [w2e, if_neg (by omega)]; exact g⟩
  · rw [b2 j]
    by_cases c : j = i.toInt.toNat
    · rw [if_pos c]; exact hm.1.2
    · rw [if_neg c]; exact Int.le_trans (p3 j (by omega)) hm.1.1
  · rcases hm.2 with e | e
    · rcases p4 with p4 | ⟨j, hj, p4⟩
      · exact Or.inl (e.trans p4)
      · exact Or.inr ⟨j, by omega, by rw [b2 j, if_neg (by omega)]; exact p4.trans e.symm⟩
    · exact Or.inr ⟨i.toInt.toNat, by omega, by rw [b2, if_pos rfl]; exact e.symm⟩
theorem mp_tbx_WR (p : mp_tbx bw wi P W D d 1024 k worst) : mp_WR P W D d worst := by
  obtain ⟨p1, p2, p3, p4⟩ := p
  have w0 : 0 ≤ worst := by
    rcases p4 with p4 | ⟨i, hi, p4⟩
    · rw [p4]; exact Int.le_refl _
    · rw [← p4, p1 i hi]; exact mp_U_0
  refine ⟨fun v => ?_, ?_⟩
  · by_cases q : ∃ i : Nat, (i : Int) < k ∧ (wi i).toInt = v
    · obtain ⟨i, hi, e⟩ := q
      rw [← e, ← p1 i hi]; exact p3 i hi
    · have key : ∀ n : Nat, n ≤ 1024 → mp_U P W D d v n = 0 := by
        intro n
        induction n with
        | zero => intro _; rfl
        | succ n ih =>
          intro hn
          rw [mp_U_s, ih (by omega)]
          by_cases c : (P n && decide (mp_ce W (mp_hm D n d).toNat = v)) = true
          · exfalso
            rw [Bool.and_eq_true, decide_eq_true_eq] at c
            obtain ⟨a, ha, e⟩ := p2 n (by omega) c.1
            exact q ⟨a, ha, e.trans c.2⟩
          · rw [if_neg c]
      rw [key 1024 (Nat.le_refl _)]; exact w0
  · rcases p4 with p4 | ⟨i, hi, p4⟩
    · exact Or.inl p4
    · exact Or.inr ⟨(wi i).toInt, by rw [← p1 i hi]; exact p4⟩
end MPWK
def mp_BMr (P : Nat → Bool) (W D S N r : Int) : Prop := ∃ least : Int, mp_BM P W D S N 10 r least
theorem mp_BMr_c {P Q : Nat → Bool} {W D S N r : Int} (h : mp_BMr P W D S N r) (hp : ∀ j : Nat, j < 1024 → P j = Q j) (eN : N = mp_wN P 1024) : mp_BMr Q W D S (mp_wN Q 1024) r := by
  obtain ⟨l, h⟩ := h
  rw [eN, (mp_wN_cong (n := 1024) hp).1] at h
  exact ⟨l, mp_BM_cong hp h⟩
theorem mp_BMr_det {P : Nat → Bool} {W D S N r r2 : Int} (h : mp_BMr P W D S N r) (h2 : mp_BMr P W D S N r2) : r = r2 := by
  obtain ⟨l, h⟩ := h
  obtain ⟨l2, h2⟩ := h2
  exact (mp_BM_det h h2).1
