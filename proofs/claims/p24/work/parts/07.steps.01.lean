theorem mp_oncx_2 {tr once sd y z y2 r : Int32} {d m : Int} (hy : y = sd ^^^ -1) (hz : z = once &&& y) (c : z.toInt = 0) (hy2 : y2 = sd ^^^ -1) (hr : r = tr &&& y2) (cr : r.toInt = 0 ∨ d = -1 ∨ m ≤ d) : r = mp_oncx tr once sd d m := by
  unfold mp_oncx
  have e : z = 0 := Int32.toInt_inj.mp c
  rw [← hy, ← hz, if_neg (fun q => q e), hy, ← hy2, ← hr, if_neg ?_]
  rintro ⟨q1, q2, q3⟩
  rcases cr with q | q | q
  · exact q1 (Int32.toInt_inj.mp q)
  · exact q2 q
  · omega
theorem mp_oncx_3 {tr once sd y z y2 r : Int32} {d m : Int} (hy : y = sd ^^^ -1) (hz : z = once &&& y) (c : z.toInt = 0) (hy2 : y2 = sd ^^^ -1) (hr : r = tr &&& y2) (c1 : r.toInt ≠ 0) (c2 : d ≠ -1) (c3 : d < m) : (-1 : Int32) = mp_oncx tr once sd d m := by
  unfold mp_oncx
  have e : z = 0 := Int32.toInt_inj.mp c
  rw [← hy, ← hz, if_neg (fun q => q e), hy, ← hy2, ← hr, if_pos ⟨fun q => c1 (by rw [q]; rfl), c2, c3⟩]
-- the table of plans
/-- sea, isShut, person, promise, where, has; tracked; planner -/
abbrev mp_PX : Type := ((Nat → Int32) × (Nat → Int32) × (Nat → Int32) × (Nat → Int32) × (Nat → Int32) × (Nat → Int32)) × Int32 × Int
def mp_pd (c : mp_PX) : Int := (c.1.2.2.1 (3 * c.2.2.toNat + 1)).toInt
def mp_oarv (c : mp_PX) (i to m : Int) : Int := if i = to then 0 else if mp_seax i to (c.1.1 (6 * i.toNat + to.toNat)).toInt (mp_pd c) m (c.1.2.1 (100 * i.toNat + m.toNat)).toInt (c.1.2.1 (100 * to.toNat + m.toNat)).toInt then (c.1.1 (6 * i.toNat + to.toNat)).toInt else 1000000
def mp_sdv (c : mp_PX) (i m : Int) : Int32 := mp_sdx c.2.1 c.1.2.2.2.1 c.1.2.2.2.2.1 c.1.2.2.1 c.2.2 i m (c.1.2.2.2.2.2 3).toInt.toNat
def mp_oncv (c : mp_PX) (once : Int32) (i m : Int) : Int32 := mp_oncx c.2.1 once (mp_sdv c i m) (mp_pd c) m
def mp_resv (c : mp_PX) (i m : Int) : Int32 := c.2.1 &&& (mp_sdv c i m ^^^ -1)
theorem mp_oarv_of {c : mp_PX} {i to m r : Int} (x : (i = to ∧ r = 0) ∨ (i ≠ to ∧ mp_seax i to (c.1.1 (6 * i.toNat + to.toNat)).toInt (mp_pd c) m (c.1.2.1 (100 * i.toNat + m.toNat)).toInt (c.1.2.1 (100 * to.toNat + m.toNat)).toInt ∧ r = (c.1.1 (6 * i.toNat + to.toNat)).toInt) ∨ (i ≠ to ∧ ¬ mp_seax i to (c.1.1 (6 * i.toNat + to.toNat)).toInt (mp_pd c) m (c.1.2.1 (100 * i.toNat + m.toNat)).toInt (c.1.2.1 (100 * to.toNat + m.toNat)).toInt ∧ r = 1000000)) : r = mp_oarv c i to m := by
  unfold mp_oarv
  rcases x with ⟨a, b⟩ | ⟨a, b, d⟩ | ⟨a, b, d⟩
  · rw [if_pos a, b]
  · rw [if_neg a, if_pos b, d]
  · rw [if_neg a, if_neg b, d]
theorem mp_oarv_nn (c : mp_PX) (i to m : Int) : 0 ≤ mp_oarv c i to m := by
  unfold mp_oarv
  split
  · omega
  · split
    · rename_i h; exact Int.le_of_lt h.2.1
    · omega
theorem mp_oncv_val {c : mp_PX} {once : Int32} {i m : Int} (h : mp_oncv c once i m ≠ -1) : mp_oncv c once i m = mp_resv c i m := by
  unfold mp_oncv mp_oncx at h ⊢
  unfold mp_resv
  split at h
  · exact absurd rfl h
  · rename_i h1
    rw [if_neg h1]
    split at h
    · exact absurd rfl h
    · rename_i h2
      rw [if_neg h2]
def mp_stp (c : mp_PX) (mo : Int) (f : Nat → Int32) (n i : Nat) (once : Int32) (to : Nat) : Prop := mp_oarv c i to (mo + n + 1) < 1000000 ∧ mp_oncv c once to (mo + n + 1) ≠ -1 ∧ (f (6 * (n + 1) + to)).toInt + mp_oarv c i to (mo + n + 1) = (f (6 * n + i)).toInt
def mp_good (c : mp_PX) (mo N I : Int) (f : Nat → Int32) (n i : Nat) (once : Int32) : Prop := 0 ≤ (f (6 * n + i)).toInt ∧ (f (6 * n + i)).toInt ≤ 1000000 ∧ ((n : Int) < N → ((f (6 * n + i)).toInt < 1000000 → ∃ to : Nat, (to : Int) < I ∧ mp_stp c mo f n i once to) ∧ ∀ to : Nat, (to : Int) < I → mp_oarv c i to (mo + n + 1) < 1000000 → mp_oncv c once to (mo + n + 1) ≠ -1 → 0 ≤ (f (6 * (n + 1) + to)).toInt)
def mp_allg (c : mp_PX) (mo N I : Int) (f : Nat → Int32) (n : Nat) : Prop := ∀ m i : Nat, n ≤ m → (m : Int) ≤ N → i < 6 → 0 ≤ (f (6 * m + i)).toInt → mp_good c mo N I f m i (mp_resv c i (mo + m))
def mp_fr (f g : Nat → Int32) (n i : Nat) : Prop := (∀ j, j < 6 * n + 6 → j ≠ 6 * n + i → g j = f j) ∧ ∀ j, 6 * n + 6 ≤ j → 0 ≤ (f j).toInt → g j = f j
def mp_GP (c : mp_PX) (mo N I : Int) (f g : Nat → Int32) (n i : Nat) (once : Int32) : Prop := mp_good c mo N I g n i once ∧ mp_allg c mo N I g (n + 1) ∧ mp_fr f g n i
def mp_LG (c : mp_PX) (mo N I : Int) (f g : Nat → Int32) (n i : Nat) (once : Int32) (t : Int) : Prop := mp_allg c mo N I g (n + 1) ∧ (0 ≤ (g (6 * n + i)).toInt ∧ (g (6 * n + i)).toInt ≤ 1000000) ∧ ((g (6 * n + i)).toInt < 1000000 → ∃ to : Nat, (to : Int) < t ∧ (to : Int) < I ∧ mp_stp c mo g n i once to) ∧ (∀ to : Nat, (to : Int) < t → (to : Int) < I → mp_oarv c i to (mo + n + 1) < 1000000 → mp_oncv c once to (mo + n + 1) ≠ -1 → 0 ≤ (g (6 * (n + 1) + to)).toInt) ∧ mp_fr f g n i
theorem mp_stp_cong {c : mp_PX} {mo : Int} {f g : Nat → Int32} {n i : Nat} {once : Int32} {to : Nat} (h1 : g (6 * (n + 1) + to) = f (6 * (n + 1) + to)) (h2 : g (6 * n + i) = f (6 * n + i)) (h : mp_stp c mo f n i once to) : mp_stp c mo g n i once to := by
  unfold mp_stp at h ⊢
  rw [h1, h2]; exact h
theorem mp_good_cong {c : mp_PX} {mo N I : Int} {f g : Nat → Int32} {n i : Nat} {once : Int32} (he : ∀ j, 6 * n ≤ j → g j = f j) (h : mp_good c mo N I f n i once) : mp_good c mo N I g n i once := by
  unfold mp_good at h ⊢
  rw [he (6 * n + i) (by omega)]
  refine ⟨h.1, h.2.1, fun hn => ⟨fun hl => ?_, fun to h1 h2 h3 => ?_⟩⟩
  · obtain ⟨to, h1, h2⟩ := (h.2.2 hn).1 hl
    exact ⟨to, h1, mp_stp_cong (he _ (by omega)) (he _ (by omega)) h2⟩
  · rw [he _ (by omega)]; exact (h.2.2 hn).2 to h1 h2 h3
theorem mp_allg_cong {c : mp_PX} {mo N I : Int} {f g : Nat → Int32} {n : Nat} (he : ∀ j, 6 * n ≤ j → g j = f j) (h : mp_allg c mo N I f n) : mp_allg c mo N I g n := by
  intro m i h1 h2 h3 h4
  rw [he _ (by omega)] at h4
  exact mp_good_cong (fun j hj => he j (by omega)) (h m i h1 h2 h3 h4)
theorem mp_fr_st {f g g' : Nat → Int32} {n i : Nat} {k v : Int32} (p : mp_fr f g n i) (h : g' = upd g k.toNatClampNeg v) (hk : k.toInt = 6 * n + i) (hi : i < 6) : mp_fr f g' n i ∧ g' (6 * n + i) = v ∧ ∀ j, j ≠ 6 * n + i → g' j = g j := by
  have e : k.toNatClampNeg = 6 * n + i := by show k.toInt.toNat = _; omega
  have e1 : g' (6 * n + i) = v := by rw [h, e]; simp [upd]
  have e2 : ∀ j, j ≠ 6 * n + i → g' j = g j := fun j hj => by rw [h, e]; simp only [upd]; rw [if_neg hj]
  exact ⟨⟨fun j h1 h2 => (e2 j h2).trans (p.1 j h1 h2), fun j h1 h2 => (e2 j (by omega)).trans (p.2 j h1 h2)⟩, e1, e2⟩
theorem mp_fr_rfl {f : Nat → Int32} {n i : Nat} : mp_fr f f n i := ⟨fun _ _ _ => rfl, fun _ _ _ => rfl⟩
theorem mp_LG_0 {c : mp_PX} {mo N I : Int} {f g : Nat → Int32} {n i : Nat} {once k v : Int32} {t : Int} (p : mp_allg c mo N I f (n + 1)) (h : g = upd f k.toNatClampNeg v) (hk : k.toInt = 6 * n + i) (hi : i < 6) (hv : v.toInt = 1000000) (ht : t = 0) : mp_LG c mo N I f g n i once t := by
  obtain ⟨a, b, d⟩ := mp_fr_st mp_fr_rfl h hk hi
  refine ⟨mp_allg_cong (fun j hj => d j (by omega)) p, by rw [b]; omega, fun q => ?_, fun to h1 => by omega, a⟩
  rw [b] at q; omega
theorem mp_LG_mono {c : mp_PX} {mo N I : Int} {f g : Nat → Int32} {n i : Nat} {once : Int32} {t t' : Int} (p : mp_LG c mo N I f g n i once t) (ht : t' = t + 1) (hs : ∀ to : Nat, (to : Int) = t → (to : Int) < I → mp_oarv c i to (mo + n + 1) < 1000000 → mp_oncv c once to (mo + n + 1) ≠ -1 → 0 ≤ (g (6 * (n + 1) + to)).toInt) : mp_LG c mo N I f g n i once t' := by
  obtain ⟨p1, p2, p3, p4, p5⟩ := p
  refine ⟨p1, p2, fun q => ?_, fun to h1 h2 h3 h4 => ?_, p5⟩
  · obtain ⟨to, h1, h2, h3⟩ := p3 q
    exact ⟨to, by omega, h2, h3⟩
  · by_cases q : (to : Int) < t
    · exact p4 to q h2 h3 h4
    · exact hs to (by omega) h2 h3 h4
theorem mp_LG_rec {c : mp_PX} {mo N I : Int} {f g g' : Nat → Int32} {n i t : Nat} {once then_ : Int32} {T : Int} (p : mp_LG c mo N I f g n i once T) (q : mp_GP c mo N I g g' (n + 1) t then_) (hT : T = t) (ht : t < 6) (hi : i < 6) (hthen : then_ = mp_resv c t (mo + n + 1)) (hneg : (g (6 * (n + 1) + t)).toInt < 0) : mp_LG c mo N I f g' n i once T ∧ 0 ≤ (g' (6 * (n + 1) + t)).toInt ∧ (g' (6 * (n + 1) + t)).toInt ≤ 1000000 := by
  obtain ⟨p1, p2, p3, p4, p5⟩ := p
  obtain ⟨q1, q2, q3⟩ := q
  have e0 : g' (6 * n + i) = g (6 * n + i) := q3.1 _ (by omega) (by omega)
  have eL : ∀ to : Nat, 0 ≤ (g (6 * (n + 1) + to)).toInt → g' (6 * (n + 1) + to) = g (6 * (n + 1) + to) := by
    intro to h
    by_cases h6 : to < 6
    · exact q3.1 _ (by omega) (fun e => by
        have : to = t := by omega
        subst this; omega)
    · exact q3.2 _ (by omega) h
  refine ⟨⟨?_, by rw [e0]; exact p2, ?_, ?_, ?_⟩, q1.1, q1.2.1⟩
  · intro m j h1 h2 h3 h4
    by_cases hm : m = n + 1
    · subst hm
      by_cases hj : j = t
      · subst hj
        have e : mp_resv c j (mo + ((n + 1 : Nat) : Int)) = then_ := by rw [hthen]; congr 1; omega
        rw [e]; exact q1
      · have ej : g' (6 * (n + 1) + j) = g (6 * (n + 1) + j) := q3.1 _ (by omega) (by omega)
        rw [ej] at h4
        have hg := p1 (n + 1) j (Nat.le_refl _) h2 h3 h4
        unfold mp_good at hg ⊢
        rw [ej]
        refine ⟨hg.1, hg.2.1, fun hn => ?_⟩
        have hb := (hg.2.2 hn).2
        have ek : ∀ to : Nat, 0 ≤ (g (6 * (n + 1 + 1) + to)).toInt → g' (6 * (n + 1 + 1) + to) = g (6 * (n + 1 + 1) + to) := fun to h => q3.2 _ (by omega) h
        refine ⟨fun hl => ?_, fun to a1 a2 a3 => ?_⟩
        · obtain ⟨to, a1, a2⟩ := (hg.2.2 hn).1 hl
          exact ⟨to, a1, mp_stp_cong (ek to (hb to a1 a2.1 a2.2.1)) ej a2⟩
        · rw [ek to (hb to a1 a2 a3)]; exact hb to a1 a2 a3
    · exact q2 m j (by omega) h2 h3 h4
  · intro hl
    rw [e0] at hl
    obtain ⟨to, a1, a2, a3⟩ := p3 hl
    exact ⟨to, a1, a2, mp_stp_cong (eL to (p4 to a1 a2 a3.1 a3.2.1)) e0 a3⟩
  · intro to a1 a2 a3 a4
    rw [eL to (p4 to a1 a2 a3 a4)]; exact p4 to a1 a2 a3 a4
  · refine ⟨fun j h1 h2 => ?_, fun j h1 h2 => ?_⟩
    · rw [q3.1 j (by omega) (by omega)]; exact p5.1 j h1 h2
    · have e1 := p5.2 j h1 h2
      by_cases hj : j < 6 * (n + 1) + 6
      · rw [q3.1 j hj (fun e => by subst e; rw [e1] at hneg; omega)]; exact e1
      · rw [q3.2 j (by omega) (by rw [e1]; exact h2)]; exact e1
theorem mp_LG_bd {c : mp_PX} {mo N I : Int} {f g : Nat → Int32} {n i t : Nat} {once : Int32} {T : Int} (p : mp_LG c mo N I f g n i once T) (hN : ((n : Int) + 1) ≤ N) (ht : t < 6) (h : 0 ≤ (g (6 * (n + 1) + t)).toInt) : (g (6 * (n + 1) + t)).toInt ≤ 1000000 := (p.1 (n + 1) t (Nat.le_refl _) (by omega) ht h).2.1
theorem mp_LG_min {c : mp_PX} {mo N I : Int} {f g g' : Nat → Int32} {n i t : Nat} {once k v : Int32} {T T' : Int} (p : mp_LG c mo N I f g n i once T) (h : g' = upd g k.toNatClampNeg v) (hk : k.toInt = 6 * n + i) (hi : i < 6) (hT : T = t) (hT' : T' = T + 1) (htI : (t : Int) < I) (h0 : 0 ≤ (g (6 * (n + 1) + t)).toInt) (ho : mp_oarv c i t (mo + n + 1) < 1000000) (hc : mp_oncv c once t (mo + n + 1) ≠ -1) (hv : v.toInt = (g (6 * (n + 1) + t)).toInt + mp_oarv c i t (mo + n + 1)) (hl : v.toInt < (g (6 * n + i)).toInt) : mp_LG c mo N I f g' n i once T' := by
  obtain ⟨p1, p2, p3, p4, p5⟩ := p
  obtain ⟨a, b, d⟩ := mp_fr_st p5 h hk hi
  have hnn := mp_oarv_nn c i t (mo + n + 1)
  have eL : ∀ to : Nat, g' (6 * (n + 1) + to) = g (6 * (n + 1) + to) := fun to => d _ (by omega)
  refine ⟨mp_allg_cong (fun j hj => d j (by omega)) p1, by rw [b]; omega, fun _ => ⟨t, by omega, htI, ho, hc, ?_⟩, fun to a1 a2 a3 a4 => ?_, a⟩
  · rw [eL, b]; omega
  · rw [eL]
    by_cases q : (to : Int) < T
    · exact p4 to q a2 a3 a4
    · have : to = t := by omega
      subst this; exact h0
theorem mp_LG_end {c : mp_PX} {mo N I : Int} {f g : Nat → Int32} {n i : Nat} {once : Int32} {T : Int} (p : mp_LG c mo N I f g n i once T) (hI : I ≤ T) : mp_GP c mo N I f g n i once := by
  obtain ⟨p1, p2, p3, p4, p5⟩ := p
  refine ⟨⟨p2.1, p2.2, fun _ => ⟨fun hl => ?_, fun to h1 h2 h3 => p4 to (by omega) h1 h2 h3⟩⟩, p1, p5⟩
  obtain ⟨to, _, h2, h3⟩ := p3 hl
  exact ⟨to, h2, h3⟩
theorem mp_GP_last {c : mp_PX} {mo N I : Int} {f g g' : Nat → Int32} {n i : Nat} {once k k' v v' : Int32} (p : mp_allg c mo N I f (n + 1)) (h : g = upd f k.toNatClampNeg v) (hk : k.toInt = 6 * n + i) (h' : g' = upd g k'.toNatClampNeg v') (hk' : k'.toInt = 6 * n + i) (hi : i < 6) (hv : v'.toInt = 0) (hN : N = n) : mp_GP c mo N I f g' n i once := by
  obtain ⟨a, b, d⟩ := mp_fr_st mp_fr_rfl h hk hi
  obtain ⟨a', b', d'⟩ := mp_fr_st a h' hk' hi
  refine ⟨⟨by rw [b']; omega, by rw [b']; omega, fun hn => by omega⟩, mp_allg_cong (fun j hj => (d' j (by omega)).trans (d j (by omega))) p, a'⟩
theorem mp_LG_skip {c : mp_PX} {mo N I : Int} {f g : Nat → Int32} {n i : Nat} {once : Int32} {t t' : Int} {T : Nat} (p : mp_LG c mo N I f g n i once t) (hT : t = T) (ht : t' = t + 1) (hs : ¬ (mp_oarv c i T (mo + n + 1) < 1000000 ∧ mp_oncv c once T (mo + n + 1) ≠ -1)) : mp_LG c mo N I f g n i once t' :=
  mp_LG_mono p ht (fun to h1 _ h3 h4 => by
    have : to = T := by omega
    subst this; exact absurd ⟨h3, h4⟩ hs)
theorem mp_LG_next {c : mp_PX} {mo N I : Int} {f g : Nat → Int32} {n i : Nat} {once : Int32} {t t' : Int} {T : Nat} (p : mp_LG c mo N I f g n i once t) (hT : t = T) (ht : t' = t + 1) (h0 : 0 ≤ (g (6 * (n + 1) + T)).toInt) : mp_LG c mo N I f g n i once t' :=
  mp_LG_mono p ht (fun to h1 _ _ _ => by
    have : to = T := by omega
    subst this; exact h0)
/-- the walk along the table: at step k on isle i, what is owed there -/
def mp_PW (c : mp_PX) (mo N I : Int) (f : Nat → Int32) (k i : Nat) (once : Int32) : Prop := mp_good c mo N I f k i once ∧ mp_allg c mo N I f (k + 1) ∧ (f (6 * k + i)).toInt < 1000000 ∧ i < 6
theorem mp_PW_ex {c : mp_PX} {mo N I : Int} {f : Nat → Int32} {k i : Nat} {once : Int32} (p : mp_PW c mo N I f k i once) (hk : (k : Int) < N) : ∃ to : Nat, (to : Int) < I ∧ mp_stp c mo f k i once to := (p.1.2.2 hk).1 p.2.2.1
theorem mp_PW_s {c : mp_PX} {mo N I : Int} {f : Nat → Int32} {k i to : Nat} {once once' : Int32} (p : mp_PW c mo N I f k i once) (hk : (k : Int) < N) (hI : (to : Int) < I) (h6 : to < 6) (hs : mp_stp c mo f k i once to) (ho : once' = mp_oncv c once to (mo + k + 1)) : mp_PW c mo N I f (k + 1) to once' := by
  obtain ⟨p1, p2, p3, p4⟩ := p
  have hv := (p1.2.2 hk).2 to hI hs.1 hs.2.1
  have hnn := mp_oarv_nn c i to (mo + k + 1)
  have e := mp_oncv_val hs.2.1
  have hg := p2 (k + 1) to (Nat.le_refl _) (by omega) h6 hv
  have e2 : mp_resv c to (mo + ((k + 1 : Nat) : Int)) = once' := by rw [ho, e]; congr 1; omega
  rw [e2] at hg
  refine ⟨hg, fun m j h1 => p2 m j (by omega), ?_, h6⟩
  have := hs.2.2
  omega
theorem mp_allg_none {c : mp_PX} {mo N I : Int} {f : Nat → Int32} {n : Nat} (h : ∀ j, j < 78 → (f j).toInt = -1) (hN : N ≤ 12) : mp_allg c mo N I f n := by
  intro m i h1 h2 h3 h4
  have := h (6 * m + i) (by omega)
  omega
theorem mp_LG_allg {c : mp_PX} {mo N I : Int} {f g : Nat → Int32} {n i m : Nat} {once : Int32} {t : Int} (p : mp_LG c mo N I f g n i once t) (h : n + 1 ≤ m) : mp_allg c mo N I g m := fun a b h1 => p.1 a b (by omega)
theorem mp_lowbit {x o y z : Int32} (h : y = x - o) (h2 : z = x &&& y) (ho : o = 1 := by rfl) : x.toInt = 0 ∨ (z.toUInt32.toNat : Int) < (x.toUInt32.toNat : Int) := by
  by_cases q : x.toUInt32.toNat = 0
  · left
    have : x = 0 := by
      have h3 : x.toUInt32 = 0 := UInt32.toNat_inj.mp q
      cases x with | ofUInt32 u => exact congrArg Int32.ofUInt32 h3
    rw [this]; rfl
  · right
    subst ho
    have e1 : y.toUInt32.toNat = x.toUInt32.toNat - 1 := by
      have hl : x.toUInt32.toNat < 2 ^ 32 := x.toUInt32.toNat_lt
      have : y.toUInt32 = x.toUInt32 - 1 := by rw [h]; rfl
      rw [this, UInt32.toNat_sub]
      have h1 : (1 : UInt32).toNat = 1 := rfl
      rw [h1]
      omega
    have e2 : z.toUInt32.toNat = x.toUInt32.toNat &&& y.toUInt32.toNat := by
      have : z.toUInt32 = x.toUInt32 &&& y.toUInt32 := by rw [h2]; rfl
      rw [this, UInt32.toNat_and]
    have e3 : x.toUInt32.toNat &&& y.toUInt32.toNat ≤ y.toUInt32.toNat := Nat.and_le_right
    omega
theorem mp_shl10 {o k z : Int32} (h : z = o <<< (k &&& 31)) (h0 : 0 ≤ k.toInt) (h1 : k.toInt ≤ 9) (ho : o = 1 := by rfl) : 1 ≤ z.toInt ∧ z.toInt ≤ 512 := by
  subst ho
  have key : ∀ n : Fin 10, 1 ≤ ((1 : Int32) <<< ((Int32.ofNat n.1) &&& 31)).toInt ∧ ((1 : Int32) <<< ((Int32.ofNat n.1) &&& 31)).toInt ≤ 512 := by decide
  have e : k = Int32.ofNat k.toInt.toNat := (mp_ofnat (by omega)).symm
  have := key ⟨k.toInt.toNat, by omega⟩
  rw [h, e]
  exact this
theorem mp_or10 {x y z : Int32} (h : z = x ||| y) (a : 0 ≤ x.toInt ∧ x.toInt ≤ 1023) (b : 0 ≤ y.toInt ∧ y.toInt ≤ 1023) : 0 ≤ z.toInt ∧ z.toInt ≤ 1023 := by
  have t : ∀ v : Int32, 0 ≤ v.toInt → v.toInt = (v.toUInt32.toNat : Int) := by
    intro v hv
    have h1 : v.toInt = v.toBitVec.toInt := rfl
    have h2 : v.toUInt32.toNat = v.toBitVec.toNat := rfl
    rw [h1] at hv ⊢
    rw [h2]
    have := BitVec.toInt_eq_toNat_cond v.toBitVec
    have hl := v.toBitVec.isLt
    split at this <;> omega
  have e2 : z.toUInt32.toNat = x.toUInt32.toNat ||| y.toUInt32.toNat := by
    have : z.toUInt32 = x.toUInt32 ||| y.toUInt32 := by rw [h]; rfl
    rw [this, UInt32.toNat_or]
  have hx := t x a.1; have hy := t y b.1
  have e3 : x.toUInt32.toNat ||| y.toUInt32.toNat < 2 ^ 10 := Nat.or_lt_two_pow (by omega) (by omega)
  have hz : z.toInt = (z.toUInt32.toNat : Int) := by
    have h1 : z.toInt = z.toBitVec.toInt := rfl
    have h2 : z.toUInt32.toNat = z.toBitVec.toNat := rfl
    have := BitVec.toInt_eq_toNat_cond z.toBitVec
    split at this <;> omega
  omega
def mp_wn (f : Nat → Int64) (slot n said : Int) : Prop := ∀ j : Nat, (j : Int) % 2 = 0 → (j : Int) < n → said ≤ (f (60 * slot.toNat + j)).toInt ∧ (f (60 * slot.toNat + j)).toInt ≤ said + 10
theorem mp_wn_0 {f : Nat → Int64} {slot n said : Int} (h : n ≤ 0) : mp_wn f slot n said := fun j _ hj => by omega
theorem mp_wn_le {f : Nat → Int64} {slot n m said : Int} (p : mp_wn f slot m said) (h : n ≤ m) : mp_wn f slot n said := fun j q hj => p j q (by omega)
theorem mp_wn_ld {f : Nat → Int64} {slot n i said : Int} {z : Int64} {k : Int32} (p : mp_wn f slot n said) (h : z = f k.toNatClampNeg) (hk : k.toInt = 60 * slot + i) (h0 : 0 ≤ slot) (hi : 0 ≤ i) (hin : i < n) (hp : i % 2 = 0) : said ≤ z.toInt ∧ z.toInt ≤ said + 10 := by
  have e : k.toNatClampNeg = 60 * slot.toNat + i.toNat := by simp only [Int32.toNatClampNeg]; omega
  rw [h, e]
  exact p i.toNat (by omega) (by omega)
theorem mp_wn_s {f : Nat → Int64} {slot n i said : Int} {z : Int64} {k : Int32} (p : mp_wn f slot i said) (h : z = f k.toNatClampNeg) (hk : k.toInt = 60 * slot + i) (h0 : 0 ≤ slot) (hi : 0 ≤ i) (hz : said ≤ z.toInt ∧ z.toInt ≤ said + 10) (hn : n = i + 2) (hp : i % 2 = 0) : mp_wn f slot n said := by
  intro j q hj
  by_cases e : (j : Int) < i
  · exact p j q e
  · have : j = i.toNat := by omega
    have e2 : k.toNatClampNeg = 60 * slot.toNat + i.toNat := by simp only [Int32.toNatClampNeg]; omega
    rw [this, ← e2, ← h]
    exact hz
theorem mp_m1_0 {f : Nat → Int32} {n : Int} (h : n ≤ 0) : ∀ j : Nat, (j : Int) < n → (f j).toInt = -1 := fun j hj => by omega
theorem mp_m1_s {f g : Nat → Int32} {n m : Int} {k v : Int32} (p : ∀ j : Nat, (j : Int) < n → (f j).toInt = -1) (h : g = upd f k.toNatClampNeg v) (hk : 0 ≤ k.toInt ∧ m = n + 1 := by omega) (hn : k.toInt = n := by omega) (hv : v.toInt = -1 := by decide) : ∀ j : Nat, (j : Int) < m → (g j).toInt = -1 := by
  intro j hj
  by_cases e : (j : Int) < n
  · have : j ≠ k.toNatClampNeg := by simp only [Int32.toNatClampNeg]; omega
    rw [h]
    simp only [upd, if_neg this]
    exact p j e
  · have : j = k.toNatClampNeg := by simp only [Int32.toNatClampNeg]; omega
    rw [h, this]
    simp only [upd, if_pos]
    exact hv
theorem mp_GP_0 {c : mp_PX} {mo N I : Int} {f g : Nat → Int32} {n i w : Nat} {once : Int32} (p : mp_GP c mo N I f g n i once) (hn : n = 0) (hi : i = w) : mp_good c mo N I g 0 w once ∧ mp_allg c mo N I g 1 := by
  subst hn hi
  exact ⟨p.1, p.2.1⟩
theorem mp_PW_0 {c : mp_PX} {mo N I r : Int} {f : Nat → Int32} {i j k : Nat} {o o' : Int32} (hg : mp_good c mo N I f 0 i o) (ha : mp_allg c mo N I f 1) (ho : o' = o) (hr : r = (f i).toInt) (hl : r < 1000000) (hi : i < 6) (hj : j = i) (hk : k = 0) : mp_PW c mo N I f k j o' := by
  subst hk hj ho
  refine ⟨hg, ha, ?_, hi⟩
  rw [Nat.mul_zero, Nat.zero_add]
  omega
theorem mp_PW_to {c : mp_PX} {mo N I to : Int} {f : Nat → Int32} {k i : Nat} {once : Int32} (p : mp_PW c mo N I f k i once) (hk : (k : Int) < N) (x : ∀ t : Nat, (t : Int) < to → ¬ mp_stp c mo f k i once t) : to < I := by
  obtain ⟨t, h1, h2⟩ := mp_PW_ex p hk
  by_cases q : (t : Int) < to
  · exact absurd h2 (x t q)
  · omega
theorem mp_PW_bd {c : mp_PX} {mo N I : Int} {f : Nat → Int32} {k i to : Nat} {once : Int32} (p : mp_PW c mo N I f k i once) (hk : (k : Int) < N) (hI : (to : Int) < I) (h6 : to < 6) (ho : mp_oarv c i to (mo + k + 1) < 1000000) (hc : mp_oncv c once to (mo + k + 1) ≠ -1) : 0 ≤ (f (6 * (k + 1) + to)).toInt ∧ (f (6 * (k + 1) + to)).toInt ≤ 1000000 := by
  have hv := (p.1.2.2 hk).2 to hI ho hc
  have hg := p.2.1 (k + 1) to (Nat.le_refl _) (by omega) h6 hv
  exact ⟨hg.1, hg.2.1⟩
theorem mp_PW_s2 {c : mp_PX} {mo N I : Int} {f : Nat → Int32} {k k' i to : Nat} {once once' : Int32} (p : mp_PW c mo N I f k i once) (hs : mp_stp c mo f k i once to) (ho : once' = mp_oncv c once to (mo + k + 1)) (hk : (k : Int) < N) (hI : (to : Int) < I) (h6 : to < 6) (hk' : k' = k + 1) : mp_PW c mo N I f k' to once' := by
  subst hk'
  exact mp_PW_s p hk hI h6 hs ho
theorem mp_nst_s {P : Nat → Prop} {to to' : Int} (p : ∀ t : Nat, (t : Int) < to → ¬ P t) (h : ¬ P to.toNat) (h0 : 0 ≤ to) (hto : to' = to + 1) : ∀ t : Nat, (t : Int) < to' → ¬ P t := by
  intro t ht
  by_cases q : (t : Int) < to
  · exact p t q
  · have : t = to.toNat := by omega
    rw [this]; exact h
def mp_keept (g f : Nat → Int32) (n : Nat) : Prop := ∀ j : Nat, n ≤ j → g j = f j
theorem mp_keept_rfl {f : Nat → Int32} {n : Nat} : mp_keept f f n := fun _ _ => rfl
theorem mp_keept_st {f g g' : Nat → Int32} {n : Nat} {i v : Int32} (h : g' = upd g i.toNatClampNeg v) (p : mp_keept g f n) (hi : i.toInt < (n : Int)) (hn : 0 < n := by decide) : mp_keept g' f n := by
  intro j hj
  have : (if j = i.toNatClampNeg then v else g j) = g j := if_neg (by simp only [Int32.toNatClampNeg]; omega)
  rw [h]
  exact this.trans (p j hj)
theorem mp_keept_trans {f g g' : Nat → Int32} {n : Nat} (p : mp_keept g' g n) (q : mp_keept g f n) : mp_keept g' f n := fun j hj => (p j hj).trans (q j hj)
theorem mp_kept_st {f g : Nat → Int32} {i v : Int32} (h : g = upd f i.toNatClampNeg (vp_nar .boolean v)) (hv : 0 ≤ i.toInt ∧ (vp_nar .boolean v).toInt = 1) : ∀ j : Nat, j < 3 → (g j).toInt = if (j : Int) = i.toInt then 1 else (f j).toInt := by
  intro j _
  rw [h]
  by_cases e : (j : Int) = i.toInt
  · have : j = i.toNatClampNeg := by simp only [Int32.toNatClampNeg]; omega
    rw [if_pos e]
    simp only [upd, if_pos this]
    exact hv.2
  · have : j ≠ i.toNatClampNeg := by simp only [Int32.toNatClampNeg]; omega
    rw [if_neg e]
    simp only [upd, if_neg this]
theorem mp_upd_ne {f g : Nat → Int32} {i v : Int32} (h : g = upd f i.toNatClampNeg v) {j : Nat} (hj : (j : Int) < i.toInt) : g j = f j := by
  rw [h]
  exact if_neg (by simp only [Int32.toNatClampNeg]; omega)
theorem mp_prm_add {f g1 g2 g3 g4 g5 g6 : Nat → Int32} {i1 i2 i3 i4 i5 i6 v1 v2 v3 v4 v5 v6 : Int32} {n n' : Int} (p : mp_prm f n) (h1 : g1 = upd f i1.toNatClampNeg v1) (h2 : g2 = upd g1 i2.toNatClampNeg v2) (h3 : g3 = upd g2 i3.toNatClampNeg v3) (h4 : g4 = upd g3 i4.toNatClampNeg v4) (h5 : g5 = upd g4 i5.toNatClampNeg v5) (h6 : g6 = upd g5 i6.toNatClampNeg v6) (hk : 0 ≤ n ∧ 6 * n ≤ i1.toInt ∧ 6 * n ≤ i2.toInt ∧ 6 * n ≤ i3.toInt ∧ 6 * n ≤ i4.toInt ∧ 6 * n ≤ i5.toInt ∧ i6.toInt = 6 * n + 5) (hv : v6.toInt = -1) (hn : n' = n + 1) : mp_prm g6 n' := by
  intro j hj
  by_cases q : (j : Int) < n
  · have e : g6 (6 * j + 5) = f (6 * j + 5) := by
      rw [mp_upd_ne h6 (by omega), mp_upd_ne h5 (by omega), mp_upd_ne h4 (by omega), mp_upd_ne h3 (by omega), mp_upd_ne h2 (by omega), mp_upd_ne h1 (by omega)]
    rw [e]
    exact p j q
  · have e : 6 * j + 5 = i6.toNatClampNeg := by simp only [Int32.toNatClampNeg]; omega
    have e2 : g6 (6 * j + 5) = v6 := by rw [h6, e]; exact if_pos rfl
    rw [e2]
    omega
-- own halvings, exactly; what is owed now
def mp_ownr (ag : Nat → Int32) (k : Nat) (S D R m r : Int) : Prop := (m < S ∧ r = -1) ∨ (S ≤ m ∧ ∃ l : Nat, S ≤ (l : Int) ∧ (l : Int) ≤ m ∧ (∀ j : Nat, l < j → (j : Int) ≤ m → (ag (150 * k + j)).toInt = 0) ∧ (S < (l : Int) → (ag (150 * k + l)).toInt ≠ 0) ∧ r = m - l + (if (l : Int) = S ∧ (ag (150 * k + l)).toInt = 0 then R else 0) + (if D ≠ -1 ∧ D < m then m - D else 0))
theorem mp_ownr_u {ag : Nat → Int32} {k : Nat} {S D R m r1 r2 : Int} (h1 : mp_ownr ag k S D R m r1) (h2 : mp_ownr ag k S D R m r2) : r1 = r2 := by
  rcases h1 with ⟨a1, a2⟩ | ⟨a1, l1, a2, a3, a4, a5, a6⟩ <;> rcases h2 with ⟨b1, b2⟩ | ⟨b1, l2, b2, b3, b4, b5, b6⟩
  · omega
  · omega
  · omega
  · have e : l1 = l2 := by
      rcases Nat.lt_trichotomy l1 l2 with q | q | q
      · exact absurd (a4 l2 q b3) (b5 (by omega))
      · exact q
      · exact absurd (b4 l1 q a3) (a5 (by omega))
    subst e
    rw [a6, b6]
theorem mp_own_0 {ag : Nat → Int32} {k : Nat} {l m : Int} (h : m ≤ l) : ∀ j : Nat, l < (j : Int) → (j : Int) ≤ m → (ag (150 * k + j)).toInt = 0 := fun j h1 h2 => by omega
theorem mp_own_s {ag : Nat → Int32} {k : Nat} {l l' m : Int} (p : ∀ j : Nat, l < (j : Int) → (j : Int) ≤ m → (ag (150 * k + j)).toInt = 0) (hz : (ag (150 * k + l.toNat)).toInt = 0) (h0 : 0 ≤ l) (hl : l' = l - 1) : ∀ j : Nat, l' < (j : Int) → (j : Int) ≤ m → (ag (150 * k + j)).toInt = 0 := by
  intro j h1 h2
  by_cases q : l < (j : Int)
  · exact p j q h2
  · have : j = l.toNat := by omega
    rw [this]; exact hz
theorem mp_own_e {ag : Nat → Int32} {k : Nat} {S D R m r l a b : Int} (p : ∀ j : Nat, l < (j : Int) → (j : Int) ≤ m → (ag (150 * k + j)).toInt = 0) (h0 : 0 ≤ l) (h1 : S ≤ l) (h2 : l ≤ m) (h3 : S < l → (ag (150 * k + l.toNat)).toInt ≠ 0) (ha : (l = S ∧ (ag (150 * k + l.toNat)).toInt = 0 ∧ a = R) ∨ (¬ (l = S ∧ (ag (150 * k + l.toNat)).toInt = 0) ∧ a = 0)) (hb : (D ≠ -1 ∧ D < m ∧ b = m - D) ∨ (¬ (D ≠ -1 ∧ D < m) ∧ b = 0)) (hr : r = m - l + a + b) : mp_ownr ag k S D R m r := by
  have e : ((l.toNat : Nat) : Int) = l := by omega
  refine Or.inr ⟨by omega, l.toNat, by omega, by omega, fun j q1 q2 => p j (by omega) q2, fun q => h3 (by omega), ?_⟩
  rw [e, hr]
  congr 1
  · congr 1
    rcases ha with ⟨q1, q2, q3⟩ | ⟨q1, q2⟩
    · rw [if_pos ⟨q1, q2⟩, q3]
    · rw [if_neg q1, q2]
  · rcases hb with ⟨q1, q2, q3⟩ | ⟨q1, q2⟩
    · rw [if_pos ⟨q1, q2⟩, q3]
    · rw [if_neg q1, q2]
/-- a promise has one own halving now -/
def mp_one (ag pr pe : Nat → Int32) (m : Int) (k : Nat) : Prop := ∃ r : Int, r = 1 ∧ mp_ownr ag k (pr (6 * k + 3)).toInt (pe (3 * (pr (6 * k + 0)).toInt.toNat + 1)).toInt (pr (6 * k + 4)).toInt m r
noncomputable def mp_onw (tr : Int32) (ag pr pe : Nat → Int32) (m : Int) : Nat → Int32
  | 0 => 0
  | k + 1 => mp_onw tr ag pr pe m k ||| (@ite _ (mp_bitx tr (Int32.ofNat k) ∧ mp_one ag pr pe m k) (Classical.propDecidable _) ((1 : Int32) <<< (Int32.ofNat k &&& 31)) 0)
theorem mp_onw_s {tr b b' z k : Int32} {ag pr pe : Nat → Int32} {m : Int} {n n' : Nat} (x : b = mp_onw tr ag pr pe m n) (h : b' = b ||| z) (hk : k.toInt = (n : Int)) (hz : (mp_bitx tr k ∧ mp_one ag pr pe m n) ∧ z = (1 : Int32) <<< (k &&& 31) ∨ ¬ (mp_bitx tr k ∧ mp_one ag pr pe m n) ∧ z = 0) (hn : n' = n + 1) : b' = mp_onw tr ag pr pe m n' := by
  have ek : k = Int32.ofNat n := by
    have : n = k.toInt.toNat := by omega
    rw [this]
    exact (mp_ofnat (by omega)).symm
  rw [hn, h, x]
  show _ = mp_onw tr ag pr pe m n ||| _
  rw [← ek]
  rcases hz with ⟨c, e⟩ | ⟨c, e⟩
  · rw [if_pos c, e]
  · rw [if_neg c, e]
theorem mp_one_t {ag pr pe : Nat → Int32} {m r : Int} {k : Nat} (h : mp_ownr ag k (pr (6 * k + 3)).toInt (pe (3 * (pr (6 * k + 0)).toInt.toNat + 1)).toInt (pr (6 * k + 4)).toInt m r) (h1 : r = 1) : mp_one ag pr pe m k := ⟨r, h1, h⟩
theorem mp_one_f {ag pr pe : Nat → Int32} {m r : Int} {k : Nat} (h : mp_ownr ag k (pr (6 * k + 3)).toInt (pe (3 * (pr (6 * k + 0)).toInt.toNat + 1)).toInt (pr (6 * k + 4)).toInt m r) (h1 : r ≠ 1) : ¬ mp_one ag pr pe m k := fun ⟨r2, h2, h3⟩ => h1 ((mp_ownr_u h h3).trans h2)
-- string constants of the pool
section MPSTR
variable {E : mp_E} {X : mp_X} {M : mp_M} {pc : Nat} {lv : List (Nat × Value)} {rest : List Value} {ws : va_W} {k n : Nat}
theorem mp_FS (hF : mp_F E X M) : mp_S E X.2.2.2.1 X.2.1.1 := hF.2.2.2.2.2.2.2.2.2.2.2.2
theorem mp_ldcS (hF : mp_F E X M) (i : Nat) {q : String × Nat × String × Nat} (hq : mp_strs[i]? = some q) (ho : q.1 = M.1) (hdg : decode M.2.1 pc = .ok (.ldc q.2.1, 2)) (kk : mp_W E X M.2.2.1 (pc + 2) lv (.ref (E.1.2.1 q.2.2.2) :: rest) ws k n) : mp_W E X M.2.2.1 pc lv rest ws k n := by
  intro H locs ls hP hD hS hl
  have hZ := (mp_FS hF).2.1 q (List.mem_of_getElem? hq)
  obtain ⟨hx, hb, hml, hown, hts, hK, hA, hlk, hR, hrt, hin, hN⟩ := hF
  exact va_ldcS hx hb (by rw [ho]; exact hown) hZ hdg (kk H locs ls hP hD hS hl)
theorem mp_sval (hF : mp_F E X M) {i idx : Nat} (hi : i < 14) (hm : Jvm.Cond.fieldLink M.1 idx "java/lang/String" "value" "[B" ∈ mp_UT) (hdg : decode M.2.1 pc = .ok (.getfield idx, 3)) (kk : mp_W E X M.2.2.1 (pc + 3) lv (.ref (E.1.2.2 i) :: rest) ws k n) : mp_W E X M.2.2.1 pc lv (.ref (E.1.2.1 i) :: rest) ws k n := by
  intro H locs ls hP hD hS hl
  have hZ := ((mp_FS hF).1.1 i hi).2.2.1
  obtain ⟨hx, hb, hml, hown, hts, hK, hA, hlk, hR, hrt, hin, hN⟩ := hF
  exact vk_getf hx hb hZ hS hown (hts _ hm) (fun _ h => h) hdg (kk H locs ls hP hD hS hl)
theorem mp_scod (hF : mp_F E X M) {i idx : Nat} (hi : i < 14) (hm : Jvm.Cond.fieldLink M.1 idx "java/lang/String" "coder" "B" ∈ mp_UT) (hdg : decode M.2.1 pc = .ok (.getfield idx, 3)) (kk : mp_W E X M.2.2.1 (pc + 3) lv (.int 0 :: rest) ws k n) : mp_W E X M.2.2.1 pc lv (.ref (E.1.2.1 i) :: rest) ws k n := by
  intro H locs ls hP hD hS hl
  have hZ := ((mp_FS hF).1.1 i hi).2.1
  obtain ⟨hx, hb, hml, hown, hts, hK, hA, hlk, hR, hrt, hin, hN⟩ := hF
  exact vk_getf hx hb hZ hS hown (hts _ hm) (fun _ h => h) hdg (kk H locs ls hP hD hS hl)
theorem mp_scmp (hF : mp_F E X M) {idx : Nat} (hm : Jvm.Cond.fieldLink M.1 idx "java/lang/String" "COMPACT_STRINGS" "Z" ∈ mp_UT) (hdg : decode M.2.1 pc = .ok (.getstatic idx, 3)) (kk : mp_W E X M.2.2.1 (pc + 3) lv (.int 1 :: rest) ws k n) : mp_W E X M.2.2.1 pc lv rest ws k n := by
  intro H locs ls hP hD hS hl
  have hZ := (mp_FS hF).2.2.1
  obtain ⟨hx, hb, hml, hown, hts, hK, hA, hlk, hR, hrt, hin, hN⟩ := hF
  exact va_gets hx hb hZ hS hown (hts _ hm) (fun _ h => h) hdg (kk H locs ls hP hD hS hl)
theorem mp_sfor (hF : mp_F E X M) {idx : Nat} (hm : Jvm.Cond.fieldLink M.1 idx "jdk/internal/util/Preconditions" "SIOOBE_FORMATTER" "Ljava/util/function/BiFunction;" ∈ mp_UT) (hdg : decode M.2.1 pc = .ok (.getstatic idx, 3)) (k1 : mp_W E X M.2.2.1 (pc + 3) lv (.null :: rest) ws k n) (k2 : ∀ t : Nat, mp_W E X M.2.2.1 (pc + 3) lv (.ref t :: rest) ws k n) : mp_W E X M.2.2.1 pc lv rest ws k n := by
  intro H locs ls hP hD hS hl
  have hZ := (mp_FS hF).2.2.2
  obtain ⟨hx, hb, hml, hown, hts, hK, hA, hlk, hR, hrt, hin, hN⟩ := hF
  rcases hZ with hZ | ⟨t, hZ⟩
  · exact va_gets hx hb hZ hS hown (hts _ hm) (fun _ h => h) hdg (k1 H locs ls hP hD hS hl)
  · exact va_gets hx hb hZ hS hown (hts _ hm) (fun _ h => h) hdg (k2 t H locs ls hP hD hS hl)
theorem mp_slen_ok : ∀ i, i < 14 → 0 ≤ (Int32.ofNat (mp_sl.getD i 0)).toInt ∧ (Int32.ofNat (mp_sl.getD i 0)).toInt ≤ 7 ∧ (Int32.ofNat (mp_sl.getD i 0)).toInt = (mp_sl.getD i 0 : Int) ∧ (mp_sb.getD i []).length = mp_sl.getD i 0 := by decide +kernel
theorem mp_slen (hF : mp_F E X M) {i : Nat} (hi : i < 14) (hdg : decode M.2.1 pc = .ok (.arraylength, 1)) (kk : ∀ z : Int32, z = Int32.ofNat (mp_sl.getD i 0) → 0 ≤ z.toInt → z.toInt ≤ 7 → mp_W E X M.2.2.1 (pc + 1) lv (.int z :: rest) ws k n) : mp_W E X M.2.2.1 pc lv (.ref (E.1.2.2 i) :: rest) ws k n := by
  intro H locs ls hP hD hS hl
  have hZ := ((mp_FS hF).1.1 i hi).2.2.2
  have h7 := mp_slen_ok i hi
  exact va_tlen hF.1 hF.2.1 hZ hS rfl hdg (kk _ rfl h7.1 h7.2.1 H locs ls hP hD hS hl)
theorem mp_sld (hF : mp_F E X M) {i : Nat} (hi : i < 14) {j : Int32} (h0 : 0 ≤ j.toInt) (h1 : j.toInt < (Int32.ofNat (mp_sl.getD i 0)).toInt) (hdg : decode M.2.1 pc = .ok (.baload, 1)) (kk : ∀ z : Int32, z = (mp_sb.getD i []).getD j.toNatClampNeg 0 → mp_W E X M.2.2.1 (pc + 1) lv (.int z :: rest) ws k n) : mp_W E X M.2.2.1 pc lv (.int j :: .ref (E.1.2.2 i) :: rest) ws k n := by
  intro H locs ls hP hD hS hl
  have hZ := ((mp_FS hF).1.1 i hi).2.2.2
  have h7 := mp_slen_ok i hi
  exact va_tb hF.1 hF.2.1 hZ hS (vp_in_iff.mpr ⟨h0, by rw [← h7.2.2.1]; exact h1⟩) rfl hdg (kk _ rfl H locs ls hP hD hS hl)
theorem mp_sb_all : ∀ l ∈ mp_sb, ∀ b ∈ l, ((b &&& 255).toUInt32 % 65536).toInt32 = b ∧ 0 ≤ b.toInt ∧ b.toInt ≤ 255 := by decide +kernel
theorem mp_sb_ok (i k : Nat) : (((mp_sb.getD i []).getD k 0 &&& 255).toUInt32 % 65536).toInt32 = (mp_sb.getD i []).getD k 0 ∧ 0 ≤ ((mp_sb.getD i []).getD k 0).toInt ∧ ((mp_sb.getD i []).getD k 0).toInt ≤ 255 := by
  have h0 : ∀ (l : List Int32), (∀ b ∈ l, ((b &&& 255).toUInt32 % 65536).toInt32 = b ∧ 0 ≤ b.toInt ∧ b.toInt ≤ 255) → ((l.getD k 0 &&& 255).toUInt32 % 65536).toInt32 = l.getD k 0 ∧ 0 ≤ (l.getD k 0).toInt ∧ (l.getD k 0).toInt ≤ 255 := by
    intro l h
    rw [List.getD_eq_getElem?_getD]
    cases q : l[k]? with
    | none => decide
    | some b => exact h b (List.mem_of_getElem? q)
  apply h0
  rw [List.getD_eq_getElem?_getD]
  cases q : mp_sb[i]? with
  | none => intro b hb; exact absurd hb List.not_mem_nil
  | some l => exact mp_sb_all l (List.mem_of_getElem? q)
theorem mp_i2cS (hF : mp_F E X M) {x b : Int32} {i j : Nat} (hb1 : b = (mp_sb.getD i []).getD j 0) (hx1 : x = b &&& 255) (hdg : decode M.2.1 pc = .ok (.i2c, 1)) (kk : ∀ z : Int32, z = (mp_sb.getD i []).getD j 0 → 0 ≤ z.toInt → z.toInt ≤ 255 → mp_W E X M.2.2.1 (pc + 1) lv (.int z :: rest) ws k n) : mp_W E X M.2.2.1 pc lv (.int x :: rest) ws k n := by
  intro H locs ls hP hD hS hl
  have h7 := mp_sb_ok i j
  refine lv_i2c (v := (mp_sb.getD i []).getD j 0) hF.1 hF.2.1 hdg ?_ (kk _ rfl h7.2.1 h7.2.2 H locs ls hP hD hS hl)
  rw [hx1, hb1]; exact h7.1
theorem mp_nar_c {z : Int32} (h0 : 0 ≤ z.toInt) (h1 : z.toInt ≤ 255) : narrow .char (.int z) = .int z := by
  have e : z = Int32.ofNat z.toInt.toNat := by
    apply Int32.toInt_inj.mp
    rw [Int32.toInt_ofNat_of_lt (by omega)]; omega
  have : ∀ m : Nat, m < 256 → narrow .char (.int (Int32.ofNat m)) = .int (Int32.ofNat m) := by decide +kernel
  rw [e]
  exact this _ (by omega)
def mp_lvsB (own : String) (idx : Nat) (y : MethodName) (b : ByteArray) (mL : Nat) (r : Option FieldType) (argc j1 j2 j3 j4 j5 : Nat) : Bool :=
  decide (y.cls = "java/lang/String") && mp_gK j1 (.methodLink own idx y) && mp_gK j2 (.instanceMethod y) && mp_gK j3 (.selects "java/lang/String" y y) && mp_gK j4 (.initialized "java/lang/String") && mp_gK j5 (.code y b mL r) && mp_hd y argc
def mp_LVS (own : String) (idx : Nat) (y : MethodName) (b : ByteArray) (mL : Nat) (r : Option FieldType) (argc : Nat) : Prop := GoodIn mp_UT (wsV own idx "java/lang/String" y (Jvm.Cond.code y b mL r :: mp_UT)) ∧ (y.cls = "java/lang/String" ∧ y.cls ≠ "java/lang/invoke/MethodHandle" ∧ y.cls ≠ "java/lang/invoke/VarHandle" ∧ (parseMethodDescriptor y.desc).map (fun d => d.parameters.length) = some argc)
theorem mp_lvs_ok {own : String} {idx : Nat} {y : MethodName} {b : ByteArray} {mL : Nat} {r : Option FieldType} {argc j1 j2 j3 j4 j5 : Nat} (h : mp_lvsB own idx y b mL r argc j1 j2 j3 j4 j5 = true) : mp_LVS own idx y b mL r argc := by
  unfold mp_lvsB at h
  simp only [Bool.and_eq_true, decide_eq_true_eq] at h
  obtain ⟨⟨⟨⟨⟨⟨h0, h1⟩, h2⟩, h3⟩, h4⟩, h5⟩, h6⟩ := h
  refine ⟨mp_gc ?_, h0, mp_hd_ok h6⟩
  intro w hw
  rcases List.mem_append.mp hw with hw | hw
  · simp only [List.mem_cons, List.not_mem_nil, or_false] at hw
    rcases hw with rfl | rfl | rfl | rfl
    · exact mp_gm h1
    · exact mp_gm h2
    · exact mp_gm h3
    · exact mp_gm h4
  · rcases List.mem_cons.mp hw with rfl | hw
    · exact mp_gm h5
    · exact hw
theorem mp_callVS {y : MethodName} {b : ByteArray} {mL : Nat} {r : Option FieldType} {nf mc ms nl : Nat} {As : List Value} {wc : va_W} {post : Option Value → va_W → Prop} {idx si : Nat} (hF : mp_F E X M) (hC : mp_Ct E y b mL r nf mc ms nl (.ref (E.1.2.1 si) :: As) wc post) (hL : mp_LVS M.1 idx y b mL r As.length) (hsi : si < 14)
    (isC isR : List Nat) {wr : va_W} (hC1 : isC.map (fun i => ws[i]?) = wc.map some) (hnC : va_nd isC = true) (hR1 : isR.map (fun i => ws[i]?) = wr.map some) (hnd : va_nd isR = true) (hdis : isR.all (fun i => !isC.contains i) = true)
    (hroom : nf + 1 ≤ M.2.2.2.1.1 ∧ 8 + (mL + 11) + nl ≤ M.2.2.2.1.2.2.2 ∧ k + mc ≤ M.2.2.2.1.2.1 ∧ n + ms ≤ M.2.2.2.1.2.2.1) (hcat : (rest.map (fun v => v.category)).sum ≤ 8) (hdg : decode M.2.1 pc = .ok (.invokevirtual idx, 3))
    (kk : ∀ (v : Option Value) (w' : va_W), post v w' → mp_W E X M.2.2.1 (pc + 3) lv (v.toList ++ rest) (wr ++ w') (k + mc) (n + ms)) : mp_W E X M.2.2.1 pc lv (As.reverse ++ .ref (E.1.2.1 si) :: rest) ws k n := by
  refine mp_back (fr := []) (sz := 0) hF isC isR hC1 hR1 hnd hdis (fun H locs ls hP hD hS hl => ⟨(.ref (E.1.2.1 si) :: As).toArray, ?_⟩) kk
  have hZ := (mp_FS hF).1
  obtain ⟨hx, hb, hml, hown, hts, hK, hA, hlk, hR, hrt, hin, hN⟩ := hF
  obtain ⟨hg, hd⟩ := hL
  have hPc := hP.sub (ws' := wc) isC (mp_fm hC1)
  have hDc := hD.sub isC hnC hC1
  exact va_runV (rest := rest) ⟨hx, hb, hml, hown, hts⟩ (hC H.size) (cwV As.length hts hg rfl rfl rfl hd ⟨by rw [hR]; exact hroom.1, by rw [hR]; exact hroom.2.1⟩) ⟨mp_blind E _ _ _, vk_recv hZ hsi hS, fun U hU hW => ⟨rfl, by rw [hU], by rw [hU]; exact hPc, va_K.moved hW.alike hK, ⟨mp_N_warm hW hN.1, mp_S_warm hW (by rw [hU]; exact hS.2.1) (fun q z => va_free (wc := wc) hD hS hA isC hC1 q z) hN.2⟩, hDc.weaken (fun _ _ _ _ => trivial)⟩⟩ rfl rfl hl.1 rfl (lv_room hcat) hdg ⟨by rw [hR]; exact hroom.2.2.1, by rw [hR]; exact hroom.2.2.2⟩
end MPSTR
