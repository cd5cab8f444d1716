theorem mp_qc_2 {ower owee full first drunk base : Nat → Int32} {k : Nat} {v : Int32} : mp_qc ower owee (upd full k v) first drunk base = upd (mp_qc ower owee full first drunk base) (6 * k + 2) v := by
  funext j
  show (if j % 6 = 0 then ower (j / 6) else if j % 6 = 1 then owee (j / 6) else if j % 6 = 2 then (if j / 6 = k then v else full (j / 6)) else if j % 6 = 3 then first (j / 6) else if j % 6 = 4 then drunk (j / 6) else base (j / 6)) = (if j = 6 * k + 2 then v else if j % 6 = 0 then ower (j / 6) else if j % 6 = 1 then owee (j / 6) else if j % 6 = 2 then full (j / 6) else if j % 6 = 3 then first (j / 6) else if j % 6 = 4 then drunk (j / 6) else base (j / 6))
  by_cases h : j = 6 * k + 2
  · rw [if_pos h, if_neg (by omega), if_neg (by omega), if_pos (by omega), if_pos (by omega)]
  · rw [if_neg h]
    by_cases h0 : j % 6 = 0
    · rw [if_pos h0, if_pos h0]
    · rw [if_neg h0, if_neg h0]
      by_cases h1 : j % 6 = 1
      · rw [if_pos h1, if_pos h1]
      · rw [if_neg h1, if_neg h1]
        by_cases h2 : j % 6 = 2
        · rw [if_pos h2, if_pos h2, if_neg (by omega)]
        · rw [if_neg h2, if_neg h2]
theorem mp_qc_3 {ower owee full first drunk base : Nat → Int32} {k : Nat} {v : Int32} : mp_qc ower owee full (upd first k v) drunk base = upd (mp_qc ower owee full first drunk base) (6 * k + 3) v := by
  funext j
  show (if j % 6 = 0 then ower (j / 6) else if j % 6 = 1 then owee (j / 6) else if j % 6 = 2 then full (j / 6) else if j % 6 = 3 then (if j / 6 = k then v else first (j / 6)) else if j % 6 = 4 then drunk (j / 6) else base (j / 6)) = (if j = 6 * k + 3 then v else if j % 6 = 0 then ower (j / 6) else if j % 6 = 1 then owee (j / 6) else if j % 6 = 2 then full (j / 6) else if j % 6 = 3 then first (j / 6) else if j % 6 = 4 then drunk (j / 6) else base (j / 6))
  by_cases h : j = 6 * k + 3
  · rw [if_pos h, if_neg (by omega), if_neg (by omega), if_neg (by omega), if_pos (by omega), if_pos (by omega)]
  · rw [if_neg h]
    by_cases h0 : j % 6 = 0
    · rw [if_pos h0, if_pos h0]
    · rw [if_neg h0, if_neg h0]
      by_cases h1 : j % 6 = 1
      · rw [if_pos h1, if_pos h1]
      · rw [if_neg h1, if_neg h1]
        by_cases h2 : j % 6 = 2
        · rw [if_pos h2, if_pos h2]
        · rw [if_neg h2, if_neg h2]
          by_cases h3 : j % 6 = 3
          · rw [if_pos h3, if_pos h3, if_neg (by omega)]
          · rw [if_neg h3, if_neg h3]
theorem mp_qc_4 {ower owee full first drunk base : Nat → Int32} {k : Nat} {v : Int32} : mp_qc ower owee full first (upd drunk k v) base = upd (mp_qc ower owee full first drunk base) (6 * k + 4) v := by
  funext j
  show (if j % 6 = 0 then ower (j / 6) else if j % 6 = 1 then owee (j / 6) else if j % 6 = 2 then full (j / 6) else if j % 6 = 3 then first (j / 6) else if j % 6 = 4 then (if j / 6 = k then v else drunk (j / 6)) else base (j / 6)) = (if j = 6 * k + 4 then v else if j % 6 = 0 then ower (j / 6) else if j % 6 = 1 then owee (j / 6) else if j % 6 = 2 then full (j / 6) else if j % 6 = 3 then first (j / 6) else if j % 6 = 4 then drunk (j / 6) else base (j / 6))
  by_cases h : j = 6 * k + 4
  · rw [if_pos h, if_neg (by omega), if_neg (by omega), if_neg (by omega), if_neg (by omega), if_pos (by omega), if_pos (by omega)]
  · rw [if_neg h]
    by_cases h0 : j % 6 = 0
    · rw [if_pos h0, if_pos h0]
    · rw [if_neg h0, if_neg h0]
      by_cases h1 : j % 6 = 1
      · rw [if_pos h1, if_pos h1]
      · rw [if_neg h1, if_neg h1]
        by_cases h2 : j % 6 = 2
        · rw [if_pos h2, if_pos h2]
        · rw [if_neg h2, if_neg h2]
          by_cases h3 : j % 6 = 3
          · rw [if_pos h3, if_pos h3]
          · rw [if_neg h3, if_neg h3]
            by_cases h4 : j % 6 = 4
            · rw [if_pos h4, if_pos h4, if_neg (by omega)]
            · rw [if_neg h4, if_neg h4]
theorem mp_qc_5 {ower owee full first drunk base : Nat → Int32} {k : Nat} {v : Int32} : mp_qc ower owee full first drunk (upd base k v) = upd (mp_qc ower owee full first drunk base) (6 * k + 5) v := by
  funext j
  show (if j % 6 = 0 then ower (j / 6) else if j % 6 = 1 then owee (j / 6) else if j % 6 = 2 then full (j / 6) else if j % 6 = 3 then first (j / 6) else if j % 6 = 4 then drunk (j / 6) else (if j / 6 = k then v else base (j / 6))) = (if j = 6 * k + 5 then v else if j % 6 = 0 then ower (j / 6) else if j % 6 = 1 then owee (j / 6) else if j % 6 = 2 then full (j / 6) else if j % 6 = 3 then first (j / 6) else if j % 6 = 4 then drunk (j / 6) else base (j / 6))
  by_cases h : j = 6 * k + 5
  · rw [if_pos h, if_neg (by omega), if_neg (by omega), if_neg (by omega), if_neg (by omega), if_neg (by omega), if_pos (by omega)]
  · rw [if_neg h]
    by_cases h0 : j % 6 = 0
    · rw [if_pos h0, if_pos h0]
    · rw [if_neg h0, if_neg h0]
      by_cases h1 : j % 6 = 1
      · rw [if_pos h1, if_pos h1]
      · rw [if_neg h1, if_neg h1]
        by_cases h2 : j % 6 = 2
        · rw [if_pos h2, if_pos h2]
        · rw [if_neg h2, if_neg h2]
          by_cases h3 : j % 6 = 3
          · rw [if_pos h3, if_pos h3]
          · rw [if_neg h3, if_neg h3]
            by_cases h4 : j % 6 = 4
            · rw [if_pos h4, if_pos h4]
            · rw [if_neg h4, if_neg h4, if_neg (by omega)]
theorem mp_ofi {x : Int32} {v : Int} (h : x.toInt = v) : Int32.ofInt v = x := by rw [← h]; exact Int32.ofInt_toInt x
theorem mp_rs4 {α : Type} {p p' : Nat} {c c' : mp_Sc} {d d' : α} (hp : p = p') (hc : c = c') (hd : d = d') : ((0, p, c, d) : mp_Rs α) = (0, p', c', d') := by rw [hp, hc, hd]
theorem mp_nx_of {f : Nat → Int32} {n k s e v s' : Int} (h : s' = ((mp_TS f n.toNat e.toNat : Nat) : Int)) (ct : mp_CT f n k s e v) : s'.toNat = mp_NX f n.toNat s.toNat := by
  have h3 := ct.2.2.1
  unfold mp_NX
  rw [← Int.toNat_natCast (mp_TE f n.toNat s.toNat), ← h3, h, Int.toNat_natCast]
theorem mp_nx_i {f : Nat → Int32} {n s s' : Int} (h : s' = ((mp_NX f n.toNat s.toNat : Nat) : Int)) : s'.toNat = mp_NX f n.toNat s.toNat := by rw [h, Int.toNat_natCast]
theorem mp_sc5 {a b c d e a' b' c' d' e' : Int} (h1 : a = a') (h2 : b = b') (h3 : c = c') (h4 : d = d') (h5 : e = e') : ((a, b, c, d, e) : mp_Sc) = (a', b', c', d', e') := by rw [h1, h2, h3, h4, h5]
theorem mp_op_sea {seas seas' : Nat → Int32} {shut : Nat → Int64} {home death tending ower owee full first drunk base : Nat → Int32} {a b v : Int} {x0 x1 x2 : Int32} (h : seas' = upd (upd seas (6 * x0.toInt + x1.toInt).toNat x2) (6 * x1.toInt + x0.toInt).toNat x2) (ha : x0.toInt = a) (hb : x1.toInt = b) (hv : x2.toInt = v) : mp_gop (mp_dC seas shut home death tending ower owee full first drunk base) 0 a b v 0 0 = mp_dC seas' shut home death tending ower owee full first drunk base := by
  subst ha hb hv h
  show (upd (upd seas _ (Int32.ofInt x2.toInt)) _ (Int32.ofInt x2.toInt), _) = _
  rw [Int32.ofInt_toInt]
  rfl
theorem mp_ofi64 {v : Int} (h : 0 ≤ v ∧ v < 64) : Int64.ofInt v = Int64.ofNat v.toNat := by
  have h1 : ∀ k : Nat, k < 64 → Int64.ofInt (k : Int) = Int64.ofNat k := by decide +kernel
  have h2 := h1 v.toNat (by omega)
  rw [show ((v.toNat : Nat) : Int) = v by omega] at h2
  exact h2
theorem mp_and1 {a b : Int64} : (a ||| b) &&& 1 = (a &&& 1) ||| (b &&& 1) := by
  apply Int64.toBitVec_inj.1
  rw [Int64.toBitVec_and, Int64.toBitVec_or, Int64.toBitVec_or, Int64.toBitVec_and, Int64.toBitVec_and]
  ext i h
  simp [Bool.and_or_distrib_right]
theorem mp_bits_c : ∀ k : Nat, k < 50 → ∀ q : Nat, q < 50 → ((1 : Int64) <<< Int64.ofNat q) >>> Int64.ofNat k &&& 1 = if k = q then 1 else 0 := by decide +kernel
theorem mp_bits {k q : Nat} (hk : k < 50) (hq : q < 50) (y : Int64) : ((y ||| (1 <<< Int64.ofNat q)) >>> Int64.ofNat k &&& 1 ≠ 0) ↔ (k = q ∨ (y >>> Int64.ofNat k &&& 1 ≠ 0)) := by
  rw [Int64.shiftRight_or, mp_and1, mp_bits_c k hk q hq]
  by_cases e : k = q
  · rw [if_pos e]
    exact ⟨fun _ => Or.inl e, fun _ h => absurd (Int64.or_eq_zero_iff.mp h).2 (by decide)⟩
  · rw [if_neg e, Int64.or_zero]
    exact ⟨Or.inr, fun h => h.resolve_left e⟩
theorem mp_shb_cell {s s' : Nat → Int64} {a m : Int} {x b : Int64} {i : Nat} (h : s' = vp_updL s i (x ||| b)) (hi : (i : Int) = 2 * a + m / 50) (hx : x = s i) (hb : b = 1 <<< Int64.ofInt (m % 50)) (ha : 0 ≤ a) (hm : 0 ≤ m ∧ m < 100) : mp_shb s' = fun j => if j = (100 * a + m).toNat then true else mp_shb s j := by
  funext j
  have hb2 : b = 1 <<< Int64.ofNat (m % 50).toNat := by
    rw [hb, mp_ofi64 (by omega)]
  unfold mp_shb
  rw [h, hx, hb2]
  by_cases e : 2 * (j / 100) + j % 100 / 50 = i
  · rw [e]
    show decide (((if i = i then (s i ||| (1 <<< Int64.ofNat (m % 50).toNat)) else s i) >>> Int64.ofNat (j % 50) &&& 1) ≠ 0) = _
    rw [if_pos rfl]
    have hbit := mp_bits (k := j % 50) (q := (m % 50).toNat) (by omega) (by omega) (s i)
    by_cases q : j = (100 * a + m).toNat
    · rw [if_pos q]
      exact decide_eq_true (hbit.mpr (Or.inl (by omega)))
    · rw [if_neg q]
      have hne : ¬ j % 50 = (m % 50).toNat := by omega
      by_cases r : (s i >>> Int64.ofNat (j % 50) &&& 1) ≠ 0
      · rw [decide_eq_true r]
        exact decide_eq_true (hbit.mpr (Or.inr r))
      · rw [decide_eq_false r]
        exact decide_eq_false (fun w => (hbit.mp w).elim hne r)
  · rw [if_neg (by omega)]
    show decide (((if 2 * (j / 100) + j % 100 / 50 = i then _ else s (2 * (j / 100) + j % 100 / 50)) >>> Int64.ofNat (j % 50) &&& 1) ≠ 0) = _
    rw [if_neg e]
-- one mark further
section MPM
variable {α : Type} {op : mp_Op α} {f : Nat → Int32} {n s r : Nat} {c : mp_Sc} {k : Int} {d : α} {a b : Bool}
theorem mp_pm_0 : mp_gPm op f n c k 0 a b s d = (0, s, c, d) := rfl
theorem mp_pm_e (h : mp_TK f n s ≠ 1) : mp_gPm op f n c k r a b s d = (0, s, c, d) := by
  cases r with
  | zero => rfl
  | succ r => show (if mp_TK f n s ≠ 1 then _ else _) = _; rw [if_pos h]
theorem mp_pm_d (h : mp_TK f n s = 1) (ha : a = false) (hw : mp_WD f n s = 85447) : mp_gPm op f n c k (r + 1) a b s d = mp_kn f n (mp_NX f n s) 0 99 (-1) c d fun v s => mp_gPm op f n c k r true b s (op d 3 k v 0 0 0) := by
  show (if mp_TK f n s ≠ 1 then _ else if a = false ∧ mp_WD f n s = 85447 then _ else _) = _
  rw [if_neg (fun q => q h), if_pos ⟨ha, hw⟩]
theorem mp_pm_t (h : mp_TK f n s = 1) (ha : ¬ (a = false ∧ mp_WD f n s = 85447)) (hb : b = false) (hw : mp_WD f n s = 10737568) : mp_gPm op f n c k (r + 1) a b s d = mp_kn f n (mp_NX f n s) 0 100 (-1) c d fun v s => mp_gPm op f n c k r a true s (op d 4 k v 0 0 0) := by
  show (if mp_TK f n s ≠ 1 then _ else if a = false ∧ mp_WD f n s = 85447 then _ else if b = false ∧ mp_WD f n s = 10737568 then _ else _) = _
  rw [if_neg (fun q => q h), if_neg ha, if_pos ⟨hb, hw⟩]
theorem mp_pm_f (h : mp_TK f n s = 1) (ha : ¬ (a = false ∧ mp_WD f n s = 85447)) (hb : ¬ (b = false ∧ mp_WD f n s = 10737568)) : mp_gPm op f n c k (r + 1) a b s d = (1, s, c, d) := by
  show (if mp_TK f n s ≠ 1 then _ else if a = false ∧ mp_WD f n s = 85447 then _ else if b = false ∧ mp_WD f n s = 10737568 then _ else _) = _
  rw [if_neg (fun q => q h), if_neg ha, if_neg hb]
theorem mp_qm_e (h : mp_TK f n s ≠ 1) : mp_gQm op f n c k r a b s d = (0, s, c, d) := by
  cases r with
  | zero => rfl
  | succ r => show (if mp_TK f n s ≠ 1 then _ else _) = _; rw [if_pos h]
theorem mp_qm_d (h : mp_TK f n s = 1) (ha : a = false) (hw : mp_WD f n s = 2495756) : mp_gQm op f n c k (r + 1) a b s d = mp_gQm op f n c k r true b (mp_NX f n s) (op d 6 k 0 0 0 0) := by
  show (if mp_TK f n s ≠ 1 then _ else if a = false ∧ mp_WD f n s = 2495756 then _ else _) = _
  rw [if_neg (fun q => q h), if_pos ⟨ha, hw⟩]
theorem mp_qm_o (h : mp_TK f n s = 1) (ha : ¬ (a = false ∧ mp_WD f n s = 2495756)) (hb : b = false) (hw : mp_WD f n s = 419) : mp_gQm op f n c k (r + 1) a b s d = mp_kn f n (mp_NX f n s) 0 (k - 1) (-1) c d fun v s => mp_gQm op f n c k r a true s (op d 7 k v 0 0 0) := by
  show (if mp_TK f n s ≠ 1 then _ else if a = false ∧ mp_WD f n s = 2495756 then _ else if b = false ∧ mp_WD f n s = 419 then _ else _) = _
  rw [if_neg (fun q => q h), if_neg ha, if_pos ⟨hb, hw⟩]
theorem mp_qm_f (h : mp_TK f n s = 1) (ha : ¬ (a = false ∧ mp_WD f n s = 2495756)) (hb : ¬ (b = false ∧ mp_WD f n s = 419)) : mp_gQm op f n c k (r + 1) a b s d = (1, s, c, d) := by
  show (if mp_TK f n s ≠ 1 then _ else if a = false ∧ mp_WD f n s = 2495756 then _ else if b = false ∧ mp_WD f n s = 419 then _ else _) = _
  rw [if_neg (fun q => q h), if_neg ha, if_neg hb]
end MPM
theorem mp_sh63_c : ∀ k : Nat, k < 64 → (Int32.ofNat k).toInt64 &&& 63 = Int64.ofNat k := by decide +kernel
theorem mp_sh63 {y : Int32} {v : Int} (h : y.toInt = v) (h0 : 0 ≤ v ∧ v < 64) : y.toInt64 &&& 63 = Int64.ofInt v := by
  have e : y = Int32.ofNat v.toNat := by
    apply Int32.toInt_inj.mp
    rw [Int32.toInt_ofNat_of_lt (by omega)]; omega
  rw [e, mp_sh63_c _ (by omega), mp_ofi64 h0]
theorem mp_op_shut {seas : Nat → Int32} {shut shut' : Nat → Int64} {home death tending ower owee full first drunk base : Nat → Int32} {a b : Int} {x0 x1 : Int32} (h : mp_shb shut' = fun j => if j = (100 * x0.toInt + x1.toInt).toNat then true else mp_shb shut j) (ha : x0.toInt = a) (hb : x1.toInt = b) : mp_gop (mp_dC seas shut home death tending ower owee full first drunk base) 1 a b 0 0 0 = mp_dC seas shut' home death tending ower owee full first drunk base := by
  subst ha hb
  unfold mp_dC
  rw [h]
  rfl
theorem mp_op_per {seas : Nat → Int32} {shut : Nat → Int64} {home death tending home' death' tending' ower owee full first drunk base : Nat → Int32} {k v : Int} {p x : Int32} (h1 : home' = upd home p.toInt.toNat x) (h2 : death' = upd death p.toInt.toNat (-1)) (h3 : tending' = upd tending p.toInt.toNat 0) (hk : p.toInt = k) (hv : x.toInt = v) (h0 : 0 ≤ k) : mp_gop (mp_dC seas shut home death tending ower owee full first drunk base) 2 k v 0 0 0 = mp_dC seas shut home' death' tending' ower owee full first drunk base := by
  subst h1 h2 h3 hk hv
  unfold mp_dC
  rw [mp_pc_2, mp_pc_1, mp_pc_0]
  show (seas, mp_shb shut, upd (upd (upd (mp_pc home death tending) (3 * p.toInt).toNat (Int32.ofInt x.toInt)) (3 * p.toInt + 1).toNat (-1)) (3 * p.toInt + 2).toNat 0, _) = _
  rw [Int32.ofInt_toInt, show (3 * p.toInt).toNat = 3 * p.toInt.toNat by omega, show (3 * p.toInt + 1).toNat = 3 * p.toInt.toNat + 1 by omega, show (3 * p.toInt + 2).toNat = 3 * p.toInt.toNat + 2 by omega]
theorem mp_op_die {seas : Nat → Int32} {shut : Nat → Int64} {home death tending death' ower owee full first drunk base : Nat → Int32} {k v : Int} {p x : Int32} (h2 : death' = upd death p.toInt.toNat x) (hk : p.toInt = k) (hv : x.toInt = v) (h0 : 0 ≤ k) : mp_gop (mp_dC seas shut home death tending ower owee full first drunk base) 3 k v 0 0 0 = mp_dC seas shut home death' tending ower owee full first drunk base := by
  subst h2 hk hv
  unfold mp_dC
  rw [mp_pc_1]
  show (seas, mp_shb shut, upd (mp_pc home death tending) (3 * p.toInt + 1).toNat (Int32.ofInt x.toInt), _) = _
  rw [Int32.ofInt_toInt, show (3 * p.toInt + 1).toNat = 3 * p.toInt.toNat + 1 by omega]
theorem mp_op_ten {seas : Nat → Int32} {shut : Nat → Int64} {home death tending tending' ower owee full first drunk base : Nat → Int32} {k v : Int} {p x : Int32} (h2 : tending' = upd tending p.toInt.toNat x) (hk : p.toInt = k) (hv : x.toInt = v) (h0 : 0 ≤ k) : mp_gop (mp_dC seas shut home death tending ower owee full first drunk base) 4 k v 0 0 0 = mp_dC seas shut home death tending' ower owee full first drunk base := by
  subst h2 hk hv
  unfold mp_dC
  rw [mp_pc_2]
  show (seas, mp_shb shut, upd (mp_pc home death tending) (3 * p.toInt + 2).toNat (Int32.ofInt x.toInt), _) = _
  rw [Int32.ofInt_toInt, show (3 * p.toInt + 2).toNat = 3 * p.toInt.toNat + 2 by omega]
theorem mp_op_pro {seas : Nat → Int32} {shut : Nat → Int64} {home death tending ower owee full first drunk base ower' owee' full' first' drunk' base' : Nat → Int32} {k a b w m : Int} {p xa xb xw xm : Int32} (h0 : ower' = upd ower p.toInt.toNat xa) (h1 : owee' = upd owee p.toInt.toNat xb) (h2 : full' = upd full p.toInt.toNat xw) (h3 : first' = upd first p.toInt.toNat xm) (h4 : drunk' = upd drunk p.toInt.toNat 0) (h5 : base' = upd base p.toInt.toNat (-1)) (hk : p.toInt = k) (ha : xa.toInt = a) (hb : xb.toInt = b) (hw : xw.toInt = w) (hm : xm.toInt = m) (hn : 0 ≤ k) : mp_gop (mp_dC seas shut home death tending ower owee full first drunk base) 5 k a b w m = mp_dC seas shut home death tending ower' owee' full' first' drunk' base' := by
  subst h0 h1 h2 h3 h4 h5 hk ha hb hw hm
  unfold mp_dC
  rw [mp_qc_5, mp_qc_4, mp_qc_3, mp_qc_2, mp_qc_1, mp_qc_0]
  show (seas, mp_shb shut, mp_pc home death tending, upd (upd (upd (upd (upd (upd (mp_qc ower owee full first drunk base) (6 * p.toInt).toNat (Int32.ofInt xa.toInt)) (6 * p.toInt + 1).toNat (Int32.ofInt xb.toInt)) (6 * p.toInt + 2).toNat (Int32.ofInt xw.toInt)) (6 * p.toInt + 3).toNat (Int32.ofInt xm.toInt)) (6 * p.toInt + 4).toNat 0) (6 * p.toInt + 5).toNat (-1)) = _
  rw [Int32.ofInt_toInt, Int32.ofInt_toInt, Int32.ofInt_toInt, Int32.ofInt_toInt, show (6 * p.toInt).toNat = 6 * p.toInt.toNat by omega, show (6 * p.toInt + 1).toNat = 6 * p.toInt.toNat + 1 by omega, show (6 * p.toInt + 2).toNat = 6 * p.toInt.toNat + 2 by omega, show (6 * p.toInt + 3).toNat = 6 * p.toInt.toNat + 3 by omega, show (6 * p.toInt + 4).toNat = 6 * p.toInt.toNat + 4 by omega, show (6 * p.toInt + 5).toNat = 6 * p.toInt.toNat + 5 by omega]
theorem mp_op_dru {seas : Nat → Int32} {shut : Nat → Int64} {home death tending ower owee full first drunk base drunk' : Nat → Int32} {k : Int} {p : Int32} (h4 : drunk' = upd drunk p.toInt.toNat 1) (hk : p.toInt = k) (hn : 0 ≤ k) : mp_gop (mp_dC seas shut home death tending ower owee full first drunk base) 6 k 0 0 0 0 = mp_dC seas shut home death tending ower owee full first drunk' base := by
  subst h4 hk
  unfold mp_dC
  rw [mp_qc_4]
  show (seas, mp_shb shut, mp_pc home death tending, upd (mp_qc ower owee full first drunk base) (6 * p.toInt + 4).toNat 1) = _
  rw [show (6 * p.toInt + 4).toNat = 6 * p.toInt.toNat + 4 by omega]
theorem mp_op_on {seas : Nat → Int32} {shut : Nat → Int64} {home death tending ower owee full first drunk base base' : Nat → Int32} {k v : Int} {p x : Int32} (h5 : base' = upd base p.toInt.toNat x) (hk : p.toInt = k) (hv : x.toInt = v) (hn : 0 ≤ k) : mp_gop (mp_dC seas shut home death tending ower owee full first drunk base) 7 k v 0 0 0 = mp_dC seas shut home death tending ower owee full first drunk base' := by
  subst h5 hk hv
  unfold mp_dC
  rw [mp_qc_5]
  show (seas, mp_shb shut, mp_pc home death tending, upd (mp_qc ower owee full first drunk base) (6 * p.toInt + 5).toNat (Int32.ofInt x.toInt)) = _
  rw [Int32.ofInt_toInt, show (6 * p.toInt + 5).toNat = 6 * p.toInt.toNat + 5 by omega]
section MPX
variable {α : Type} {op : mp_Op α} {f : Nat → Int32} {n s s1 fu : Nat} {c c1 c2 : mp_Sc} {d d1 : α} {r : mp_Rs α}
theorem mp_tx_0 (h : mp_TK f n s = 0) : mp_gText op f n 1 s c d = some (0, s, c, d) := by
  show (if mp_TK f n s = 0 then _ else _) = _
  rw [if_pos h]
theorem mp_aft_bad {k : Int} (h : k ≠ 0) : mp_aft f n (k, s, c, d) = (k, s, c, d) := if_pos h
theorem mp_aft_r {r : mp_Rs α} (h : r.1 ≠ 0) : mp_aft f n r = r := if_pos h
theorem mp_aft_ok (hs : mp_TK f n s = 3) : mp_aft f n (0, s, c, d) = (0, mp_NX f n s, (c.1, c.2.1, c.2.2.1, c.2.2.2.1, c.2.2.2.2 + 1), d) := by
  unfold mp_aft
  rw [if_neg (fun q => q rfl), if_neg (fun q => q hs)]
theorem mp_aft_no (hs : mp_TK f n s ≠ 3) : mp_aft f n (0, s, c, d) = (1, s, c, d) := by
  unfold mp_aft
  rw [if_neg (fun q => q rfl), if_pos hs]
theorem mp_tx_s (hk : mp_TK f n s ≠ 0) (hl : mp_gLine op f n s c d = (0, s1, c1, d1)) (hs : mp_TK f n s1 = 3) (hc : c2 = (c1.1, c1.2.1, c1.2.2.1, c1.2.2.2.1, c1.2.2.2.2 + 1)) (h : mp_gText op f n fu (mp_NX f n s1) c2 d1 = some r) : mp_gText op f n (fu + 1) s c d = some r := by
  show (if mp_TK f n s = 0 then _ else if (mp_aft f n (mp_gLine op f n s c d)).1 ≠ 0 then _ else mp_gText op f n fu (mp_aft f n (mp_gLine op f n s c d)).2.1 (mp_aft f n (mp_gLine op f n s c d)).2.2.1 (mp_aft f n (mp_gLine op f n s c d)).2.2.2) = _
  rw [if_neg hk, hl, mp_aft_ok hs, if_neg (fun q => q rfl), ← hc]
  exact h
theorem mp_tx_l (hk : mp_TK f n s ≠ 0) (hl : (mp_gLine op f n s c d).1 ≠ 0) : mp_gText op f n 1 s c d = some (mp_gLine op f n s c d) := by
  show (if mp_TK f n s = 0 then _ else if (mp_aft f n (mp_gLine op f n s c d)).1 ≠ 0 then some (mp_aft f n (mp_gLine op f n s c d)) else _) = _
  rw [if_neg hk, mp_aft_r hl, if_pos hl]
theorem mp_tx_g (hk : mp_TK f n s ≠ 0) (hl : mp_gLine op f n s c d = (0, s1, c1, d1)) (hs : mp_TK f n s1 ≠ 3) : mp_gText op f n 1 s c d = some (1, s1, c1, d1) := by
  show (if mp_TK f n s = 0 then _ else if (mp_aft f n (mp_gLine op f n s c d)).1 ≠ 0 then some (mp_aft f n (mp_gLine op f n s c d)) else _) = _
  rw [if_neg hk, hl, mp_aft_no hs, if_pos (show (1 : Int) ≠ 0 by decide)]
end MPX
theorem mp_fill_s {α : Type} {f g : Nat → α} {v : α} {i i' : Int} (p : ∀ j : Nat, (j : Int) < i → f j = v) (h : g i.toNat = v) (hg : ∀ j : Nat, j ≠ i.toNat → g j = f j) (hi : 0 ≤ i ∧ i' = i + 1) : ∀ j : Nat, (j : Int) < i' → g j = v := by
  intro j hj
  by_cases e : j = i.toNat
  · rw [e]; exact h
  · rw [hg j e]; exact p j (by omega)
theorem mp_TE_3 {f : Nat → Int32} {n k s e v : Int} (h : mp_CT f n k s e v) (h0 : 0 ≤ s) (hk : k = 3) : s + 1 ≤ e := by
  obtain ⟨h1, h2, h3, -⟩ := h
  have hk1 : mp_TK f n.toNat s.toNat = 3 := by omega
  unfold mp_TK at hk1
  unfold mp_TE at h3
  rw [h1] at hk1 h3
  by_cases e1 : n.toNat ≤ s.toNat
  · rw [if_pos e1] at hk1; exact absurd hk1 (by decide)
  · rw [if_neg e1] at hk1 h3
    by_cases e2 : mp_isLe (f s.toNat).toInt = true
    · rw [if_pos e2] at hk1; exact absurd hk1 (by decide)
    · rw [if_neg e2] at hk1 h3
      by_cases e3 : mp_isDi (f s.toNat).toInt = true
      · rw [if_pos e3] at hk1; exact absurd hk1 (by decide)
      · rw [if_neg e3] at h3
        omega
theorem mp_TS_ge {f : Nat → Int32} {n p : Nat} : p ≤ mp_TS f n p := mp_scan_ge
theorem mp_TK0 {f : Nat → Int32} {n k s e v : Int} (h : mp_CT f n k s e v) (h0 : 0 ≤ s ∧ 0 ≤ n) (hk : k ≠ 0) : s < n := by
  obtain ⟨h1, h2, -, -⟩ := h
  unfold mp_TK at h2
  rw [h1] at h2
  by_cases e1 : n.toNat ≤ s.toNat
  · rw [if_pos e1] at h2; exact absurd h2 hk
  · omega
-- the reference goes on behind a fault: what it knows of the grammar's answer X
def mp_GO {α : Type} (X : mp_Rs α) (b q : Int) (K : mp_Rs α) : Prop := (b = 0 ∧ X = K) ∨ (b ≠ 0 ∧ X.1 = b ∧ ((X.2.1 : Nat) : Int) = q)
/-- a word asked for -/
def mp_AK (f : Nat → Int32) (n b0 q0 l0 b1 q1 l1 w : Int) : Prop := (b0 ≠ 0 ∧ b1 = b0 ∧ q1 = q0) ∨ (b0 = 0 ∧ (mp_TK f n.toNat l0.toNat = 1 ∧ mp_WD f n.toNat l0.toNat = w) ∧ b1 = 0 ∧ l1 = ((mp_NX f n.toNat l0.toNat : Nat) : Int)) ∨ (b0 = 0 ∧ ¬ (mp_TK f n.toNat l0.toNat = 1 ∧ mp_WD f n.toNat l0.toNat = w) ∧ b1 = 1 ∧ q1 = l0)
/-- a number asked for -/
def mp_NK (f : Nat → Int32) (n b0 q0 l0 b1 q1 l1 lo hi r : Int) : Prop := (b0 ≠ 0 ∧ b1 = b0 ∧ q1 = q0) ∨ (b0 = 0 ∧ mp_TK f n.toNat l0.toNat = 2 ∧ lo ≤ mp_TV f n.toNat l0.toNat ∧ mp_TV f n.toNat l0.toNat ≤ hi ∧ r = mp_TV f n.toNat l0.toNat ∧ b1 = 0 ∧ l1 = ((mp_NX f n.toNat l0.toNat : Nat) : Int)) ∨ (b0 = 0 ∧ mp_TK f n.toNat l0.toNat ≠ 2 ∧ b1 = 1 ∧ q1 = l0) ∨ (b0 = 0 ∧ mp_TK f n.toNat l0.toNat = 2 ∧ (mp_TV f n.toNat l0.toNat < lo ∨ hi < mp_TV f n.toNat l0.toNat) ∧ b1 = 2 ∧ q1 = l0)
section MPO
variable {α : Type} {X : mp_Rs α} {f : Nat → Int32} {n b0 q0 l0 b1 q1 l1 lo hi lo' hi' r w w' : Int} {c : mp_Sc} {d : α}
theorem mp_go_w {ok : Nat → mp_Rs α} (h : mp_AK f n b0 q0 l0 b1 q1 l1 w) (hw : w = w') (h0 : 0 ≤ l0) (g : mp_GO X b0 q0 (mp_aft f n.toNat (mp_kw f n.toNat l0.toNat w' c d ok))) : mp_GO X b1 q1 (mp_aft f n.toNat (ok l1.toNat)) := by
  subst hw
  rcases h with ⟨h1, h2, h3⟩ | ⟨h1, h2, h3, h4⟩ | ⟨h1, h2, h3, h4⟩
  · rcases g with ⟨g1, -⟩ | ⟨-, g2, g3⟩
    · exact absurd g1 h1
    · exact Or.inr ⟨by omega, by omega, by omega⟩
  · rcases g with ⟨-, g2⟩ | ⟨g1, -⟩
    · refine Or.inl ⟨h3, ?_⟩
      rw [g2, mp_kw_ok h2, h4, Int.toNat_natCast]
    · exact absurd h1 g1
  · rcases g with ⟨-, g2⟩ | ⟨g1, -⟩
    · rw [mp_kw_1 h2, mp_aft_bad (by decide)] at g2
      refine Or.inr ⟨by omega, ?_, ?_⟩
      · rw [g2]; show (1 : Int) = b1; omega
      · rw [g2]; show ((l0.toNat : Nat) : Int) = q1; omega
    · exact absurd h1 g1
theorem mp_go_n {ok : Int → Nat → mp_Rs α} {bar : Int} (h : mp_NK f n b0 q0 l0 b1 q1 l1 lo hi r) (el : lo = lo') (eh : hi = hi') (h0 : 0 ≤ l0) (hb : b0 ≠ 0 ∨ mp_TK f n.toNat l0.toNat ≠ 2 ∨ mp_TV f n.toNat l0.toNat ≠ bar ∨ lo > bar) (g : mp_GO X b0 q0 (mp_aft f n.toNat (mp_kn f n.toNat l0.toNat lo' hi' bar c d ok))) : mp_GO X b1 q1 (mp_aft f n.toNat (ok r l1.toNat)) := by
  subst el eh
  rcases h with ⟨h1, h2, h3⟩ | ⟨h1, h2, h3, h4, h5, h6, h7⟩ | ⟨h1, h2, h3, h4⟩ | ⟨h1, h2, h3, h4, h5⟩
  · rcases g with ⟨g1, -⟩ | ⟨-, g2, g3⟩
    · exact absurd g1 h1
    · exact Or.inr ⟨by omega, by omega, by omega⟩
  · rcases g with ⟨-, g2⟩ | ⟨g1, -⟩
    · refine Or.inl ⟨h6, ?_⟩
      rw [g2, mp_kn_ok h2 ⟨h3, h4, by omega⟩, h7, Int.toNat_natCast, h5]
    · exact absurd h1 g1
  · rcases g with ⟨-, g2⟩ | ⟨g1, -⟩
    · rw [mp_kn_1 h2, mp_aft_bad (by decide)] at g2
      refine Or.inr ⟨by omega, ?_, ?_⟩
      · rw [g2]; show (1 : Int) = b1; omega
      · rw [g2]; show ((l0.toNat : Nat) : Int) = q1; omega
    · exact absurd h1 g1
  · rcases g with ⟨-, g2⟩ | ⟨g1, -⟩
    · rw [mp_kn_2 h2 (by omega), mp_aft_bad (by decide)] at g2
      refine Or.inr ⟨by omega, ?_, ?_⟩
      · rw [g2]; show (2 : Int) = b1; omega
      · rw [g2]; show ((l0.toNat : Nat) : Int) = q1; omega
    · exact absurd h1 g1
/-- a fault that is said: the answer has it -/
theorem mp_go_f {K K' : mp_Rs α} (hb : b0 = 0) (g : mp_GO X b0 q0 K) (h1 : K.1 = b1 ∧ b1 ≠ 0) (h2 : ((K.2.1 : Nat) : Int) = q1) : mp_GO X b1 q1 K' := by
  rcases g with ⟨-, g2⟩ | ⟨g1, -⟩
  · subst g2; exact Or.inr ⟨h1.2, h1.1, h2⟩
  · exact absurd hb g1
theorem mp_go_any {K K' : mp_Rs α} (h : mp_GO X b0 q0 K) (hb : b0 ≠ 0) (e : b1 = b0 := by rfl) (e2 : q1 = q0 := by rfl) : mp_GO X b1 q1 K' := by
  subst e e2
  rcases h with ⟨h1, -⟩ | h
  · exact absurd h1 hb
  · exact Or.inr h
theorem mp_go_eq {K K' : mp_Rs α} (h : mp_GO X b0 q0 K) (e : b0 ≠ 0 ∨ K = K') (eb : b1 = b0 := by rfl) (eq : q1 = q0 := by rfl) : mp_GO X b1 q1 K' := by
  subst eb eq
  rcases h with ⟨h1, h2⟩ | h
  · rcases e with e | e
    · exact absurd h1 e
    · exact Or.inl ⟨h1, h2.trans e⟩
  · exact Or.inr h
theorem mp_kn_bar {ok : Int → Nat → mp_Rs α} {bar : Int} {s m : Nat} (hk : mp_TK f m s = 2) (hv : mp_TV f m s = bar) : mp_aft f m (mp_kn f m s lo hi bar c d ok) = (2, s, c, d) := by
  rw [mp_kn_2 hk (Or.inr (Or.inr hv)), mp_aft_bad (by decide)]
end MPO
/-- the reference's row 4 as such data -/
def mp_dM (sea isShut person promise : Nat → Int32) : mp_AD := (fun j => sea (144 + j), fun j => decide ((isShut (2400 + j)).toInt ≠ 0), fun j => person (72 + j), fun j => promise (240 + j))
theorem mp_sh_upd {f : Nat → Int32} {o i : Nat} {v : Int32} : (fun j => upd f (o + i) v (o + j)) = upd (fun j => f (o + j)) i v := by
  funext j
  show (if o + j = o + i then v else f (o + j)) = (if j = i then v else f (o + j))
  by_cases h : j = i
  · rw [if_pos (by omega), if_pos h]
  · rw [if_neg (by omega), if_neg h]
theorem mp_om_sea {sea s1 s2 isShut person promise : Nat → Int32} {a b v : Int} {i1 i2 x : Int32} (h1 : s1 = upd sea i1.toNatClampNeg x) (h2 : s2 = upd s1 i2.toNatClampNeg x) (e1 : i1.toInt = 144 + 6 * a + b) (e2 : i2.toInt = 144 + 6 * b + a) (ha : 0 ≤ a) (hb : 0 ≤ b) (hv : x.toInt = v) : mp_gop (mp_dM sea isShut person promise) 0 a b v 0 0 = mp_dM s2 isShut person promise := by
  subst h1 h2 hv
  unfold mp_dM
  rw [show i1.toNatClampNeg = 144 + (6 * a + b).toNat by simp only [Int32.toNatClampNeg]; omega, show i2.toNatClampNeg = 144 + (6 * b + a).toNat by simp only [Int32.toNatClampNeg]; omega, mp_sh_upd, mp_sh_upd]
  show (upd (upd _ _ (Int32.ofInt x.toInt)) _ (Int32.ofInt x.toInt), _) = _
  rw [Int32.ofInt_toInt]
theorem mp_om_per {sea isShut person p1 promise : Nat → Int32} {k v : Int} {o : Nat} {i x : Int32} (h1 : p1 = upd person i.toNatClampNeg x) (e1 : i.toInt = 72 + 3 * k + o) (hk : 0 ≤ k) : mp_dM sea isShut p1 promise = ((mp_dM sea isShut person promise).1, (mp_dM sea isShut person promise).2.1, upd (mp_dM sea isShut person promise).2.2.1 (3 * k + o).toNat x, (mp_dM sea isShut person promise).2.2.2) := by
  subst h1
  unfold mp_dM
  rw [show i.toNatClampNeg = 72 + (3 * k + o).toNat by simp only [Int32.toNatClampNeg]; omega, mp_sh_upd]
theorem mp_om_pro {sea isShut person promise p1 : Nat → Int32} {k v : Int} {o : Nat} {i x : Int32} (h1 : p1 = upd promise i.toNatClampNeg x) (e1 : i.toInt = 240 + 6 * k + o) (hk : 0 ≤ k) : mp_dM sea isShut person p1 = ((mp_dM sea isShut person promise).1, (mp_dM sea isShut person promise).2.1, (mp_dM sea isShut person promise).2.2.1, upd (mp_dM sea isShut person promise).2.2.2 (6 * k + o).toNat x) := by
  subst h1
  unfold mp_dM
  rw [show i.toNatClampNeg = 240 + (6 * k + o).toNat by simp only [Int32.toNatClampNeg]; omega, mp_sh_upd]
-- the reference's lines: pieces of the grammar as the reference walks them
def mp_rm (a b : Bool) : Nat := (if a then 0 else 1) + (if b then 0 else 1)
section MPR
variable {α : Type} (op : mp_Op α) (f : Nat → Int32) (n : Nat)
def mp_gPer2 (s : Nat) (c : mp_Sc) (d : α) : mp_Rs α :=
  mp_kw f n s 419 c d fun s => mp_kn f n s 0 (c.1 - 1) (-1) c d fun v s => mp_gPm op f n (c.1, c.2.1, c.2.2.1 + 1, c.2.2.2.1, c.2.2.2.2) c.2.2.1 2 false false s (op d 2 c.2.2.1 v 0 0 0)
def mp_gPro2 (s : Nat) (c : mp_Sc) (d : α) : mp_Rs α :=
  mp_kn f n s 0 (c.2.2.1 - 1) (-1) c d fun a s => mp_kw f n s 555 c d fun s => mp_kn f n s 0 (c.2.2.1 - 1) a c d fun b s => mp_kw f n s 12532058 c d fun s => mp_kn f n s 1 1000000 (-1) c d fun w s => mp_kw f n s 374953 c d fun s => mp_kn f n s 0 c.2.1 (-1) c d fun m s => mp_gQm op f n (c.1, c.2.1, c.2.2.1, c.2.2.2.1 + 1, c.2.2.2.2) c.2.2.2.1 2 false false s (op d 5 c.2.2.2.1 a b w m)
def mp_gLin2 (s : Nat) (c : mp_Sc) (d : α) : mp_Rs α :=
  if mp_TK f n s = 1 ∧ mp_WD f n s = 13987 then mp_gSea op f n (mp_NX f n s) c d
  else if mp_TK f n s = 1 ∧ mp_WD f n s = 232608281 then mp_gPerson op f n s c d
  else if mp_TK f n s = 1 ∧ mp_WD f n s = 6465242723 then mp_gPromise op f n s c d
  else mp_gShut op f n s c d
variable {op : mp_Op α} {f : Nat → Int32} {n m s : Nat} {c : mp_Sc} {d d0 d1 : α}
theorem mp_gl_is (h : c.2.2.2.2 = 0) : mp_gLine op f n s c d = mp_gIsles f n s c d := if_pos h
theorem mp_gl_not (h : c.2.2.2.2 ≠ 0) : mp_gLine op f n s c d = mp_gLin2 op f n s c d := if_neg h
theorem mp_gl_sea (h : mp_TK f n s = 1 ∧ mp_WD f n s = 13987) : mp_gLin2 op f n s c d = mp_gSea op f n (mp_NX f n s) c d := if_pos h
theorem mp_gl_per (h : mp_TK f n s = 1 ∧ mp_WD f n s = 232608281) (hp : c.2.2.1 < 6) : mp_gLin2 op f n s c d = mp_gPer2 op f n (mp_NX f n s) c d := by
  unfold mp_gLin2
  rw [if_neg (by omega), if_pos h]
  exact if_neg (by omega)
theorem mp_gl_per3 (h : mp_TK f n s = 1 ∧ mp_WD f n s = 232608281) (hp : 6 ≤ c.2.2.1) : mp_gLin2 op f n s c d = (3, s, c, d) := by
  unfold mp_gLin2
  rw [if_neg (by omega), if_pos h]
  exact if_pos hp
theorem mp_gl_pro (h : mp_TK f n s = 1 ∧ mp_WD f n s = 6465242723) (hp : c.2.2.2.1 < 10) : mp_gLin2 op f n s c d = mp_gPro2 op f n (mp_NX f n s) c d := by
  unfold mp_gLin2
  rw [if_neg (by omega), if_neg (by omega), if_pos h]
  exact if_neg (by omega)
theorem mp_gl_pro3 (h : mp_TK f n s = 1 ∧ mp_WD f n s = 6465242723) (hp : 10 ≤ c.2.2.2.1) : mp_gLin2 op f n s c d = (3, s, c, d) := by
  unfold mp_gLin2
  rw [if_neg (by omega), if_neg (by omega), if_pos h]
  exact if_pos hp
theorem mp_gl_shut (h1 : ¬ (mp_TK f n s = 1 ∧ mp_WD f n s = 13987)) (h2 : ¬ (mp_TK f n s = 1 ∧ mp_WD f n s = 232608281)) (h3 : ¬ (mp_TK f n s = 1 ∧ mp_WD f n s = 6465242723)) : mp_gLin2 op f n s c d = mp_gShut op f n s c d := by
  unfold mp_gLin2
  rw [if_neg h1, if_neg h2, if_neg h3]
variable {Y : mp_Rs α} {b0 q0 l0 b1 q1 l1 k : Int} {a e a' e' : Bool}
theorem mp_go_tr {K K' : mp_Rs α} (g : mp_GO Y b0 q0 K) (hb : b0 = 0) (g2 : mp_GO K b1 q1 K') : mp_GO Y b1 q1 K' := by
  rcases g with ⟨-, g⟩ | ⟨g, -⟩
  · rw [g]; exact g2
  · exact absurd hb g
theorem mp_go_0 {K : mp_Rs α} (hb : b0 = 0) : mp_GO K b0 q0 K := Or.inl ⟨hb, rfl⟩
theorem mp_go_sub {K : Int → mp_Rs α} {x x' : Int} (g : mp_GO Y b0 q0 (K x)) (e : x = x') : mp_GO Y b0 q0 (K x') := e ▸ g
-- marks of a person
theorem mp_go_p1 (g : mp_GO Y b0 q0 (mp_aft f m (mp_gPm op f m c k (mp_rm a e) a e s d0))) (hd : b0 ≠ 0 ∨ d0 = d1) (ha : b0 ≠ 0 ∨ a = a') (he : b0 ≠ 0 ∨ e = e') : mp_GO Y b0 q0 (mp_aft f m (mp_gPm op f m c k (mp_rm a' e') a' e' s d1)) := by
  by_cases hb : b0 = 0
  · obtain rfl := hd.resolve_left (fun q => q hb); obtain rfl := ha.resolve_left (fun q => q hb); obtain rfl := he.resolve_left (fun q => q hb)
    exact g
  · exact mp_go_any g hb
theorem mp_go_d (g : mp_GO Y b0 q0 (mp_aft f m (mp_gPm op f m c k (mp_rm a e) a e l0.toNat d))) (h1 : mp_TK f m l0.toNat = 1) (hw : mp_WD f m l0.toNat = 85447) (ha : a = false) (hl : l1 = ((mp_NX f m l0.toNat : Nat) : Int)) : mp_GO Y b0 q0 (mp_aft f m (mp_kn f m l1.toNat 0 99 (-1) c d fun v s => mp_gPm op f m c k (mp_rm true e) true e s (op d 3 k v 0 0 0))) := by
  subst ha
  have e2 : mp_NX f m l0.toNat = l1.toNat := by omega
  rw [show mp_rm false e = mp_rm true e + 1 by cases e <;> rfl, mp_pm_d h1 rfl hw, e2] at g
  exact g
theorem mp_go_t (g : mp_GO Y b0 q0 (mp_aft f m (mp_gPm op f m c k (mp_rm a e) a e l0.toNat d))) (h1 : mp_TK f m l0.toNat = 1) (ha : ¬ (a = false ∧ mp_WD f m l0.toNat = 85447)) (hw : mp_WD f m l0.toNat = 10737568) (he : e = false) (hl : l1 = ((mp_NX f m l0.toNat : Nat) : Int)) : mp_GO Y b0 q0 (mp_aft f m (mp_kn f m l1.toNat 0 100 (-1) c d fun v s => mp_gPm op f m c k (mp_rm a true) a true s (op d 4 k v 0 0 0))) := by
  subst he
  have e2 : mp_NX f m l0.toNat = l1.toNat := by omega
  rw [show mp_rm a false = mp_rm a true + 1 by cases a <;> rfl, mp_pm_t h1 ha rfl hw, e2] at g
  exact g
theorem mp_go_m {K' : mp_Rs α} (g : mp_GO Y b0 q0 (mp_aft f m (mp_gPm op f m c k (mp_rm a e) a e l0.toNat d))) (hb : b0 = 0) (h1 : mp_TK f m l0.toNat = 1) (ha : ¬ (a = false ∧ mp_WD f m l0.toNat = 85447)) (he : ¬ (e = false ∧ mp_WD f m l0.toNat = 10737568)) (hb1 : b1 = 1) (hq : q1 = l0) (h0 : 0 ≤ l0) : mp_GO Y b1 q1 K' := by
  have k : ∀ r : Nat, mp_aft f m (mp_gPm op f m c k r a e l0.toNat d) = (1, l0.toNat, c, d) := by
    intro r
    cases r with
    | zero => exact mp_aft_no (by omega)
    | succ r => rw [mp_pm_f h1 ha he, mp_aft_bad (by decide)]
  rw [k] at g
  exact mp_go_f hb g ⟨by show (1 : Int) = b1; omega, by omega⟩ (by show ((l0.toNat : Nat) : Int) = q1; omega)
theorem mp_go_e {r : Nat} (g : mp_GO Y b0 q0 (mp_aft f m (mp_gPm op f m c k r a e l0.toNat d))) (h : b0 ≠ 0 ∨ mp_TK f m l0.toNat ≠ 1) : mp_GO Y b0 q0 (mp_aft f m (0, l0.toNat, c, d)) := by
  rcases h with h | h
  · exact mp_go_any g h
  · rw [mp_pm_e h] at g; exact g
-- marks of a promise
theorem mp_go_p2 (g : mp_GO Y b0 q0 (mp_aft f m (mp_gQm op f m c k (mp_rm a e) a e s d0))) (hd : b0 ≠ 0 ∨ d0 = d1) (ha : b0 ≠ 0 ∨ a = a') (he : b0 ≠ 0 ∨ e = e') : mp_GO Y b0 q0 (mp_aft f m (mp_gQm op f m c k (mp_rm a' e') a' e' s d1)) := by
  by_cases hb : b0 = 0
  · obtain rfl := hd.resolve_left (fun q => q hb); obtain rfl := ha.resolve_left (fun q => q hb); obtain rfl := he.resolve_left (fun q => q hb)
    exact g
  · exact mp_go_any g hb
theorem mp_go_qd (g : mp_GO Y b0 q0 (mp_aft f m (mp_gQm op f m c k (mp_rm a e) a e l0.toNat d))) (h1 : mp_TK f m l0.toNat = 1) (hw : mp_WD f m l0.toNat = 2495756) (ha : a = false) (hl : l1 = ((mp_NX f m l0.toNat : Nat) : Int)) : mp_GO Y b0 q0 (mp_aft f m (mp_gQm op f m c k (mp_rm true e) true e l1.toNat (op d 6 k 0 0 0 0))) := by
  subst ha
  have e2 : mp_NX f m l0.toNat = l1.toNat := by omega
  rw [show mp_rm false e = mp_rm true e + 1 by cases e <;> rfl, mp_qm_d h1 rfl hw, e2] at g
  exact g
theorem mp_go_qo (g : mp_GO Y b0 q0 (mp_aft f m (mp_gQm op f m c k (mp_rm a e) a e l0.toNat d))) (h1 : mp_TK f m l0.toNat = 1) (ha : ¬ (a = false ∧ mp_WD f m l0.toNat = 2495756)) (hw : mp_WD f m l0.toNat = 419) (he : e = false) (hl : l1 = ((mp_NX f m l0.toNat : Nat) : Int)) : mp_GO Y b0 q0 (mp_aft f m (mp_kn f m l1.toNat 0 (k - 1) (-1) c d fun v s => mp_gQm op f m c k (mp_rm a true) a true s (op d 7 k v 0 0 0))) := by
  subst he
  have e2 : mp_NX f m l0.toNat = l1.toNat := by omega
  rw [show mp_rm a false = mp_rm a true + 1 by cases a <;> rfl, mp_qm_o h1 ha rfl hw, e2] at g
  exact g
theorem mp_go_qm {K' : mp_Rs α} (g : mp_GO Y b0 q0 (mp_aft f m (mp_gQm op f m c k (mp_rm a e) a e l0.toNat d))) (hb : b0 = 0) (h1 : mp_TK f m l0.toNat = 1) (ha : ¬ (a = false ∧ mp_WD f m l0.toNat = 2495756)) (he : ¬ (e = false ∧ mp_WD f m l0.toNat = 419)) (hb1 : b1 = 1) (hq : q1 = l0) (h0 : 0 ≤ l0) : mp_GO Y b1 q1 K' := by
  have k : ∀ r : Nat, mp_aft f m (mp_gQm op f m c k r a e l0.toNat d) = (1, l0.toNat, c, d) := by
    intro r
    cases r with
    | zero => exact mp_aft_no (by omega)
    | succ r => rw [mp_qm_f h1 ha he, mp_aft_bad (by decide)]
  rw [k] at g
  exact mp_go_f hb g ⟨by show (1 : Int) = b1; omega, by omega⟩ (by show ((l0.toNat : Nat) : Int) = q1; omega)
theorem mp_go_qe {r : Nat} (g : mp_GO Y b0 q0 (mp_aft f m (mp_gQm op f m c k r a e l0.toNat d))) (h : b0 ≠ 0 ∨ mp_TK f m l0.toNat ≠ 1) : mp_GO Y b0 q0 (mp_aft f m (0, l0.toNat, c, d)) := by
  rcases h with h | h
  · exact mp_go_any g h
  · rw [mp_qm_e h] at g; exact g
/-- the sign behind a line -/
def mp_EK (f : Nat → Int32) (n b0 q0 l0 b1 q1 l1 : Int) : Prop := (b0 ≠ 0 ∧ b1 = b0 ∧ q1 = q0) ∨ (b0 = 0 ∧ mp_TK f n.toNat l0.toNat = 3 ∧ b1 = 0 ∧ l1 = ((mp_NX f n.toNat l0.toNat : Nat) : Int)) ∨ (b0 = 0 ∧ mp_TK f n.toNat l0.toNat ≠ 3 ∧ b1 = 1 ∧ q1 = l0)
theorem mp_go_ends {n : Int} (h : mp_EK f n b0 q0 l0 b1 q1 l1) (h0 : 0 ≤ l0) (g : mp_GO Y b0 q0 (mp_aft f n.toNat (0, l0.toNat, c, d))) : mp_GO Y b1 q1 (0, l1.toNat, (c.1, c.2.1, c.2.2.1, c.2.2.2.1, c.2.2.2.2 + 1), d) := by
  rcases h with ⟨h1, h2, h3⟩ | ⟨h1, h2, h3, h4⟩ | ⟨h1, h2, h3, h4⟩
  · rw [h2, h3]; exact mp_go_any g h1
  · refine Or.inl ⟨h3, ?_⟩
    rcases g with ⟨-, g⟩ | ⟨g, -⟩
    · rw [g, mp_aft_ok h2, h4, Int.toNat_natCast]
    · exact absurd h1 g
  · rw [mp_aft_no h2] at g
    exact mp_go_f h1 g ⟨by show (1 : Int) = b1; omega, by omega⟩ (by show ((l0.toNat : Nat) : Int) = q1; omega)
/-- how far the reference is in its text: what the rest of it answers, the whole of it answers -/
def mp_TX (op : mp_Op α) (f : Nat → Int32) (m : Nat) (G : mp_Rs α → Prop) (b q : Int) (s : Nat) (c : mp_Sc) (d : α) : Prop := (b = 0 ∧ ∀ (R : mp_Rs α) (fu : Nat), mp_gText op f m fu s c d = some R → G R) ∨ (b ≠ 0 ∧ ∃ R : mp_Rs α, G R ∧ R.1 = b ∧ ((R.2.1 : Nat) : Int) = q)
theorem mp_TX_0 (hb : b0 = 0) : mp_TX op f m (fun R => ∃ fu, mp_gText op f m fu s c d = some R) b0 q0 s c d := Or.inl ⟨hb, fun _ fu h => ⟨fu, h⟩⟩
theorem mp_TX_s {G : mp_Rs α → Prop} {s1 : Nat} {c1 : mp_Sc} (h : mp_TX op f m G b0 q0 s c d) (hb : b0 = 0) (hk : mp_TK f m s ≠ 0) (g : mp_GO (mp_aft f m (mp_gLine op f m s c d)) b1 q1 (0, s1, c1, d1)) : mp_TX op f m G b1 q1 s1 c1 d1 := by
  rcases h with ⟨-, h⟩ | ⟨h, -⟩
  · rcases g with ⟨g1, g2⟩ | ⟨g1, g2, g3⟩
    · refine Or.inl ⟨g1, fun R fu e => h R (fu + 1) ?_⟩
      show (if mp_TK f m s = 0 then _ else if (mp_aft f m (mp_gLine op f m s c d)).1 ≠ 0 then _ else mp_gText op f m fu (mp_aft f m (mp_gLine op f m s c d)).2.1 (mp_aft f m (mp_gLine op f m s c d)).2.2.1 (mp_aft f m (mp_gLine op f m s c d)).2.2.2) = some R
      rw [if_neg hk, g2, if_neg (fun q => q rfl)]
      exact e
    · refine Or.inr ⟨g1, mp_aft f m (mp_gLine op f m s c d), h _ 1 ?_, g2, g3⟩
      show (if mp_TK f m s = 0 then _ else if (mp_aft f m (mp_gLine op f m s c d)).1 ≠ 0 then some (mp_aft f m (mp_gLine op f m s c d)) else _) = _
      rw [if_neg hk, if_pos (by rw [g2]; exact g1)]
  · exact absurd hb h
theorem mp_TX_end {G : mp_Rs α → Prop} (h : mp_TX op f m G b0 q0 s c d) (hb : b0 = 0) (hk : mp_TK f m s = 0) : G (0, s, c, d) := by
  rcases h with ⟨-, h⟩ | ⟨h, -⟩
  · exact h _ 1 (mp_tx_0 hk)
  · exact absurd hb h
theorem mp_TX_bad {G : mp_Rs α → Prop} (h : mp_TX op f m G b0 q0 s c d) (hb : b0 ≠ 0) : ∃ R : mp_Rs α, G R ∧ R.1 = b0 ∧ ((R.2.1 : Nat) : Int) = q0 := by
  rcases h with ⟨h, -⟩ | ⟨-, h⟩
  · exact absurd h hb
  · exact h
end MPR
